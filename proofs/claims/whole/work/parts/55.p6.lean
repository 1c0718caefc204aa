/-! groups under '|', terms, contracts, node by node -/
section BO
variable {d : Nat} {B : xMm} {ad : Nat → Nat} {ix : Nat → Option Nat} {iv : Nat → Int32} {ns : Nat × Nat} {c pn : Nat} {s : Nat → Int32}
theorem bb_orM (hC : bC ad ix iv c pn) (f : Nat) (hA : bAnd d B ad ix iv ns c pn s (pP s pn f) f) (hM : bOrM d B ad ix iv ns c pn s (pP s pn f) f) : bOrM d B ad ix iv ns c pn s (pP s pn (f + 1)) (f + 1) := by
  intro b p q Ds hp hb hf h av n pt a lf h2 h6 hn hpt ha h8
  have hc := hC.2.1
  have h80 := hC.2.2.1
  rw [pP, if_neg (by decide), if_neg (by decide)] at h
  by_cases hs : sg s pn p = 124
  · rw [if_pos hs, if_pos rfl] at h
    have hp1 : p < pn := sg_lt (by rw [hs]; decide)
    cases hq : pP s pn f 1 38 b 0 (p + 1) with
    | mk r o1 =>
    rw [hq] at h
    have hbd := pP_bd s pn f 1 38 b 0 (p + 1) (by omega) (by decide)
    rw [hq] at hbd
    simp only at hbd
    split at h
    · rename_i D1 tl e
      cases e
      obtain ⟨D2, k1, k2⟩ := (pP_len s pn f 1 38 b 0 (p + 1) r _ (by omega) (by decide) hq).1 (by omega)
      cases k1
      cases hq2 : pP s pn f 2 124 b 0 r with
      | mk r2 o2 =>
      rw [hq2] at h
      have hbd2 := pP_bd s pn f 2 124 b 0 r (by omega) (by decide)
      rw [hq2] at hbd2
      simp only at hbd2
      split at h
      · rename_i Es e
        cases e
        cases h
        have k := nod_at av c n 1 (nI a)
        have kb := nod_BP (av := av) (c := c) 1 (nI a) (show n < 160 by omega)
        generalize hN0 : nod av c n 1 (nI a) = N0 at k kb
        obtain ⟨av1, n1, lf1, Ds1, r0, r00, r1, r2, r3, r4, r5, r6, r7⟩ := hA b (p + 1) r D1 (by omega) hb (by omega) hq N0 (n + 1) n lf (by rw [kb.1 2 (by omega)]; exact h2) kb.2.2.1 (by omega) (by omega)
        have kp : ∀ k, 7 ≤ k → k ≤ 12 → av1 k (160 * c + n) = N0 k (160 * c + n) := fun k g1 g2 => r1.2.2.2.2 k _ g1 g2 (by omega)
        obtain ⟨nx, gx⟩ := part_NX (av := av1) (c := c) (pt := n) (n1 := n1) (Ds := Ds1) (by omega) ((kp 7 (by omega) (by omega)).trans k.1) ((kp 9 (by omega) (by omega)).trans k.2.2.1) ((kp 12 (by omega) (by omega)).trans k.2.2.2.2.2) r5 r00 r6
        rw [← r0] at nx
        have w8 : av1 8 (160 * c + n) = nI a := (kp 8 (by omega) (by omega)).trans k.2.1
        obtain ⟨av3, n3, lf3, pt3, t1, t2, t3, t4, t5, t6, t7, t8⟩ := hM b r q Es (by omega) hb (by omega) hq2 av1 n1 n a lf1 (by rw [r1.1 2 (by omega), kb.1 2 (by omega)]; exact h2) r1.2.2.1 (by omega) (by omega) (by omega) w8
        have hn13 := t1.2.2.2.1
        have hp' : ∀ j, n1 ≤ j → j < n3 → ∃ u, av3 8 (160 * c + j) = nI u ∧ u < 160 ∧ (u < n ∨ n1 ≤ u) := fun j g1 g2 => by
          obtain ⟨u, u1, u2, u3⟩ := t3 j g1 g2
          exact ⟨u, u1, by omega, by omega⟩
        have keep8 : ∀ j, j < n1 → av3 8 (160 * c + j) = av1 8 (160 * c + j) := fun j hj => t1.2.2.2.2 8 _ (by omega) (by omega) (by omega)
        have hch : chs av3 c a (n3 - n) n = n :: chs av3 c a (n3 - n1) n1 := by
          rw [show n3 - n = 1 + ((n1 - n - 1) + (n3 - n1)) by omega, chs_add, chs_add, show n + 1 + (n1 - n - 1) = n1 by omega, chs_none av3 c a (n1 - n - 1) (n + 1) (fun j g1 g2 e => by
            rw [keep8 j (by omega)] at e
            obtain ⟨u, u1, u2, u3⟩ := r4 j (by omega) (by omega)
            rw [u1] at e
            have := (nI_eq (by omega) (by omega)).mp e
            omega)]
          rw [show chs av3 c a 1 n = [n] from by rw [chs, if_pos (by rw [keep8 n (by omega)]; exact w8)]; rfl]
          rfl
        refine ⟨av3, n3, lf3, pt3, (kb.trans r1).trans t1, by omega, fun j g1 g2 => ?_, ?_, GX_app t1 (by omega) (by omega) gx t5 hp', t6, t7, fun X hX => ?_⟩
        · by_cases hj : j < n1
          · rw [keep8 j hj]
            by_cases hjn : j = n
            · rw [hjn]
              exact ⟨a, w8, ha, Or.inl rfl⟩
            · obtain ⟨u, u1, u2, u3⟩ := r4 j (by omega) hj
              exact ⟨u, u1, u2, by omega⟩
          · obtain ⟨u, u1, u2, u3⟩ := t3 j (by omega) g2
            exact ⟨u, u1, u2, by omega⟩
        · rw [hch]
          exact ⟨NX_left t1 (by omega) (by omega) nx hp', zip2_mono _ _ (fun j D _ g => NX_right (by omega) g) t4⟩
        · exact fun o6 o7 o8 => b_bar hC.1 c pn p hC.2.1 hC.2.2.1 hC.2.2.2 hp1 (nI pt) 0 lf o6 o7 o8 124 (by rw [h2, ← sg_at (s := s) hp1]; exact hs) rfl n (by omega) h6 pt (by omega) rfl (by rw [h8, hN0]; exact r7 X (t8 X hX))
      · cases h
    · cases h
  · rw [if_neg hs] at h
    cases h
    refine ⟨av, n, lf, pt, BP.refl h6, by omega, fun j g1 g2 => by omega, by rw [Nat.sub_self]; exact trivial, fun av2 N _ x g1 g2 => by omega, hpt, h8, fun X hX => hX⟩
theorem bb_or (hC : bC ad ix iv c pn) (f : Nat) (hA : bAnd d B ad ix iv ns c pn s (pP s pn f) f) (hM : bOrM d B ad ix iv ns c pn s (pP s pn f) f) : bOr d B ad ix iv ns c pn s (pP s pn (f + 1)) (f + 1) := by
  intro b p q D hp hb hf h av pt a lf h2 h6 hn ha h7 h8 h9 h12
  have hc := hC.2.1
  have h80 := hC.2.2.1
  rw [pP, if_neg (by decide), if_pos rfl, if_pos rfl] at h
  cases hq : pP s pn f 1 38 b 0 p with
  | mk r o1 =>
  rw [hq] at h
  have hbd := pP_bd s pn f 1 38 b 0 p hp (by decide)
  rw [hq] at hbd
  simp only at hbd
  split at h
  · rename_i D1 tl e
    cases e
    obtain ⟨D2, k1, k2⟩ := (pP_len s pn f 1 38 b 0 p r _ hp (by decide) hq).1 (by omega)
    cases k1
    cases hq2 : pP s pn f 2 124 b 0 r with
    | mk r2 o2 =>
    rw [hq2] at h
    have hbd2 := pP_bd s pn f 2 124 b 0 r (by omega) (by decide)
    rw [hq2] at hbd2
    simp only at hbd2
    have hEs : ∃ Es, o2 = some Es ∧ r2 = q ∧ D = gD 124 (D1 :: Es) := by
      split at h
      · rename_i e
        cases e
        cases h
        exact ⟨[], rfl, rfl, rfl⟩
      · rename_i e
        cases e
        cases h
        exact ⟨_, rfl, rfl, rfl⟩
      · cases h
    obtain ⟨Es, rfl, rfl, hD⟩ := hEs
    obtain ⟨av1, n1, lf1, Ds1, r0, r00, r1, r2', r3, r4, r5, r6, r7⟩ := hA b p r D1 hp hb (by omega) hq av (pt + 1) pt lf h2 h6 (by omega) (by omega)
    have kp : ∀ k, 7 ≤ k → k ≤ 12 → av1 k (160 * c + pt) = av k (160 * c + pt) := fun k g1 g2 => r1.2.2.2.2 k _ g1 g2 (by omega)
    obtain ⟨nx, gx⟩ := part_NX (av := av1) (c := c) (pt := pt) (n1 := n1) (Ds := Ds1) (by omega) ((kp 7 (by omega) (by omega)).trans h7) ((kp 9 (by omega) (by omega)).trans h9) ((kp 12 (by omega) (by omega)).trans h12) r5 r00 r6
    rw [← r0] at nx
    have w8 : av1 8 (160 * c + pt) = nI a := (kp 8 (by omega) (by omega)).trans h8
    obtain ⟨av3, n3, lf3, pt3, t1, t2, t3, t4, t5, t6, t7, t8⟩ := hM b r r2 Es (by omega) hb (by omega) hq2 av1 n1 pt a lf1 (by rw [r1.1 2 (by omega)]; exact h2) r1.2.2.1 (by omega) (by omega) (by omega) w8
    have hn13 := t1.2.2.2.1
    have hp' : ∀ j, n1 ≤ j → j < n3 → ∃ u, av3 8 (160 * c + j) = nI u ∧ u < 160 ∧ (u < pt ∨ n1 ≤ u) := fun j g1 g2 => by
      obtain ⟨u, u1, u2, u3⟩ := t3 j g1 g2
      exact ⟨u, u1, by omega, by omega⟩
    have keep8 : ∀ j, j < n1 → av3 8 (160 * c + j) = av1 8 (160 * c + j) := fun j hj => t1.2.2.2.2 8 _ (by omega) (by omega) (by omega)
    have hch : chs av3 c a (n3 - (pt + 1)) (pt + 1) = chs av3 c a (n3 - n1) n1 := by
      rw [show n3 - (pt + 1) = (n1 - (pt + 1)) + (n3 - n1) by omega, chs_add, show pt + 1 + (n1 - (pt + 1)) = n1 by omega, chs_none av3 c a (n1 - (pt + 1)) (pt + 1) (fun j g1 g2 e => by
        rw [keep8 j (by omega)] at e
        obtain ⟨u, u1, u2, u3⟩ := r4 j (by omega) (by omega)
        rw [u1] at e
        have := (nI_eq (by omega) (by omega)).mp e
        omega)]
      rfl
    refine ⟨av3, n3, lf3, pt3, D1 :: Es, hD, by simp, r1.trans t1, by omega, fun j g1 g2 => ?_, ?_, GX_app t1 (by omega) (by omega) gx t5 hp', t6, t7, fun X hX => r7 X (t8 X hX)⟩
    · by_cases hj : j < n1
      · rw [keep8 j hj]
        obtain ⟨u, u1, u2, u3⟩ := r4 j (by omega) hj
        exact ⟨u, u1, u2, by omega⟩
      · obtain ⟨u, u1, u2, u3⟩ := t3 j (by omega) g2
        exact ⟨u, u1, u2, by omega⟩
    · rw [hch]
      exact ⟨NX_left t1 (by omega) (by omega) nx hp', zip2_mono _ _ (fun j D _ g => NX_right (by omega) g) t4⟩
  · cases h
theorem bb_all (hC : bC ad ix iv c pn) : ∀ f, bBit d B ad ix iv ns c pn s (pP s pn f) f ∧ bAnd d B ad ix iv ns c pn s (pP s pn f) f ∧ bAndM d B ad ix iv ns c pn s (pP s pn f) f ∧ bOr d B ad ix iv ns c pn s (pP s pn f) f ∧ bOrM d B ad ix iv ns c pn s (pP s pn f) f
  | 0 => by
    have h80 := hC.2.2.1
    exact ⟨fun j b no p q D hp hb hno hf => absurd hf (by omega), fun b p q D hp hb hf => absurd hf (by omega), fun b p q D hp hb hf => absurd hf (by omega), fun b p q D hp hb hf => absurd hf (by omega), fun b p q D hp hb hf => absurd hf (by omega)⟩
  | f + 1 => by
    obtain ⟨h1, h2, h3, h4, h5⟩ := bb_all hC f
    exact ⟨bb_bit hC f h1 h4, bb_and hC f h1 h3, bb_andM hC f h1 h3, bb_or hC f h2 h5, bb_orM hC f h2 h5⟩
end BO
theorem XT.sub2 {av av1 av2 : Nat → Nat → Int32} {c m m1 n1 n2 N : Nat} (h : XT av1 av2 c m m1 N) (h1 : m ≤ n1) (h2 : n2 ≤ m1) (ha : ∀ k x, 7 ≤ k → k ≤ 12 → n1 ≤ x → x < n2 → av1 k (160 * c + x) = av k (160 * c + x)) (hp : ∀ j, n2 ≤ j → j < m1 → ∀ u, n1 ≤ u → u < n2 → av1 8 (160 * c + j) ≠ nI u) : XT av av2 c n1 n2 N := by
  obtain ⟨a1, a2, a3, a4⟩ := h
  refine ⟨by omega, a2, fun k x g1 g2 g3 g4 => (a3 k x g1 g2 (by omega) (by omega)).trans (ha k x g1 g2 g3 g4), fun j g1 g2 u g3 g4 => ?_⟩
  by_cases hj : j < m1
  · rw [a3 8 j (by omega) (by omega) (by omega) hj]
    exact hp j g1 hj u g3 g4
  · exact a4 j (by omega) g2 u (by omega) (by omega)
theorem nI_m1 {u : Nat} (h : u < 160) : (-1 : Int32) ≠ nI u := by
  intro e
  have := nI_pos' (n := u) (by omega)
  rw [← e] at this
  exact absurd this (by decide)
def bCon (d : Nat) (B : xMm) (ad : Nat → Nat) (ix : Nat → Option Nat) (iv : Nat → Int32) (ns : Nat × Nat) (c pn : Nat) (s : Nat → Int32) (kk : Nat) : Prop :=
  ∀ (p q : Nat) (Ds : List Den), p ≤ pn → pC s pn kk p = (q, some Ds) → ∀ (av : Nat → Nat → Int32) (a mn : Nat) (lf : Int32), av 2 = s → av 6 c = nI (a + 2) → a + 2 + (q - p) + kk ≤ 150 → av 7 (160 * c + a) = 2 → av 9 (160 * c + a) = nI 0 → av 12 (160 * c + a) = nI 0 → av 7 (160 * c + (a + 1)) = 1 → av 8 (160 * c + (a + 1)) = nI a → av 9 (160 * c + (a + 1)) = nI 0 → av 12 (160 * c + (a + 1)) = nI 0 → mn + kk = 6 → av 4 c = nI (mn + 1) → av 5 (6 * c + mn) = nI a →
    ∃ (av1 : Nat → Nat → Int32) (N1 : Nat) (lf1 : Int32) (pt1 : Nat), (∀ k, (k < 4 ∨ 12 < k) → av1 k = av k) ∧ (∀ x, x ≠ c → av1 4 x = av 4 x ∧ av1 6 x = av 6 x) ∧ (∀ x, (x < 6 * c + mn + 1 ∨ 6 * c + 6 ≤ x) → av1 5 x = av 5 x) ∧ (∀ k x, 7 ≤ k → k ≤ 12 → (x < 160 * c + (a + 2) ∨ 160 * c + 160 ≤ x) → av1 k x = av k x) ∧ av1 6 c = nI N1 ∧ av1 4 c = nI (mn + Ds.length) ∧ a + 2 ≤ N1 ∧ N1 ≤ 150 ∧ (∀ j, a + 2 ≤ j → j < N1 → av1 8 (160 * c + j) = -1 ∨ ∃ u, av1 8 (160 * c + j) = nI u ∧ u < j ∧ a ≤ u) ∧ (∀ t, t < Ds.length → ∃ (r : Nat) (D : Den), av1 5 (6 * c + (mn + t)) = nI r ∧ r < N1 ∧ Ds[t]? = some D ∧ NX av1 c a N1 r D) ∧ GX av1 c a N1 ∧ ∀ X, bAt d B ad ix iv ns c av1 (nI pt1) 0 lf1 q X → bAt d B ad ix iv ns c av (nI (a + 1)) 0 lf p X
theorem bb_con {d : Nat} {B : xMm} {ad : Nat → Nat} {ix : Nat → Option Nat} {iv : Nat → Int32} {ns : Nat × Nat} {c pn : Nat} {s : Nat → Int32} (hC : bC ad ix iv c pn) : ∀ kk, bCon d B ad ix iv ns c pn s kk
  | 0 => fun p q Ds hp h => by cases h
  | kk + 1 => by
    intro p q Ds hp h av a mn lf h2 h6 hn x7 x9 x12 y7 y8 y9 y12 hmn h4 h5
    have hc := hC.2.1
    have h80 := hC.2.2.1
    rw [pC] at h
    cases hq : pP s pn 246 1 124 0 0 p with
    | mk r o1 =>
    rw [hq] at h
    have hbd := pP_bd s pn 246 1 124 0 0 p hp (by decide)
    rw [hq] at hbd
    simp only at hbd
    split at h
    · rename_i D1 tl e
      cases e
      obtain ⟨D2, k1, k2⟩ := (pP_len s pn 246 1 124 0 0 p r _ hp (by decide) hq).1 (by omega)
      cases k1
      have hrq : r ≤ q := by
        split at h
        · cases h; omega
        · split at h
          · cases hq2 : pC s pn kk (r + 1) with
            | mk r2 o2 =>
            rw [hq2] at h
            rename_i h59
            cases kk with
            | zero => cases hq2; cases h
            | succ kk =>
              have := (d_con s pn h80 (kk + 1) (r + 1) r2 o2 hq2 (by omega) (by omega) (by have := sg_lt (s := s) (len := pn) (p := r) (by rw [h59.1]; decide); omega) 0).1
              split at h
              · rename_i e; cases e; cases h; omega
              · cases h
          · cases h
      obtain ⟨av1, n1, lf1, pt1, Ds1, r0, r00, r1, r2, r3, r4, r5, r6, r7, r8⟩ := (bb_all (d := d) (B := B) (ns := ns) (s := s) hC 246).2.2.2.1 0 p r D1 hp (by omega) (by omega) hq av (a + 1) a lf h2 h6 (by omega) (by omega) y7 y8 y9 y12
      have hn1 := r1.2.2.2.1
      have kp : ∀ k x, 7 ≤ k → k ≤ 12 → x < a + 2 → av1 k (160 * c + x) = av k (160 * c + x) := fun k x g1 g2 g3 => r1.2.2.2.2 k _ g1 g2 (by omega)
      obtain ⟨nx, gx⟩ := any_NX (av := av1) (c := c) (a := a) (n1 := n1) (no := 0) (Ds := Ds1) (by omega) (by omega) ((kp 7 a (by omega) (by omega) (by omega)).trans x7) ((kp 9 a (by omega) (by omega) (by omega)).trans x9) ((kp 12 a (by omega) (by omega) (by omega)).trans x12) ((kp 8 (a + 1) (by omega) (by omega) (by omega)).trans y8) r4 r00 r5
      have nx : NX av1 c a n1 a D1 := by rw [r0]; exact nx
      have par1 : ∀ j, a + 2 ≤ j → j < n1 → ∃ u, av1 8 (160 * c + j) = nI u ∧ u < j ∧ a ≤ u := fun j g1 g2 => by
        obtain ⟨u, u1, u2, u3⟩ := r3 j (by omega) g2
        exact ⟨u, u1, u2, by omega⟩
      by_cases hl : pn ≤ r
      · rw [if_pos hl] at h
        cases h
        refine ⟨av1, n1, lf1, pt1, fun k hk => r1.1 k (by omega), fun x hx => ⟨by rw [r1.1 4 (by omega)], r1.2.1 x hx⟩, fun x _ => by rw [r1.1 5 (by omega)], fun k x g1 g2 g3 => r1.2.2.2.2 k x g1 g2 g3, r1.2.2.1, by rw [r1.1 4 (by omega)]; exact h4, by omega, by omega, fun j g1 g2 => Or.inr (par1 j g1 g2), fun t ht => ?_, gx, r8⟩
        have ht0 : t = 0 := by simpa using ht
        subst ht0
        exact ⟨a, D1, by rw [r1.1 5 (by omega)]; exact h5, by omega, rfl, nx⟩
      · rw [if_neg hl] at h
        split at h
        · rename_i h59
          have hr1 : r < pn := by omega
          cases hq2 : pC s pn kk (r + 1) with
          | mk r2 o2 =>
          rw [hq2] at h
          split at h
          · rename_i Es e
            cases e
            cases h
            generalize hA4 : va_up (va_up av1 5 (upd (av1 5) (6 * c + (mn + 1)) (nI n1))) 4 (upd (av1 4) c (nI (mn + 1 + 1))) = A4
            have a4 : A4 4 = upd (av1 4) c (nI (mn + 1 + 1)) := by rw [← hA4]; rfl
            have a5 : A4 5 = upd (av1 5) (6 * c + (mn + 1)) (nI n1) := by rw [← hA4]; rfl
            have ao : ∀ k, k ≠ 4 → k ≠ 5 → A4 k = av1 k := fun k g1 g2 => by rw [← hA4, va_up_ne _ _ g1, va_up_ne _ _ g2]
            have k1' := nod_at A4 c n1 2 (-1)
            have kb1 := nod_BP (av := A4) (c := c) 2 (-1) (show n1 < 160 by omega)
            generalize hN0 : nod A4 c n1 2 (-1) = N0 at k1' kb1
            have k2' := nod_at N0 c (n1 + 1) 1 (nI n1)
            have kb2 := nod_BP (av := N0) (c := c) 1 (nI n1) (show n1 + 1 < 160 by omega)
            have kn : ∀ k, 7 ≤ k → k ≤ 12 → nod N0 c (n1 + 1) 1 (nI n1) k (160 * c + n1) = N0 k (160 * c + n1) := fun k g1 g2 => nod_no g1 g2 (by omega)
            generalize hN1 : nod N0 c (n1 + 1) 1 (nI n1) = N1 at k2' kb2 kn
            have kb := kb1.trans kb2
            have hlen2 := d_con s pn h80 kk (r + 1) q (some Es) hq2 (by omega) (by omega) (by omega) 0
            obtain ⟨av3, n3, lf3, pt3, t1, t2, t3, t4, t5, t6, t7, t8, t9, t10, t11, t12⟩ := bb_con hC kk (r + 1) q Es (by omega) hq2 N1 n1 (mn + 1) lf1 (by rw [kb.1 2 (by omega), ao 2 (by decide) (by decide), r1.1 2 (by omega)]; exact h2) kb.2.2.1 (by omega) (by rw [kn 7 (by omega) (by omega)]; exact k1'.1) (by rw [kn 9 (by omega) (by omega)]; exact k1'.2.2.1) (by rw [kn 12 (by omega) (by omega)]; exact k1'.2.2.2.2.2) k2'.1 k2'.2.1 k2'.2.2.1 k2'.2.2.2.2.2 (by omega) (by rw [kb.1 4 (by omega), a4]; simp [upd]) (by rw [kb.1 5 (by omega), a5]; simp [upd])
            have kall : ∀ k x, 7 ≤ k → k ≤ 12 → x < 160 * c + n1 ∨ 160 * c + 160 ≤ x → av3 k x = av1 k x := fun k x g1 g2 g3 => by
              rw [t4 k x g1 g2 (by omega), kb.2.2.2.2 k x g1 g2 g3, ao k (by omega) (by omega)]
            have above : ∀ j, n1 ≤ j → j < n3 → av3 8 (160 * c + j) = -1 ∨ ∃ u, av3 8 (160 * c + j) = nI u ∧ u < j ∧ n1 ≤ u := fun j g1 g2 => by
              by_cases e1 : j = n1
              · rw [e1, t4 8 _ (by omega) (by omega) (by omega), kn 8 (by omega) (by omega)]
                exact Or.inl k1'.2.1
              · by_cases e2 : j = n1 + 1
                · rw [e2, t4 8 _ (by omega) (by omega) (by omega)]
                  exact Or.inr ⟨n1, k2'.2.1, by omega, by omega⟩
                · exact t9 j (by omega) g2
            have hne : ∀ j, n1 ≤ j → j < n3 → ∀ u, a ≤ u → u < n1 → av3 8 (160 * c + j) ≠ nI u := fun j g1 g2 u g3 g4 => by
              rcases above j g1 g2 with e | ⟨v, e, v1, v2⟩
              · rw [e]; exact nI_m1 (by omega)
              · rw [e]
                intro e9
                have := (nI_eq (by omega) (by omega)).mp e9
                omega
            have subL : ∀ av2 N, XT av3 av2 c a n3 N → XT av1 av2 c a n1 N := fun av2 N hX => hX.sub2 (Nat.le_refl _) (by omega) (fun k x g1 g2 g3 g4 => kall k _ g1 g2 (by omega)) hne
            have subR : ∀ av2 N, XT av3 av2 c a n3 N → XT av3 av2 c n1 n3 N := fun av2 N hX => hX.sub2 (by omega) (Nat.le_refl _) (fun _ _ _ _ _ _ => rfl) (fun j g1 g2 => by omega)
            refine ⟨av3, n3, lf3, pt3, fun k hk => ?_, fun x hx => ⟨?_, ?_⟩, fun x hx => ?_, fun k x g1 g2 g3 => ?_, t5, ?_, by omega, by omega, fun j g1 g2 => ?_, fun t ht => ?_, fun av2 N hX x g1 g2 => ?_, fun X hX => ?_⟩
            · rw [t1 k hk, kb.1 k (by omega), ao k (by omega) (by omega), r1.1 k (by omega)]
            · rw [(t2 x hx).1, kb.1 4 (by omega), a4, ← r1.1 4 (by omega)]
              simp [upd, hx]
            · rw [(t2 x hx).2, kb.2.1 x hx, ao 6 (by decide) (by decide)]
              exact r1.2.1 x hx
            · rw [t3 x (by omega), kb.1 5 (by omega), a5, ← r1.1 5 (by omega)]
              have : x ≠ 6 * c + (mn + 1) := by omega
              simp [upd, this]
            · rw [kall k x g1 g2 (by omega)]
              exact r1.2.2.2.2 k x g1 g2 (by omega)
            · rw [t6]
              congr 1
              simp
              omega
            · by_cases hj : j < n1
              · rw [kall 8 _ (by omega) (by omega) (by omega)]
                exact Or.inr (par1 j g1 hj)
              · rcases above j (by omega) g2 with e | ⟨v, e, v1, v2⟩
                · exact Or.inl e
                · exact Or.inr ⟨v, e, v1, by omega⟩
            · cases t with
              | zero =>
                refine ⟨a, D1, ?_, by omega, rfl, fun av2 N hX => nx av2 N (subL av2 N hX)⟩
                rw [t3 (6 * c + (mn + 0)) (by omega), kb.1 5 (by omega), a5]
                show upd (av1 5) (6 * c + (mn + 1)) (nI n1) (6 * c + mn) = nI a
                rw [show upd (av1 5) (6 * c + (mn + 1)) (nI n1) (6 * c + mn) = av1 5 (6 * c + mn) from by simp [upd], r1.1 5 (by omega)]
                exact h5
              | succ t =>
                obtain ⟨r9, D9, e1, e2, e3, e4⟩ := t10 t (by simpa using ht)
                exact ⟨r9, D9, by rw [show mn + (t + 1) = mn + 1 + t by omega]; exact e1, e2, by simpa using e3, fun av2 N hX => e4 av2 N (subR av2 N hX)⟩
            · by_cases hx : x < n1
              · exact gx av2 N (subL av2 N hX) x g1 hx
              · exact t11 av2 N (subR av2 N hX) x (by omega) g2
            · refine r8 X (fun o6 o7 o8 => b_end hC.1 c pn r hC.2.1 hC.2.2.1 hC.2.2.2 hr1 (nI pt1) 0 lf1 o6 o7 o8 59 (by rw [r1.1 2 (by omega), h2, ← sg_at (s := s) hr1]; exact h59.1) rfl n1 (by omega) r1.2.2.1 (mn + 1) (by omega) (by rw [r1.1 4 (by omega)]; exact h4) ?_)
              rw [hA4, hN0, hN1]
              exact t12 X hX
          · cases h
        · cases h
    · cases h
