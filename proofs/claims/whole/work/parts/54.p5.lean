/-! bits and groups, node by node -/
section BB
variable {d : Nat} {B : xMm} {ad : Nat → Nat} {ix : Nat → Option Nat} {iv : Nat → Int32} {ns : Nat × Nat} {c pn : Nat} {s : Nat → Int32}
theorem bb_name (hC : bC ad ix iv c pn) {no p q : Nat} {D : Den} (hp : p ≤ pn) (hno : no ≤ 3) (h : pName s pn p = (q, some [D])) {av : Nat → Nat → Int32} {n pt : Nat} {lf : Int32} (h2 : av 2 = s) (h6 : av 6 c = nI n) (hn : n + (q - p) ≤ 150) (hpt : pt < n) :
    ∃ (av1 : Nat → Nat → Int32) (n1 : Nat) (lf1 : Int32), BP av av1 c n n1 ∧ n < n1 ∧ n1 ≤ n + (q - p) ∧ av1 8 (160 * c + n) = nI pt ∧ (∀ j, n < j → j < n1 → ∃ u, av1 8 (160 * c + j) = nI u ∧ u < j ∧ n ≤ u) ∧ NX av1 c n n1 n (pre no D) ∧ GX av1 c n n1 ∧ ∀ X, bAt d B ad ix iv ns c av1 (nI pt) 0 lf1 q X → bAt d B ad ix iv ns c av (nI pt) (nI no) lf p X := by
  have hc := hC.2.1
  have h80 := hC.2.2.1
  have hlen := pName_len s pn p q [D] hp h
  unfold pName at h
  by_cases h1 : isN (sg s pn p) = true
  · rw [if_pos h1] at h
    have hp1 := isN_nz h1
    by_cases h3 : sg s pn (p + 1) = 60 ∨ sg s pn (p + 1) = 61 ∨ sg s pn (p + 1) = 62
    · rw [if_pos h3] at h
      have hp2 : p + 1 < pn := sg_lt (fun e => by rw [e] at h3; exact absurd h3 (by decide))
      by_cases h4 : isD (sg s pn (p + 2)) = true
      · rw [if_pos h4] at h
        cases h
        have hbd := pNum_gt s pn (p + 2) (by omega) h4
        have hlt := pNum_lt s pn 6 0 (p + 2) (Nat.le_refl _) (by decide)
        have hnm : (97 ≤ sg s pn p ∧ sg s pn p ≤ 104) ∨ sg s pn p = 121 ∨ sg s pn p = 122 := by simpa [isN] using h1
        have k := nod_at av c n 0 (nI pt)
        have kb := nod_BP (av := av) (c := c) 0 (nI pt) (show n < 160 by omega)
        generalize hN0 : nod av c n 0 (nI pt) = N0 at k kb
        generalize hA0 : va_up (va_up N0 10 (upd (N0 10) (160 * c + n) (sg s pn p))) 9 (upd (N0 9) (160 * c + n) (nI no)) = A0
        have a7 : A0 7 = N0 7 := by rw [← hA0]; rfl
        have a8 : A0 8 = N0 8 := by rw [← hA0]; rfl
        have a9 : A0 9 = upd (N0 9) (160 * c + n) (nI no) := by rw [← hA0]; rfl
        have a10 : A0 10 = upd (N0 10) (160 * c + n) (sg s pn p) := by rw [← hA0]; rfl
        have a11 : A0 11 = N0 11 := by rw [← hA0]; rfl
        have a12 : A0 12 = N0 12 := by rw [← hA0]; rfl
        have ao : ∀ k, (k < 7 ∨ 12 < k) → A0 k = N0 k := fun k hk => by rw [← hA0, va_up_ne _ _ (by omega), va_up_ne _ _ (by omega)]
        generalize hA1 : va_up A0 11 (upd (A0 11) (160 * c + n) (sg s pn (p + 1))) = A1
        have b11 : A1 11 = upd (A0 11) (160 * c + n) (sg s pn (p + 1)) := by rw [← hA1]; rfl
        have bo : ∀ k, k ≠ 11 → A1 k = A0 k := fun k hk => by rw [← hA1, va_up_ne _ _ hk]
        have e2 : A1 2 = s := by rw [bo 2 (by decide), ao 2 (by omega), kb.1 2 (by omega)]; exact h2
        obtain ⟨av1, g1, g2, g3⟩ := t_num (d := d) (B := B) (ns := ns) hC n (by omega) (nI pt) 0 6 0 (p + 2) A1 (by omega) (by rw [bo 12 (by decide), a12]; exact k.2.2.2.2.2)
        rw [e2] at g2 g3
        have v : ∀ q, q ≠ 12 → av1 q = A1 q := fun q hq => funext fun x => g1 q x (Or.inl hq)
        have w9 : av1 9 (160 * c + n) = nI no := by rw [v 9 (by decide), bo 9 (by decide), a9]; simp [upd]
        have w10 : av1 10 (160 * c + n) = sg s pn p := by rw [v 10 (by decide), bo 10 (by decide), a10]; simp [upd]
        have w11 : av1 11 (160 * c + n) = sg s pn (p + 1) := by rw [v 11 (by decide), b11]; simp [upd]
        have w7 : av1 7 (160 * c + n) = 0 := by rw [v 7 (by decide), bo 7 (by decide), a7]; exact k.1
        have w8 : av1 8 (160 * c + n) = nI pt := by rw [v 8 (by decide), bo 8 (by decide), a8]; exact k.2.1
        obtain ⟨nx, gx⟩ := leaf_NX (av := av1) (c := c) (n := n) hno hlt (isN_mNm h1) w7 w9 w10 w11 g2
        refine ⟨av1, n + 1, nI n, ⟨fun q hq => ?_, fun x hx => ?_, ?_, by omega, fun q x q1 q2 q3 => ?_⟩, by omega, by omega, w8, fun j j1 j2 => by omega, nx, gx, fun X hX => ?_⟩
        · rw [v q (by omega), bo q (by omega), ao q (by omega)]
          exact kb.1 q hq
        · rw [v 6 (by decide), bo 6 (by decide), ao 6 (by omega)]
          exact kb.2.1 x hx
        · rw [v 6 (by decide), bo 6 (by decide), ao 6 (by omega)]
          exact kb.2.2.1
        · have hxn : x ≠ 160 * c + n := by omega
          rw [g1 q x (Or.inr hxn), ← kb.2.2.2.2 q x q1 q2 q3]
          have hq : q = 7 ∨ q = 8 ∨ q = 9 ∨ q = 10 ∨ q = 11 ∨ q = 12 := by omega
          rcases hq with rfl | rfl | rfl | rfl | rfl | rfl
          · rw [bo 7 (by decide), a7]
          · rw [bo 8 (by decide), a8]
          · rw [bo 9 (by decide), a9]; simp [upd, hxn]
          · rw [bo 10 (by decide), a10]; simp [upd, hxn]
          · rw [b11, a11]; simp [upd, hxn]
          · rw [bo 12 (by decide), a12]
        · have s1 : bAt d B ad ix iv ns c A0 (nI pt) 0 (nI n) (p + 1) X := fun o6 o7 o8 => b_sgn hC.1 c pn (p + 1) hC.2.1 hC.2.2.1 hC.2.2.2 hp2 (nI pt) 0 (nI n) o6 o7 o8 (sg s pn (p + 1)) (by rw [ao 2 (by omega), kb.1 2 (by omega), h2, sg_at hp2]) h3 n (by omega) rfl (by rw [hA1]; exact g3 X hX)
          exact fun o6 o7 o8 => b_nam hC.1 c pn p hC.2.1 hC.2.2.1 hC.2.2.2 hp1 (nI pt) (nI no) lf o6 o7 o8 (sg s pn p) (by rw [h2, sg_at hp1]) hnm n (by omega) h6 (by rw [hN0, hA0]; exact s1)
      · rw [if_neg h4] at h
        cases h
    · rw [if_neg h3] at h
      cases h
  · rw [if_neg h1] at h
    cases h
theorem bb_bit (hC : bC ad ix iv c pn) (f : Nat) (hA : bBit d B ad ix iv ns c pn s (pP s pn f) f) (hO : bOr d B ad ix iv ns c pn s (pP s pn f) f) : bBit d B ad ix iv ns c pn s (pP s pn (f + 1)) (f + 1) := by
  intro j b no p q D hp hb hno hf h av n pt lf h2 h6 hn hpt
  have hc := hC.2.1
  have h80 := hC.2.2.1
  rw [pP, if_pos rfl] at h
  by_cases h1 : sg s pn p = 33 ∧ no < 3
  · rw [if_pos h1] at h
    have hp1 : p < pn := sg_lt (by rw [h1.1]; decide)
    cases hq : pP s pn f 0 j b (no + 1) (p + 1) with
    | mk r o1 =>
    rw [hq] at h
    split at h
    · rename_i D1 tl e
      cases e
      cases h
      have e9 : ∀ ff jj jj2 no2 pp, pP s pn ff 0 jj b no2 pp = pP s pn ff 0 jj2 b no2 pp := by
        intro ff
        induction ff with
        | zero => intro jj jj2 no2 pp; rfl
        | succ ff ih => intro jj jj2 no2 pp; rw [pP, pP, if_pos rfl, if_pos rfl, ih jj jj2]
      have hq' := hq
      rw [e9 f j 38] at hq'
      obtain ⟨D2, k1, k2⟩ := (pP_len s pn f 0 38 b (no + 1) (p + 1) q _ (by omega) (by decide) hq').1 (by omega)
      have hbd := pP_bd s pn f 0 38 b (no + 1) (p + 1) (by omega) (by decide)
      rw [hq'] at hbd
      simp only at hbd
      cases k1
      obtain ⟨av1, n1, lf1, r1, r2, r3, r4, r5, r6, r7, r8⟩ := hA j b (no + 1) (p + 1) q D1 (by omega) hb (by omega) (by omega) hq av n pt lf h2 h6 (by omega) hpt
      refine ⟨av1, n1, lf1, r1, r2, by omega, r4, r5, ?_, r7, fun X hX => t_not hC hp1 (by rw [h2, ← sg_at (s := s) hp1]; exact h1.1) ?_⟩
      · rw [pre_not]
        exact r6
      · rw [← nI_succ]
        exact r8 X hX
    · cases h
  · rw [if_neg h1] at h
    by_cases h5 : sg s pn p = 40 ∧ b < 5
    · rw [if_pos h5] at h
      have hp1 : p < pn := sg_lt (by rw [h5.1]; decide)
      cases hq : pP s pn f 1 124 (b + 1) 0 (p + 1) with
      | mk r o1 =>
      rw [hq] at h
      have hbd := pP_bd s pn f 1 124 (b + 1) 0 (p + 1) (by omega) (by decide)
      rw [hq] at hbd
      simp only at hbd
      split at h
      · rename_i e
        cases e
        split at h
        · rename_i h41
          cases h
          have hr1 : r < pn := sg_lt (by rw [h41]; decide)
          have k1 := nod_at av c n 2 (nI pt)
          have kb1 := nod_BP (av := av) (c := c) 2 (nI pt) (show n < 160 by omega)
          generalize hN0 : nod av c n 2 (nI pt) = N0 at k1 kb1
          have k2 := nod_at N0 c (n + 1) 1 (nI n)
          have kb2 := nod_BP (av := N0) (c := c) 1 (nI n) (show n + 1 < 160 by omega)
          have kn : ∀ k, 7 ≤ k → k ≤ 12 → nod N0 c (n + 1) 1 (nI n) k (160 * c + n) = N0 k (160 * c + n) := fun k g1 g2 => nod_no g1 g2 (by omega)
          generalize hN1 : nod N0 c (n + 1) 1 (nI n) = N1 at k2 kb2 kn
          generalize hA0 : va_up N1 9 (upd (N1 9) (160 * c + n) (nI no)) = A0
          have a9 : A0 9 = upd (N1 9) (160 * c + n) (nI no) := by rw [← hA0]; rfl
          have ao : ∀ k, k ≠ 9 → A0 k = N1 k := fun k hk => by rw [← hA0, va_up_ne _ _ hk]
          have kb := kb1.trans kb2
          have bp0 : BP av A0 c n (n + 2) := ⟨fun k hk => by rw [ao k (by omega)]; exact kb.1 k hk, fun x hx => by rw [ao 6 (by decide)]; exact kb.2.1 x hx, by rw [ao 6 (by decide)]; exact kb.2.2.1, by omega, fun k x g1 g2 g3 => by
            by_cases hk : k = 9
            · subst hk
              rw [a9, ← kb.2.2.2.2 9 x (by omega) (by omega) g3]
              have : x ≠ 160 * c + n := by omega
              simp [upd, this]
            · rw [ao k hk]
              exact kb.2.2.2.2 k x g1 g2 g3⟩
          have c7 : A0 7 (160 * c + n) = 2 := by rw [ao 7 (by decide), kn 7 (by omega) (by omega)]; exact k1.1
          have c8 : A0 8 (160 * c + n) = nI pt := by rw [ao 8 (by decide), kn 8 (by omega) (by omega)]; exact k1.2.1
          have c9 : A0 9 (160 * c + n) = nI no := by rw [a9]; simp [upd]
          have c12 : A0 12 (160 * c + n) = nI 0 := by rw [ao 12 (by decide), kn 12 (by omega) (by omega)]; exact k1.2.2.2.2.2
          obtain ⟨av1, n1, lf1, pt1, Ds, r0, r00, r1, r2, r3, r4, r5, r6, r7, r8⟩ := hO (b + 1) (p + 1) r D (by omega) (by omega) (by omega) hq A0 (n + 1) n lf (by rw [bp0.1 2 (by omega)]; exact h2) bp0.2.2.1 (by omega) (by omega) (by rw [ao 7 (by decide)]; exact k2.1) (by rw [ao 8 (by decide)]; exact k2.2.1) (by rw [a9]; simp [upd]; exact k2.2.2.1) (by rw [ao 12 (by decide)]; exact k2.2.2.2.2.2)
          have kp : ∀ k x, 7 ≤ k → k ≤ 12 → x < 160 * c + (n + 2) → av1 k x = A0 k x := fun k x g1 g2 g3 => r1.2.2.2.2 k x g1 g2 (Or.inl g3)
          have w8 : av1 8 (160 * c + (n + 1)) = nI n := by rw [kp 8 _ (by omega) (by omega) (by omega), ao 8 (by decide)]; exact k2.2.1
          have w8n : av1 8 (160 * c + n) = nI pt := by rw [kp 8 _ (by omega) (by omega) (by omega)]; exact c8
          have hn1 := r1.2.2.2.1
          obtain ⟨nx, gx⟩ := any_NX (av := av1) (c := c) (a := n) (n1 := n1) (no := no) (Ds := Ds) hno (by omega) ((kp 7 _ (by omega) (by omega) (by omega)).trans c7) ((kp 9 _ (by omega) (by omega) (by omega)).trans c9) ((kp 12 _ (by omega) (by omega) (by omega)).trans c12) w8 r4 r00 r5
          refine ⟨av1, n1, lf1, bp0.trans r1, by omega, by omega, w8n, fun j j1 j2 => ?_, by rw [r0]; exact nx, gx, fun X hX => ?_⟩
          · by_cases hj : j = n + 1
            · rw [hj]
              exact ⟨n, w8, by omega, by omega⟩
            · obtain ⟨u, u1, u2, u3⟩ := r3 j (by omega) j2
              exact ⟨u, u1, u2, by omega⟩
          · have s2 : bAt d B ad ix iv ns c av1 (nI pt1) 0 lf1 r X := fun o6 o7 o8 => b_cls hC.1 c pn r hC.2.1 hC.2.2.1 hC.2.2.2 hr1 (nI pt1) 0 lf1 o6 o7 o8 41 (by rw [r1.1 2 (by omega), bp0.1 2 (by omega), h2, ← sg_at (s := s) hr1]; exact h41) rfl pt1 (by omega) rfl n (by omega) r7 (nI pt) w8n hX
            exact fun o6 o7 o8 => b_par hC.1 c pn p hC.2.1 hC.2.2.1 hC.2.2.2 hp1 (nI pt) (nI no) lf o6 o7 o8 40 (by rw [h2, ← sg_at (s := s) hp1]; exact h5.1) rfl n (by omega) h6 (by rw [hN0, hN1, hA0]; exact r8 X s2)
        · cases h
      · cases h
    · rw [if_neg h5] at h
      exact bb_name hC hp hno h h2 h6 hn hpt
theorem bb_andM (hC : bC ad ix iv c pn) (f : Nat) (hA : bBit d B ad ix iv ns c pn s (pP s pn f) f) (hM : bAndM d B ad ix iv ns c pn s (pP s pn f) f) : bAndM d B ad ix iv ns c pn s (pP s pn (f + 1)) (f + 1) := by
  intro b p q Ds hp hb hf h av n pt lf h2 h6 hn hpt
  have hc := hC.2.1
  have h80 := hC.2.2.1
  rw [pP, if_neg (by decide), if_neg (by decide)] at h
  by_cases hs : sg s pn p = 38
  · rw [if_pos hs, if_neg (by decide)] at h
    have hp1 : p < pn := sg_lt (by rw [hs]; decide)
    cases hq : pP s pn f 0 38 b 0 (p + 1) with
    | mk r o1 =>
    rw [hq] at h
    have hbd := pP_bd s pn f 0 38 b 0 (p + 1) (by omega) (by decide)
    rw [hq] at hbd
    simp only at hbd
    split at h
    · rename_i D1 tl e
      cases e
      obtain ⟨D2, k1, k2⟩ := (pP_len s pn f 0 38 b 0 (p + 1) r _ (by omega) (by decide) hq).1 (by omega)
      cases k1
      cases hq2 : pP s pn f 2 38 b 0 r with
      | mk r2 o2 =>
      rw [hq2] at h
      have hbd2 := pP_bd s pn f 2 38 b 0 r (by omega) (by decide)
      rw [hq2] at hbd2
      simp only at hbd2
      split at h
      · rename_i Es e
        cases e
        cases h
        obtain ⟨av1, n1, lf1, r1, r2, r3, r4, r5, r6, r7, r8⟩ := hA 38 b 0 (p + 1) r D1 (by omega) hb (by omega) (by omega) hq av n pt lf h2 h6 (by omega) hpt
        obtain ⟨av3, n3, lf3, t1, t2, t3, t4, t5, t6⟩ := hM b r q Es (by omega) hb (by omega) hq2 av1 n1 pt lf1 (by rw [r1.1 2 (by omega)]; exact h2) r1.2.2.1 (by omega) (by omega)
        have hp' : ∀ j, n1 ≤ j → j < n3 → ∃ u, av3 8 (160 * c + j) = nI u ∧ u < 160 ∧ (u < n ∨ n1 ≤ u) := fun j g1 g2 => by
          obtain ⟨u, u1, u2, u3⟩ := t3 j g1 g2
          exact ⟨u, u1, by omega, by omega⟩
        have keep8 : ∀ j, j < n1 → av3 8 (160 * c + j) = av1 8 (160 * c + j) := fun j hj => t1.2.2.2.2 8 _ (by omega) (by omega) (by omega)
        have hch : chs av3 c pt (n3 - n) n = n :: chs av3 c pt (n3 - n1) n1 := by
          have := t1.2.2.2.1
          rw [show n3 - n = 1 + ((n1 - n - 1) + (n3 - n1)) by omega, chs_add, chs_add, show n + 1 + (n1 - n - 1) = n1 by omega, chs_none av3 c pt (n1 - n - 1) (n + 1) (fun j g1 g2 e => by
            rw [keep8 j (by omega)] at e
            obtain ⟨u, u1, u2, u3⟩ := r5 j (by omega) (by omega)
            rw [u1] at e
            have := (nI_eq (by omega) (by omega)).mp e
            omega)]
          rw [show chs av3 c pt 1 n = [n] from by rw [chs, if_pos (by rw [keep8 n (by omega)]; exact r4)]; rfl]
          rfl
        refine ⟨av3, n3, lf3, r1.trans t1, by omega, fun j g1 g2 => ?_, ?_, GX_app t1 (by omega) (by omega) r7 t5 hp', fun X hX => t_amp hC hp1 (by rw [h2, ← sg_at (s := s) hp1]; exact hs) (r8 X (t6 X hX))⟩
        · by_cases hj : j < n1
          · rw [keep8 j hj]
            by_cases hjn : j = n
            · rw [hjn]
              exact ⟨pt, r4, hpt, Or.inl rfl⟩
            · obtain ⟨u, u1, u2, u3⟩ := r5 j (by omega) hj
              exact ⟨u, u1, u2, Or.inr u3⟩
          · obtain ⟨u, u1, u2, u3⟩ := t3 j (by omega) g2
            exact ⟨u, u1, u2, by omega⟩
        · rw [hch]
          exact ⟨NX_left t1 (by omega) (by omega) r6 hp', zip2_mono _ _ (fun j D _ g => NX_right (by omega) g) t4⟩
      · cases h
    · cases h
  · rw [if_neg hs] at h
    cases h
    refine ⟨av, n, lf, BP.refl h6, by omega, fun j g1 g2 => by omega, by rw [Nat.sub_self]; exact trivial, fun av2 N _ x g1 g2 => by omega, fun X hX => hX⟩
theorem bb_and (hC : bC ad ix iv c pn) (f : Nat) (hA : bBit d B ad ix iv ns c pn s (pP s pn f) f) (hM : bAndM d B ad ix iv ns c pn s (pP s pn f) f) : bAnd d B ad ix iv ns c pn s (pP s pn (f + 1)) (f + 1) := by
  intro b p q D hp hb hf h av n pt lf h2 h6 hn hpt
  have hc := hC.2.1
  have h80 := hC.2.2.1
  rw [pP, if_neg (by decide), if_pos rfl, if_neg (by decide)] at h
  cases hq : pP s pn f 0 38 b 0 p with
  | mk r o1 =>
  rw [hq] at h
  have hbd := pP_bd s pn f 0 38 b 0 p hp (by decide)
  rw [hq] at hbd
  simp only at hbd
  split at h
  · rename_i D1 tl e
    cases e
    obtain ⟨D2, k1, k2⟩ := (pP_len s pn f 0 38 b 0 p r _ hp (by decide) hq).1 (by omega)
    cases k1
    cases hq2 : pP s pn f 2 38 b 0 r with
    | mk r2 o2 =>
    rw [hq2] at h
    have hbd2 := pP_bd s pn f 2 38 b 0 r (by omega) (by decide)
    rw [hq2] at hbd2
    simp only at hbd2
    have hEs : ∃ Es, o2 = some Es ∧ r2 = q ∧ D = gD 38 (D1 :: Es) := by
      split at h
      · rename_i e
        cases e
        cases h
        exact ⟨[], rfl, rfl, rfl⟩
      · rename_i e
        cases e
        cases h
        exact ⟨_, rfl, rfl, rfl⟩
      · cases h
    obtain ⟨Es, rfl, rfl, hD⟩ := hEs
    obtain ⟨av1, n1, lf1, r1, r2', r3, r4, r5, r6, r7, r8⟩ := hA 38 b 0 p r D1 hp hb (by omega) (by omega) hq av n pt lf h2 h6 (by omega) hpt
    obtain ⟨av3, n3, lf3, t1, t2, t3, t4, t5, t6⟩ := hM b r r2 Es (by omega) hb (by omega) hq2 av1 n1 pt lf1 (by rw [r1.1 2 (by omega)]; exact h2) r1.2.2.1 (by omega) (by omega)
    have hp' : ∀ j, n1 ≤ j → j < n3 → ∃ u, av3 8 (160 * c + j) = nI u ∧ u < 160 ∧ (u < n ∨ n1 ≤ u) := fun j g1 g2 => by
      obtain ⟨u, u1, u2, u3⟩ := t3 j g1 g2
      exact ⟨u, u1, by omega, by omega⟩
    have keep8 : ∀ j, j < n1 → av3 8 (160 * c + j) = av1 8 (160 * c + j) := fun j hj => t1.2.2.2.2 8 _ (by omega) (by omega) (by omega)
    have hn13 := t1.2.2.2.1
    have hch : chs av3 c pt (n3 - n) n = n :: chs av3 c pt (n3 - n1) n1 := by
      rw [show n3 - n = 1 + ((n1 - n - 1) + (n3 - n1)) by omega, chs_add, chs_add, show n + 1 + (n1 - n - 1) = n1 by omega, chs_none av3 c pt (n1 - n - 1) (n + 1) (fun j g1 g2 e => by
        rw [keep8 j (by omega)] at e
        obtain ⟨u, u1, u2, u3⟩ := r5 j (by omega) (by omega)
        rw [u1] at e
        have := (nI_eq (by omega) (by omega)).mp e
        omega)]
      rw [show chs av3 c pt 1 n = [n] from by rw [chs, if_pos (by rw [keep8 n (by omega)]; exact r4)]; rfl]
      rfl
    refine ⟨av3, n3, lf3, D1 :: Es, hD, by simp, r1.trans t1, by omega, by omega, fun j g1 g2 => ?_, ?_, GX_app t1 (by omega) (by omega) r7 t5 hp', fun X hX => r8 X (t6 X hX)⟩
    · by_cases hj : j < n1
      · rw [keep8 j hj]
        by_cases hjn : j = n
        · rw [hjn]
          exact ⟨pt, r4, hpt, Or.inl rfl⟩
        · obtain ⟨u, u1, u2, u3⟩ := r5 j (by omega) hj
          exact ⟨u, u1, u2, Or.inr u3⟩
      · obtain ⟨u, u1, u2, u3⟩ := t3 j (by omega) g2
        exact ⟨u, u1, u2, by omega⟩
    · rw [hch]
      exact ⟨NX_left t1 (by omega) (by omega) r6 hp', zip2_mono _ _ (fun j D _ g => NX_right (by omega) g) t4⟩
  · cases h
end BB
