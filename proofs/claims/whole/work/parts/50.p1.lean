/-! the text under the reference's eye: sign by sign -/
def dGo (s : Nat → Int32) : Nat → Nat → fQ → Option fQ
  | 0, _, q => some q
  | k + 1, p, q => match fsg q (s p) with
    | none => none
    | some q1 => dGo s k (p + 1) q1
theorem dGo_add (s : Nat → Int32) : ∀ a b p q q1, dGo s a p q = some q1 → dGo s (a + b) p q = dGo s b (p + a) q1
  | 0, b, p, q, q1, h => by
    cases h
    rw [Nat.zero_add, Nat.add_zero]
  | a + 1, b, p, q, q1, h => by
    rw [show a + 1 + b = (a + b) + 1 by omega, dGo]
    rw [dGo] at h
    cases e : fsg q (s p) with
    | none => rw [e] at h; cases h
    | some q2 =>
      rw [e] at h
      simp only at h ⊢
      rw [dGo_add s a b (p + 1) q2 q1 h, show p + 1 + a = p + (a + 1) by omega]
theorem dGo_one {s : Nat → Int32} {p : Nat} {q q1 : fQ} (h : fsg q (s p) = some q1) : dGo s 1 p q = some q1 := by
  rw [dGo, h]
  rfl
theorem dGo_to {s : Nat → Int32} {p r q : Nat} {Q Q1 : fQ} (hpr : p ≤ r) (hrq : r ≤ q) (h : dGo s (r - p) p Q = some Q1) {Q2 : fQ} (h2 : dGo s (q - r) r Q1 = some Q2) : dGo s (q - p) p Q = some Q2 := by
  rw [show q - p = (r - p) + (q - r) by omega, dGo_add s _ _ _ _ _ h, show p + (r - p) = r by omega]
  exact h2
theorem mFa_run (av : Nat → Nat → Int32) (pn : Nat) : ∀ k i q q1, i + k ≤ pn → dGo (av 2) k i q = some q1 → mFa av pn (pn - i) i q = mFa av pn (pn - (i + k)) (i + k) q1
  | 0, i, q, q1, _, h => by cases h; rfl
  | k + 1, i, q, q1, hk, h => by
    rw [show pn - i = (pn - (i + 1)) + 1 by omega, mFa]
    rw [dGo] at h
    cases e : fsg q (av 2 i) with
    | none => rw [e] at h; cases h
    | some q2 =>
      rw [e] at h
      simp only at h ⊢
      rw [mFa_run av pn k (i + 1) q2 q1 (by omega) h, show i + 1 + k = i + (k + 1) by omega]
def Post (s : Nat → Int32) (len q b : Nat) (t : Int32) (Q : fQ) : Prop := ∃ g, Q = (4, 0, nI b, t, g) ∨ (Q = (3, 0, nI b, t, g) ∧ (isD (sg s len q) = true → g = 6))
def Fail (s : Nat → Int32) (len q : Nat) (Q : fQ) : Prop := (q < len → fsg Q (s q) = none) ∧ (q = len → ¬ (2 < Q.1 ∧ Q.2.2.1 = 0))
theorem sg_at {s : Nat → Int32} {len p : Nat} (h : p < len) : sg s len p = s p := if_pos h
/-- what comes next behind a bit -/
theorem Post.next {s : Nat → Int32} {len q b : Nat} {t : Int32} {Q : fQ} (h : Post s len q b t Q) (hb : b ≤ 5) (hq : q < len) : fsg Q (s q) = if s q = 41 ∧ 0 < b then some (4, 0, nI (b - 1), t, Q.2.2.2.2) else if s q = 59 ∧ b = 0 ∧ t < 6 then some (0, 0, nI b, t + 1, Q.2.2.2.2) else if s q = 38 ∨ s q = 124 then some (0, 0, nI b, t, Q.2.2.2.2) else none := by
  have h0 : (0 < nI b) ↔ 0 < b := by rw [show (0 : Int32) = nI 0 from rfl, nI_ltI (by decide) (by omega)]
  have h1 : (nI b = 0) ↔ b = 0 := by rw [show (0 : Int32) = nI 0 from rfl, nI_eq (by omega) (by decide)]
  have h2 : 0 < b → nI b - 1 = nI (b - 1) := fun g => by have := nI_pred (b - 1); rw [show b - 1 + 1 = b by omega] at this; exact this
  obtain ⟨g, rfl | ⟨rfl, hd⟩⟩ := h
  · simp only [fsg]
    grind
  · rw [sg_at hq] at hd
    have hd2 : (48 ≤ s q ∧ s q ≤ 57) → g = 6 := fun g2 => hd (by simpa [isD] using g2)
    simp only [fsg]
    grind
theorem Post.st {s : Nat → Int32} {len q b : Nat} {t : Int32} {Q : fQ} (h : Post s len q b t Q) (hb : b ≤ 5) : (2 < Q.1 ∧ Q.2.2.1 = 0) ↔ b = 0 := by
  have h1 : (nI b = 0) ↔ b = 0 := by rw [show (0 : Int32) = nI 0 from rfl, nI_eq (by omega) (by decide)]
  obtain ⟨g, rfl | ⟨rfl, hd⟩⟩ := h
  · exact ⟨fun g => h1.mp g.2, fun g => ⟨(by decide : (2 : Int32) < 4), h1.mpr g⟩⟩
  · exact ⟨fun g => h1.mp g.2, fun g => ⟨(by decide : (2 : Int32) < 3), h1.mpr g⟩⟩
/-- the digits of a number -/
theorem d_num (s : Nat → Int32) (len : Nat) (n : Int32) (b : Nat) (t : Int32) : ∀ k m p g, g + k = 6 → 1 ≤ g → p ≤ len → ∃ g1, dGo s ((pNum s len k m p).1 - p) p (3, n, nI b, t, nI g) = some (3, n, nI b, t, nI g1) ∧ (isD (sg s len (pNum s len k m p).1) = true → g1 = 6)
  | 0, m, p, g, h, h1, hp => by
    refine ⟨g, ?_, fun _ => by omega⟩
    rw [show (pNum s len 0 m p).1 = p from rfl, Nat.sub_self]
    rfl
  | k + 1, m, p, g, h, h1, hp => by
    rw [pNum]
    split
    · rename_i hd
      have hp1 : p < len := sg_lt (fun e => by rw [e] at hd; exact absurd hd (by decide))
      obtain ⟨g1, g2, g3⟩ := d_num s len n b t k (10 * m + ((sg s len p).toNatClampNeg - 48)) (p + 1) (g + 1) (by omega) (by omega) (by omega)
      have hb := pNum_bd s len k (10 * m + ((sg s len p).toNatClampNeg - 48)) (p + 1) (by omega)
      refine ⟨g1, dGo_to (r := p + 1) (by omega) hb.1 ?_ g2, g3⟩
      rw [Nat.add_sub_cancel_left]
      apply dGo_one
      have hd2 : 48 ≤ s p ∧ s p ≤ 57 := by rw [sg_at hp1] at hd; simpa [isD] using hd
      have hlt : nI g + 1 < 7 := by rw [← nI_succ]; exact nI_lt (b := 7) (by omega) (by decide)
      simp only [fsg]
      rw [if_neg (by decide), if_neg (by decide), if_neg (by decide), if_pos ⟨trivial, hd2⟩, if_pos hlt, nI_succ]
    · rename_i hd
      refine ⟨g, ?_, fun g2 => absurd g2 hd⟩
      rw [show (p, m).1 = p from rfl, Nat.sub_self]
      rfl
theorem d_name (s : Nat → Int32) (len : Nat) (no b : Nat) (t g : Int32) (p q : Nat) (o : Option (List Den)) (hp : p ≤ len) (hb : b ≤ 5) (hno : no ≤ 3) (hn1 : ¬ (sg s len p = 33 ∧ no < 3)) (hn2 : ¬ (sg s len p = 40 ∧ b < 5)) (h : pName s len p = (q, o)) : ∃ Q, dGo s (q - p) p (0, nI no, nI b, t, g) = some Q ∧ (o = none → Fail s len q Q) ∧ (o ≠ none → Post s len q b t Q) := by
  have e3 : (nI no < 3) ↔ no < 3 := by rw [show (3 : Int32) = nI 3 from rfl, nI_ltI (by omega) (by decide)]
  have e5 : (nI b < 5) ↔ b < 5 := by rw [show (5 : Int32) = nI 5 from rfl, nI_ltI (by omega) (by decide)]
  unfold pName at h
  by_cases h1 : isN (sg s len p) = true
  · rw [if_pos h1] at h
    have hp1 := isN_nz h1
    have h1' : (97 ≤ s p ∧ s p ≤ 104) ∨ s p = 121 ∨ s p = 122 := by rw [sg_at hp1] at h1; simpa [isN] using h1
    rw [sg_at hp1] at hn1 hn2
    have s1 : fsg (0, nI no, nI b, t, g) (s p) = some (1, 0, nI b, t, g) := by
      simp only [fsg]
      rw [if_pos trivial, if_neg (by rw [e3]; exact hn1), if_neg (by rw [e5]; exact hn2), if_pos h1']
    by_cases h2 : sg s len (p + 1) = 60 ∨ sg s len (p + 1) = 61 ∨ sg s len (p + 1) = 62
    · rw [if_pos h2] at h
      have hp2 : p + 1 < len := sg_lt (fun e => by rw [e] at h2; exact absurd h2 (by decide))
      rw [sg_at hp2] at h2
      have s2 : fsg (1, 0, nI b, t, g) (s (p + 1)) = some (2, 0, nI b, t, g) := by
        simp only [fsg]
        rw [if_neg (by decide), if_pos trivial, if_pos h2]
      have s12 : dGo s (p + 2 - p) p (0, nI no, nI b, t, g) = some (2, 0, nI b, t, g) := dGo_to (r := p + 1) (by omega) (by omega) (by rw [Nat.add_sub_cancel_left]; exact dGo_one s1) (by rw [show p + 2 - (p + 1) = 1 by omega]; exact dGo_one s2)
      by_cases h3 : isD (sg s len (p + 2)) = true
      · rw [if_pos h3] at h
        cases h
        have hp3 : p + 2 < len := sg_lt (fun e => by rw [e] at h3; exact absurd h3 (by decide))
        have h3' : 48 ≤ s (p + 2) ∧ s (p + 2) ≤ 57 := by rw [sg_at hp3] at h3; simpa [isD] using h3
        have s3 : fsg (2, 0, nI b, t, g) (s (p + 2)) = some (3, 0, nI b, t, nI 1) := by
          simp only [fsg]
          rw [if_neg (by decide), if_neg (by decide), if_pos trivial, if_pos h3']
          rfl
        obtain ⟨g1, g2, g3⟩ := d_num s len 0 b t 5 (10 * 0 + ((sg s len (p + 2)).toNatClampNeg - 48)) (p + 3) 1 (by omega) (by omega) (by omega)
        have e6 : pNum s len 6 0 (p + 2) = pNum s len 5 (10 * 0 + ((sg s len (p + 2)).toNatClampNeg - 48)) (p + 3) := by rw [pNum, if_pos h3]
        have hbd := pNum_bd s len 5 (10 * 0 + ((sg s len (p + 2)).toNatClampNeg - 48)) (p + 3) (by omega)
        rw [e6]
        refine ⟨(3, 0, nI b, t, nI g1), dGo_to (r := p + 3) (by omega) hbd.1 (dGo_to (r := p + 2) (by omega) (by omega) s12 (by rw [show p + 3 - (p + 2) = 1 by omega]; exact dGo_one s3)) g2, fun e => (by cases e), fun _ => ⟨nI g1, Or.inr ⟨rfl, fun e => by rw [g3 e]; rfl⟩⟩⟩
      · rw [if_neg h3] at h
        cases h
        refine ⟨_, s12, fun _ => ⟨fun hq => ?_, fun _ g9 => absurd g9.1 (show ¬ (2 : Int32) < 2 by decide)⟩, fun e => absurd rfl e⟩
        have h3' : ¬ (48 ≤ s (p + 2) ∧ s (p + 2) ≤ 57) := by rw [sg_at hq] at h3; simpa [isD] using h3
        simp only [fsg]
        rw [if_neg (by decide), if_neg (by decide), if_pos trivial, if_neg h3']
    · rw [if_neg h2] at h
      cases h
      refine ⟨_, by rw [Nat.add_sub_cancel_left]; exact dGo_one s1, fun _ => ⟨fun hq => ?_, fun _ g9 => absurd g9.1 (show ¬ (2 : Int32) < 1 by decide)⟩, fun e => absurd rfl e⟩
      rw [sg_at hq] at h2
      simp only [fsg]
      rw [if_neg (by decide), if_pos trivial, if_neg h2]
  · rw [if_neg h1] at h
    cases h
    refine ⟨_, by rw [Nat.sub_self]; rfl, fun _ => ⟨fun hq => ?_, fun _ g9 => absurd g9.1 (show ¬ (2 : Int32) < 0 by decide)⟩, fun e => absurd rfl e⟩
    have h1' : ¬ ((97 ≤ s p ∧ s p ≤ 104) ∨ s p = 121 ∨ s p = 122) := by rw [sg_at hq] at h1; simpa [isN] using h1
    rw [sg_at hq] at hn1 hn2
    simp only [fsg]
    rw [if_pos trivial, if_neg (by rw [e3]; exact hn1), if_neg (by rw [e5]; exact hn2), if_neg h1']
def dL (s : Nat → Int32) (len f : Nat) : Prop :=
  (∀ j b no p q o, p ≤ len → len ≤ 80 → b ≤ 5 → no ≤ 3 → 3 * (81 - p) + 1 ≤ f → pP s len f 0 j b no p = (q, o) → ∀ t g, ∃ Q, dGo s (q - p) p (0, nI no, nI b, t, g) = some Q ∧ (o = none → Fail s len q Q) ∧ (o ≠ none → Post s len q b t Q)) ∧
  (∀ j b p q o, p ≤ len → len ≤ 80 → b ≤ 5 → (j = 124 ∨ j = 38) → 3 * (81 - p) + (if j = 124 then 3 else 2) ≤ f → pP s len f 1 j b 0 p = (q, o) → ∀ t g, ∃ Q, dGo s (q - p) p (0, 0, nI b, t, g) = some Q ∧ (o = none → Fail s len q Q) ∧ (o ≠ none → Post s len q b t Q ∧ sg s len q ≠ j ∧ (j = 124 → sg s len q ≠ 38))) ∧
  (∀ j b p q o, p ≤ len → len ≤ 80 → b ≤ 5 → (j = 124 ∨ j = 38) → 3 * (81 - p) ≤ f → (j = 124 → sg s len p ≠ 38) → pP s len f 2 j b 0 p = (q, o) → ∀ t Q0, Post s len p b t Q0 → ∃ Q, dGo s (q - p) p Q0 = some Q ∧ (o = none → Fail s len q Q) ∧ (o ≠ none → Post s len q b t Q ∧ sg s len q ≠ j ∧ (j = 124 → sg s len q ≠ 38)))
theorem d_all (s : Nat → Int32) (len : Nat) : ∀ f, dL s len f
  | 0 => ⟨fun j b no p q o hp h80 hb hno hf => absurd hf (by omega), fun j b p q o hp h80 hb hj hf => absurd hf (by split <;> omega), fun j b p q o hp h80 hb hj hf => absurd hf (by omega)⟩
  | f + 1 => by
    obtain ⟨dA, dB, dC⟩ := d_all s len f
    have bd := pP_bd s len f
    have dI : ∀ (j : Int32) (b p q : Nat) (o : Option (List Den)), p ≤ len → len ≤ 80 → b ≤ 5 → (j = 124 ∨ j = 38) → 3 * (81 - p) + (if j = 124 then 2 else 1) ≤ f → pP s len f (if j = 124 then 1 else 0) 38 b 0 p = (q, o) → ∀ t g, ∃ Q, dGo s (q - p) p (0, 0, nI b, t, g) = some Q ∧ (o = none → Fail s len q Q) ∧ (o ≠ none → Post s len q b t Q ∧ (j = 124 → sg s len q ≠ 38)) := by
      intro j b p q o hp h80 hb hj hf h t g
      rcases hj with rfl | rfl
      · rw [if_pos rfl] at h hf
        obtain ⟨Q, g1, g2, g3⟩ := dB 38 b p q o hp h80 hb (Or.inr rfl) (by simpa using hf) h t g
        exact ⟨Q, g1, g2, fun e => ⟨(g3 e).1, fun _ => (g3 e).2.1⟩⟩
      · rw [if_neg (by decide)] at h hf
        obtain ⟨Q, g1, g2, g3⟩ := dA 38 b 0 p q o hp h80 hb (by omega) hf h t g
        exact ⟨Q, g1, g2, fun e => ⟨g3 e, fun e2 => absurd e2 (by decide)⟩⟩
    refine ⟨fun j b no p q o hp h80 hb hno hf h t g => ?_, fun j b p q o hp h80 hb hj hf h t g => ?_, fun j b p q o hp h80 hb hj hf h38 h t Q0 hQ0 => ?_⟩
    · rw [pP, if_pos rfl] at h
      have e3 : (nI no < 3) ↔ no < 3 := by rw [show (3 : Int32) = nI 3 from rfl, nI_ltI (by omega) (by decide)]
      have e5 : (nI b < 5) ↔ b < 5 := by rw [show (5 : Int32) = nI 5 from rfl, nI_ltI (by omega) (by decide)]
      by_cases h1 : sg s len p = 33 ∧ no < 3
      · rw [if_pos h1] at h
        have hp1 : p < len := sg_lt (by rw [h1.1]; decide)
        have s1 : fsg (0, nI no, nI b, t, g) (s p) = some (0, nI (no + 1), nI b, t, g) := by
          have := h1.1
          rw [sg_at hp1] at this
          simp only [fsg]
          rw [if_pos trivial, if_pos ⟨this, e3.mpr h1.2⟩, nI_succ]
        cases hq : pP s len f 0 j b (no + 1) (p + 1) with
        | mk r o1 =>
        have hb1 := bd 0 j b (no + 1) (p + 1) (by omega)
        rw [hq] at h
        obtain ⟨Q, g1, g2, g3⟩ := dA j b (no + 1) (p + 1) r o1 (by omega) h80 hb (by omega) (by omega) hq t g
        have hr : p + 1 ≤ r := by
          have := pP_bd s len f 0 38 b (no + 1) (p + 1) (by omega) (by decide)
          rcases Nat.lt_or_ge r (p + 1) with g9 | g9
          · exfalso
            have e9 : ∀ ff jj jj2 no2 pp, pP s len ff 0 jj b no2 pp = pP s len ff 0 jj2 b no2 pp := by
              intro ff
              induction ff with
              | zero => intro jj jj2 no2 pp; rfl
              | succ ff ih => intro jj jj2 no2 pp; rw [pP, pP, if_pos rfl, if_pos rfl, ih jj jj2]
            rw [e9 f 38 j, hq] at this
            simp only at this
            omega
          · exact g9
        have tot : dGo s (r - p) p (0, nI no, nI b, t, g) = some Q := dGo_to (r := p + 1) (by omega) hr (by rw [Nat.add_sub_cancel_left]; exact dGo_one s1) g1
        split at h
        · rename_i e
          cases e
          cases h
          exact ⟨Q, tot, fun e => (by cases e), fun _ => g3 (by simp)⟩
        · rename_i hne e
          cases e
          cases h
          refine ⟨Q, tot, fun _ => ?_, fun e => absurd rfl e⟩
          cases o1 with
          | none => exact g2 rfl
          | some Ds =>
            cases Ds with
            | nil =>
              have := (pP_len s len f 0 38 b (no + 1) (p + 1) q [] (by omega) (by decide) (by
                have e9 : ∀ ff jj jj2 no2 pp, pP s len ff 0 jj b no2 pp = pP s len ff 0 jj2 b no2 pp := by
                  intro ff
                  induction ff with
                  | zero => intro jj jj2 no2 pp; rfl
                  | succ ff ih => intro jj jj2 no2 pp; rw [pP, pP, if_pos rfl, if_pos rfl, ih jj jj2]
                rw [e9 f 38 j]; exact hq)).1 (by omega)
              obtain ⟨D, e9, -⟩ := this
              cases e9
            | cons D Ds => exact absurd rfl (hne D Ds)
      · rw [if_neg h1] at h
        by_cases h2 : sg s len p = 40 ∧ b < 5
        · rw [if_pos h2] at h
          have hp1 : p < len := sg_lt (by rw [h2.1]; decide)
          have s1 : fsg (0, nI no, nI b, t, g) (s p) = some (0, 0, nI (b + 1), t, g) := by
            have := h2.1
            rw [sg_at hp1] at this
            simp only [fsg]
            rw [if_pos trivial, if_neg (fun g9 => by rw [this] at g9; exact absurd g9.1 (by decide)), if_pos ⟨this, e5.mpr h2.2⟩, nI_succ]
          cases hq : pP s len f 1 124 (b + 1) 0 (p + 1) with
          | mk r o1 =>
          have hb1 := bd 1 124 (b + 1) 0 (p + 1) (by omega) (by decide)
          rw [hq] at h hb1
          simp only at hb1
          obtain ⟨Q, g1, g2, g3⟩ := dB 124 (b + 1) (p + 1) r o1 (by omega) h80 (by omega) (Or.inl rfl) (by simp only [if_true]; omega) hq t g
          have tot : dGo s (r - p) p (0, nI no, nI b, t, g) = some Q := dGo_to (r := p + 1) (by omega) hb1.1 (by rw [Nat.add_sub_cancel_left]; exact dGo_one s1) g1
          split at h
          · rename_i e
            cases e
            obtain ⟨g4, g5, g6⟩ := g3 (by simp)
            by_cases h4 : sg s len r = 41
            · rw [if_pos h4] at h
              cases h
              have hr : r < len := sg_lt (by rw [h4]; decide)
              have h4' := h4
              rw [sg_at hr] at h4'
              have nx := g4.next (by omega) hr
              rw [if_pos ⟨h4', by omega⟩, Nat.add_sub_cancel] at nx
              refine ⟨_, dGo_to (r := r) (by omega) (by omega) tot (by rw [Nat.add_sub_cancel_left]; exact dGo_one nx), fun e => (by cases e), fun _ => ⟨_, Or.inl rfl⟩⟩
            · rw [if_neg h4] at h
              cases h
              refine ⟨Q, tot, fun _ => ⟨fun hr => ?_, fun _ g9 => ?_⟩, fun e => absurd rfl e⟩
              · have nx := g4.next (by omega) hr
                rw [sg_at hr] at h4 g5 g6
                rw [nx, if_neg (fun g9 => h4 g9.1), if_neg (fun g9 => by omega), if_neg (by have := g6 rfl; grind)]
              · have := (g4.st (by omega)).mp g9
                omega
          · rename_i e
            cases e
            cases h
            exact ⟨Q, tot, fun _ => g2 rfl, fun e => absurd rfl e⟩
        · rw [if_neg h2] at h
          exact d_name s len no b t g p q o hp hb hno h1 h2 h
    · rw [pP, if_neg (by decide), if_pos rfl] at h
      have hjz : j ≠ 0 := by rcases hj with rfl | rfl <;> decide
      have hf2 : 3 * (81 - p) + (if j = 124 then 2 else 1) ≤ f := by rcases hj with e9 | e9 <;> subst e9 <;> simp at hf ⊢ <;> omega
      cases hq : pP s len f (if j = 124 then 1 else 0) 38 b 0 p with
      | mk r o1 =>
      have hb1 := bd (if j = 124 then 1 else 0) 38 b 0 p hp (by decide)
      rw [hq] at h hb1
      simp only at hb1
      obtain ⟨Q, g1, g2, g3⟩ := dI j b p r o1 hp h80 hb hj hf2 hq t g
      split at h
      · rename_i e
        cases e
        obtain ⟨g4, g5⟩ := g3 (by simp)
        cases hq2 : pP s len f 2 j b 0 r with
        | mk r2 o2 =>
        have hb2 := bd 2 j b 0 r hb1.2 hjz
        rw [hq2] at h hb2
        simp only at hb2
        obtain ⟨Q2, k1, k2, k3⟩ := dC j b r r2 o2 hb1.2 h80 hb hj (by rcases hj with e9 | e9 <;> subst e9 <;> simp at hf <;> omega) g5 hq2 t Q g4
        have tot := dGo_to hb1.1 hb2.1 g1 k1
        split at h
        · rename_i e
          cases e
          cases h
          exact ⟨Q2, tot, fun e => (by cases e), fun _ => k3 (by simp)⟩
        · rename_i e
          cases e
          cases h
          exact ⟨Q2, tot, fun e => (by cases e), fun _ => k3 (by simp)⟩
        · rename_i e
          cases e
          cases h
          exact ⟨Q2, tot, fun _ => k2 rfl, fun e => absurd rfl e⟩
      · rename_i hne e
        cases e
        cases h
        refine ⟨Q, g1, fun _ => ?_, fun e => absurd rfl e⟩
        cases o1 with
        | none => exact g2 rfl
        | some Ds =>
          cases Ds with
          | nil =>
            obtain ⟨D, e9, -⟩ := (pP_len s len f _ 38 b 0 p q [] hp (by decide) hq).1 (by split <;> omega)
            cases e9
          | cons D Ds => exact absurd rfl (hne D Ds)
    · rw [pP, if_neg (by decide), if_neg (by decide)] at h
      have hjz : j ≠ 0 := by rcases hj with rfl | rfl <;> decide
      by_cases hs : sg s len p = j
      · rw [if_pos hs] at h
        have hp1 : p < len := sg_lt (by rw [hs]; exact hjz)
        have s1 : fsg Q0 (s p) = some (0, 0, nI b, t, Q0.2.2.2.2) := by
          rw [sg_at hp1] at hs
          rw [hQ0.next hb hp1, hs]
          rcases hj with rfl | rfl
          · rw [if_neg (fun g9 => absurd g9.1 (by decide)), if_neg (fun g9 => absurd g9.1 (by decide)), if_pos (Or.inr rfl)]
          · rw [if_neg (fun g9 => absurd g9.1 (by decide)), if_neg (fun g9 => absurd g9.1 (by decide)), if_pos (Or.inl rfl)]
        cases hq : pP s len f (if j = 124 then 1 else 0) 38 b 0 (p + 1) with
        | mk r o1 =>
        have hb1 := bd (if j = 124 then 1 else 0) 38 b 0 (p + 1) (by omega) (by decide)
        rw [hq] at h hb1
        simp only at hb1
        obtain ⟨Q, g1, g2, g3⟩ := dI j b (p + 1) r o1 (by omega) h80 hb hj (by split <;> omega) hq t Q0.2.2.2.2
        have tot1 : dGo s (r - p) p Q0 = some Q := dGo_to (r := p + 1) (by omega) hb1.1 (by rw [Nat.add_sub_cancel_left]; exact dGo_one s1) g1
        split at h
        · rename_i e
          cases e
          obtain ⟨g4, g5⟩ := g3 (by simp)
          cases hq2 : pP s len f 2 j b 0 r with
          | mk r2 o2 =>
          have hb2 := bd 2 j b 0 r hb1.2 hjz
          rw [hq2] at h hb2
          simp only at hb2
          obtain ⟨Q2, k1, k2, k3⟩ := dC j b r r2 o2 hb1.2 h80 hb hj (by omega) g5 hq2 t Q g4
          have tot := dGo_to (by omega) hb2.1 tot1 k1
          split at h
          · rename_i e
            cases e
            cases h
            exact ⟨Q2, tot, fun e => (by cases e), fun _ => k3 (by simp)⟩
          · rename_i e
            cases e
            cases h
            exact ⟨Q2, tot, fun _ => k2 rfl, fun e => absurd rfl e⟩
        · rename_i hne e
          cases e
          cases h
          refine ⟨Q, tot1, fun _ => ?_, fun e => absurd rfl e⟩
          cases o1 with
          | none => exact g2 rfl
          | some Ds =>
            cases Ds with
            | nil =>
              obtain ⟨D, e9, -⟩ := (pP_len s len f _ 38 b 0 (p + 1) q [] (by omega) (by decide) hq).1 (by split <;> omega)
              cases e9
            | cons D Ds => exact absurd rfl (hne D Ds)
      · rw [if_neg hs] at h
        cases h
        exact ⟨Q0, by rw [Nat.sub_self]; rfl, fun e => (by cases e), fun _ => ⟨hQ0, hs, h38⟩⟩
