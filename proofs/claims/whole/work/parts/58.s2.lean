/-! one call at a time -/
theorem nI_ix {l : Int32} {k : Nat} (hk : k < 2 ^ 31) (h : 0 ≤ l ∧ l < nI k) : ∃ j, j < k ∧ l = nI j := by
  obtain ⟨j, hj, e⟩ := nI_of (x := l) (by grind)
  refine ⟨j, ?_, e⟩
  rcases Nat.lt_or_ge j k with g | g
  · exact g
  · have := nI_le g hj
    rw [← e] at this
    grind
theorem nI_00 {j k : Nat} (h : j < k) (hk : k < 2 ^ 31) : 0 ≤ nI j ∧ nI j < nI k := ⟨by have := nI_pos' (n := j) (by omega); grind, nI_lt h hk⟩
theorem CR.xn {M : xMm} {n : Nat} {ct : Nat → Nat} {tg : Nat → Option Nat} {Bn : xMm} {cn rq ln : Nat} {rt : Nat → Nat → Option Nat} {tx : Nat → List Int32} {iv : Nat → Int32} {av : Nat → Nat → Int32} (K : CR M n ct tg Bn cn rq ln rt tx iv av) {x t : Nat} (hx : tg x = none) (ht : lvt cn rq ln t) : x ≠ ct t := fun e => by
  rw [e, (K.tag t ht).1] at hx
  cases hx
theorem VI.keep {Bn : xMm} {cn ln : Nat} {rt : Nat → Nat → Option Nat} {tx : Nat → List Int32} {iv iv2 : Nat → Int32} {av av2 : Nat → Nat → Int32} (h : VI Bn cn ln rt tx iv av) (hi : ∃ pn, pn ≤ 80 ∧ iv2 1 = nI pn) (ha : ∀ k, ((4 ≤ k ∧ k ≤ 12) ∨ k = 18 ∨ (24 ≤ k ∧ k ≤ 32)) → av2 k = av k) : VI Bn cn ln rt tx iv2 av2 := by
  obtain ⟨h1, h2, h3, h4, h5⟩ := h
  refine ⟨hi, by rw [ha 18 (by decide)]; exact h2, ?_, ?_, fun c hc => (h5 c hc).same (fun _ _ g => g) (by rw [ha 4 (by decide)]) (by rw [ha 6 (by decide)]) (fun t _ => by rw [ha 5 (by decide)]) (fun k x a1 a2 _ => by rw [ha k (by omega)])⟩
  · unfold VL
    rw [ha 24 (by decide), ha 25 (by decide), ha 26 (by decide), ha 27 (by decide), ha 28 (by decide), ha 30 (by decide), ha 32 (by decide)]
    exact h3
  · unfold VZ
    rw [ha 28 (by decide), ha 29 (by decide), ha 30 (by decide), ha 31 (by decide), ha 32 (by decide)]
    exact h4
theorem VL.same {cn cn2 l : Nat} {av av2 : Nat → Nat → Int32} (hc : cn ≤ cn2) (h1 : ∀ k, 24 ≤ k → k ≤ 30 → k ≠ 29 → av2 k l = av k l) (h2 : ∀ j, j < 100 → av2 32 (100 * l + j) = av 32 (100 * l + j)) (h : VL cn av l) : VL cn2 av2 l := by
  obtain ⟨c, th, fi, la, tn, g1, g2, g3, g4, g5, g6, g7, g8, g9, g10, g11, g12⟩ := h
  refine ⟨c, th, fi, la, tn, by omega, (h1 24 (by omega) (by omega) (by omega)).trans g2, g3, (h1 25 (by omega) (by omega) (by omega)).trans g4, g5, g6, (h1 26 (by omega) (by omega) (by omega)).trans g7, (h1 27 (by omega) (by omega) (by omega)).trans g8, by rw [h1 28 (by omega) (by omega) (by omega)]; exact g9, g10, (h1 30 (by omega) (by omega) (by omega)).trans g11, fun k hk => ?_⟩
  obtain ⟨t, a1, a2⟩ := g12 k hk
  exact ⟨t, a1, (h2 k (by omega)).trans a2⟩
theorem VZ.same {l : Nat} {av av2 : Nat → Nat → Int32} (h28 : av2 28 l = av 28 l) (h30 : av2 30 l = av 30 l) (h31 : ∀ j, j < 100 → av2 31 (100 * l + j) = av 31 (100 * l + j)) (h32 : ∀ j, j < 100 → av2 32 (100 * l + j) = av 32 (100 * l + j)) (h29 : ∀ j, j < 6 → av2 29 (6 * l + j) = av 29 (6 * l + j)) (h : VZ av l) : VZ av2 l :=
  ⟨h28.trans h.1, h30.trans h.2.1, fun j hj => (h31 j hj).trans (h.2.2.1 j hj), fun j hj => (h32 j hj).trans (h.2.2.2.1 j hj), fun j hj => (h29 j hj).trans (h.2.2.2.2 j hj)⟩
/-- a loan's own numbers change -/
theorem VI.lon {Bn : xMm} {cn ln : Nat} {rt : Nat → Nat → Option Nat} {tx : Nat → List Int32} {iv iv2 : Nat → Int32} {av av2 : Nat → Nat → Int32} (h : VI Bn cn ln rt tx iv av) (hi : iv2 1 = iv 1) (l : Nat) (hl : l < ln) (ha : ∀ k, k < 24 → k ≠ 13 → k ≠ 14 → k ≠ 16 → av2 k = av k) (hV : VL cn av2 l) (h1 : ∀ l2, l2 ≠ l → VL cn av l2 → VL cn av2 l2) (h2 : ∀ l2, l2 ≠ l → VZ av l2 → VZ av2 l2) : VI Bn cn ln rt tx iv2 av2 := by
  obtain ⟨g1, g2, g3, g4, g5⟩ := h
  refine ⟨by rw [hi]; exact g1, by rw [ha 18 (by decide) (by decide) (by decide) (by decide)]; exact g2, fun l2 hl2 => ?_, fun l2 a b => h2 l2 (by omega) (g4 l2 a b), fun c hc => (g5 c hc).same (fun _ _ g => g) (by rw [ha 4 (by decide) (by decide) (by decide) (by decide)]) (by rw [ha 6 (by decide) (by decide) (by decide) (by decide)]) (fun t _ => by rw [ha 5 (by decide) (by decide) (by decide) (by decide)]) (fun k x a1 a2 _ => by rw [ha k (by omega) (by omega) (by omega) (by omega)])⟩
  by_cases e : l2 = l
  · rw [e]; exact hV
  · exact h1 l2 e (g3 l2 hl2)
theorem upd_at (f : Nat → Int32) (i : Nat) (x : Int32) : upd f i x i = x := by simp [upd]
theorem upd_no (f : Nat → Int32) {i j : Nat} (x : Int32) (h : j ≠ i) : upd f i x j = f j := by simp [upd, h]
abbrev eB : String := "java/lang/IndexOutOfBoundsException"
abbrev eS : String := "java/lang/IllegalStateException"
abbrev eA : String := "java/lang/IllegalArgumentException"
theorem s_unit (s : Int32) : STP false [(eS, 1), (eA, 2)] k_L_unit k_M_unit [.int s] := by
  intro M n sl a0 m0 ou hLI
  obtain ⟨ct, tg, Bn, cn, rq, ln, rt, tx, iv, av, md, mx, rfl, rfl, L, V⟩ := hLI
  obtain ⟨⟨pn, hpn, hp⟩, -⟩ := id V
  have ok := L.2.1
  by_cases h1 : iv 1 < 80
  · by_cases h2 : 33 ≤ s ∧ s ≤ 126
    · have hlt : pn < 80 := (nI_ltI (b := 80) (by omega) (by decide)).mp (by rw [← hp]; exact h1)
      refine spc_put L (c_L_unit_ok L.1 s pn hpn hp hlt h2) (by omega) (CR_unit L.1 s pn) rfl (fun x _ hx => ?_) (fun _ _ => rfl) (fun B ns => ?_) (by simp [upd]) rfl (V.keep ⟨pn + 1, by omega, by simp [upd]⟩ (fun k hk => va_up_ne _ _ (by omega)))
      · rw [xset_ne _ _ (L.1.xn hx (by unfold lvt; omega)), xset_ne _ _ (L.1.xn hx (by unfold lvt; omega))]
      · have := c_M_unit_ok (d := 599) (B := B) (ns := ns) ok (iv := iv) s (by rw [hp]; exact nI_pos' (by omega)) (by simp [mgo, xbi, h1, h2]) (av := av)
        rw [hp, nI_clamp (by omega), show nI pn + 1 = nI (pn + 1) from by rw [show (1 : Int32) = nI 1 from rfl, nI_add]] at this
        exact this
    · exact spc_no L V (c_L_unit_no2 L.1 s h1 h2) (fun B ns => c_M_unit_no ok s (by simp [mgo, xbi, h1, h2])) rfl (by simp [mgo, xbi, h1, h2])
  · exact spc_no L V (c_L_unit_no1 L.1 s h1) (fun B ns => c_M_unit_no ok s (by simp [mgo, xbi, h1])) rfl (by simp [mgo, xbi, h1])
theorem s_terms (c : Int32) : STP false [(eB, 1)] k_L_terms k_M_terms [.int c] := by
  intro M n sl a0 m0 ou hLI
  obtain ⟨ct, tg, Bn, cn, rq, ln, rt, tx, iv, av, md, mx, rfl, rfl, L, V⟩ := hLI
  have ok := L.2.1
  have hk := L.1.cnt
  by_cases h : 0 ≤ c ∧ c < nI cn
  · obtain ⟨j, hj, rfl⟩ := nI_ix (by omega) h
    exact spc_same L V (c_L_terms_ok L.1 j hj) (fun B ns => c_M_terms_ok ok j (by omega) (by rw [hk.2.2.2.1]; exact h.2)) rfl
  · exact spc_no L V (c_L_terms_no0 L.1 c h) (fun B ns => c_M_terms_no ok c (by rw [hk.2.2.2.1]; exact h)) rfl (by simp)
theorem s_days (c : Int32) : STP false [(eB, 1)] k_L_days k_M_days [.int c] := by
  intro M n sl a0 m0 ou hLI
  obtain ⟨ct, tg, Bn, cn, rq, ln, rt, tx, iv, av, md, mx, rfl, rfl, L, V⟩ := hLI
  have ok := L.2.1
  have hk := L.1.cnt
  by_cases h : 0 ≤ c ∧ c < nI ln
  · obtain ⟨j, hj, rfl⟩ := nI_ix (by omega) h
    exact spc_same L V (c_L_days_ok L.1 j hj) (fun B ns => c_M_days_ok ok j (by omega) (by rw [hk.2.2.2.2.2]; exact h.2)) rfl
  · exact spc_no L V (c_L_days_no0 L.1 c h) (fun B ns => c_M_days_no ok c (by rw [hk.2.2.2.2.2]; exact h)) rfl (by simp)
theorem s_fee (c : Int32) : STP false [(eB, 1)] k_L_fee k_M_fee [.int c] := by
  intro M n sl a0 m0 ou hLI
  obtain ⟨ct, tg, Bn, cn, rq, ln, rt, tx, iv, av, md, mx, rfl, rfl, L, V⟩ := hLI
  have ok := L.2.1
  have hk := L.1.cnt
  by_cases h : 0 ≤ c ∧ c < nI ln
  · obtain ⟨j, hj, rfl⟩ := nI_ix (by omega) h
    obtain ⟨c0, th, fi, la, tn, g1, g2, -⟩ := V.2.2.1 j hj
    exact spc_same L V (c_L_fee_ok L.1 j hj c0 g1 (by rw [g2, nI_clamp (by omega)])) (fun B ns => c_M_fee_ok ok j c0 (by omega) (by omega) g2 (by rw [hk.2.2.2.2.2]; exact h.2)) rfl
  · exact spc_no L V (c_L_fee_no0 L.1 c h) (fun B ns => c_M_fee_no ok c (by rw [hk.2.2.2.2.2]; exact h)) rfl (by simp)
theorem s_count (w : Int32) : STP false [(eB, 1)] k_L_count k_M_count [.int w] := by
  intro M n sl a0 m0 ou hLI
  obtain ⟨ct, tg, Bn, cn, rq, ln, rt, tx, iv, av, md, mx, rfl, rfl, L, V⟩ := hLI
  have ok := L.2.1
  by_cases h : 0 ≤ w ∧ w ≤ 4
  · exact spc_same L V (c_L_count_ok L.1 w h) (fun B ns => c_M_count_ok ok w (by simp [mgo, xbi, h])) rfl
  · exact spc_no L V (c_L_count_no L.1 w h) (fun B ns => c_M_count_no ok w (by simp [mgo, xbi, h])) rfl (by simp [mgo, xbi, h])
theorem s_clash (k w : Int32) : STP false [(eB, 1)] k_L_clash k_M_clash [.int k, .int w] := by
  intro M n sl a0 m0 ou hLI
  obtain ⟨ct, tg, Bn, cn, rq, ln, rt, tx, iv, av, md, mx, rfl, rfl, L, V⟩ := hLI
  have ok := L.2.1
  have hk := L.1.cnt
  by_cases h : 0 ≤ k ∧ (w = 0 ∨ w = 1)
  · exact spc_same L V (c_L_clash_ok L.1 k w h) (fun B ns => by
      rw [← cl_eq k w hk.2.1 hk.2.2.1 rq 0 0 (by omega)]
      exact c_M_clash_ok ok k w rq ln hk.2.1 hk.2.2.1 hk.2.2.2.2.1 hk.2.2.2.2.2 h) rfl
  · exact spc_no L V (c_L_clash_no L.1 k w h) (fun B ns => c_M_clash_no ok k w h) rfl (by simp)
theorem s_fails (i f t : Int32) : STP true [(eB, 1), (eA, 2)] k_L_fails k_M_fails [.int i, .int f, .int t] := by
  intro M n sl a0 m0 ou hLI
  obtain ⟨ct, tg, Bn, cn, rq, ln, rt, tx, iv, av, md, mx, rfl, rfl, L, V⟩ := hLI
  have ok := L.2.1
  by_cases h1 : 0 ≤ i ∧ i < 8
  · obtain ⟨j, hj, rfl⟩ := nI_ix (k := 8) (by omega) h1
    by_cases h2 : 0 ≤ f ∧ f ≤ t ∧ t ≤ 2400000
    · refine spc_of (hth := fun _ h => by cases h) L (c_L_fails_ok L.1 j hj f t h2) (by omega) (CR_fails L.1 j hj f t) rfl (fun x _ hx => ?_) (fun _ _ => rfl) (fun B ns => c_M_fails_ok ok f t j hj h2.1 h2.2.1 h2.2.2) ⟨rfl, rfl, rfl, rfl⟩ (fun _ _ _ _ => rfl) (Or.inl ⟨by simp [upd], Or.inl ⟨rfl, rfl, rfl⟩⟩) (V.keep V.1 (fun k hk => by rw [va_up_ne _ _ (by omega), va_up_ne _ _ (by omega)]))
      rw [xset_ne _ _ (L.1.xn hx (by unfold lvt; omega))]
    · exact spc_of (hth := fun _ _ => L.1.tgo) L (c_L_fails_no L.1 j hj f t h2) (by omega) (CR_waste L.1) rfl (fun _ _ _ => rfl) (fun _ _ => rfl) (fun B ns => c_M_fails_no ok _ f t (by simp [mgo, xbi, h1, h2])) ⟨rfl, rfl, rfl, rfl⟩ (fun _ _ _ _ => rfl) (Or.inr ⟨_, rfl, by simp [upd, mgo, xbi, h1, h2], Or.inl ⟨rfl, rfl⟩⟩) V
  · exact spc_of (hth := fun _ _ => L.1.tgo) L (c_L_fails_no0 L.1 i f t h1) (by omega) (CR_waste L.1) rfl (fun _ _ _ => rfl) (fun _ _ => rfl) (fun B ns => c_M_fails_no ok _ f t (by simp [mgo, xbi, h1])) ⟨rfl, rfl, rfl, rfl⟩ (fun _ _ _ _ => rfl) (Or.inr ⟨_, rfl, by simp [upd, mgo, xbi, h1], Or.inl ⟨rfl, rfl⟩⟩) V
theorem s_told (l k w : Int32) : STP false [(eB, 1)] k_L_told k_M_told [.int l, .int k, .int w] := by
  intro M n sl a0 m0 ou hLI
  obtain ⟨ct, tg, Bn, cn, rq, ln, rt, tx, iv, av, md, mx, rfl, rfl, L, V⟩ := hLI
  have ok := L.2.1
  have hk := L.1.cnt
  by_cases h1 : 0 ≤ l ∧ l < nI ln
  · obtain ⟨j, hj, rfl⟩ := nI_ix (by omega) h1
    obtain ⟨c0, th, fi, la, tn, g1, g2, g3, g4, g5, g6, g7, g8, g9, g10, g11, g12⟩ := V.2.2.1 j hj
    have h1' : 0 ≤ nI j ∧ nI j < iv 23 := by rw [hk.2.2.2.2.2]; exact h1
    by_cases h2 : (w = 0 ∨ w = 1) ∧ -1 ≤ k ∧ k < av 30 j
    · by_cases h3 : k = -1
      · exact spc_same L V (c_L_told_n L.1 j hj k w h2 h3) (fun B ns => c_M_told_n ok k w j (by omega) ⟨h1', h2.1, h2.2.1⟩ h2.2.2 h3) rfl
      · obtain ⟨i, hi, e⟩ := nI_ix (k := tn) (l := k) (by omega) ⟨by grind, by rw [← g11]; exact h2.2.2⟩
        by_cases h4 : w = 0
        · exact spc_same L V (c_L_told_h L.1 j hj k w h2 i (by omega) e h4) (fun B ns => c_M_told_h ok k w j (by omega) ⟨h1', h2.1, h2.2.1⟩ h2.2.2 i (by omega) e h4) rfl
        · exact spc_same L V (c_L_told_t L.1 j hj k w h2 i (by omega) e h4) (fun B ns => c_M_told_t ok k w j (by omega) ⟨h1', h2.1, h2.2.1⟩ h2.2.2 i (by omega) e h4) rfl
    · refine spc_no L V (c_L_told_no L.1 j hj k w h2) (code := 1) (x := 0) (fun B ns => ?_) rfl (by simp)
      by_cases h3 : (w = 0 ∨ w = 1) ∧ -1 ≤ k
      · exact c_M_told_no2 ok k w j (by omega) ⟨h1', h3⟩ (fun g => h2 ⟨h3.1, h3.2, g⟩)
      · exact c_M_told_no1 ok _ k w (fun g => h3 g.2)
  · exact spc_no L V (c_L_told_no0 L.1 l k w h1) (fun B ns => c_M_told_no1 ok l k w (fun g => h1 (by rw [hk.2.2.2.2.2] at g; exact g.1))) rfl (by simp)
theorem s_shield (l b : Int32) (hb : b = 0 ∨ b = 1) : STP false [(eB, 1)] k_L_shield k_M_shield [.int l, .int b] := by
  intro M n sl a0 m0 ou hLI
  obtain ⟨ct, tg, Bn, cn, rq, ln, rt, tx, iv, av, md, mx, rfl, rfl, L, V⟩ := hLI
  have ok := L.2.1
  have hk := L.1.cnt
  by_cases h1 : 0 ≤ l ∧ l < nI ln
  · obtain ⟨j, hj, rfl⟩ := nI_ix (by omega) h1
    obtain ⟨c0, th, fi, la, tn, g1, g2, g3, g4, g5, g6, g7, g8, g9, g10, g11, g12⟩ := V.2.2.1 j hj
    refine spc_put L (c_L_shield_ok L.1 j hj b hb) (by omega) (CR_shield L.1 j hj b) rfl (fun x _ hx => ?_) (fun _ _ => rfl) (fun B ns => c_M_shield_ok ok b j (by omega) (by rw [hk.2.2.2.2.2]; exact h1.2) hb) (by simp [upd]) rfl (V.lon rfl j hj (fun k hk _ _ _ => va_up_ne _ _ (by omega)) ?_ (fun l2 hl2 => VL.same (Nat.le_refl _) (fun k a1 a2 a3 => ?_) (fun k _ => ?_)) (fun l2 hl2 => VZ.same ?_ ?_ (fun k _ => ?_) (fun k _ => ?_) (fun k _ => ?_)))
    · rw [xset_ne _ _ (L.1.xn hx (by unfold lvt; omega))]
    · refine ⟨c0, th, fi, la, tn, g1, ?_, g3, ?_, g5, g6, ?_, ?_, ?_, g10, ?_, ?_⟩
      · rw [va_up_ne _ _ (by decide)]; exact g2
      · rw [va_up_ne _ _ (by decide)]; exact g4
      · rw [va_up_ne _ _ (by decide)]; exact g7
      · rw [va_up_ne _ _ (by decide)]; exact g8
      · rw [va_up_self, upd_at]; exact hb
      · rw [va_up_ne _ _ (by decide)]; exact g11
      · rw [va_up_ne _ _ (by decide)]; exact g12
    · by_cases e : k = 28
      · rw [e, va_up_self, upd_no _ _ hl2]
      · rw [va_up_ne _ _ e]
    · rw [va_up_ne _ _ (by decide)]
    · rw [va_up_self, upd_no _ _ hl2]
    · rw [va_up_ne _ _ (by decide)]
    · rw [va_up_ne _ _ (by decide)]
    · rw [va_up_ne _ _ (by decide)]
    · rw [va_up_ne _ _ (by decide)]
  · exact spc_no L V (c_L_shield_no L.1 l b h1) (fun B ns => c_M_shield_no ok l b (by rw [hk.2.2.2.2.2]; exact h1)) rfl (by simp)
theorem s_input (i h v : Int32) : STP false [(eB, 1), (eS, 2), (eA, 3)] k_L_input k_M_input [.int i, .int h, .int v] := by
  intro M n sl a0 m0 ou hLI
  obtain ⟨ct, tg, Bn, cn, rq, ln, rt, tx, iv, av, md, mx, rfl, rfl, L, V⟩ := hLI
  have ok := L.2.1
  by_cases h1 : 0 ≤ i ∧ i < 8
  · obtain ⟨j, hj, rfl⟩ := nI_ix (k := 8) (by omega) h1
    obtain ⟨rn, hrn, hr⟩ := V.2.1 j hj
    by_cases h2 : rn < 60
    · have h2' : nI rn < 60 := nI_lt (b := 60) h2 (by decide)
      have hiff : ((0 ≤ h ∧ h ≤ 2400000) ∧ (if rn = 0 then -1 else av 19 (60 * j + (rn - 1))) < h ∧ 0 ≤ v ∧ v ≤ 999999) ↔ (((0 ≤ h ∧ h ≤ 2400000) ∧ (rn = 0 ∨ av 19 (60 * j + rn - 1) < h)) ∧ 0 ≤ v ∧ v ≤ 999999) := by
        by_cases e : rn = 0
        · simp only [e, if_true, true_or, and_true]
          constructor
          · rintro ⟨a, -, b⟩; exact ⟨a, b⟩
          · rintro ⟨a, b⟩; exact ⟨a, by grind, b⟩
        · rw [if_neg e, show 60 * j + (rn - 1) = 60 * j + rn - 1 by omega]
          simp [e, and_assoc]
      by_cases h3 : (((0 ≤ h ∧ h ≤ 2400000) ∧ (rn = 0 ∨ av 19 (60 * j + rn - 1) < h)) ∧ 0 ≤ v ∧ v ≤ 999999)
      · refine spc_put L (c_L_input_ok L.1 j hj h v rn hrn hr h2 (hiff.mpr h3)) (by omega) (CR_input L.1 j hj h v rn h2) rfl (fun x _ hx => ?_) (fun _ _ => rfl) (fun B ns => c_M_input_ok ok h v j hj rn hrn hr (by simp only [mgo, xbi, h2', h3]; decide)) (by simp [upd]) rfl ?_
        · rw [xset_ne _ _ (L.1.xn hx (by unfold lvt; omega)), xset_ne _ _ (L.1.xn hx (by unfold lvt; omega)), xset_ne _ _ (L.1.xn hx (by unfold lvt; omega))]
        · obtain ⟨w1, w2, w3, w4, w5⟩ := id V
          have V2 : VI Bn cn ln rt tx (upd iv 0 0) (va_up av 18 (upd (av 18) j (nI (rn + 1)))) := by
            refine ⟨w1, fun q hq => ?_, fun l hl => VL.same (Nat.le_refl _) (fun k a1 a2 a3 => by rw [va_up_ne _ _ (by omega)]) (fun k _ => by rw [va_up_ne _ _ (by omega)]) (w3 l hl), fun l a b => VZ.same (by rw [va_up_ne _ _ (by omega)]) (by rw [va_up_ne _ _ (by omega)]) (fun k _ => by rw [va_up_ne _ _ (by omega)]) (fun k _ => by rw [va_up_ne _ _ (by omega)]) (fun k _ => by rw [va_up_ne _ _ (by omega)]) (w4 l a b), fun c hc => (w5 c hc).same (fun _ _ g => g) (by rw [va_up_ne _ _ (by omega)]) (by rw [va_up_ne _ _ (by omega)]) (fun t _ => by rw [va_up_ne _ _ (by omega)]) (fun k x a1 a2 _ => by rw [va_up_ne _ _ (by omega)])⟩
            rw [va_up_self]
            by_cases e : q = j
            · exact ⟨rn + 1, by omega, by rw [e, upd_at]⟩
            · rw [upd_no _ _ e]; exact w2 q hq
          refine V2.keep w1 (fun k hk => ?_)
          by_cases e : k = 18
          · rw [e, va_up_self, va_up_self]
          · rw [va_up_ne _ _ e, va_up_ne _ _ (by omega), va_up_ne _ _ (by omega), va_up_ne _ _ e]
      · exact spc_no L V (c_L_input_no2 L.1 j hj h v rn hrn hr h2 (fun g => h3 (hiff.mp g))) (fun B ns => c_M_input_no2 ok h v j hj rn hrn hr (by simp only [mgo, xbi, h2', h3]; decide)) rfl (by simp only [mgo, xbi, h2', h3]; decide)
    · have h2' : ¬ nI rn < 60 := fun g => h2 ((nI_ltI (b := 60) (by omega) (by decide)).mp g)
      exact spc_no L V (c_L_input_no1 L.1 j hj h v rn hrn hr h2) (fun B ns => c_M_input_no2 ok h v j hj rn hrn hr (by simp [mgo, xbi, h2'])) rfl (by simp [mgo, xbi, h2'])
  · exact spc_no L V (c_L_input_no0 L.1 i h v h1) (fun B ns => c_M_input_no1 ok i h v h1) rfl (by simp)
theorem s_request (t f u : Int32) : STP false [(eB, 1), (eS, 2), (eA, 3)] k_L_request k_M_request [.int t, .int f, .int u] := by
  intro M n sl a0 m0 ou hLI
  obtain ⟨ct, tg, Bn, cn, rq, ln, rt, tx, iv, av, md, mx, rfl, rfl, L, V⟩ := hLI
  have ok := L.2.1
  have hk := L.1.cnt
  by_cases h1 : 0 ≤ t ∧ t < 16
  · by_cases h2 : iv 33 < 30
    · by_cases h3 : 0 ≤ f ∧ f ≤ u ∧ u ≤ 100000
      · have hrq : rq < 30 := (nI_ltI (b := 30) (by omega) (by decide)).mp (by rw [← hk.2.2.2.2.1]; exact h2)
        refine spc_put L (c_L_request_ok L.1 t f u h1 hrq h3) (by omega) (CR_request L.1 t f u hrq) (va_up_ne _ _ (by omega)) (fun x hxn hx => ?_) (fun x hx => if_neg (by omega)) (fun B ns => c_M_request_ok ok t f u rq hrq hk.2.2.2.2.1 h1 h3) (by simp [upd]) rfl (V.keep V.1 (fun k hk => by rw [va_up_ne _ _ (by omega), va_up_ne _ _ (by omega), va_up_ne _ _ (by omega)]))
        rw [xset_ne _ _ (L.1.xn hx (by unfold lvt; omega)), xset_ne _ _ (L.1.xn hx (by unfold lvt; omega)), xset_ne _ _ (by omega)]
      · exact spc_no L V (c_L_request_no3 L.1 t f u h1 h2 h3) (fun B ns => c_M_request_no ok t f u (by simp only [mgo, xbi, h1, h2, h3]; decide)) rfl (by simp only [mgo, xbi, h1, h2, h3]; decide)
    · exact spc_no L V (c_L_request_no2 L.1 t f u h1 h2) (fun B ns => c_M_request_no ok t f u (by simp [mgo, xbi, h1, h2])) rfl (by simp [mgo, xbi, h1, h2])
  · exact spc_no L V (c_L_request_no1 L.1 t f u h1) (fun B ns => c_M_request_no ok t f u (by simp [mgo, xbi, h1])) rfl (by simp [mgo, xbi, h1])
