/-! reading a text in the class -/
theorem pNum_bd (s : Nat → Int32) (len : Nat) : ∀ k m p, p ≤ len → p ≤ (pNum s len k m p).1 ∧ (pNum s len k m p).1 ≤ len
  | 0, m, p, h => ⟨Nat.le_refl _, h⟩
  | k + 1, m, p, h => by
    rw [pNum]
    split
    · rename_i hd
      have hp : p < len := by
        rcases Nat.lt_or_ge p len with g | g
        · exact g
        · exfalso
          rw [sg, if_neg (by omega)] at hd
          exact absurd hd (by decide)
      have := pNum_bd s len k (10 * m + ((sg s len p).toNatClampNeg - 48)) (p + 1) (by omega)
      omega
    · exact ⟨Nat.le_refl _, h⟩
theorem pNum_lt (s : Nat → Int32) (len : Nat) : ∀ k m p, k ≤ 6 → m < 10 ^ (6 - k) → (pNum s len k m p).2 < 1000000
  | 0, m, p, hk, h => by simpa [pNum] using h
  | k + 1, m, p, hk, h => by
    rw [pNum]
    split
    · rename_i hd
      have hd2 : 48 ≤ sg s len p ∧ sg s len p ≤ 57 := by simpa [isD] using hd
      obtain ⟨v, hv, e⟩ := nI_of (x := sg s len p) (by grind)
      rw [e] at hd2
      have h1 : v ≤ 57 := (nI_leI (b := 57) (by omega) (by decide)).mp hd2.2
      refine pNum_lt s len k _ _ (by omega) ?_
      rw [e, nI_clamp (by omega), show 6 - k = (6 - (k + 1)) + 1 by omega, Nat.pow_succ]
      omega
    · have : 10 ^ (6 - (k + 1)) ≤ 10 ^ 6 := Nat.pow_le_pow_right (by decide) (by omega)
      show m < 1000000
      omega
theorem sg_lt {s : Nat → Int32} {len p : Nat} (h : sg s len p ≠ 0) : p < len := by
  rcases Nat.lt_or_ge p len with g | g
  · exact g
  · exact absurd (by rw [sg, if_neg (by omega)]) h
theorem isN_nz {s : Nat → Int32} {len p : Nat} (h : isN (sg s len p) = true) : p < len := sg_lt (fun e => by rw [e] at h; exact absurd h (by decide))
theorem isN_mNm {x : Int32} (h : isN x = true) : mNm x := by
  have h2 : (97 ≤ x ∧ x ≤ 104) ∨ x = 121 ∨ x = 122 := by simpa [isN] using h
  rcases h2 with ⟨h3, h4⟩ | h3 | h3
  · refine Or.inr (Or.inr ?_)
    obtain ⟨v, hv, e⟩ := nI_of (x := x) (by grind)
    rw [e] at h3 h4
    have g1 : 97 ≤ v := (nI_leI (a := 97) (by decide) (by omega)).mp h3
    have g2 : v ≤ 104 := (nI_leI (b := 104) (by omega) (by decide)).mp h4
    exact ⟨v - 97, by omega, by rw [e]; congr 1; omega⟩
  · exact Or.inl h3
  · exact Or.inr (Or.inl h3)
theorem pName_bd (s : Nat → Int32) (len p : Nat) (h : p ≤ len) : p ≤ (pName s len p).1 ∧ (pName s len p).1 ≤ len := by
  unfold pName
  split
  · rename_i h1
    have := isN_nz h1
    split
    · rename_i h2
      have h3 : p + 1 < len := sg_lt (fun e => by rw [e] at h2; exact absurd h2 (by decide))
      split
      · have := pNum_bd s len 6 0 (p + 2) (by omega)
        show p ≤ (pNum s len 6 0 (p + 2)).1 ∧ (pNum s len 6 0 (p + 2)).1 ≤ len
        omega
      · show p ≤ p + 2 ∧ p + 2 ≤ len
        omega
    · show p ≤ p + 1 ∧ p + 1 ≤ len
      omega
  · exact ⟨Nat.le_refl _, h⟩
theorem pP_bd (s : Nat → Int32) (len : Nat) : ∀ f m j b no p, p ≤ len → j ≠ 0 → p ≤ (pP s len f m j b no p).1 ∧ (pP s len f m j b no p).1 ≤ len
  | 0, m, j, b, no, p, h, hj => ⟨Nat.le_refl _, h⟩
  | f + 1, m, j, b, no, p, h, hj => by
    have ih := pP_bd s len f
    unfold pP
    split
    · split
      · rename_i h1
        have hp : p < len := sg_lt (by rw [h1.1]; decide)
        have g := ih 0 j b (no + 1) (p + 1) (by omega) hj
        split <;> rename_i e <;> rw [e] at g <;> simp only at g ⊢ <;> omega
      · split
        · rename_i h1
          have hp : p < len := sg_lt (by rw [h1.1]; decide)
          have g := ih 1 124 (b + 1) 0 (p + 1) (by omega) (by decide)
          split
          · rename_i e
            rw [e] at g
            simp only at g
            split
            · rename_i h2
              have := sg_lt (s := s) (len := len) (by rw [h2]; decide)
              simp only
              omega
            · simp only
              omega
          · rename_i e
            rw [e] at g
            simp only at g ⊢
            omega
        · exact pName_bd s len p h
    · split
      · have g := ih (if j = 124 then 1 else 0) 38 b 0 p h (by decide)
        split
        · rename_i q D Ds e
          rw [e] at g
          simp only at g
          have g2 := ih 2 j b 0 q (by omega) hj
          split <;> rename_i e2 <;> rw [e2] at g2 <;> simp only at g2 ⊢ <;> omega
        · rename_i e
          rw [e] at g
          simp only at g ⊢
          omega
      · split
        · rename_i h1
          have hp : p < len := sg_lt (by rw [h1]; exact hj)
          have g := ih (if j = 124 then 1 else 0) 38 b 0 (p + 1) (by omega) (by decide)
          split
          · rename_i q D Ds e
            rw [e] at g
            simp only at g
            have g2 := ih 2 j b 0 q (by omega) hj
            split <;> rename_i e2 <;> rw [e2] at g2 <;> simp only at g2 ⊢ <;> omega
          · rename_i e
            rw [e] at g
            simp only at g ⊢
            omega
        · exact ⟨Nat.le_refl _, h⟩
def PRd (d : Nat) (z : xMt) (as : List Value) (N : xMm) (n sl ra w H p : Nat) (r : Nat × Option (List Den)) : Prop :=
  ∃ (N1 : xMm) (n1 sl1 : Nat) (v : Value), xCl d z as (rdM N ra w p, n, sl) (.inl (some v), (rdM N1 ra w r.1, n1, sl1)) ∧ (∀ x, x < n → N1 x = N x) ∧ n ≤ n1 ∧ n1 + p ≤ n + r.1 ∧ sl1 = sl + 5 * (n1 - n) ∧
    ((r.2 = none ∧ v = .null) ∨ ∃ (a : Nat) (D : Den), r.2 = some [D] ∧ v = .ref a ∧ n ≤ a ∧ a < n1 ∧ rN N1 n H a D ∧ ∃ (kd nm nu : Int32) (i : Option Nat), N1 a = some (.inr (4, [.int kd, .int nm, .int nu, va_rf i, .null])))
set_option maxRecDepth 20000 in
theorem c_R_readName {d : Nat} {N : xMm} {n sl ra w b : Nat} {s : Nat → Int32} {len : Nat} (hR : RS N n ra w b s len) (p : Nat) (hp : p ≤ len) (H : Nat) : PRd (d + 3) k_R_readName [.ref ra] N n sl ra w (H + 1) p (pName s len p) := by
  have h80 := hR.2.2.2.2.2.2.2.2
  have hne : ra ≠ n := Nat.ne_of_lt hR.2.2.2.2.2.2.2.1
  by_cases h1 : isN (sg s len p) = true
  · have hp1 := isN_nz h1
    by_cases h2 : sg s len (p + 1) = 60 ∨ sg s len (p + 1) = 61 ∨ sg s len (p + 1) = 62
    · have hp2 : p + 1 < len := sg_lt (fun e => by rw [e] at h2; exact absurd h2 (by decide))
      by_cases h3 : isD (sg s len (p + 2)) = true
      · rw [show pName s len p = ((pNum s len 6 0 (p + 2)).1, some [leafD (sg s len p) (sg s len (p + 1)) (pNum s len 6 0 (p + 2)).2]) from by rw [pName, if_pos h1, if_pos h2, if_pos h3]]
        have hbd := pNum_bd s len 6 0 (p + 2) (by omega)
        have hlt := pNum_lt s len 6 0 (p + 2) (Nat.le_refl _) (by decide)
        have hR1 : RS (xset N n (.inr (4, [.int 0, .int 0, .int 0, .null, .null]))) (n + 1) ra w b s len := hR.keep (by omega) (fun x hx => xset_ne _ _ (by omega))
        refine ⟨(xset N n (.inr (4, [.int (sg s len (p + 1)), .int (sg s len p), .int (nI (pNum s len 6 0 (p + 2)).2), .null, .null]))), n + 1, sl + 5, .ref n, ?_, fun x hx => xset_ne _ _ (by omega), by omega, ?_, by omega, Or.inr ⟨n, _, rfl, rfl, Nat.le_refl _, Nat.lt_succ_self n, ⟨Nat.le_refl _, _, _, _, none, none, xset_self _ _ _, Or.inr (Or.inr ⟨h2, isN_mNm h1, _, hlt, rfl, rfl⟩)⟩, _, _, _, none, xset_self _ _ _⟩⟩
        · have hgood : xEv (d + 3) k_R_readName 71 [some (.ref ra), some (.int (sg s len p)), some (.int (sg s len (p + 1)))] [] (rdM N ra w (p + 1 + 1), n, sl) (.inl (some (.ref n)), (rdM (xset N n (.inr (4, [.int (sg s len (p + 1)), .int (sg s len p), .int (nI (pNum s len 6 0 (p + 2)).2), .null, .null]))) ra w (pNum s len 6 0 (p + 2)).1, n + 1, sl + 5)) := by
            refine ev_new (S1 := (rdM (xset N n (.inr (4, [.int 0, .int 0, .int 0, .null, .null]))) ra w (p + 1 + 1), n + 1, sl + 5)) d_R_readName_71 rfl n_5_43 (congrArg (fun X => (X, n + 1, sl + 5)) (rd_new N _ hne)) ?_
            refine ev_dup d_R_readName_74 rfl ?_
            refine ev_iload_n d_R_readName_75 rfl ?_
            refine ev_iload_n d_R_readName_76 rfl ?_
            refine ev_aload_n d_R_readName_77 rfl ?_
            refine ev_v0r d_R_readName_78 q_5_65 rfl (xset_self _ _ _) ⟨rfl, Nat.le_of_ble_eq_true rfl, Nat.le_of_ble_eq_true rfl⟩ (c_R_readNumber hR1 (p + 1 + 1) (by omega)) ?_
            refine ev_i3 d_R_readName_81 ⟨_, q_5_68, by decide, by decide⟩ rfl ⟨rfl, Nat.le_of_ble_eq_true rfl, Nat.le_of_ble_eq_true rfl⟩ (c_N_init2 _ _ _ ((xset_ne _ _ (Ne.symm hne)).trans (xset_self _ _ _))) ?_
            rw [rd_new _ _ hne, xset_xset]
            exact ev_aret d_R_readName_84 rfl
          show xEv _ k_R_readName 0 [some (.ref ra), none, none] [] _ _
          refine ev_aload_n d_R_readName_0 rfl ?_
          refine ev_v0r d_R_readName_1 q_5_35 rfl (xset_self _ _ _) ⟨rfl, Nat.le_of_ble_eq_true rfl, Nat.le_of_ble_eq_true rfl⟩ (c_R_sign hR p (by omega)) ?_
          refine ev_istore_n (lo1 := [some (.ref ra), some (.int (sg s len p)), none]) d_R_readName_4 (Nat.le_of_ble_eq_true rfl) rfl ?_
          refine ev_iload_n d_R_readName_5 rfl ?_
          refine ev_s1r d_R_readName_6 q_5_58 rfl ⟨rfl, Nat.le_of_ble_eq_true rfl, Nat.le_of_ble_eq_true rfl⟩ (c_R_isName _) ?_
          refine ev_if_ne (t := 14) d_R_readName_9 (by decide) (fun _ => ?_) (fun c_9 => absurd c_9 (by rw [xbi_t (by simpa [isN] using h1)]; decide))
          refine ev_aload_n d_R_readName_14 rfl ?_
          refine ev_dup d_R_readName_15 rfl ?_
          refine ev_get d_R_readName_16 f_5_9 ((xset_self _ _ _)) rfl ?_
          refine ev_iconst (v := 1) d_R_readName_19 rfl ?_
          refine ev_iadd d_R_readName_20 ?_
          refine ev_put (M1 := (rdM N ra w (p + 1))) d_R_readName_21 f_5_9 ((xset_self _ _ _)) ⟨Nat.le_of_ble_eq_true rfl, (xfit_i rfl), Or.inl rfl⟩ (by rw [← nI_succ]; exact rd_put N ra w p (p + 1)) ?_
          refine ev_aload_n d_R_readName_24 rfl ?_
          refine ev_v0r d_R_readName_25 q_5_35 rfl (xset_self _ _ _) ⟨rfl, Nat.le_of_ble_eq_true rfl, Nat.le_of_ble_eq_true rfl⟩ (c_R_sign hR (p + 1) (by omega)) ?_
          refine ev_istore_n (lo1 := [some (.ref ra), some (.int (sg s len p)), some (.int (sg s len (p + 1)))]) d_R_readName_28 (Nat.le_of_ble_eq_true rfl) rfl ?_
          refine ev_iload_n d_R_readName_29 rfl ?_
          refine ev_bipush (v := 60) d_R_readName_30 rfl ?_
          refine ev_icmp_eq (t := 49) d_R_readName_32 (by decide) (fun c_32_1 => ?_) (fun c_32_1 => ?_)
          · refine ev_aload_n d_R_readName_49 rfl ?_
            refine ev_dup d_R_readName_50 rfl ?_
            refine ev_get d_R_readName_51 f_5_9 ((xset_self _ _ _)) rfl ?_
            refine ev_iconst (v := 1) d_R_readName_54 rfl ?_
            refine ev_iadd d_R_readName_55 ?_
            refine ev_put (M1 := (rdM N ra w ((p + 1) + 1))) d_R_readName_56 f_5_9 ((xset_self _ _ _)) ⟨Nat.le_of_ble_eq_true rfl, (xfit_i rfl), Or.inl rfl⟩ (by rw [← nI_succ]; exact rd_put N ra w (p + 1) ((p + 1) + 1)) ?_
            refine ev_aload_n d_R_readName_59 rfl ?_
            refine ev_v0r d_R_readName_60 q_5_35 rfl (xset_self _ _ _) ⟨rfl, Nat.le_of_ble_eq_true rfl, Nat.le_of_ble_eq_true rfl⟩ (c_R_sign hR ((p + 1) + 1) (by omega)) ?_
            refine ev_s1r d_R_readName_63 q_5_62 rfl ⟨rfl, Nat.le_of_ble_eq_true rfl, Nat.le_of_ble_eq_true rfl⟩ (c_R_isDigit _) ?_
            refine ev_if_ne (t := 71) d_R_readName_66 (by decide) (fun _ => ?_) (fun c_66 => absurd c_66 (by rw [xbi_t (by simpa [isD] using h3)]; decide))
            exact hgood
          · refine ev_iload_n d_R_readName_35 rfl ?_
            refine ev_bipush (v := 61) d_R_readName_36 rfl ?_
            refine ev_icmp_eq (t := 49) d_R_readName_38 (by decide) (fun c_38_2 => ?_) (fun c_38_2 => ?_)
            · refine ev_aload_n d_R_readName_49 rfl ?_
              refine ev_dup d_R_readName_50 rfl ?_
              refine ev_get d_R_readName_51 f_5_9 ((xset_self _ _ _)) rfl ?_
              refine ev_iconst (v := 1) d_R_readName_54 rfl ?_
              refine ev_iadd d_R_readName_55 ?_
              refine ev_put (M1 := (rdM N ra w ((p + 1) + 1))) d_R_readName_56 f_5_9 ((xset_self _ _ _)) ⟨Nat.le_of_ble_eq_true rfl, (xfit_i rfl), Or.inl rfl⟩ (by rw [← nI_succ]; exact rd_put N ra w (p + 1) ((p + 1) + 1)) ?_
              refine ev_aload_n d_R_readName_59 rfl ?_
              refine ev_v0r d_R_readName_60 q_5_35 rfl (xset_self _ _ _) ⟨rfl, Nat.le_of_ble_eq_true rfl, Nat.le_of_ble_eq_true rfl⟩ (c_R_sign hR ((p + 1) + 1) (by omega)) ?_
              refine ev_s1r d_R_readName_63 q_5_62 rfl ⟨rfl, Nat.le_of_ble_eq_true rfl, Nat.le_of_ble_eq_true rfl⟩ (c_R_isDigit _) ?_
              refine ev_if_ne (t := 71) d_R_readName_66 (by decide) (fun _ => ?_) (fun c_66 => absurd c_66 (by rw [xbi_t (by simpa [isD] using h3)]; decide))
              exact hgood
            · refine ev_iload_n d_R_readName_41 rfl ?_
              refine ev_bipush (v := 62) d_R_readName_42 rfl ?_
              refine ev_icmp_eq (t := 49) d_R_readName_44 (by decide) (fun _ => ?_) (fun c_44 => absurd (by grind) c_44)
              refine ev_aload_n d_R_readName_49 rfl ?_
              refine ev_dup d_R_readName_50 rfl ?_
              refine ev_get d_R_readName_51 f_5_9 ((xset_self _ _ _)) rfl ?_
              refine ev_iconst (v := 1) d_R_readName_54 rfl ?_
              refine ev_iadd d_R_readName_55 ?_
              refine ev_put (M1 := (rdM N ra w ((p + 1) + 1))) d_R_readName_56 f_5_9 ((xset_self _ _ _)) ⟨Nat.le_of_ble_eq_true rfl, (xfit_i rfl), Or.inl rfl⟩ (by rw [← nI_succ]; exact rd_put N ra w (p + 1) ((p + 1) + 1)) ?_
              refine ev_aload_n d_R_readName_59 rfl ?_
              refine ev_v0r d_R_readName_60 q_5_35 rfl (xset_self _ _ _) ⟨rfl, Nat.le_of_ble_eq_true rfl, Nat.le_of_ble_eq_true rfl⟩ (c_R_sign hR ((p + 1) + 1) (by omega)) ?_
              refine ev_s1r d_R_readName_63 q_5_62 rfl ⟨rfl, Nat.le_of_ble_eq_true rfl, Nat.le_of_ble_eq_true rfl⟩ (c_R_isDigit _) ?_
              refine ev_if_ne (t := 71) d_R_readName_66 (by decide) (fun _ => ?_) (fun c_66 => absurd c_66 (by rw [xbi_t (by simpa [isD] using h3)]; decide))
              exact hgood
        · show n + 1 + p ≤ n + (pNum s len 6 0 (p + 2)).1
          omega
      · rw [show pName s len p = (p + 2, none) from by rw [pName, if_pos h1, if_pos h2, if_neg h3]]
        refine ⟨N, n, sl, .null, ?_, fun _ _ => rfl, Nat.le_refl _, by show n + p ≤ n + (p + 2); omega, by omega, Or.inl ⟨rfl, rfl⟩⟩
        show xEv _ k_R_readName 0 [some (.ref ra), none, none] [] _ _
        refine ev_aload_n d_R_readName_0 rfl ?_
        refine ev_v0r d_R_readName_1 q_5_35 rfl (xset_self _ _ _) ⟨rfl, Nat.le_of_ble_eq_true rfl, Nat.le_of_ble_eq_true rfl⟩ (c_R_sign hR p (by omega)) ?_
        refine ev_istore_n (lo1 := [some (.ref ra), some (.int (sg s len p)), none]) d_R_readName_4 (Nat.le_of_ble_eq_true rfl) rfl ?_
        refine ev_iload_n d_R_readName_5 rfl ?_
        refine ev_s1r d_R_readName_6 q_5_58 rfl ⟨rfl, Nat.le_of_ble_eq_true rfl, Nat.le_of_ble_eq_true rfl⟩ (c_R_isName _) ?_
        refine ev_if_ne (t := 14) d_R_readName_9 (by decide) (fun _ => ?_) (fun c_9 => absurd c_9 (by rw [xbi_t (by simpa [isN] using h1)]; decide))
        refine ev_aload_n d_R_readName_14 rfl ?_
        refine ev_dup d_R_readName_15 rfl ?_
        refine ev_get d_R_readName_16 f_5_9 ((xset_self _ _ _)) rfl ?_
        refine ev_iconst (v := 1) d_R_readName_19 rfl ?_
        refine ev_iadd d_R_readName_20 ?_
        refine ev_put (M1 := (rdM N ra w (p + 1))) d_R_readName_21 f_5_9 ((xset_self _ _ _)) ⟨Nat.le_of_ble_eq_true rfl, (xfit_i rfl), Or.inl rfl⟩ (by rw [← nI_succ]; exact rd_put N ra w p (p + 1)) ?_
        refine ev_aload_n d_R_readName_24 rfl ?_
        refine ev_v0r d_R_readName_25 q_5_35 rfl (xset_self _ _ _) ⟨rfl, Nat.le_of_ble_eq_true rfl, Nat.le_of_ble_eq_true rfl⟩ (c_R_sign hR (p + 1) (by omega)) ?_
        refine ev_istore_n (lo1 := [some (.ref ra), some (.int (sg s len p)), some (.int (sg s len (p + 1)))]) d_R_readName_28 (Nat.le_of_ble_eq_true rfl) rfl ?_
        refine ev_iload_n d_R_readName_29 rfl ?_
        refine ev_bipush (v := 60) d_R_readName_30 rfl ?_
        refine ev_icmp_eq (t := 49) d_R_readName_32 (by decide) (fun c_32_1 => ?_) (fun c_32_1 => ?_)
        · refine ev_aload_n d_R_readName_49 rfl ?_
          refine ev_dup d_R_readName_50 rfl ?_
          refine ev_get d_R_readName_51 f_5_9 ((xset_self _ _ _)) rfl ?_
          refine ev_iconst (v := 1) d_R_readName_54 rfl ?_
          refine ev_iadd d_R_readName_55 ?_
          refine ev_put (M1 := (rdM N ra w ((p + 1) + 1))) d_R_readName_56 f_5_9 ((xset_self _ _ _)) ⟨Nat.le_of_ble_eq_true rfl, (xfit_i rfl), Or.inl rfl⟩ (by rw [← nI_succ]; exact rd_put N ra w (p + 1) ((p + 1) + 1)) ?_
          refine ev_aload_n d_R_readName_59 rfl ?_
          refine ev_v0r d_R_readName_60 q_5_35 rfl (xset_self _ _ _) ⟨rfl, Nat.le_of_ble_eq_true rfl, Nat.le_of_ble_eq_true rfl⟩ (c_R_sign hR ((p + 1) + 1) (by omega)) ?_
          refine ev_s1r d_R_readName_63 q_5_62 rfl ⟨rfl, Nat.le_of_ble_eq_true rfl, Nat.le_of_ble_eq_true rfl⟩ (c_R_isDigit _) ?_
          refine ev_if_ne (t := 71) d_R_readName_66 (by decide) (fun c_66 => absurd (xbi_f (by simpa [isD] using h3)) c_66) (fun _ => ?_)
          refine ev_null d_R_readName_69 ?_
          exact ev_aretN d_R_readName_70 rfl
        · refine ev_iload_n d_R_readName_35 rfl ?_
          refine ev_bipush (v := 61) d_R_readName_36 rfl ?_
          refine ev_icmp_eq (t := 49) d_R_readName_38 (by decide) (fun c_38_2 => ?_) (fun c_38_2 => ?_)
          · refine ev_aload_n d_R_readName_49 rfl ?_
            refine ev_dup d_R_readName_50 rfl ?_
            refine ev_get d_R_readName_51 f_5_9 ((xset_self _ _ _)) rfl ?_
            refine ev_iconst (v := 1) d_R_readName_54 rfl ?_
            refine ev_iadd d_R_readName_55 ?_
            refine ev_put (M1 := (rdM N ra w ((p + 1) + 1))) d_R_readName_56 f_5_9 ((xset_self _ _ _)) ⟨Nat.le_of_ble_eq_true rfl, (xfit_i rfl), Or.inl rfl⟩ (by rw [← nI_succ]; exact rd_put N ra w (p + 1) ((p + 1) + 1)) ?_
            refine ev_aload_n d_R_readName_59 rfl ?_
            refine ev_v0r d_R_readName_60 q_5_35 rfl (xset_self _ _ _) ⟨rfl, Nat.le_of_ble_eq_true rfl, Nat.le_of_ble_eq_true rfl⟩ (c_R_sign hR ((p + 1) + 1) (by omega)) ?_
            refine ev_s1r d_R_readName_63 q_5_62 rfl ⟨rfl, Nat.le_of_ble_eq_true rfl, Nat.le_of_ble_eq_true rfl⟩ (c_R_isDigit _) ?_
            refine ev_if_ne (t := 71) d_R_readName_66 (by decide) (fun c_66 => absurd (xbi_f (by simpa [isD] using h3)) c_66) (fun _ => ?_)
            refine ev_null d_R_readName_69 ?_
            exact ev_aretN d_R_readName_70 rfl
          · refine ev_iload_n d_R_readName_41 rfl ?_
            refine ev_bipush (v := 62) d_R_readName_42 rfl ?_
            refine ev_icmp_eq (t := 49) d_R_readName_44 (by decide) (fun _ => ?_) (fun c_44 => absurd (by grind) c_44)
            refine ev_aload_n d_R_readName_49 rfl ?_
            refine ev_dup d_R_readName_50 rfl ?_
            refine ev_get d_R_readName_51 f_5_9 ((xset_self _ _ _)) rfl ?_
            refine ev_iconst (v := 1) d_R_readName_54 rfl ?_
            refine ev_iadd d_R_readName_55 ?_
            refine ev_put (M1 := (rdM N ra w ((p + 1) + 1))) d_R_readName_56 f_5_9 ((xset_self _ _ _)) ⟨Nat.le_of_ble_eq_true rfl, (xfit_i rfl), Or.inl rfl⟩ (by rw [← nI_succ]; exact rd_put N ra w (p + 1) ((p + 1) + 1)) ?_
            refine ev_aload_n d_R_readName_59 rfl ?_
            refine ev_v0r d_R_readName_60 q_5_35 rfl (xset_self _ _ _) ⟨rfl, Nat.le_of_ble_eq_true rfl, Nat.le_of_ble_eq_true rfl⟩ (c_R_sign hR ((p + 1) + 1) (by omega)) ?_
            refine ev_s1r d_R_readName_63 q_5_62 rfl ⟨rfl, Nat.le_of_ble_eq_true rfl, Nat.le_of_ble_eq_true rfl⟩ (c_R_isDigit _) ?_
            refine ev_if_ne (t := 71) d_R_readName_66 (by decide) (fun c_66 => absurd (xbi_f (by simpa [isD] using h3)) c_66) (fun _ => ?_)
            refine ev_null d_R_readName_69 ?_
            exact ev_aretN d_R_readName_70 rfl
    · rw [show pName s len p = (p + 1, none) from by rw [pName, if_pos h1, if_neg h2]]
      refine ⟨N, n, sl, .null, ?_, fun _ _ => rfl, Nat.le_refl _, by show n + p ≤ n + (p + 1); omega, by omega, Or.inl ⟨rfl, rfl⟩⟩
      show xEv _ k_R_readName 0 [some (.ref ra), none, none] [] _ _
      refine ev_aload_n d_R_readName_0 rfl ?_
      refine ev_v0r d_R_readName_1 q_5_35 rfl (xset_self _ _ _) ⟨rfl, Nat.le_of_ble_eq_true rfl, Nat.le_of_ble_eq_true rfl⟩ (c_R_sign hR p (by omega)) ?_
      refine ev_istore_n (lo1 := [some (.ref ra), some (.int (sg s len p)), none]) d_R_readName_4 (Nat.le_of_ble_eq_true rfl) rfl ?_
      refine ev_iload_n d_R_readName_5 rfl ?_
      refine ev_s1r d_R_readName_6 q_5_58 rfl ⟨rfl, Nat.le_of_ble_eq_true rfl, Nat.le_of_ble_eq_true rfl⟩ (c_R_isName _) ?_
      refine ev_if_ne (t := 14) d_R_readName_9 (by decide) (fun _ => ?_) (fun c_9 => absurd c_9 (by rw [xbi_t (by simpa [isN] using h1)]; decide))
      refine ev_aload_n d_R_readName_14 rfl ?_
      refine ev_dup d_R_readName_15 rfl ?_
      refine ev_get d_R_readName_16 f_5_9 ((xset_self _ _ _)) rfl ?_
      refine ev_iconst (v := 1) d_R_readName_19 rfl ?_
      refine ev_iadd d_R_readName_20 ?_
      refine ev_put (M1 := (rdM N ra w (p + 1))) d_R_readName_21 f_5_9 ((xset_self _ _ _)) ⟨Nat.le_of_ble_eq_true rfl, (xfit_i rfl), Or.inl rfl⟩ (by rw [← nI_succ]; exact rd_put N ra w p (p + 1)) ?_
      refine ev_aload_n d_R_readName_24 rfl ?_
      refine ev_v0r d_R_readName_25 q_5_35 rfl (xset_self _ _ _) ⟨rfl, Nat.le_of_ble_eq_true rfl, Nat.le_of_ble_eq_true rfl⟩ (c_R_sign hR (p + 1) (by omega)) ?_
      refine ev_istore_n (lo1 := [some (.ref ra), some (.int (sg s len p)), some (.int (sg s len (p + 1)))]) d_R_readName_28 (Nat.le_of_ble_eq_true rfl) rfl ?_
      refine ev_iload_n d_R_readName_29 rfl ?_
      refine ev_bipush (v := 60) d_R_readName_30 rfl ?_
      refine ev_icmp_eq (t := 49) d_R_readName_32 (by decide) (fun c_32 => absurd c_32 (by grind)) (fun _ => ?_)
      refine ev_iload_n d_R_readName_35 rfl ?_
      refine ev_bipush (v := 61) d_R_readName_36 rfl ?_
      refine ev_icmp_eq (t := 49) d_R_readName_38 (by decide) (fun c_38 => absurd c_38 (by grind)) (fun _ => ?_)
      refine ev_iload_n d_R_readName_41 rfl ?_
      refine ev_bipush (v := 62) d_R_readName_42 rfl ?_
      refine ev_icmp_eq (t := 49) d_R_readName_44 (by decide) (fun c_44 => absurd c_44 (by grind)) (fun _ => ?_)
      refine ev_null d_R_readName_47 ?_
      exact ev_aretN d_R_readName_48 rfl
  · rw [show pName s len p = (p, none) from by rw [pName, if_neg h1]]
    refine ⟨N, n, sl, .null, ?_, fun _ _ => rfl, Nat.le_refl _, by show n + p ≤ n + p; omega, by omega, Or.inl ⟨rfl, rfl⟩⟩
    show xEv _ k_R_readName 0 [some (.ref ra), none, none] [] _ _
    refine ev_aload_n d_R_readName_0 rfl ?_
    refine ev_v0r d_R_readName_1 q_5_35 rfl (xset_self _ _ _) ⟨rfl, Nat.le_of_ble_eq_true rfl, Nat.le_of_ble_eq_true rfl⟩ (c_R_sign hR p (by omega)) ?_
    refine ev_istore_n (lo1 := [some (.ref ra), some (.int (sg s len p)), none]) d_R_readName_4 (Nat.le_of_ble_eq_true rfl) rfl ?_
    refine ev_iload_n d_R_readName_5 rfl ?_
    refine ev_s1r d_R_readName_6 q_5_58 rfl ⟨rfl, Nat.le_of_ble_eq_true rfl, Nat.le_of_ble_eq_true rfl⟩ (c_R_isName _) ?_
    refine ev_if_ne (t := 14) d_R_readName_9 (by decide) (fun c_9 => absurd (xbi_f (by simpa [isN] using h1)) c_9) (fun _ => ?_)
    refine ev_null d_R_readName_12 ?_
    exact ev_aretN d_R_readName_13 rfl
