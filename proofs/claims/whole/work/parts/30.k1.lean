/-! the class: small methods -/
theorem xset_xset (M : xMm) (a : Nat) (e1 e2 : xE) : xset (xset M a e1) a e2 = xset M a e2 := by
  funext q
  unfold xset
  by_cases h : q = a <;> simp [h]
theorem xset_over (M : xMm) {a b : Nat} (e1 e2 e3 : xE) (h : a ≠ b) : xset (xset (xset M a e1) b e2) a e3 = xset (xset M b e2) a e3 := by
  funext q
  unfold xset
  by_cases h1 : q = a
  · simp [h1]
  · by_cases h2 : q = b <;> simp [h1, h2]
theorem xset_swap (M : xMm) {a b : Nat} (e1 e2 : xE) (h : a ≠ b) : xset (xset M a e1) b e2 = xset (xset M b e2) a e1 := by
  funext q
  unfold xset
  by_cases h1 : q = a
  · subst h1
    simp [h]
  · by_cases h2 : q = b
    · subst h2
      simp [h1]
    · simp [h1, h2]
theorem xset_id {M : xMm} {a : Nat} {e : xE} (h : M a = some e) : xset M a e = M := by
  funext q
  unfold xset
  by_cases h1 : q = a
  · rw [if_pos h1, h1, h]
  · rw [if_neg h1]
set_option maxRecDepth 20000 in
theorem c_L_isHour {d : Nat} {σ : xS} (h : Int32) : xCl d k_L_isHour [.int h] σ (.inl (some (.int (xbi (0 ≤ h ∧ h ≤ 2400000)))), σ) := by
  show xEv _ k_L_isHour 0 [some (.int h)] [] _ _
  refine ev_iload_n d_L_isHour_0 rfl ?_
  refine ev_if_lt (t := 14) d_L_isHour_1 (by decide) (fun c_1_1 => ?_) (fun c_1_1 => ?_)
  · refine ev_iconst (v := 0) d_L_isHour_14 rfl ?_
    exact xEv.to (ev_zret d_L_isHour_15 rfl (Or.inl rfl)) (by rw [xbi_f (by grind)])
  · refine ev_iload_n d_L_isHour_4 rfl ?_
    refine ev_ldc d_L_isHour_5 l_0_255 ?_
    refine ev_icmp_gt (t := 14) d_L_isHour_7 (by decide) (fun c_7_2 => ?_) (fun c_7_2 => ?_)
    · refine ev_iconst (v := 0) d_L_isHour_14 rfl ?_
      exact xEv.to (ev_zret d_L_isHour_15 rfl (Or.inl rfl)) (by rw [xbi_f (by grind)])
    · refine ev_iconst (v := 1) d_L_isHour_10 rfl ?_
      refine ev_goto (t := 15) d_L_isHour_11 (by decide) ?_
      exact xEv.to (ev_zret d_L_isHour_15 rfl (Or.inr rfl)) (by rw [xbi_t (by grind)])
set_option maxRecDepth 20000 in
theorem c_L_isDay {d : Nat} {σ : xS} (h : Int32) : xCl d k_L_isDay [.int h] σ (.inl (some (.int (xbi (0 ≤ h ∧ h ≤ 100000)))), σ) := by
  show xEv _ k_L_isDay 0 [some (.int h)] [] _ _
  refine ev_iload_n d_L_isDay_0 rfl ?_
  refine ev_if_lt (t := 15) d_L_isDay_1 (by decide) (fun c_1_1 => ?_) (fun c_1_1 => ?_)
  · refine ev_iconst (v := 0) d_L_isDay_15 rfl ?_
    exact xEv.to (ev_zret d_L_isDay_16 rfl (Or.inl rfl)) (by rw [xbi_f (by grind)])
  · refine ev_iload_n d_L_isDay_4 rfl ?_
    refine ev_ldcw d_L_isDay_5 l_0_256 ?_
    refine ev_icmp_gt (t := 15) d_L_isDay_8 (by decide) (fun c_8_2 => ?_) (fun c_8_2 => ?_)
    · refine ev_iconst (v := 0) d_L_isDay_15 rfl ?_
      exact xEv.to (ev_zret d_L_isDay_16 rfl (Or.inl rfl)) (by rw [xbi_f (by grind)])
    · refine ev_iconst (v := 1) d_L_isDay_11 rfl ?_
      refine ev_goto (t := 16) d_L_isDay_12 (by decide) ?_
      exact xEv.to (ev_zret d_L_isDay_16 rfl (Or.inr rfl)) (by rw [xbi_t (by grind)])
set_option maxRecDepth 20000 in
theorem c_R_isDigit {d : Nat} {σ : xS} (s : Int32) : xCl d k_R_isDigit [.int s] σ (.inl (some (.int (xbi (48 ≤ s ∧ s ≤ 57)))), σ) := by
  show xEv _ k_R_isDigit 0 [some (.int s)] [] _ _
  refine ev_iload_n d_R_isDigit_0 rfl ?_
  refine ev_bipush (v := 48) d_R_isDigit_1 rfl ?_
  refine ev_icmp_lt (t := 16) d_R_isDigit_3 (by decide) (fun c_3_1 => ?_) (fun c_3_1 => ?_)
  · refine ev_iconst (v := 0) d_R_isDigit_16 rfl ?_
    exact xEv.to (ev_zret d_R_isDigit_17 rfl (Or.inl rfl)) (by rw [xbi_f (by grind)])
  · refine ev_iload_n d_R_isDigit_6 rfl ?_
    refine ev_bipush (v := 57) d_R_isDigit_7 rfl ?_
    refine ev_icmp_gt (t := 16) d_R_isDigit_9 (by decide) (fun c_9_2 => ?_) (fun c_9_2 => ?_)
    · refine ev_iconst (v := 0) d_R_isDigit_16 rfl ?_
      exact xEv.to (ev_zret d_R_isDigit_17 rfl (Or.inl rfl)) (by rw [xbi_f (by grind)])
    · refine ev_iconst (v := 1) d_R_isDigit_12 rfl ?_
      refine ev_goto (t := 17) d_R_isDigit_13 (by decide) ?_
      exact xEv.to (ev_zret d_R_isDigit_17 rfl (Or.inr rfl)) (by rw [xbi_t (by grind)])
set_option maxRecDepth 20000 in
theorem c_R_isName {d : Nat} {σ : xS} (s : Int32) : xCl d k_R_isName [.int s] σ (.inl (some (.int (xbi ((97 ≤ s ∧ s ≤ 104) ∨ s = 121 ∨ s = 122)))), σ) := by
  show xEv _ k_R_isName 0 [some (.int s)] [] _ _
  refine ev_iload_n d_R_isName_0 rfl ?_
  refine ev_bipush (v := 97) d_R_isName_1 rfl ?_
  refine ev_icmp_lt (t := 12) d_R_isName_3 (by decide) (fun c_3_1 => ?_) (fun c_3_1 => ?_)
  · refine ev_iload_n d_R_isName_12 rfl ?_
    refine ev_bipush (v := 121) d_R_isName_13 rfl ?_
    refine ev_icmp_eq (t := 24) d_R_isName_15 (by decide) (fun c_15_2 => ?_) (fun c_15_2 => ?_)
    · refine ev_iconst (v := 1) d_R_isName_24 rfl ?_
      refine ev_goto (t := 29) d_R_isName_25 (by decide) ?_
      exact xEv.to (ev_zret d_R_isName_29 rfl (Or.inr rfl)) (by rw [xbi_t (by grind)])
    · refine ev_iload_n d_R_isName_18 rfl ?_
      refine ev_bipush (v := 122) d_R_isName_19 rfl ?_
      refine ev_icmp_ne (t := 28) d_R_isName_21 (by decide) (fun c_21_3 => ?_) (fun c_21_3 => ?_)
      · refine ev_iconst (v := 0) d_R_isName_28 rfl ?_
        exact xEv.to (ev_zret d_R_isName_29 rfl (Or.inl rfl)) (by rw [xbi_f (by grind)])
      · refine ev_iconst (v := 1) d_R_isName_24 rfl ?_
        refine ev_goto (t := 29) d_R_isName_25 (by decide) ?_
        exact xEv.to (ev_zret d_R_isName_29 rfl (Or.inr rfl)) (by rw [xbi_t (by grind)])
  · refine ev_iload_n d_R_isName_6 rfl ?_
    refine ev_bipush (v := 104) d_R_isName_7 rfl ?_
    refine ev_icmp_le (t := 24) d_R_isName_9 (by decide) (fun c_9_4 => ?_) (fun c_9_4 => ?_)
    · refine ev_iconst (v := 1) d_R_isName_24 rfl ?_
      refine ev_goto (t := 29) d_R_isName_25 (by decide) ?_
      exact xEv.to (ev_zret d_R_isName_29 rfl (Or.inr rfl)) (by rw [xbi_t (by grind)])
    · refine ev_iload_n d_R_isName_12 rfl ?_
      refine ev_bipush (v := 121) d_R_isName_13 rfl ?_
      refine ev_icmp_eq (t := 24) d_R_isName_15 (by decide) (fun c_15_5 => ?_) (fun c_15_5 => ?_)
      · refine ev_iconst (v := 1) d_R_isName_24 rfl ?_
        refine ev_goto (t := 29) d_R_isName_25 (by decide) ?_
        exact xEv.to (ev_zret d_R_isName_29 rfl (Or.inr rfl)) (by rw [xbi_t (by grind)])
      · refine ev_iload_n d_R_isName_18 rfl ?_
        refine ev_bipush (v := 122) d_R_isName_19 rfl ?_
        refine ev_icmp_ne (t := 28) d_R_isName_21 (by decide) (fun c_21_6 => ?_) (fun c_21_6 => ?_)
        · refine ev_iconst (v := 0) d_R_isName_28 rfl ?_
          exact xEv.to (ev_zret d_R_isName_29 rfl (Or.inl rfl)) (by rw [xbi_f (by grind)])
        · refine ev_iconst (v := 1) d_R_isName_24 rfl ?_
          refine ev_goto (t := 29) d_R_isName_25 (by decide) ?_
          exact xEv.to (ev_zret d_R_isName_29 rfl (Or.inr rfl)) (by rw [xbi_t (by grind)])
set_option maxRecDepth 20000 in
theorem c_L_turnedRound {d : Nat} {σ : xS} (s : Int32) : xCl d k_L_turnedRound [.int s] σ (.inl (some (.int (if s = 2 then 2 else if s = 1 then 0 else 1))), σ) := by
  show xEv _ k_L_turnedRound 0 [some (.int s)] [] _ _
  refine ev_iload_n d_L_turnedRound_0 rfl ?_
  refine ev_iconst (v := 2) d_L_turnedRound_1 rfl ?_
  refine ev_icmp_ne (t := 7) d_L_turnedRound_2 (by decide) (fun c_2_1 => ?_) (fun c_2_1 => ?_)
  · refine ev_iload_n d_L_turnedRound_7 rfl ?_
    refine ev_iconst (v := 1) d_L_turnedRound_8 rfl ?_
    refine ev_icmp_ne (t := 16) d_L_turnedRound_9 (by decide) (fun c_9_2 => ?_) (fun c_9_2 => ?_)
    · refine ev_iconst (v := 1) d_L_turnedRound_16 rfl ?_
      exact xEv.to (ev_iret d_L_turnedRound_17 rfl) (by grind [])
    · refine ev_iconst (v := 0) d_L_turnedRound_12 rfl ?_
      refine ev_goto (t := 17) d_L_turnedRound_13 (by decide) ?_
      exact xEv.to (ev_iret d_L_turnedRound_17 rfl) (by grind [])
  · refine ev_iconst (v := 2) d_L_turnedRound_5 rfl ?_
    exact xEv.to (ev_iret d_L_turnedRound_6 rfl) (by grind [])
set_option maxRecDepth 20000 in
theorem c_L_refuseNoHour_ok {d : Nat} {M : xMm} {n sl : Nat} (h : Int32) (hh : 0 ≤ h ∧ h ≤ 2400000) : xCl (d + 1) k_L_refuseNoHour [.int h] (M, n, sl) (.inl none, (M, n, sl)) := by
  show xEv _ k_L_refuseNoHour 0 [some (.int h)] [] _ _
  refine ev_iload_n d_L_refuseNoHour_0 rfl ?_
  refine ev_s1r d_L_refuseNoHour_1 q_0_109 rfl ⟨rfl, Nat.le_of_ble_eq_true rfl, Nat.le_of_ble_eq_true rfl⟩ (c_L_isHour _) ?_
  refine ev_if_ne (t := 18) d_L_refuseNoHour_4 (by decide) (fun _ => ?_) (fun c_4 => absurd c_4 (by rw [xbi_t hh]; decide))
  exact ev_ret d_L_refuseNoHour_18 rfl
set_option maxRecDepth 20000 in
theorem c_L_refuseNoHour_no {d : Nat} {M : xMm} {n sl : Nat} (h : Int32) (hh : ¬ (0 ≤ h ∧ h ≤ 2400000)) : xCl (d + 1) k_L_refuseNoHour [.int h] (M, n, sl) (.inr "java/lang/IllegalArgumentException", (M, n + 1, sl + 6)) := by
  show xEv _ k_L_refuseNoHour 0 [some (.int h)] [] _ _
  refine ev_iload_n d_L_refuseNoHour_0 rfl ?_
  refine ev_s1r d_L_refuseNoHour_1 q_0_109 rfl ⟨rfl, Nat.le_of_ble_eq_true rfl, Nat.le_of_ble_eq_true rfl⟩ (c_L_isHour _) ?_
  refine ev_if_ne (t := 18) d_L_refuseNoHour_4 (by decide) (fun c_4 => absurd (xbi_f hh) c_4) (fun _ => ?_)
  exact ev_throw d_L_refuseNoHour_7 rfl (Nat.le_of_ble_eq_true rfl)
set_option maxRecDepth 20000 in
theorem c_L_refuseNoThing_ok {d : Nat} {M : xMm} {n sl : Nat} (t : Int32) (hh : 0 ≤ t ∧ t < 16) : xCl (d) k_L_refuseNoThing [.int t] (M, n, sl) (.inl none, (M, n, sl)) := by
  show xEv _ k_L_refuseNoThing 0 [some (.int t)] [] _ _
  refine ev_iload_n d_L_refuseNoThing_0 rfl ?_
  refine ev_if_lt (t := 10) d_L_refuseNoThing_1 (by decide) (fun c_1 => absurd c_1 (by grind)) (fun _ => ?_)
  refine ev_iload_n d_L_refuseNoThing_4 rfl ?_
  refine ev_bipush (v := 16) d_L_refuseNoThing_5 rfl ?_
  refine ev_icmp_lt (t := 21) d_L_refuseNoThing_7 (by decide) (fun _ => ?_) (fun c_7 => absurd hh.2 c_7)
  exact ev_ret d_L_refuseNoThing_21 rfl
set_option maxRecDepth 20000 in
theorem c_L_refuseNoThing_no {d : Nat} {M : xMm} {n sl : Nat} (t : Int32) (hh : ¬ (0 ≤ t ∧ t < 16)) : xCl (d) k_L_refuseNoThing [.int t] (M, n, sl) (.inr "java/lang/IndexOutOfBoundsException", (M, n + 1, sl + 6)) := by
  show xEv _ k_L_refuseNoThing 0 [some (.int t)] [] _ _
  refine ev_iload_n d_L_refuseNoThing_0 rfl ?_
  refine ev_if_lt (t := 10) d_L_refuseNoThing_1 (by decide) (fun c_1_1 => ?_) (fun c_1_1 => ?_)
  · exact ev_throw d_L_refuseNoThing_10 rfl (Nat.le_of_ble_eq_true rfl)
  · refine ev_iload_n d_L_refuseNoThing_4 rfl ?_
    refine ev_bipush (v := 16) d_L_refuseNoThing_5 rfl ?_
    refine ev_icmp_lt (t := 21) d_L_refuseNoThing_7 (by decide) (fun c_7 => absurd c_7 (by grind)) (fun _ => ?_)
    exact ev_throw d_L_refuseNoThing_10 rfl (Nat.le_of_ble_eq_true rfl)
set_option maxRecDepth 20000 in
theorem c_L_refuseNoDays_ok {d : Nat} {M : xMm} {n sl : Nat} (f t : Int32) (hh : (0 ≤ f ∧ f ≤ t ∧ t ≤ 100000)) : xCl (d + 1) k_L_refuseNoDays [.int f, .int t] (M, n, sl) (.inl none, (M, n, sl)) := by
  show xEv _ k_L_refuseNoDays 0 [some (.int f), some (.int t)] [] _ _
  refine ev_iload_n d_L_refuseNoDays_0 rfl ?_
  refine ev_s1r d_L_refuseNoDays_1 q_0_202 rfl ⟨rfl, Nat.le_of_ble_eq_true rfl, Nat.le_of_ble_eq_true rfl⟩ (c_L_isDay _) ?_
  refine ev_if_eq (t := 19) d_L_refuseNoDays_4 (by decide) (fun c_4 => absurd c_4 (by rw [xbi_t (by grind)]; decide)) (fun _ => ?_)
  refine ev_iload_n d_L_refuseNoDays_7 rfl ?_
  refine ev_s1r d_L_refuseNoDays_8 q_0_202 rfl ⟨rfl, Nat.le_of_ble_eq_true rfl, Nat.le_of_ble_eq_true rfl⟩ (c_L_isDay _) ?_
  refine ev_if_eq (t := 19) d_L_refuseNoDays_11 (by decide) (fun c_11 => absurd c_11 (by rw [xbi_t (by grind)]; decide)) (fun _ => ?_)
  refine ev_iload_n d_L_refuseNoDays_14 rfl ?_
  refine ev_iload_n d_L_refuseNoDays_15 rfl ?_
  refine ev_icmp_ge (t := 29) d_L_refuseNoDays_16 (by decide) (fun _ => ?_) (fun c_16 => absurd hh.2.1 c_16)
  exact ev_ret d_L_refuseNoDays_29 rfl
set_option maxRecDepth 20000 in
theorem c_L_refuseNoDays_no {d : Nat} {M : xMm} {n sl : Nat} (f t : Int32) (hh : ¬ (0 ≤ f ∧ f ≤ t ∧ t ≤ 100000)) : xCl (d + 1) k_L_refuseNoDays [.int f, .int t] (M, n, sl) (.inr "java/lang/IllegalArgumentException", (M, n + 1, sl + 6)) := by
  show xEv _ k_L_refuseNoDays 0 [some (.int f), some (.int t)] [] _ _
  refine ev_iload_n d_L_refuseNoDays_0 rfl ?_
  refine ev_s1r d_L_refuseNoDays_1 q_0_202 rfl ⟨rfl, Nat.le_of_ble_eq_true rfl, Nat.le_of_ble_eq_true rfl⟩ (c_L_isDay _) ?_
  refine ev_if_eq (t := 19) d_L_refuseNoDays_4 (by decide) (fun c_4_1 => ?_) (fun c_4_1 => ?_)
  · exact ev_throw d_L_refuseNoDays_19 rfl (Nat.le_of_ble_eq_true rfl)
  · refine ev_iload_n d_L_refuseNoDays_7 rfl ?_
    refine ev_s1r d_L_refuseNoDays_8 q_0_202 rfl ⟨rfl, Nat.le_of_ble_eq_true rfl, Nat.le_of_ble_eq_true rfl⟩ (c_L_isDay _) ?_
    refine ev_if_eq (t := 19) d_L_refuseNoDays_11 (by decide) (fun c_11_2 => ?_) (fun c_11_2 => ?_)
    · exact ev_throw d_L_refuseNoDays_19 rfl (Nat.le_of_ble_eq_true rfl)
    · refine ev_iload_n d_L_refuseNoDays_14 rfl ?_
      refine ev_iload_n d_L_refuseNoDays_15 rfl ?_
      refine ev_icmp_ge (t := 29) d_L_refuseNoDays_16 (by decide) (fun c_16 => absurd c_16 (by grind [xbi])) (fun _ => ?_)
      exact ev_throw d_L_refuseNoDays_19 rfl (Nat.le_of_ble_eq_true rfl)
set_option maxRecDepth 20000 in
theorem c_W_init {d : Nat} {M : xMm} {n sl : Nat} {a : Nat} (hn : a < n) (ha : M a = some (.inr (6, [.null, .int 0]))) : xCl (d) k_W_init [.ref a] (M, n, sl) (.inl none, (xset (xset M n (.inl (0, 240, .inl fun _ => 0))) a (.inr (6, [.ref n, .int 0])), n + 1, sl + 240)) := by
  show xEv _ k_W_init 0 [some (.ref a)] [] _ _
  refine ev_aload_n d_W_init_0 rfl ?_
  refine ev_obj d_W_init_1 q_6_3 (Nat.le_of_ble_eq_true rfl) ?_
  refine ev_aload_n d_W_init_4 rfl ?_
  refine ev_sipush (v := 240) d_W_init_5 rfl ?_
  refine ev_newI (z := 240) (S1 := ((xset M (n) (.inl (0, 240, .inl (fun _ => 0)))), n + 1, sl + 240)) d_W_init_8 (by decide) (by decide) rfl ?_
  refine ev_put (M1 := (xset (xset M (n) (.inl (0, 240, .inl (fun _ => 0)))) (a) (.inr (6, [.ref (n), .int 0])))) d_W_init_10 f_6_9 ((xset_ne _ _ (by omega)).trans (ha)) ⟨Nat.le_of_ble_eq_true rfl, (xfit_v rfl rfl rfl), Or.inr ⟨rfl, rfl⟩⟩ rfl ?_
  refine ev_aload_n d_W_init_13 rfl ?_
  refine ev_iconst (v := 0) d_W_init_14 rfl ?_
  refine ev_put (M1 := (xset (xset M (n) (.inl (0, 240, .inl (fun _ => 0)))) (a) (.inr (6, [.ref (n), .int 0])))) d_W_init_15 f_6_15 (xset_self _ _ _) ⟨Nat.le_of_ble_eq_true rfl, (xfit_i rfl), Or.inr ⟨rfl, rfl⟩⟩ (xset_xset _ _ _ _) ?_
  exact ev_ret d_W_init_18 rfl
set_option maxRecDepth 20000 in
theorem c_W_clear {d : Nat} {M : xMm} {n sl : Nat} {a b : Nat} {z : Int32} (ha : M a = some (.inr (6, [.ref b, .int z]))) : xCl (d) k_W_clear [.ref a] (M, n, sl) (.inl none, (xset M a (.inr (6, [.ref b, .int 0])), n, sl)) := by
  show xEv _ k_W_clear 0 [some (.ref a)] [] _ _
  refine ev_aload_n d_W_clear_0 rfl ?_
  refine ev_iconst (v := 0) d_W_clear_1 rfl ?_
  refine ev_put (M1 := (xset M (a) (.inr (6, [.ref b, .int 0])))) d_W_clear_2 f_6_15 (ha) ⟨Nat.le_of_ble_eq_true rfl, (xfit_i rfl), Or.inl rfl⟩ rfl ?_
  exact ev_ret d_W_clear_5 rfl
set_option maxRecDepth 20000 in
theorem c_W_signAt {d : Nat} {M : xMm} {n sl : Nat} {a b : Nat} {f : Nat → Int32} {z : Int32} (hab : a ≠ b) (ha : M a = some (.inr (6, [.ref b, .int z]))) (hb : M b = some (.inl (0, 240, .inl f))) (i : Int32) (hz : z ≤ 240) : xCl (d) k_W_signAt [.ref a, .int i] (M, n, sl) (.inl (some (.int (if 0 ≤ i ∧ i < z then f i.toNatClampNeg else 0))), (M, n, sl)) := by
  show xEv _ k_W_signAt 0 [some (.ref a), some (.int i)] [] _ _
  refine ev_iload_n d_W_signAt_0 rfl ?_
  refine ev_if_lt (t := 21) d_W_signAt_1 (by decide) (fun c_1_1 => ?_) (fun c_1_1 => ?_)
  · refine ev_iconst (v := 0) d_W_signAt_21 rfl ?_
    exact xEv.to (ev_iret d_W_signAt_22 rfl) (by grind)
  · refine ev_iload_n d_W_signAt_4 rfl ?_
    refine ev_aload_n d_W_signAt_5 rfl ?_
    refine ev_get d_W_signAt_6 f_6_15 (ha) rfl ?_
    refine ev_icmp_ge (t := 21) d_W_signAt_9 (by decide) (fun c_9_2 => ?_) (fun c_9_2 => ?_)
    · refine ev_iconst (v := 0) d_W_signAt_21 rfl ?_
      exact xEv.to (ev_iret d_W_signAt_22 rfl) (by grind)
    · refine ev_aload_n d_W_signAt_12 rfl ?_
      refine ev_get d_W_signAt_13 f_6_9 (ha) rfl ?_
      refine ev_iload_n d_W_signAt_16 rfl ?_
      refine ev_iald d_W_signAt_17 (hb) ⟨rfl, (xin_i 240 (by decide) (by grind) (by grind))⟩ rfl ?_
      refine ev_goto (t := 22) d_W_signAt_18 (by decide) ?_
      exact xEv.to (ev_iret d_W_signAt_22 rfl) (by grind)
set_option maxRecDepth 20000 in
theorem c_W_add0 {d : Nat} {M : xMm} {n sl : Nat} {a b : Nat} {f : Nat → Int32} {s z : Int32} (hab : a ≠ b) (ha : M a = some (.inr (6, [.ref b, .int z]))) (hb : M b = some (.inl (0, 240, .inl f))) (k : Nat) (hk : k < 240) (hz : z = nI k) : xCl (d) k_W_add [.ref a, .int s] (M, n, sl) (.inl none, (xset (xset M b (.inl (0, 240, .inl (upd f k s)))) a (.inr (6, [.ref b, .int (nI (k + 1))])), n, sl)) := by
  show xEv _ k_W_add 0 [some (.ref a), some (.int s)] [] _ _
  refine ev_aload_n d_W_add_0 rfl ?_
  refine ev_get d_W_add_1 f_6_15 (ha) rfl ?_
  refine ev_sipush (v := 240) d_W_add_4 rfl ?_
  refine ev_icmp_ge (t := 30) d_W_add_7 (by decide) (fun c_7 => absurd c_7 (by rw [hz]; exact nI_ge hk (by decide))) (fun _ => ?_)
  refine ev_aload_n d_W_add_10 rfl ?_
  refine ev_get d_W_add_11 f_6_9 (ha) rfl ?_
  refine ev_aload_n d_W_add_14 rfl ?_
  refine ev_get d_W_add_15 f_6_15 (ha) rfl ?_
  refine ev_iload_n d_W_add_18 rfl ?_
  refine ev_iast (M1 := (xset M (b) (.inl (0, 240, .inl (upd (f) (z).toNatClampNeg (s)))))) d_W_add_19 (hb) ⟨rfl, (by rw [hz]; exact vp_in_nI (N := 240) hk (by decide))⟩ rfl ?_
  refine ev_aload_n d_W_add_20 rfl ?_
  refine ev_dup d_W_add_21 rfl ?_
  refine ev_get d_W_add_22 f_6_15 ((xset_ne _ _ hab).trans (ha)) rfl ?_
  refine ev_iconst (v := 1) d_W_add_25 rfl ?_
  refine ev_iadd d_W_add_26 ?_
  refine ev_put (M1 := (xset (xset M (b) (.inl (0, 240, .inl (upd (f) (z).toNatClampNeg (s))))) (a) (.inr (6, [.ref b, .int (z + 1)])))) d_W_add_27 f_6_15 ((xset_ne _ _ hab).trans (ha)) ⟨Nat.le_of_ble_eq_true rfl, (xfit_i rfl), Or.inl rfl⟩ rfl ?_
  exact xEv.to (ev_ret d_W_add_30 rfl) (by rw [hz, nI_clamp (by omega), nI_succ])
def rowM (M : xMm) (a b : Nat) (f : Nat → Int32) (w : List Int32) : xMm := xset (xset M b (.inl (0, 240, .inl (wrF f w)))) a (.inr (6, [.ref b, .int (nI w.length)]))
theorem rowM_a (M : xMm) (a b : Nat) (f : Nat → Int32) (w : List Int32) : rowM M a b f w a = some (.inr (6, [.ref b, .int (nI w.length)])) := xset_self _ _ _
theorem rowM_b (M : xMm) {a b : Nat} (f : Nat → Int32) (w : List Int32) (h : a ≠ b) : rowM M a b f w b = some (.inl (0, 240, .inl (wrF f w))) := (xset_ne _ _ (Ne.symm h)).trans (xset_self _ _ _)
theorem rowM_ne (M : xMm) {a b q : Nat} (f : Nat → Int32) (w : List Int32) (h1 : q ≠ a) (h2 : q ≠ b) : rowM M a b f w q = M q := (xset_ne _ _ h1).trans (xset_ne _ _ h2)
theorem rowM_set (M : xMm) {a b : Nat} (f : Nat → Int32) (w : List Int32) (g : Nat → Int32) (y : xE) (h : a ≠ b) : xset (xset (rowM M a b f w) b (.inl (0, 240, .inl g))) a y = xset (xset M b (.inl (0, 240, .inl g))) a y := by
  unfold rowM
  funext q
  unfold xset
  by_cases h1 : q = a
  · simp [h1]
  · by_cases h2 : q = b <;> simp [h1, h2]
theorem c_W_add {d : Nat} {M : xMm} {n sl : Nat} {a b : Nat} {f : Nat → Int32} (hab : a ≠ b) (s : Int32) (w : List Int32) (hw : w.length < 240) : xCl d k_W_add [.ref a, .int s] (rowM M a b f w, n, sl) (.inl none, (rowM M a b f (w ++ [s]), n, sl)) := by
  have h := c_W_add0 (d := d) (n := n) (sl := sl) (s := s) hab (rowM_a M a b f w) (rowM_b M f w hab) w.length hw rfl
  rw [rowM_set _ _ _ _ _ hab, wrF_put] at h
  rw [show rowM M a b f (w ++ [s]) = xset (xset M b (.inl (0, 240, .inl (wrF f (w ++ [s]))))) a (.inr (6, [.ref b, .int (nI (w.length + 1))])) from by unfold rowM; rw [List.length_append]; rfl]
  exact h
set_option maxRecDepth 20000 in
theorem c_P_init {d : Nat} {M : xMm} {n sl : Nat} {a : Nat} (t f u : Int32) (ha : M a = some (.inr (7, [.int 0, .int 0, .int 0]))) : xCl (d) k_P_init [.ref a, .int t, .int f, .int u] (M, n, sl) (.inl none, (xset M a (.inr (7, [.int t, .int f, .int u])), n, sl)) := by
  show xEv _ k_P_init 0 [some (.ref a), some (.int t), some (.int f), some (.int u)] [] _ _
  refine ev_aload_n d_P_init_0 rfl ?_
  refine ev_obj d_P_init_1 q_7_1 (Nat.le_of_ble_eq_true rfl) ?_
  refine ev_aload_n d_P_init_4 rfl ?_
  refine ev_iload_n d_P_init_5 rfl ?_
  refine ev_put (M1 := (xset M (a) (.inr (7, [.int t, .int 0, .int 0])))) d_P_init_6 f_7_7 (ha) ⟨Nat.le_of_ble_eq_true rfl, (xfit_i rfl), Or.inr ⟨rfl, rfl⟩⟩ rfl ?_
  refine ev_aload_n d_P_init_9 rfl ?_
  refine ev_iload_n d_P_init_10 rfl ?_
  refine ev_put (M1 := (xset M (a) (.inr (7, [.int t, .int f, .int 0])))) d_P_init_11 f_7_13 (xset_self _ _ _) ⟨Nat.le_of_ble_eq_true rfl, (xfit_i rfl), Or.inr ⟨rfl, rfl⟩⟩ (xset_xset _ _ _ _) ?_
  refine ev_aload_n d_P_init_14 rfl ?_
  refine ev_iload_n d_P_init_15 rfl ?_
  refine ev_put (M1 := (xset M (a) (.inr (7, [.int t, .int f, .int u])))) d_P_init_16 f_7_16 (xset_self _ _ _) ⟨Nat.le_of_ble_eq_true rfl, (xfit_i rfl), Or.inr ⟨rfl, rfl⟩⟩ (xset_xset _ _ _ _) ?_
  exact ev_ret d_P_init_19 rfl
set_option maxRecDepth 20000 in
theorem c_P_hasDay {d : Nat} {M : xMm} {n sl : Nat} {a : Nat} {t f u : Int32} (ha : M a = some (.inr (7, [.int t, .int f, .int u]))) (y : Int32) : xCl (d) k_P_hasDay [.ref a, .int y] (M, n, sl) (.inl (some (.int (xbi (f ≤ y ∧ y ≤ u)))), (M, n, sl)) := by
  show xEv _ k_P_hasDay 0 [some (.ref a), some (.int y)] [] _ _
  refine ev_iload_n d_P_hasDay_0 rfl ?_
  refine ev_aload_n d_P_hasDay_1 rfl ?_
  refine ev_get d_P_hasDay_2 f_7_13 (ha) rfl ?_
  refine ev_icmp_lt (t := 20) d_P_hasDay_5 (by decide) (fun c_5_1 => ?_) (fun c_5_1 => ?_)
  · refine ev_iconst (v := 0) d_P_hasDay_20 rfl ?_
    exact xEv.to (ev_zret d_P_hasDay_21 rfl (Or.inl rfl)) (by rw [xbi_f (by grind)])
  · refine ev_iload_n d_P_hasDay_8 rfl ?_
    refine ev_aload_n d_P_hasDay_9 rfl ?_
    refine ev_get d_P_hasDay_10 f_7_16 (ha) rfl ?_
    refine ev_icmp_gt (t := 20) d_P_hasDay_13 (by decide) (fun c_13_2 => ?_) (fun c_13_2 => ?_)
    · refine ev_iconst (v := 0) d_P_hasDay_20 rfl ?_
      exact xEv.to (ev_zret d_P_hasDay_21 rfl (Or.inl rfl)) (by rw [xbi_f (by grind)])
    · refine ev_iconst (v := 1) d_P_hasDay_16 rfl ?_
      refine ev_goto (t := 21) d_P_hasDay_17 (by decide) ?_
      exact xEv.to (ev_zret d_P_hasDay_21 rfl (Or.inr rfl)) (by rw [xbi_t (by grind)])
set_option maxRecDepth 20000 in
theorem c_P_length {d : Nat} {M : xMm} {n sl : Nat} {a : Nat} {t f u : Int32} (ha : M a = some (.inr (7, [.int t, .int f, .int u])))  : xCl (d) k_P_length [.ref a] (M, n, sl) (.inl (some (.int (u - f + 1))), (M, n, sl)) := by
  show xEv _ k_P_length 0 [some (.ref a)] [] _ _
  refine ev_aload_n d_P_length_0 rfl ?_
  refine ev_get d_P_length_1 f_7_16 (ha) rfl ?_
  refine ev_aload_n d_P_length_4 rfl ?_
  refine ev_get d_P_length_5 f_7_13 (ha) rfl ?_
  refine ev_isub d_P_length_8 ?_
  refine ev_iconst (v := 1) d_P_length_9 rfl ?_
  refine ev_iadd d_P_length_10 ?_
  exact ev_iret d_P_length_11 rfl
set_option maxRecDepth 20000 in
theorem c_L_areClashing {d : Nat} {M : xMm} {n sl : Nat} {a : Nat} {t f u : Int32} (ha : M a = some (.inr (7, [.int t, .int f, .int u]))) {b : Nat} {t2 f2 u2 : Int32} (hb : M b = some (.inr (7, [.int t2, .int f2, .int u2]))) : xCl (d) k_L_areClashing [.ref a, .ref b] (M, n, sl) (.inl (some (.int (xbi (t = t2 ∧ f ≤ u2 ∧ f2 ≤ u)))), (M, n, sl)) := by
  show xEv _ k_L_areClashing 0 [some (.ref a), some (.ref b)] [] _ _
  refine ev_aload_n d_L_areClashing_0 rfl ?_
  refine ev_ifnull d_L_areClashing_1 ?_
  refine ev_aload_n d_L_areClashing_4 rfl ?_
  refine ev_ifnull d_L_areClashing_5 ?_
  refine ev_aload_n d_L_areClashing_8 rfl ?_
  refine ev_get d_L_areClashing_9 f_0_210 (ha) rfl ?_
  refine ev_aload_n d_L_areClashing_12 rfl ?_
  refine ev_get d_L_areClashing_13 f_0_210 (hb) rfl ?_
  refine ev_icmp_ne (t := 45) d_L_areClashing_16 (by decide) (fun c_16_1 => ?_) (fun c_16_1 => ?_)
  · refine ev_iconst (v := 0) d_L_areClashing_45 rfl ?_
    exact xEv.to (ev_zret d_L_areClashing_46 rfl (Or.inl rfl)) (by rw [xbi_f (by grind)])
  · refine ev_aload_n d_L_areClashing_19 rfl ?_
    refine ev_get d_L_areClashing_20 f_0_213 (ha) rfl ?_
    refine ev_aload_n d_L_areClashing_23 rfl ?_
    refine ev_get d_L_areClashing_24 f_0_207 (hb) rfl ?_
    refine ev_icmp_gt (t := 45) d_L_areClashing_27 (by decide) (fun c_27_2 => ?_) (fun c_27_2 => ?_)
    · refine ev_iconst (v := 0) d_L_areClashing_45 rfl ?_
      exact xEv.to (ev_zret d_L_areClashing_46 rfl (Or.inl rfl)) (by rw [xbi_f (by grind)])
    · refine ev_aload_n d_L_areClashing_30 rfl ?_
      refine ev_get d_L_areClashing_31 f_0_213 (hb) rfl ?_
      refine ev_aload_n d_L_areClashing_34 rfl ?_
      refine ev_get d_L_areClashing_35 f_0_207 (ha) rfl ?_
      refine ev_icmp_gt (t := 45) d_L_areClashing_38 (by decide) (fun c_38_3 => ?_) (fun c_38_3 => ?_)
      · refine ev_iconst (v := 0) d_L_areClashing_45 rfl ?_
        exact xEv.to (ev_zret d_L_areClashing_46 rfl (Or.inl rfl)) (by rw [xbi_f (by grind)])
      · refine ev_iconst (v := 1) d_L_areClashing_41 rfl ?_
        refine ev_goto (t := 46) d_L_areClashing_42 (by decide) ?_
        exact xEv.to (ev_zret d_L_areClashing_46 rfl (Or.inr rfl)) (by rw [xbi_t (by grind)])
set_option maxRecDepth 20000 in
theorem c_N_init {d : Nat} {M : xMm} {n sl : Nat} {a : Nat} (k : Int32) (b : Nat) (ha : M a = some (.inr (4, [.int 0, .int 0, .int 0, .null, .null]))) : xCl (d) k_N_init [.ref a, .int k, .ref b] (M, n, sl) (.inl none, (xset M a (.inr (4, [.int k, .int 0, .int 0, .ref b, .null])), n, sl)) := by
  show xEv _ k_N_init 0 [some (.ref a), some (.int k), some (.ref b)] [] _ _
  refine ev_aload_n d_N_init_0 rfl ?_
  refine ev_obj d_N_init_1 q_4_3 (Nat.le_of_ble_eq_true rfl) ?_
  refine ev_aload_n d_N_init_4 rfl ?_
  refine ev_null d_N_init_5 ?_
  refine ev_put (M1 := (xset M (a) (.inr (4, [.int 0, .int 0, .int 0, .null, .null])))) d_N_init_6 f_4_9 (ha) ⟨Nat.le_of_ble_eq_true rfl, (xfit_v rfl rfl rfl), Or.inr ⟨rfl, rfl⟩⟩ rfl ?_
  refine ev_aload_n d_N_init_9 rfl ?_
  refine ev_iload_n d_N_init_10 rfl ?_
  refine ev_put (M1 := (xset M (a) (.inr (4, [.int k, .int 0, .int 0, .null, .null])))) d_N_init_11 f_4_15 (xset_self _ _ _) ⟨Nat.le_of_ble_eq_true rfl, (xfit_i rfl), Or.inr ⟨rfl, rfl⟩⟩ (xset_xset _ _ _ _) ?_
  refine ev_aload_n d_N_init_14 rfl ?_
  refine ev_iconst (v := 0) d_N_init_15 rfl ?_
  refine ev_put (M1 := (xset M (a) (.inr (4, [.int k, .int 0, .int 0, .null, .null])))) d_N_init_16 f_4_19 (xset_self _ _ _) ⟨Nat.le_of_ble_eq_true rfl, (xfit_i rfl), Or.inr ⟨rfl, rfl⟩⟩ (xset_xset _ _ _ _) ?_
  refine ev_aload_n d_N_init_19 rfl ?_
  refine ev_iconst (v := 0) d_N_init_20 rfl ?_
  refine ev_put (M1 := (xset M (a) (.inr (4, [.int k, .int 0, .int 0, .null, .null])))) d_N_init_21 f_4_22 (xset_self _ _ _) ⟨Nat.le_of_ble_eq_true rfl, (xfit_i rfl), Or.inr ⟨rfl, rfl⟩⟩ (xset_xset _ _ _ _) ?_
  refine ev_aload_n d_N_init_24 rfl ?_
  refine ev_aload_n d_N_init_25 rfl ?_
  refine ev_put (M1 := (xset M (a) (.inr (4, [.int k, .int 0, .int 0, .ref b, .null])))) d_N_init_26 f_4_25 (xset_self _ _ _) ⟨Nat.le_of_ble_eq_true rfl, (xfit_v rfl rfl rfl), Or.inr ⟨rfl, rfl⟩⟩ (xset_xset _ _ _ _) ?_
  exact ev_ret d_N_init_29 rfl
set_option maxRecDepth 20000 in
theorem c_N_init2 {d : Nat} {M : xMm} {n sl : Nat} {a : Nat} (k m v : Int32) (ha : M a = some (.inr (4, [.int 0, .int 0, .int 0, .null, .null]))) : xCl (d) k_N_init2 [.ref a, .int k, .int m, .int v] (M, n, sl) (.inl none, (xset M a (.inr (4, [.int k, .int m, .int v, .null, .null])), n, sl)) := by
  show xEv _ k_N_init2 0 [some (.ref a), some (.int k), some (.int m), some (.int v)] [] _ _
  refine ev_aload_n d_N_init2_0 rfl ?_
  refine ev_obj d_N_init2_1 q_4_3 (Nat.le_of_ble_eq_true rfl) ?_
  refine ev_aload_n d_N_init2_4 rfl ?_
  refine ev_null d_N_init2_5 ?_
  refine ev_put (M1 := (xset M (a) (.inr (4, [.int 0, .int 0, .int 0, .null, .null])))) d_N_init2_6 f_4_9 (ha) ⟨Nat.le_of_ble_eq_true rfl, (xfit_v rfl rfl rfl), Or.inr ⟨rfl, rfl⟩⟩ rfl ?_
  refine ev_aload_n d_N_init2_9 rfl ?_
  refine ev_iload_n d_N_init2_10 rfl ?_
  refine ev_put (M1 := (xset M (a) (.inr (4, [.int k, .int 0, .int 0, .null, .null])))) d_N_init2_11 f_4_15 (xset_self _ _ _) ⟨Nat.le_of_ble_eq_true rfl, (xfit_i rfl), Or.inr ⟨rfl, rfl⟩⟩ (xset_xset _ _ _ _) ?_
  refine ev_aload_n d_N_init2_14 rfl ?_
  refine ev_iload_n d_N_init2_15 rfl ?_
  refine ev_put (M1 := (xset M (a) (.inr (4, [.int k, .int m, .int 0, .null, .null])))) d_N_init2_16 f_4_19 (xset_self _ _ _) ⟨Nat.le_of_ble_eq_true rfl, (xfit_i rfl), Or.inr ⟨rfl, rfl⟩⟩ (xset_xset _ _ _ _) ?_
  refine ev_aload_n d_N_init2_19 rfl ?_
  refine ev_iload_n d_N_init2_20 rfl ?_
  refine ev_put (M1 := (xset M (a) (.inr (4, [.int k, .int m, .int v, .null, .null])))) d_N_init2_21 f_4_22 (xset_self _ _ _) ⟨Nat.le_of_ble_eq_true rfl, (xfit_i rfl), Or.inr ⟨rfl, rfl⟩⟩ (xset_xset _ _ _ _) ?_
  refine ev_aload_n d_N_init2_24 rfl ?_
  refine ev_null d_N_init2_25 ?_
  refine ev_put (M1 := (xset M (a) (.inr (4, [.int k, .int m, .int v, .null, .null])))) d_N_init2_26 f_4_25 (xset_self _ _ _) ⟨Nat.le_of_ble_eq_true rfl, (xfit_v rfl rfl rfl), Or.inr ⟨rfl, rfl⟩⟩ (xset_xset _ _ _ _) ?_
  exact ev_ret d_N_init2_29 rfl
set_option maxRecDepth 20000 in
theorem c_N_compared {d : Nat} {M : xMm} {n sl : Nat} {a : Nat} {k m v : Int32} {i j : Value} (x : Int32) (ha : M a = some (.inr (4, [.int k, .int m, .int v, i, j]))) (hk : k = 60 ∨ k = 61 ∨ k = 62) : xCl (d) k_N_compared [.ref a, .int x] (M, n, sl) (.inl (some (.int (lfS (some x) k v))), (M, n, sl)) := by
  show xEv _ k_N_compared 0 [some (.ref a), some (.int x), none] [] _ _
  refine ev_aload_n d_N_compared_0 rfl ?_
  refine ev_get d_N_compared_1 f_4_15 (ha) rfl ?_
  refine ev_bipush (v := 60) d_N_compared_4 rfl ?_
  refine ev_icmp_ne (t := 25) d_N_compared_6 (by decide) (fun c_6_1 => ?_) (fun c_6_1 => ?_)
  · refine ev_aload_n d_N_compared_25 rfl ?_
    refine ev_get d_N_compared_26 f_4_15 (ha) rfl ?_
    refine ev_bipush (v := 62) d_N_compared_29 rfl ?_
    refine ev_icmp_ne (t := 50) d_N_compared_31 (by decide) (fun c_31_2 => ?_) (fun c_31_2 => ?_)
    · refine ev_iload_n d_N_compared_50 rfl ?_
      refine ev_aload_n d_N_compared_51 rfl ?_
      refine ev_get d_N_compared_52 f_4_22 (ha) rfl ?_
      refine ev_icmp_ne (t := 62) d_N_compared_55 (by decide) (fun c_55_3 => ?_) (fun c_55_3 => ?_)
      · refine ev_iconst (v := 0) d_N_compared_62 rfl ?_
        refine ev_istore_n (lo1 := [some (.ref a), some (.int x), some (.int 0)]) d_N_compared_63 (Nat.le_of_ble_eq_true rfl) rfl ?_
        refine ev_iload_n d_N_compared_64 rfl ?_
        refine ev_if_eq (t := 72) d_N_compared_65 (by decide) (fun c_65_4 => ?_) (fun c_65_4 => ?_)
        · refine ev_iconst (v := 0) d_N_compared_72 rfl ?_
          exact xEv.to (ev_iret d_N_compared_73 rfl) (by grind [lfS])
        · refine ev_iconst (v := 1) d_N_compared_68 rfl ?_
          refine ev_goto (t := 73) d_N_compared_69 (by decide) ?_
          exact xEv.to (ev_iret d_N_compared_73 rfl) (by grind [lfS])
      · refine ev_iconst (v := 1) d_N_compared_58 rfl ?_
        refine ev_goto (t := 63) d_N_compared_59 (by decide) ?_
        refine ev_istore_n (lo1 := [some (.ref a), some (.int x), some (.int 1)]) d_N_compared_63 (Nat.le_of_ble_eq_true rfl) rfl ?_
        refine ev_iload_n d_N_compared_64 rfl ?_
        refine ev_if_eq (t := 72) d_N_compared_65 (by decide) (fun c_65_5 => ?_) (fun c_65_5 => ?_)
        · refine ev_iconst (v := 0) d_N_compared_72 rfl ?_
          exact xEv.to (ev_iret d_N_compared_73 rfl) (by grind [lfS])
        · refine ev_iconst (v := 1) d_N_compared_68 rfl ?_
          refine ev_goto (t := 73) d_N_compared_69 (by decide) ?_
          exact xEv.to (ev_iret d_N_compared_73 rfl) (by grind [lfS])
    · refine ev_iload_n d_N_compared_34 rfl ?_
      refine ev_aload_n d_N_compared_35 rfl ?_
      refine ev_get d_N_compared_36 f_4_22 (ha) rfl ?_
      refine ev_icmp_le (t := 46) d_N_compared_39 (by decide) (fun c_39_6 => ?_) (fun c_39_6 => ?_)
      · refine ev_iconst (v := 0) d_N_compared_46 rfl ?_
        refine ev_goto (t := 63) d_N_compared_47 (by decide) ?_
        refine ev_istore_n (lo1 := [some (.ref a), some (.int x), some (.int 0)]) d_N_compared_63 (Nat.le_of_ble_eq_true rfl) rfl ?_
        refine ev_iload_n d_N_compared_64 rfl ?_
        refine ev_if_eq (t := 72) d_N_compared_65 (by decide) (fun c_65_7 => ?_) (fun c_65_7 => ?_)
        · refine ev_iconst (v := 0) d_N_compared_72 rfl ?_
          exact xEv.to (ev_iret d_N_compared_73 rfl) (by grind [lfS])
        · refine ev_iconst (v := 1) d_N_compared_68 rfl ?_
          refine ev_goto (t := 73) d_N_compared_69 (by decide) ?_
          exact xEv.to (ev_iret d_N_compared_73 rfl) (by grind [lfS])
      · refine ev_iconst (v := 1) d_N_compared_42 rfl ?_
        refine ev_goto (t := 63) d_N_compared_43 (by decide) ?_
        refine ev_istore_n (lo1 := [some (.ref a), some (.int x), some (.int 1)]) d_N_compared_63 (Nat.le_of_ble_eq_true rfl) rfl ?_
        refine ev_iload_n d_N_compared_64 rfl ?_
        refine ev_if_eq (t := 72) d_N_compared_65 (by decide) (fun c_65_8 => ?_) (fun c_65_8 => ?_)
        · refine ev_iconst (v := 0) d_N_compared_72 rfl ?_
          exact xEv.to (ev_iret d_N_compared_73 rfl) (by grind [lfS])
        · refine ev_iconst (v := 1) d_N_compared_68 rfl ?_
          refine ev_goto (t := 73) d_N_compared_69 (by decide) ?_
          exact xEv.to (ev_iret d_N_compared_73 rfl) (by grind [lfS])
  · refine ev_iload_n d_N_compared_9 rfl ?_
    refine ev_aload_n d_N_compared_10 rfl ?_
    refine ev_get d_N_compared_11 f_4_22 (ha) rfl ?_
    refine ev_icmp_ge (t := 21) d_N_compared_14 (by decide) (fun c_14_9 => ?_) (fun c_14_9 => ?_)
    · refine ev_iconst (v := 0) d_N_compared_21 rfl ?_
      refine ev_goto (t := 63) d_N_compared_22 (by decide) ?_
      refine ev_istore_n (lo1 := [some (.ref a), some (.int x), some (.int 0)]) d_N_compared_63 (Nat.le_of_ble_eq_true rfl) rfl ?_
      refine ev_iload_n d_N_compared_64 rfl ?_
      refine ev_if_eq (t := 72) d_N_compared_65 (by decide) (fun c_65_10 => ?_) (fun c_65_10 => ?_)
      · refine ev_iconst (v := 0) d_N_compared_72 rfl ?_
        exact xEv.to (ev_iret d_N_compared_73 rfl) (by grind [lfS])
      · refine ev_iconst (v := 1) d_N_compared_68 rfl ?_
        refine ev_goto (t := 73) d_N_compared_69 (by decide) ?_
        exact xEv.to (ev_iret d_N_compared_73 rfl) (by grind [lfS])
    · refine ev_iconst (v := 1) d_N_compared_17 rfl ?_
      refine ev_goto (t := 63) d_N_compared_18 (by decide) ?_
      refine ev_istore_n (lo1 := [some (.ref a), some (.int x), some (.int 1)]) d_N_compared_63 (Nat.le_of_ble_eq_true rfl) rfl ?_
      refine ev_iload_n d_N_compared_64 rfl ?_
      refine ev_if_eq (t := 72) d_N_compared_65 (by decide) (fun c_65_11 => ?_) (fun c_65_11 => ?_)
      · refine ev_iconst (v := 0) d_N_compared_72 rfl ?_
        exact xEv.to (ev_iret d_N_compared_73 rfl) (by grind [lfS])
      · refine ev_iconst (v := 1) d_N_compared_68 rfl ?_
        refine ev_goto (t := 73) d_N_compared_69 (by decide) ?_
        exact xEv.to (ev_iret d_N_compared_73 rfl) (by grind [lfS])
set_option maxRecDepth 20000 in
theorem c_I_init {d : Nat} {M : xMm} {n sl : Nat} {a : Nat} (hn : a < n) (ha : M a = some (.inr (2, [.null, .null, .int 0, .int 0, .int 0]))) : xCl (d) k_I_init [.ref a] (M, n, sl) (.inl none, (xset (xset (xset M n (.inl (0, 60, .inl fun _ => 0))) (n + 1) (.inl (0, 60, .inl fun _ => 0))) a (.inr (2, [.ref n, .ref (n + 1), .int 0, .int 0, .int (-1)])), n + 2, sl + 120)) := by
  show xEv _ k_I_init 0 [some (.ref a)] [] _ _
  refine ev_aload_n d_I_init_0 rfl ?_
  refine ev_obj d_I_init_1 q_2_3 (Nat.le_of_ble_eq_true rfl) ?_
  refine ev_aload_n d_I_init_4 rfl ?_
  refine ev_bipush (v := 60) d_I_init_5 rfl ?_
  refine ev_newI (z := 60) (S1 := ((xset M (n) (.inl (0, 60, .inl (fun _ => 0)))), n + 1, sl + 60)) d_I_init_7 (by decide) (by decide) rfl ?_
  refine ev_put (M1 := (xset (xset M (n) (.inl (0, 60, .inl (fun _ => 0)))) (a) (.inr (2, [.ref (n), .null, .int 0, .int 0, .int 0])))) d_I_init_9 f_2_9 ((xset_ne _ _ (by omega)).trans (ha)) ⟨Nat.le_of_ble_eq_true rfl, (xfit_v rfl rfl rfl), Or.inr ⟨rfl, rfl⟩⟩ rfl ?_
  refine ev_aload_n d_I_init_12 rfl ?_
  refine ev_bipush (v := 60) d_I_init_13 rfl ?_
  refine ev_newI (z := 60) (S1 := ((xset (xset (xset M (n) (.inl (0, 60, .inl (fun _ => 0)))) (a) (.inr (2, [.ref (n), .null, .int 0, .int 0, .int 0]))) (n + 1) (.inl (0, 60, .inl (fun _ => 0)))), n + 2, sl + 120)) d_I_init_15 (by decide) (by decide) rfl ?_
  refine ev_put (M1 := (xset (xset (xset M (n) (.inl (0, 60, .inl (fun _ => 0)))) (n + 1) (.inl (0, 60, .inl (fun _ => 0)))) (a) (.inr (2, [.ref (n), .ref (n + 1), .int 0, .int 0, .int 0])))) d_I_init_17 f_2_15 ((xset_ne _ _ (by omega)).trans (xset_self _ _ _)) ⟨Nat.le_of_ble_eq_true rfl, (xfit_v rfl rfl rfl), Or.inr ⟨rfl, rfl⟩⟩ (xset_over _ _ _ _ (by omega)) ?_
  refine ev_aload_n d_I_init_20 rfl ?_
  refine ev_iconst (v := 0) d_I_init_21 rfl ?_
  refine ev_put (M1 := (xset (xset (xset M (n) (.inl (0, 60, .inl (fun _ => 0)))) (n + 1) (.inl (0, 60, .inl (fun _ => 0)))) (a) (.inr (2, [.ref (n), .ref (n + 1), .int 0, .int 0, .int 0])))) d_I_init_22 f_2_18 (xset_self _ _ _) ⟨Nat.le_of_ble_eq_true rfl, (xfit_i rfl), Or.inr ⟨rfl, rfl⟩⟩ (xset_xset _ _ _ _) ?_
  refine ev_aload_n d_I_init_25 rfl ?_
  refine ev_iconst (v := 0) d_I_init_26 rfl ?_
  refine ev_put (M1 := (xset (xset (xset M (n) (.inl (0, 60, .inl (fun _ => 0)))) (n + 1) (.inl (0, 60, .inl (fun _ => 0)))) (a) (.inr (2, [.ref (n), .ref (n + 1), .int 0, .int 0, .int 0])))) d_I_init_27 f_2_22 (xset_self _ _ _) ⟨Nat.le_of_ble_eq_true rfl, (xfit_i rfl), Or.inr ⟨rfl, rfl⟩⟩ (xset_xset _ _ _ _) ?_
  refine ev_aload_n d_I_init_30 rfl ?_
  refine ev_iconst (v := (-1)) d_I_init_31 rfl ?_
  refine ev_put (M1 := (xset (xset (xset M (n) (.inl (0, 60, .inl (fun _ => 0)))) (n + 1) (.inl (0, 60, .inl (fun _ => 0)))) (a) (.inr (2, [.ref (n), .ref (n + 1), .int 0, .int 0, .int (-1)])))) d_I_init_32 f_2_25 (xset_self _ _ _) ⟨Nat.le_of_ble_eq_true rfl, (xfit_i rfl), Or.inr ⟨rfl, rfl⟩⟩ (xset_xset _ _ _ _) ?_
  exact ev_ret d_I_init_35 rfl
set_option maxRecDepth 20000 in
theorem c_I_add {d : Nat} {M : xMm} {n sl : Nat} {a b c : Nat} {f g : Nat → Int32} {z p q : Int32} (ha : M a = some (.inr (2, [.ref b, .ref c, .int z, .int p, .int q]))) (hb : M b = some (.inl (0, 60, .inl f))) (hc : M c = some (.inl (0, 60, .inl g))) (h v : Int32) (hab : a ≠ b) (hac : a ≠ c) (hbc : b ≠ c) (k : Nat) (hk : k < 60) (hz : z = nI k) : xCl (d) k_I_add [.ref a, .int h, .int v] (M, n, sl) (.inl none, (xset (xset (xset M b (.inl (0, 60, .inl (upd f k h)))) c (.inl (0, 60, .inl (upd g k v)))) a (.inr (2, [.ref b, .ref c, .int (nI (k + 1)), .int p, .int q])), n, sl)) := by
  show xEv _ k_I_add 0 [some (.ref a), some (.int h), some (.int v)] [] _ _
  refine ev_aload_n d_I_add_0 rfl ?_
  refine ev_get d_I_add_1 f_2_18 (ha) rfl ?_
  refine ev_bipush (v := 60) d_I_add_4 rfl ?_
  refine ev_icmp_ge (t := 39) d_I_add_6 (by decide) (fun c_6 => absurd c_6 (by rw [hz]; exact nI_ge hk (by decide))) (fun _ => ?_)
  refine ev_aload_n d_I_add_9 rfl ?_
  refine ev_get d_I_add_10 f_2_9 (ha) rfl ?_
  refine ev_aload_n d_I_add_13 rfl ?_
  refine ev_get d_I_add_14 f_2_18 (ha) rfl ?_
  refine ev_iload_n d_I_add_17 rfl ?_
  refine ev_iast (M1 := (xset M (b) (.inl (0, 60, .inl (upd (f) (z).toNatClampNeg (h)))))) d_I_add_18 (hb) ⟨rfl, (by rw [hz]; exact vp_in_nI (N := 60) hk (by decide))⟩ rfl ?_
  refine ev_aload_n d_I_add_19 rfl ?_
  refine ev_get d_I_add_20 f_2_15 ((xset_ne _ _ hab).trans (ha)) rfl ?_
  refine ev_aload_n d_I_add_23 rfl ?_
  refine ev_get d_I_add_24 f_2_18 ((xset_ne _ _ hab).trans (ha)) rfl ?_
  refine ev_iload_n d_I_add_27 rfl ?_
  refine ev_iast (M1 := (xset (xset M (b) (.inl (0, 60, .inl (upd (f) (z).toNatClampNeg (h))))) (c) (.inl (0, 60, .inl (upd (g) (z).toNatClampNeg (v)))))) d_I_add_28 ((xset_ne _ _ (Ne.symm hbc)).trans (hc)) ⟨rfl, (by rw [hz]; exact vp_in_nI (N := 60) hk (by decide))⟩ rfl ?_
  refine ev_aload_n d_I_add_29 rfl ?_
  refine ev_dup d_I_add_30 rfl ?_
  refine ev_get d_I_add_31 f_2_18 ((xset_ne _ _ hac).trans ((xset_ne _ _ hab).trans (ha))) rfl ?_
  refine ev_iconst (v := 1) d_I_add_34 rfl ?_
  refine ev_iadd d_I_add_35 ?_
  refine ev_put (M1 := (xset (xset (xset M (b) (.inl (0, 60, .inl (upd (f) (z).toNatClampNeg (h))))) (c) (.inl (0, 60, .inl (upd (g) (z).toNatClampNeg (v))))) (a) (.inr (2, [.ref b, .ref c, .int (z + 1), .int p, .int q])))) d_I_add_36 f_2_18 ((xset_ne _ _ hac).trans ((xset_ne _ _ hab).trans (ha))) ⟨Nat.le_of_ble_eq_true rfl, (xfit_i rfl), Or.inl rfl⟩ rfl ?_
  exact xEv.to (ev_ret d_I_add_39 rfl) (by rw [hz, nI_clamp (by omega), nI_succ])
set_option maxRecDepth 20000 in
theorem c_I_lastHour {d : Nat} {M : xMm} {n sl : Nat} {a b c : Nat} {f g : Nat → Int32} {z p q : Int32} (ha : M a = some (.inr (2, [.ref b, .ref c, .int z, .int p, .int q]))) (hb : M b = some (.inl (0, 60, .inl f))) (hc : M c = some (.inl (0, 60, .inl g))) (k : Nat) (hk : k ≤ 60) (hz : z = nI k) : xCl (d) k_I_lastHour [.ref a] (M, n, sl) (.inl (some (.int (if k = 0 then -1 else f (k - 1)))), (M, n, sl)) := by
  have hzk : z ≤ 0 ↔ k = 0 := by
    rw [hz, show (0 : Int32) = nI 0 from rfl, nI_leI (by omega) (by decide)]
    omega
  have ek : ¬ k = 0 → z - 1 = nI (k - 1) := fun h => by rw [hz]; have := nI_pred (k - 1); rw [show k - 1 + 1 = k by omega] at this; exact this
  show xEv _ k_I_lastHour 0 [some (.ref a)] [] _ _
  refine ev_aload_n d_I_lastHour_0 rfl ?_
  refine ev_get d_I_lastHour_1 f_2_18 (ha) rfl ?_
  refine ev_if_le (t := 21) d_I_lastHour_4 (by decide) (fun c_4_1 => ?_) (fun c_4_1 => ?_)
  · refine ev_iconst (v := (-1)) d_I_lastHour_21 rfl ?_
    exact xEv.to (ev_iret d_I_lastHour_22 rfl) (by rw [if_pos (by grind)])
  · refine ev_aload_n d_I_lastHour_7 rfl ?_
    refine ev_get d_I_lastHour_8 f_2_9 (ha) rfl ?_
    refine ev_aload_n d_I_lastHour_11 rfl ?_
    refine ev_get d_I_lastHour_12 f_2_18 (ha) rfl ?_
    refine ev_iconst (v := 1) d_I_lastHour_15 rfl ?_
    refine ev_isub d_I_lastHour_16 ?_
    refine ev_iald d_I_lastHour_17 (hb) ⟨rfl, (by rw [ek (by grind)]; exact vp_in_nI (N := 60) (by omega) (by decide))⟩ rfl ?_
    refine ev_goto (t := 22) d_I_lastHour_18 (by decide) ?_
    exact xEv.to (ev_iret d_I_lastHour_22 rfl) (by rw [if_neg (by grind), ek (by grind), nI_clamp (by omega)])
set_option maxRecDepth 20000 in
theorem c_O_init {d : Nat} {M : xMm} {n sl : Nat} {a : Nat} (c p : Nat) (hn : a < n) (ha : M a = some (.inr (3, [.null, .null, .null, .null, .null, .int 0, .int 0]))) : xCl (d) k_O_init [.ref a, .ref c, .ref p] (M, n, sl) (.inl none, (xset (xset (xset (xset M n (.inl (0, 100, .inl fun _ => 0))) (n + 1) (.inl (0, 100, .inl fun _ => 0))) (n + 2) (.inl (1, 6, .inl fun _ => 0))) a (.inr (3, [.ref c, .ref n, .ref (n + 1), .ref (n + 2), .ref p, .int 0, .int 0])), n + 3, sl + 206)) := by
  show xEv _ k_O_init 0 [some (.ref a), some (.ref c), some (.ref p)] [] _ _
  refine ev_aload_n d_O_init_0 rfl ?_
  refine ev_obj d_O_init_1 q_3_3 (Nat.le_of_ble_eq_true rfl) ?_
  refine ev_aload_n d_O_init_4 rfl ?_
  refine ev_bipush (v := 100) d_O_init_5 rfl ?_
  refine ev_newI (z := 100) (S1 := ((xset M (n) (.inl (0, 100, .inl (fun _ => 0)))), n + 1, sl + 100)) d_O_init_7 (by decide) (by decide) rfl ?_
  refine ev_put (M1 := (xset (xset M (n) (.inl (0, 100, .inl (fun _ => 0)))) (a) (.inr (3, [.null, .ref (n), .null, .null, .null, .int 0, .int 0])))) d_O_init_9 f_3_9 ((xset_ne _ _ (by omega)).trans (ha)) ⟨Nat.le_of_ble_eq_true rfl, (xfit_v rfl rfl rfl), Or.inr ⟨rfl, rfl⟩⟩ rfl ?_
  refine ev_aload_n d_O_init_12 rfl ?_
  refine ev_bipush (v := 100) d_O_init_13 rfl ?_
  refine ev_newI (z := 100) (S1 := ((xset (xset (xset M (n) (.inl (0, 100, .inl (fun _ => 0)))) (a) (.inr (3, [.null, .ref (n), .null, .null, .null, .int 0, .int 0]))) (n + 1) (.inl (0, 100, .inl (fun _ => 0)))), n + 2, sl + 200)) d_O_init_15 (by decide) (by decide) rfl ?_
  refine ev_put (M1 := (xset (xset (xset M (n) (.inl (0, 100, .inl (fun _ => 0)))) (n + 1) (.inl (0, 100, .inl (fun _ => 0)))) (a) (.inr (3, [.null, .ref (n), .ref (n + 1), .null, .null, .int 0, .int 0])))) d_O_init_17 f_3_15 ((xset_ne _ _ (by omega)).trans (xset_self _ _ _)) ⟨Nat.le_of_ble_eq_true rfl, (xfit_v rfl rfl rfl), Or.inr ⟨rfl, rfl⟩⟩ (xset_over _ _ _ _ (by omega)) ?_
  refine ev_aload_n d_O_init_20 rfl ?_
  refine ev_bipush (v := 6) d_O_init_21 rfl ?_
  refine ev_newZ (z := 6) (S1 := ((xset (xset (xset (xset M (n) (.inl (0, 100, .inl (fun _ => 0)))) (n + 1) (.inl (0, 100, .inl (fun _ => 0)))) (a) (.inr (3, [.null, .ref (n), .ref (n + 1), .null, .null, .int 0, .int 0]))) (n + 2) (.inl (1, 6, .inl (fun _ => 0)))), n + 3, sl + 206)) d_O_init_23 (by decide) (by decide) rfl ?_
  refine ev_put (M1 := (xset (xset (xset (xset M (n) (.inl (0, 100, .inl (fun _ => 0)))) (n + 1) (.inl (0, 100, .inl (fun _ => 0)))) (n + 2) (.inl (1, 6, .inl (fun _ => 0)))) (a) (.inr (3, [.null, .ref (n), .ref (n + 1), .ref (n + 2), .null, .int 0, .int 0])))) d_O_init_25 f_3_18 ((xset_ne _ _ (by omega)).trans (xset_self _ _ _)) ⟨Nat.le_of_ble_eq_true rfl, (xfit_v rfl rfl rfl), Or.inr ⟨rfl, rfl⟩⟩ (xset_over _ _ _ _ (by omega)) ?_
  refine ev_aload_n d_O_init_28 rfl ?_
  refine ev_iconst (v := 0) d_O_init_29 rfl ?_
  refine ev_put (M1 := (xset (xset (xset (xset M (n) (.inl (0, 100, .inl (fun _ => 0)))) (n + 1) (.inl (0, 100, .inl (fun _ => 0)))) (n + 2) (.inl (1, 6, .inl (fun _ => 0)))) (a) (.inr (3, [.null, .ref (n), .ref (n + 1), .ref (n + 2), .null, .int 0, .int 0])))) d_O_init_30 f_3_22 (xset_self _ _ _) ⟨Nat.le_of_ble_eq_true rfl, (xfit_v rfl rfl rfl), Or.inr ⟨rfl, rfl⟩⟩ (xset_xset _ _ _ _) ?_
  refine ev_aload_n d_O_init_33 rfl ?_
  refine ev_iconst (v := 0) d_O_init_34 rfl ?_
  refine ev_put (M1 := (xset (xset (xset (xset M (n) (.inl (0, 100, .inl (fun _ => 0)))) (n + 1) (.inl (0, 100, .inl (fun _ => 0)))) (n + 2) (.inl (1, 6, .inl (fun _ => 0)))) (a) (.inr (3, [.null, .ref (n), .ref (n + 1), .ref (n + 2), .null, .int 0, .int 0])))) d_O_init_35 f_3_26 (xset_self _ _ _) ⟨Nat.le_of_ble_eq_true rfl, (xfit_i rfl), Or.inr ⟨rfl, rfl⟩⟩ (xset_xset _ _ _ _) ?_
  refine ev_aload_n d_O_init_38 rfl ?_
  refine ev_aload_n d_O_init_39 rfl ?_
  refine ev_put (M1 := (xset (xset (xset (xset M (n) (.inl (0, 100, .inl (fun _ => 0)))) (n + 1) (.inl (0, 100, .inl (fun _ => 0)))) (n + 2) (.inl (1, 6, .inl (fun _ => 0)))) (a) (.inr (3, [.ref c, .ref (n), .ref (n + 1), .ref (n + 2), .null, .int 0, .int 0])))) d_O_init_40 f_3_30 (xset_self _ _ _) ⟨Nat.le_of_ble_eq_true rfl, (xfit_v rfl rfl rfl), Or.inr ⟨rfl, rfl⟩⟩ (xset_xset _ _ _ _) ?_
  refine ev_aload_n d_O_init_43 rfl ?_
  refine ev_aload_n d_O_init_44 rfl ?_
  refine ev_put (M1 := (xset (xset (xset (xset M (n) (.inl (0, 100, .inl (fun _ => 0)))) (n + 1) (.inl (0, 100, .inl (fun _ => 0)))) (n + 2) (.inl (1, 6, .inl (fun _ => 0)))) (a) (.inr (3, [.ref c, .ref (n), .ref (n + 1), .ref (n + 2), .ref p, .int 0, .int 0])))) d_O_init_45 f_3_34 (xset_self _ _ _) ⟨Nat.le_of_ble_eq_true rfl, (xfit_v rfl rfl rfl), Or.inr ⟨rfl, rfl⟩⟩ (xset_xset _ _ _ _) ?_
  exact ev_ret d_O_init_48 rfl
set_option maxRecDepth 20000 in
theorem c_O_forget {d : Nat} {M : xMm} {n sl : Nat} {a c h t s p : Nat} {fh ft fs : Nat → Int32} {sh tz : Int32} (ha : M a = some (.inr (3, [.ref c, .ref h, .ref t, .ref s, .ref p, .int sh, .int tz]))) (hs : M s = some (.inl (1, 6, .inl fs))) (k : Nat) (hk : k < 6) : xCl (d) k_O_forget [.ref a, .int (nI k)] (M, n, sl) (.inl none, (xset M s (.inl (1, 6, .inl (upd fs k 0))), n, sl)) := by
  show xEv _ k_O_forget 0 [some (.ref a), some (.int (nI k))] [] _ _
  refine ev_iload_n d_O_forget_0 rfl ?_
  refine ev_if_lt (t := 17) d_O_forget_1 (by decide) (fun c_1 => absurd c_1 (nI_pos (by omega))) (fun _ => ?_)
  refine ev_iload_n d_O_forget_4 rfl ?_
  refine ev_bipush (v := 6) d_O_forget_5 rfl ?_
  refine ev_icmp_ge (t := 17) d_O_forget_7 (by decide) (fun c_7 => absurd c_7 (nI_ge hk (by decide))) (fun _ => ?_)
  refine ev_aload_n d_O_forget_10 rfl ?_
  refine ev_get d_O_forget_11 f_3_18 (ha) rfl ?_
  refine ev_iload_n d_O_forget_14 rfl ?_
  refine ev_iconst (v := 0) d_O_forget_15 rfl ?_
  refine ev_zast (M1 := (xset M (s) (.inl (1, 6, .inl (upd (fs) ((nI k)).toNatClampNeg (0 &&& 1)))))) d_O_forget_16 (hs) ⟨rfl, vp_in_nI (N := 6) hk (by decide)⟩ rfl ?_
  exact xEv.to (ev_ret d_O_forget_17 rfl) (by rw [nI_clamp (by omega), show (0 : Int32) &&& 1 = 0 from rfl])
set_option maxRecDepth 20000 in
theorem c_O_tell_no {d : Nat} {M : xMm} {n sl : Nat} {a c h t s p : Nat} {fh ft fs : Nat → Int32} {sh tz : Int32} (ha : M a = some (.inr (3, [.ref c, .ref h, .ref t, .ref s, .ref p, .int sh, .int tz]))) (hh : M h = some (.inl (0, 100, .inl fh))) (ht : M t = some (.inl (0, 100, .inl ft))) (hs : M s = some (.inl (1, 6, .inl fs))) (x : Int32) (k m : Nat) (hk : k < 6) (hm : m ≤ 100) (htz : tz = nI m) (hc : ¬ (fs k = 0 ∧ m < 100)) : xCl (d) k_O_tell [.ref a, .int x, .int (nI k)] (M, n, sl) (.inl none, (M, n, sl)) := by
  have hlt : tz < 100 ↔ m < 100 := by rw [htz, show (100 : Int32) = nI 100 from rfl, nI_ltI (by omega) (by decide)]
  show xEv _ k_O_tell 0 [some (.ref a), some (.int x), some (.int (nI k))] [] _ _
  refine ev_iload_n d_O_tell_0 rfl ?_
  refine ev_if_lt (t := 28) d_O_tell_1 (by decide) (fun c_1 => absurd c_1 (nI_pos (by omega))) (fun _ => ?_)
  refine ev_iload_n d_O_tell_4 rfl ?_
  refine ev_bipush (v := 6) d_O_tell_5 rfl ?_
  refine ev_icmp_ge (t := 28) d_O_tell_7 (by decide) (fun c_7 => absurd c_7 (nI_ge hk (by decide))) (fun _ => ?_)
  refine ev_aload_n d_O_tell_10 rfl ?_
  refine ev_get d_O_tell_11 f_3_18 (ha) rfl ?_
  refine ev_iload_n d_O_tell_14 rfl ?_
  refine ev_zald d_O_tell_15 (hs) ⟨rfl, vp_in_nI (N := 6) hk (by decide)⟩ rfl ?_
  rw [nI_clamp (show k < 2 ^ 31 by omega)]
  refine ev_if_ne (t := 28) d_O_tell_16 (by decide) (fun c_16_1 => ?_) (fun c_16_1 => ?_)
  · exact ev_ret d_O_tell_28 rfl
  · refine ev_aload_n d_O_tell_19 rfl ?_
    refine ev_get d_O_tell_20 f_3_26 (ha) rfl ?_
    refine ev_bipush (v := 100) d_O_tell_23 rfl ?_
    refine ev_icmp_lt (t := 29) d_O_tell_25 (by decide) (fun c_25 => absurd c_25 (by grind)) (fun _ => ?_)
    exact ev_ret d_O_tell_28 rfl
set_option maxRecDepth 20000 in
theorem c_O_tell_ok {d : Nat} {M : xMm} {n sl : Nat} {a c h t s p : Nat} {fh ft fs : Nat → Int32} {sh tz : Int32} (ha : M a = some (.inr (3, [.ref c, .ref h, .ref t, .ref s, .ref p, .int sh, .int tz]))) (hh : M h = some (.inl (0, 100, .inl fh))) (ht : M t = some (.inl (0, 100, .inl ft))) (hs : M s = some (.inl (1, 6, .inl fs))) (x : Int32) (k m : Nat) (hk : k < 6) (hm : m ≤ 100) (htz : tz = nI m) (hc : fs k = 0) (hm1 : m < 100) (has : a ≠ s) (hah : a ≠ h) (hat : a ≠ t) (hsh : s ≠ h) (hst : s ≠ t) (hht : h ≠ t) : xCl (d) k_O_tell [.ref a, .int x, .int (nI k)] (M, n, sl) (.inl none, (xset (xset (xset (xset M s (.inl (1, 6, .inl (upd fs k 1)))) h (.inl (0, 100, .inl (upd fh m x)))) t (.inl (0, 100, .inl (upd ft m (nI k))))) a (.inr (3, [.ref c, .ref h, .ref t, .ref s, .ref p, .int sh, .int (nI (m + 1))])), n, sl)) := by
  show xEv _ k_O_tell 0 [some (.ref a), some (.int x), some (.int (nI k))] [] _ _
  refine ev_iload_n d_O_tell_0 rfl ?_
  refine ev_if_lt (t := 28) d_O_tell_1 (by decide) (fun c_1 => absurd c_1 (nI_pos (by omega))) (fun _ => ?_)
  refine ev_iload_n d_O_tell_4 rfl ?_
  refine ev_bipush (v := 6) d_O_tell_5 rfl ?_
  refine ev_icmp_ge (t := 28) d_O_tell_7 (by decide) (fun c_7 => absurd c_7 (nI_ge hk (by decide))) (fun _ => ?_)
  refine ev_aload_n d_O_tell_10 rfl ?_
  refine ev_get d_O_tell_11 f_3_18 (ha) rfl ?_
  refine ev_iload_n d_O_tell_14 rfl ?_
  refine ev_zald d_O_tell_15 (hs) ⟨rfl, vp_in_nI (N := 6) hk (by decide)⟩ rfl ?_
  rw [nI_clamp (show k < 2 ^ 31 by omega)]
  refine ev_if_ne (t := 28) d_O_tell_16 (by decide) (fun c_16 => absurd hc c_16) (fun _ => ?_)
  refine ev_aload_n d_O_tell_19 rfl ?_
  refine ev_get d_O_tell_20 f_3_26 (ha) rfl ?_
  refine ev_bipush (v := 100) d_O_tell_23 rfl ?_
  refine ev_icmp_lt (t := 29) d_O_tell_25 (by decide) (fun _ => ?_) (fun c_25 => absurd (by rw [htz]; exact nI_lt hm1 (by decide)) c_25)
  refine ev_aload_n d_O_tell_29 rfl ?_
  refine ev_get d_O_tell_30 f_3_18 (ha) rfl ?_
  refine ev_iload_n d_O_tell_33 rfl ?_
  refine ev_iconst (v := 1) d_O_tell_34 rfl ?_
  refine ev_zast (M1 := (xset M (s) (.inl (1, 6, .inl (upd (fs) ((nI k)).toNatClampNeg (1 &&& 1)))))) d_O_tell_35 (hs) ⟨rfl, vp_in_nI (N := 6) hk (by decide)⟩ rfl ?_
  refine ev_aload_n d_O_tell_36 rfl ?_
  refine ev_get d_O_tell_37 f_3_9 ((xset_ne _ _ has).trans (ha)) rfl ?_
  refine ev_aload_n d_O_tell_40 rfl ?_
  refine ev_get d_O_tell_41 f_3_26 ((xset_ne _ _ has).trans (ha)) rfl ?_
  refine ev_iload_n d_O_tell_44 rfl ?_
  refine ev_iast (M1 := (xset (xset M (s) (.inl (1, 6, .inl (upd (fs) ((nI k)).toNatClampNeg (1 &&& 1))))) (h) (.inl (0, 100, .inl (upd (fh) (tz).toNatClampNeg (x)))))) d_O_tell_45 ((xset_ne _ _ (Ne.symm hsh)).trans (hh)) ⟨rfl, (by rw [htz]; exact vp_in_nI (N := 100) hm1 (by decide))⟩ rfl ?_
  refine ev_aload_n d_O_tell_46 rfl ?_
  refine ev_get d_O_tell_47 f_3_15 ((xset_ne _ _ hah).trans ((xset_ne _ _ has).trans (ha))) rfl ?_
  refine ev_aload_n d_O_tell_50 rfl ?_
  refine ev_get d_O_tell_51 f_3_26 ((xset_ne _ _ hah).trans ((xset_ne _ _ has).trans (ha))) rfl ?_
  refine ev_iload_n d_O_tell_54 rfl ?_
  refine ev_iast (M1 := (xset (xset (xset M (s) (.inl (1, 6, .inl (upd (fs) ((nI k)).toNatClampNeg (1 &&& 1))))) (h) (.inl (0, 100, .inl (upd (fh) (tz).toNatClampNeg (x))))) (t) (.inl (0, 100, .inl (upd (ft) (tz).toNatClampNeg ((nI k))))))) d_O_tell_55 ((xset_ne _ _ (Ne.symm hht)).trans ((xset_ne _ _ (Ne.symm hst)).trans (ht))) ⟨rfl, (by rw [htz]; exact vp_in_nI (N := 100) hm1 (by decide))⟩ rfl ?_
  refine ev_aload_n d_O_tell_56 rfl ?_
  refine ev_dup d_O_tell_57 rfl ?_
  refine ev_get d_O_tell_58 f_3_26 ((xset_ne _ _ hat).trans ((xset_ne _ _ hah).trans ((xset_ne _ _ has).trans (ha)))) rfl ?_
  refine ev_iconst (v := 1) d_O_tell_61 rfl ?_
  refine ev_iadd d_O_tell_62 ?_
  refine ev_put (M1 := (xset (xset (xset (xset M (s) (.inl (1, 6, .inl (upd (fs) ((nI k)).toNatClampNeg (1 &&& 1))))) (h) (.inl (0, 100, .inl (upd (fh) (tz).toNatClampNeg (x))))) (t) (.inl (0, 100, .inl (upd (ft) (tz).toNatClampNeg ((nI k)))))) (a) (.inr (3, [.ref c, .ref h, .ref t, .ref s, .ref p, .int sh, .int (tz + 1)])))) d_O_tell_63 f_3_26 ((xset_ne _ _ hat).trans ((xset_ne _ _ hah).trans ((xset_ne _ _ has).trans (ha)))) ⟨Nat.le_of_ble_eq_true rfl, (xfit_i rfl), Or.inl rfl⟩ rfl ?_
  exact xEv.to (ev_ret d_O_tell_66 rfl) (by rw [htz, nI_clamp (show m < 2 ^ 31 by omega), nI_clamp (show k < 2 ^ 31 by omega), nI_succ, show (1 : Int32) &&& 1 = 1 from rfl])
set_option maxRecDepth 20000 in
theorem c_O_price {d : Nat} {M : xMm} {n sl : Nat} {a c h t s p : Nat} {fh ft fs : Nat → Int32} {sh tz : Int32} (ha : M a = some (.inr (3, [.ref c, .ref h, .ref t, .ref s, .ref p, .int sh, .int tz]))) {t0 f u : Int32} (hp : M p = some (.inr (7, [.int t0, .int f, .int u]))) {r x : Nat} {z : Int32} (hc : M c = some (.inr (1, [.ref r, .ref x, .int z]))) : xCl (d + 1) k_O_price [.ref a] (M, n, sl) (.inl (some (.int (5 * (u - f + 1) + 20 * z + (if sh = 0 then 300 else 0) + 50 * tz))), (M, n, sl)) := by
  show xEv _ k_O_price 0 [some (.ref a), none] [] _ _
  refine ev_iconst (v := 5) d_O_price_0 rfl ?_
  refine ev_aload_n d_O_price_1 rfl ?_
  refine ev_get d_O_price_2 f_3_34 (ha) rfl ?_
  refine ev_v0r d_O_price_5 q_3_38 rfl hp ⟨rfl, Nat.le_of_ble_eq_true rfl, Nat.le_of_ble_eq_true rfl⟩ (c_P_length hp) ?_
  refine ev_imul d_O_price_8 ?_
  refine ev_bipush (v := 20) d_O_price_9 rfl ?_
  refine ev_aload_n d_O_price_11 rfl ?_
  refine ev_get d_O_price_12 f_3_30 (ha) rfl ?_
  refine ev_get d_O_price_15 f_3_44 (hc) rfl ?_
  refine ev_imul d_O_price_18 ?_
  refine ev_iadd d_O_price_19 ?_
  refine ev_bipush (v := 50) d_O_price_20 rfl ?_
  refine ev_aload_n d_O_price_22 rfl ?_
  refine ev_get d_O_price_23 f_3_26 (ha) rfl ?_
  refine ev_imul d_O_price_26 ?_
  refine ev_iadd d_O_price_27 ?_
  refine ev_top (fun x_1 ex_1 => ?_)
  refine ev_istore_n (lo1 := [some (.ref a), some (.int x_1)]) d_O_price_28 (Nat.le_of_ble_eq_true rfl) rfl ?_
  refine ev_aload_n d_O_price_29 rfl ?_
  refine ev_get d_O_price_30 f_3_22 (ha) rfl ?_
  refine ev_if_eq (t := 40) d_O_price_33 (by decide) (fun c_33_2 => ?_) (fun c_33_2 => ?_)
  · refine ev_iload_n d_O_price_40 rfl ?_
    refine ev_sipush (v := 300) d_O_price_41 rfl ?_
    refine ev_iadd d_O_price_44 ?_
    exact xEv.to (ev_iret d_O_price_45 rfl) (by grind)
  · refine ev_iload_n d_O_price_36 rfl ?_
    refine ev_goto (t := 45) d_O_price_37 (by decide) ?_
    exact xEv.to (ev_iret d_O_price_45 rfl) (by grind)
