/-! the reference: loans, extensions, what was told, inputs -/
theorem xb_ne0 {b : Bool} : ¬ xb b = 0 ↔ b = true := by cases b <;> simp [xb]
theorem xb_eq0 {b : Bool} : xb b = 0 ↔ b = false := by cases b <;> simp [xb]
theorem nI100 (k i : Nat) : 100 * nI k + nI i = nI (100 * k + i) := by rw [show (100 : Int32) = nI 100 from rfl, pk_mul, nI_add]
theorem nI6 (k i : Nat) : 6 * nI k + nI i = nI (6 * k + i) := by rw [show (6 : Int32) = nI 6 from rfl, pk_mul, nI_add]
theorem nI160 (k i : Nat) : 160 * nI k + nI i = nI (160 * k + i) := by rw [show (160 : Int32) = nI 160 from rfl, pk_mul, nI_add]
set_option maxRecDepth 20000 in
theorem c_M_loan_no {d : Nat} {B : xMm} {ad : Nat → Nat} {ix : Nat → Option Nat} {iv : Nat → Int32} {av : Nat → Nat → Int32} {ns : Nat × Nat} (ok : mOk ad ix) (c t f u : Int32) (h : mgo (xbi ((0 ≤ c ∧ c < iv 3) ∧ 0 ≤ t ∧ t < 16)) (xbi (iv 23 < 20)) (xbi (0 ≤ f ∧ f ≤ u ∧ u ≤ 100000)) ≠ 0) : xCl (d + 1) k_M_loan [.ref (ad 0), .int c, .int t, .int f, .int u] (mM B ad ix iv av, ns) (.inl (some (.int 0)), (mM B ad ix (upd iv 0 (mgo (xbi ((0 ≤ c ∧ c < iv 3) ∧ 0 ≤ t ∧ t < 16)) (xbi (iv 23 < 20)) (xbi (0 ≤ f ∧ f ≤ u ∧ u ≤ 100000)))) (av), ns)) := by
  show xEv _ k_M_loan 0 [some (.ref (ad 0)), some (.int c), some (.int t), some (.int f), some (.int u)] [] _ _
  refine ev_aload_n d_M_loan_0 rfl ?_
  refine ev_cutv (E := 21) (V := xbi ((0 ≤ c ∧ c < iv 3) ∧ 0 ≤ t ∧ t < 16)) ?_ (fun hk_1 => ?_)
  · refine ev_cutv (E := 35) (V := xbi (iv 23 < 20)) ?_ (fun hk_2 => ?_)
    · refine ev_iload_n d_M_loan_35 rfl ?_
      refine ev_iload d_M_loan_36 rfl ?_
      refine ev_s2r d_M_loan_38 q_8_176 rfl ⟨rfl, Nat.le_of_ble_eq_true rfl, Nat.le_of_ble_eq_true rfl⟩ (c_M_areDays _ _) ?_
      refine ev_v3r d_M_loan_41 q_8_116 rfl (mM_obj ok) ⟨rfl, Nat.le_of_ble_eq_true rfl, Nat.le_of_ble_eq_true rfl⟩ (c_M_goes ok _ _ _) ?_
      refine ev_if_ne (t := 49) d_M_loan_44 (by decide) (fun c_44 => absurd (xbi_f h) c_44) (fun _ => ?_)
      refine ev_iconst (v := 0) d_M_loan_47 rfl ?_
      exact xEv.to (ev_iret d_M_loan_48 rfl) (by grind [upd, va_up, xbi])
    · refine ev_aload_n d_M_loan_21 rfl ?_
      refine ev_get d_M_loan_22 f_8_105 (mM_obj ok) rfl ?_
      refine ev_bipush (v := 20) d_M_loan_25 rfl ?_
      refine ev_icmp_ge (t := 34) d_M_loan_27 (by decide) (fun c_27_3 => ?_) (fun c_27_3 => ?_)
      · refine ev_iconst (v := 0) d_M_loan_34 rfl ?_
        exact hk_2 _ (by rw [xbi_f (by grind)])
      · refine ev_iconst (v := 1) d_M_loan_30 rfl ?_
        refine ev_goto (t := 35) d_M_loan_31 (by decide) ?_
        exact hk_2 _ (by rw [xbi_t (by grind)])
  · refine ev_aload_n d_M_loan_1 rfl ?_
    refine ev_iload_n d_M_loan_2 rfl ?_
    refine ev_v1r d_M_loan_3 q_8_146 rfl (mM_obj ok) ⟨rfl, Nat.le_of_ble_eq_true rfl, Nat.le_of_ble_eq_true rfl⟩ (c_M_isContract ok _) ?_
    refine ev_if_eq (t := 20) d_M_loan_6 (by decide) (fun c_6_4 => ?_) (fun c_6_4 => ?_)
    · refine ev_iconst (v := 0) d_M_loan_20 rfl ?_
      exact hk_1 _ (by grind [xbi])
    · refine ev_iload_n d_M_loan_9 rfl ?_
      refine ev_s1r d_M_loan_10 q_8_173 rfl ⟨rfl, Nat.le_of_ble_eq_true rfl, Nat.le_of_ble_eq_true rfl⟩ (c_M_isThing _) ?_
      refine ev_if_eq (t := 20) d_M_loan_13 (by decide) (fun c_13_5 => ?_) (fun c_13_5 => ?_)
      · refine ev_iconst (v := 0) d_M_loan_20 rfl ?_
        exact hk_1 _ (by grind [xbi])
      · refine ev_iconst (v := 1) d_M_loan_16 rfl ?_
        refine ev_goto (t := 21) d_M_loan_17 (by decide) ?_
        exact hk_1 _ (by grind [xbi])
set_option maxRecDepth 20000 in
theorem c_M_loan_out {d : Nat} {B : xMm} {ad : Nat → Nat} {ix : Nat → Option Nat} {iv : Nat → Int32} {av : Nat → Nat → Int32} {ns : Nat × Nat} (ok : mOk ad ix) (c t f u : Int32) (ln : Nat) (hln : ln ≤ 20) (hi : iv 23 = nI ln) (h : mgo (xbi ((0 ≤ c ∧ c < iv 3) ∧ 0 ≤ t ∧ t < 16)) (xbi (iv 23 < 20)) (xbi (0 ≤ f ∧ f ≤ u ∧ u ≤ 100000)) = 0) (ho : anyF (mOut av t f u (-1)) ln 0 = true) : xCl (d + 1) k_M_loan [.ref (ad 0), .int c, .int t, .int f, .int u] (mM B ad ix iv av, ns) (.inl (some (.int (-1))), (mM B ad ix (upd iv 0 0) (av), ns)) := by
  show xEv _ k_M_loan 0 [some (.ref (ad 0)), some (.int c), some (.int t), some (.int f), some (.int u)] [] _ _
  refine ev_aload_n d_M_loan_0 rfl ?_
  refine ev_cutv (E := 21) (V := xbi ((0 ≤ c ∧ c < iv 3) ∧ 0 ≤ t ∧ t < 16)) ?_ (fun hk_1 => ?_)
  · refine ev_cutv (E := 35) (V := xbi (iv 23 < 20)) ?_ (fun hk_2 => ?_)
    · refine ev_iload_n d_M_loan_35 rfl ?_
      refine ev_iload d_M_loan_36 rfl ?_
      refine ev_s2r d_M_loan_38 q_8_176 rfl ⟨rfl, Nat.le_of_ble_eq_true rfl, Nat.le_of_ble_eq_true rfl⟩ (c_M_areDays _ _) ?_
      refine ev_v3r d_M_loan_41 q_8_116 rfl (mM_obj ok) ⟨rfl, Nat.le_of_ble_eq_true rfl, Nat.le_of_ble_eq_true rfl⟩ (c_M_goes ok _ _ _) ?_
      refine ev_if_ne (t := 49) d_M_loan_44 (by decide) (fun _ => ?_) (fun c_44 => absurd c_44 (by rw [h]; decide))
      refine ev_aload_n d_M_loan_49 rfl ?_
      refine ev_iload_n d_M_loan_50 rfl ?_
      refine ev_iload_n d_M_loan_51 rfl ?_
      refine ev_iload d_M_loan_52 rfl ?_
      refine ev_iconst (v := (-1)) d_M_loan_54 rfl ?_
      refine ev_v4r d_M_loan_55 q_8_180 rfl (mM_obj ok) ⟨rfl, Nat.le_of_ble_eq_true rfl, Nat.le_of_ble_eq_true rfl⟩ (c_M_isOut ok _ _ _ _ ln hln (by grind [upd])) ?_
      refine ev_if_eq (t := 63) d_M_loan_58 (by decide) (fun c_58 => absurd c_58 (by rw [ho]; decide)) (fun _ => ?_)
      refine ev_iconst (v := (-1)) d_M_loan_61 rfl ?_
      exact xEv.to (ev_iret d_M_loan_62 rfl) (by grind [upd, va_up, xbi])
    · refine ev_aload_n d_M_loan_21 rfl ?_
      refine ev_get d_M_loan_22 f_8_105 (mM_obj ok) rfl ?_
      refine ev_bipush (v := 20) d_M_loan_25 rfl ?_
      refine ev_icmp_ge (t := 34) d_M_loan_27 (by decide) (fun c_27_3 => ?_) (fun c_27_3 => ?_)
      · refine ev_iconst (v := 0) d_M_loan_34 rfl ?_
        exact hk_2 _ (by rw [xbi_f (by grind)])
      · refine ev_iconst (v := 1) d_M_loan_30 rfl ?_
        refine ev_goto (t := 35) d_M_loan_31 (by decide) ?_
        exact hk_2 _ (by rw [xbi_t (by grind)])
  · refine ev_aload_n d_M_loan_1 rfl ?_
    refine ev_iload_n d_M_loan_2 rfl ?_
    refine ev_v1r d_M_loan_3 q_8_146 rfl (mM_obj ok) ⟨rfl, Nat.le_of_ble_eq_true rfl, Nat.le_of_ble_eq_true rfl⟩ (c_M_isContract ok _) ?_
    refine ev_if_eq (t := 20) d_M_loan_6 (by decide) (fun c_6_4 => ?_) (fun c_6_4 => ?_)
    · refine ev_iconst (v := 0) d_M_loan_20 rfl ?_
      exact hk_1 _ (by grind [xbi])
    · refine ev_iload_n d_M_loan_9 rfl ?_
      refine ev_s1r d_M_loan_10 q_8_173 rfl ⟨rfl, Nat.le_of_ble_eq_true rfl, Nat.le_of_ble_eq_true rfl⟩ (c_M_isThing _) ?_
      refine ev_if_eq (t := 20) d_M_loan_13 (by decide) (fun c_13_5 => ?_) (fun c_13_5 => ?_)
      · refine ev_iconst (v := 0) d_M_loan_20 rfl ?_
        exact hk_1 _ (by grind [xbi])
      · refine ev_iconst (v := 1) d_M_loan_16 rfl ?_
        refine ev_goto (t := 21) d_M_loan_17 (by decide) ?_
        exact hk_1 _ (by grind [xbi])
set_option maxRecDepth 20000 in
theorem c_M_loan_ok {d : Nat} {B : xMm} {ad : Nat → Nat} {ix : Nat → Option Nat} {iv : Nat → Int32} {av : Nat → Nat → Int32} {ns : Nat × Nat} (ok : mOk ad ix) (c t f u : Int32) (ln : Nat) (hln : ln ≤ 20) (hi : iv 23 = nI ln) (h : mgo (xbi ((0 ≤ c ∧ c < iv 3) ∧ 0 ≤ t ∧ t < 16)) (xbi (iv 23 < 20)) (xbi (0 ≤ f ∧ f ≤ u ∧ u ≤ 100000)) = 0) (ho : anyF (mOut av t f u (-1)) ln 0 = false) : xCl (d + 1) k_M_loan [.ref (ad 0), .int c, .int t, .int f, .int u] (mM B ad ix iv av, ns) (.inl (some (.int (nI ln))), (mM B ad ix (upd (upd iv 0 0) 23 (nI (ln + 1))) (va_up (va_up (va_up (va_up av 24 (upd (av 24) ln c)) 25 (upd (av 25) ln t)) 26 (upd (av 26) ln f)) 27 (upd (av 27) ln u)), ns)) := by
  have hl20 : ln < 20 := by
    have h9 : iv 23 < 20 := by grind [mgo, xbi]
    rw [hi] at h9
    exact (nI_ltI (a := ln) (b := 20) (by omega) (by decide)).mp h9
  have h0ln : 0 ≤ nI ln := nI_pos' (by omega)
  have eln : (nI ln).toNatClampNeg = ln := nI_clamp (by omega)
  have es : nI (ln + 1) = nI ln + 1 := nI_succ ln
  have ep : nI ln + 1 - 1 = nI ln := by rw [← es]; exact nI_pred ln
  show xEv _ k_M_loan 0 [some (.ref (ad 0)), some (.int c), some (.int t), some (.int f), some (.int u)] [] _ _
  refine ev_aload_n d_M_loan_0 rfl ?_
  refine ev_cutv (E := 21) (V := xbi ((0 ≤ c ∧ c < iv 3) ∧ 0 ≤ t ∧ t < 16)) ?_ (fun hk_1 => ?_)
  · refine ev_cutv (E := 35) (V := xbi (iv 23 < 20)) ?_ (fun hk_2 => ?_)
    · refine ev_iload_n d_M_loan_35 rfl ?_
      refine ev_iload d_M_loan_36 rfl ?_
      refine ev_s2r d_M_loan_38 q_8_176 rfl ⟨rfl, Nat.le_of_ble_eq_true rfl, Nat.le_of_ble_eq_true rfl⟩ (c_M_areDays _ _) ?_
      refine ev_v3r d_M_loan_41 q_8_116 rfl (mM_obj ok) ⟨rfl, Nat.le_of_ble_eq_true rfl, Nat.le_of_ble_eq_true rfl⟩ (c_M_goes ok _ _ _) ?_
      refine ev_if_ne (t := 49) d_M_loan_44 (by decide) (fun _ => ?_) (fun c_44 => absurd c_44 (by rw [h]; decide))
      refine ev_aload_n d_M_loan_49 rfl ?_
      refine ev_iload_n d_M_loan_50 rfl ?_
      refine ev_iload_n d_M_loan_51 rfl ?_
      refine ev_iload d_M_loan_52 rfl ?_
      refine ev_iconst (v := (-1)) d_M_loan_54 rfl ?_
      refine ev_v4r d_M_loan_55 q_8_180 rfl (mM_obj ok) ⟨rfl, Nat.le_of_ble_eq_true rfl, Nat.le_of_ble_eq_true rfl⟩ (c_M_isOut ok _ _ _ _ ln hln (by grind [upd])) ?_
      refine ev_if_eq (t := 63) d_M_loan_58 (by decide) (fun _ => ?_) (fun c_58 => absurd (by rw [ho]; rfl) c_58)
      refine ev_aload_n d_M_loan_63 rfl ?_
      refine ev_get d_M_loan_64 f_8_64 (mM_obj ok) rfl ?_
      refine ev_aload_n d_M_loan_67 rfl ?_
      refine ev_get d_M_loan_68 f_8_105 (mM_obj ok) rfl ?_
      refine ev_iload_n d_M_loan_71 rfl ?_
      refine ev_iast d_M_loan_72 (mM_arr ok 24 rfl) ⟨rfl, (by rw [show upd iv 0 _ 23 = nI ln from by grind [upd]]; exact vp_in_nI (N := 20) (by omega) (by decide))⟩ (mM_ast ok 24 rfl) ?_
      refine ev_aload_n d_M_loan_73 rfl ?_
      refine ev_get d_M_loan_74 f_8_67 (mM_obj ok) rfl ?_
      refine ev_aload_n d_M_loan_77 rfl ?_
      refine ev_get d_M_loan_78 f_8_105 (mM_obj ok) rfl ?_
      refine ev_iload_n d_M_loan_81 rfl ?_
      refine ev_iast d_M_loan_82 (mM_arr ok 25 rfl) ⟨rfl, (by rw [show upd iv 0 _ 23 = nI ln from by grind [upd]]; exact vp_in_nI (N := 20) (by omega) (by decide))⟩ (mM_ast ok 25 rfl) ?_
      refine ev_aload_n d_M_loan_83 rfl ?_
      refine ev_get d_M_loan_84 f_8_70 (mM_obj ok) rfl ?_
      refine ev_aload_n d_M_loan_87 rfl ?_
      refine ev_get d_M_loan_88 f_8_105 (mM_obj ok) rfl ?_
      refine ev_iload_n d_M_loan_91 rfl ?_
      refine ev_iast d_M_loan_92 (mM_arr ok 26 rfl) ⟨rfl, (by rw [show upd iv 0 _ 23 = nI ln from by grind [upd]]; exact vp_in_nI (N := 20) (by omega) (by decide))⟩ (mM_ast ok 26 rfl) ?_
      refine ev_aload_n d_M_loan_93 rfl ?_
      refine ev_get d_M_loan_94 f_8_73 (mM_obj ok) rfl ?_
      refine ev_aload_n d_M_loan_97 rfl ?_
      refine ev_get d_M_loan_98 f_8_105 (mM_obj ok) rfl ?_
      refine ev_iload d_M_loan_101 rfl ?_
      refine ev_iast d_M_loan_103 (mM_arr ok 27 rfl) ⟨rfl, (by rw [show upd iv 0 _ 23 = nI ln from by grind [upd]]; exact vp_in_nI (N := 20) (by omega) (by decide))⟩ (mM_ast ok 27 rfl) ?_
      refine ev_aload_n d_M_loan_104 rfl ?_
      refine ev_dup d_M_loan_105 rfl ?_
      refine ev_get d_M_loan_106 f_8_105 (mM_obj ok) rfl ?_
      refine ev_iconst (v := 1) d_M_loan_109 rfl ?_
      refine ev_iadd d_M_loan_110 ?_
      refine ev_put d_M_loan_111 f_8_105 (mM_obj ok) ⟨Nat.le_of_ble_eq_true rfl, xfit_i rfl, Or.inl rfl⟩ (mM_put ok rfl) ?_
      refine ev_aload_n d_M_loan_114 rfl ?_
      refine ev_get d_M_loan_115 f_8_105 (mM_obj ok) rfl ?_
      refine ev_iconst (v := 1) d_M_loan_118 rfl ?_
      refine ev_isub d_M_loan_119 ?_
      exact xEv.to (ev_iret d_M_loan_120 rfl) (by grind [upd, va_up, xbi])
    · refine ev_aload_n d_M_loan_21 rfl ?_
      refine ev_get d_M_loan_22 f_8_105 (mM_obj ok) rfl ?_
      refine ev_bipush (v := 20) d_M_loan_25 rfl ?_
      refine ev_icmp_ge (t := 34) d_M_loan_27 (by decide) (fun c_27_3 => ?_) (fun c_27_3 => ?_)
      · refine ev_iconst (v := 0) d_M_loan_34 rfl ?_
        exact hk_2 _ (by rw [xbi_f (by grind)])
      · refine ev_iconst (v := 1) d_M_loan_30 rfl ?_
        refine ev_goto (t := 35) d_M_loan_31 (by decide) ?_
        exact hk_2 _ (by rw [xbi_t (by grind)])
  · refine ev_aload_n d_M_loan_1 rfl ?_
    refine ev_iload_n d_M_loan_2 rfl ?_
    refine ev_v1r d_M_loan_3 q_8_146 rfl (mM_obj ok) ⟨rfl, Nat.le_of_ble_eq_true rfl, Nat.le_of_ble_eq_true rfl⟩ (c_M_isContract ok _) ?_
    refine ev_if_eq (t := 20) d_M_loan_6 (by decide) (fun c_6_4 => ?_) (fun c_6_4 => ?_)
    · refine ev_iconst (v := 0) d_M_loan_20 rfl ?_
      exact hk_1 _ (by grind [xbi])
    · refine ev_iload_n d_M_loan_9 rfl ?_
      refine ev_s1r d_M_loan_10 q_8_173 rfl ⟨rfl, Nat.le_of_ble_eq_true rfl, Nat.le_of_ble_eq_true rfl⟩ (c_M_isThing _) ?_
      refine ev_if_eq (t := 20) d_M_loan_13 (by decide) (fun c_13_5 => ?_) (fun c_13_5 => ?_)
      · refine ev_iconst (v := 0) d_M_loan_20 rfl ?_
        exact hk_1 _ (by grind [xbi])
      · refine ev_iconst (v := 1) d_M_loan_16 rfl ?_
        refine ev_goto (t := 21) d_M_loan_17 (by decide) ?_
        exact hk_1 _ (by grind [xbi])
set_option maxRecDepth 20000 in
theorem c_M_extend_no {d : Nat} {B : xMm} {ad : Nat → Nat} {ix : Nat → Option Nat} {iv : Nat → Int32} {av : Nat → Nat → Int32} {ns : Nat × Nat} (ok : mOk ad ix) (l u y : Int32) (h : mgo (xbi (0 ≤ l ∧ l < iv 23)) (xbi ((0 ≤ u ∧ u ≤ 100000) ∧ 0 ≤ y ∧ y ≤ 100000)) 1 ≠ 0) : xCl (d + 1) k_M_extend [.ref (ad 0), .int l, .int u, .int y] (mM B ad ix iv av, ns) (.inl (some (.int 0)), (mM B ad ix (upd iv 0 (mgo (xbi (0 ≤ l ∧ l < iv 23)) (xbi ((0 ≤ u ∧ u ≤ 100000) ∧ 0 ≤ y ∧ y ≤ 100000)) 1)) (av), ns)) := by
  show xEv _ k_M_extend 0 [some (.ref (ad 0)), some (.int l), some (.int u), some (.int y)] [] _ _
  refine ev_aload_n d_M_extend_0 rfl ?_
  refine ev_aload_n d_M_extend_1 rfl ?_
  refine ev_iload_n d_M_extend_2 rfl ?_
  refine ev_v1r d_M_extend_3 q_8_184 rfl (mM_obj ok) ⟨rfl, Nat.le_of_ble_eq_true rfl, Nat.le_of_ble_eq_true rfl⟩ (c_M_isLoan ok _) ?_
  refine ev_cutv (E := 31) (V := xbi ((0 ≤ u ∧ u ≤ 100000) ∧ 0 ≤ y ∧ y ≤ 100000)) ?_ (fun hk_1 => ?_)
  · refine ev_iconst (v := 1) d_M_extend_31 rfl ?_
    refine ev_v3r d_M_extend_32 q_8_116 rfl (mM_obj ok) ⟨rfl, Nat.le_of_ble_eq_true rfl, Nat.le_of_ble_eq_true rfl⟩ (c_M_goes ok _ _ _) ?_
    refine ev_if_ne (t := 40) d_M_extend_35 (by decide) (fun c_35 => absurd (xbi_f h) c_35) (fun _ => ?_)
    refine ev_iconst (v := 0) d_M_extend_38 rfl ?_
    exact xEv.to (ev_iret d_M_extend_39 rfl) (by grind [upd, va_up, xbi])
  · refine ev_iload_n d_M_extend_6 rfl ?_
    refine ev_iconst (v := 0) d_M_extend_7 rfl ?_
    refine ev_ldc d_M_extend_8 l_8_108 ?_
    refine ev_s3r d_M_extend_10 q_8_112 rfl ⟨rfl, Nat.le_of_ble_eq_true rfl, Nat.le_of_ble_eq_true rfl⟩ (c_M_within _ _ _) ?_
    refine ev_if_eq (t := 30) d_M_extend_13 (by decide) (fun c_13_2 => ?_) (fun c_13_2 => ?_)
    · refine ev_iconst (v := 0) d_M_extend_30 rfl ?_
      exact hk_1 _ (by grind [xbi])
    · refine ev_iload_n d_M_extend_16 rfl ?_
      refine ev_iconst (v := 0) d_M_extend_17 rfl ?_
      refine ev_ldc d_M_extend_18 l_8_108 ?_
      refine ev_s3r d_M_extend_20 q_8_112 rfl ⟨rfl, Nat.le_of_ble_eq_true rfl, Nat.le_of_ble_eq_true rfl⟩ (c_M_within _ _ _) ?_
      refine ev_if_eq (t := 30) d_M_extend_23 (by decide) (fun c_23_3 => ?_) (fun c_23_3 => ?_)
      · refine ev_iconst (v := 0) d_M_extend_30 rfl ?_
        exact hk_1 _ (by grind [xbi])
      · refine ev_iconst (v := 1) d_M_extend_26 rfl ?_
        refine ev_goto (t := 31) d_M_extend_27 (by decide) ?_
        exact hk_1 _ (by grind [xbi])
set_option maxRecDepth 20000 in
theorem c_M_extend_1 {d : Nat} {B : xMm} {ad : Nat → Nat} {ix : Nat → Option Nat} {iv : Nat → Int32} {av : Nat → Nat → Int32} {ns : Nat × Nat} (ok : mOk ad ix) (u y : Int32) (l : Nat) (hlt : l < 2 ^ 31) (ln : Nat) (hln : ln ≤ 20) (hi : iv 23 = nI ln) (h : mgo (xbi (0 ≤ nI l ∧ nI l < iv 23)) (xbi ((0 ≤ u ∧ u ≤ 100000) ∧ 0 ≤ y ∧ y ≤ 100000)) 1 = 0) (h1 : av 27 l < y) : xCl (d + 1) k_M_extend [.ref (ad 0), .int (nI l), .int u, .int y] (mM B ad ix iv av, ns) (.inl (some (.int 1)), (mM B ad ix (upd iv 0 0) (av), ns)) := by
  have h0l : 0 ≤ nI l := nI_pos' (by omega)
  have el : (nI l).toNatClampNeg = l := nI_clamp (by omega)
  have hl20 : l < 20 := by
    have h9 : nI l < iv 23 := by grind [mgo, xbi]
    rw [hi] at h9
    have := (nI_ltI (a := l) (b := ln) (by omega) (by omega)).mp h9
    omega
  show xEv _ k_M_extend 0 [some (.ref (ad 0)), some (.int (nI l)), some (.int u), some (.int y)] [] _ _
  refine ev_aload_n d_M_extend_0 rfl ?_
  refine ev_aload_n d_M_extend_1 rfl ?_
  refine ev_iload_n d_M_extend_2 rfl ?_
  refine ev_v1r d_M_extend_3 q_8_184 rfl (mM_obj ok) ⟨rfl, Nat.le_of_ble_eq_true rfl, Nat.le_of_ble_eq_true rfl⟩ (c_M_isLoan ok _) ?_
  refine ev_cutv (E := 31) (V := xbi ((0 ≤ u ∧ u ≤ 100000) ∧ 0 ≤ y ∧ y ≤ 100000)) ?_ (fun hk_1 => ?_)
  · refine ev_iconst (v := 1) d_M_extend_31 rfl ?_
    refine ev_v3r d_M_extend_32 q_8_116 rfl (mM_obj ok) ⟨rfl, Nat.le_of_ble_eq_true rfl, Nat.le_of_ble_eq_true rfl⟩ (c_M_goes ok _ _ _) ?_
    refine ev_if_ne (t := 40) d_M_extend_35 (by decide) (fun _ => ?_) (fun c_35 => absurd c_35 (by rw [h]; decide))
    refine ev_iload_n d_M_extend_40 rfl ?_
    refine ev_aload_n d_M_extend_41 rfl ?_
    refine ev_get d_M_extend_42 f_8_73 (mM_obj ok) rfl ?_
    refine ev_iload_n d_M_extend_45 rfl ?_
    refine ev_iald d_M_extend_46 (mM_arr ok 27 rfl) ⟨rfl, vp_in_nI (N := 20) (by omega) (by decide)⟩ rfl ?_
    refine ev_icmp_le (t := 52) d_M_extend_47 (by decide) (fun c_47 => absurd c_47 (by grind)) (fun _ => ?_)
    refine ev_iconst (v := 1) d_M_extend_50 rfl ?_
    exact xEv.to (ev_iret d_M_extend_51 rfl) (by grind [upd, va_up, xbi])
  · refine ev_iload_n d_M_extend_6 rfl ?_
    refine ev_iconst (v := 0) d_M_extend_7 rfl ?_
    refine ev_ldc d_M_extend_8 l_8_108 ?_
    refine ev_s3r d_M_extend_10 q_8_112 rfl ⟨rfl, Nat.le_of_ble_eq_true rfl, Nat.le_of_ble_eq_true rfl⟩ (c_M_within _ _ _) ?_
    refine ev_if_eq (t := 30) d_M_extend_13 (by decide) (fun c_13_2 => ?_) (fun c_13_2 => ?_)
    · refine ev_iconst (v := 0) d_M_extend_30 rfl ?_
      exact hk_1 _ (by grind [xbi])
    · refine ev_iload_n d_M_extend_16 rfl ?_
      refine ev_iconst (v := 0) d_M_extend_17 rfl ?_
      refine ev_ldc d_M_extend_18 l_8_108 ?_
      refine ev_s3r d_M_extend_20 q_8_112 rfl ⟨rfl, Nat.le_of_ble_eq_true rfl, Nat.le_of_ble_eq_true rfl⟩ (c_M_within _ _ _) ?_
      refine ev_if_eq (t := 30) d_M_extend_23 (by decide) (fun c_23_3 => ?_) (fun c_23_3 => ?_)
      · refine ev_iconst (v := 0) d_M_extend_30 rfl ?_
        exact hk_1 _ (by grind [xbi])
      · refine ev_iconst (v := 1) d_M_extend_26 rfl ?_
        refine ev_goto (t := 31) d_M_extend_27 (by decide) ?_
        exact hk_1 _ (by grind [xbi])
set_option maxRecDepth 20000 in
theorem c_M_extend_2 {d : Nat} {B : xMm} {ad : Nat → Nat} {ix : Nat → Option Nat} {iv : Nat → Int32} {av : Nat → Nat → Int32} {ns : Nat × Nat} (ok : mOk ad ix) (u y : Int32) (l : Nat) (hlt : l < 2 ^ 31) (ln : Nat) (hln : ln ≤ 20) (hi : iv 23 = nI ln) (h : mgo (xbi (0 ≤ nI l ∧ nI l < iv 23)) (xbi ((0 ≤ u ∧ u ≤ 100000) ∧ 0 ≤ y ∧ y ≤ 100000)) 1 = 0) (h1 : ¬ av 27 l < y) (h2 : u ≤ av 27 l) : xCl (d + 1) k_M_extend [.ref (ad 0), .int (nI l), .int u, .int y] (mM B ad ix iv av, ns) (.inl (some (.int 2)), (mM B ad ix (upd iv 0 0) (av), ns)) := by
  have h0l : 0 ≤ nI l := nI_pos' (by omega)
  have el : (nI l).toNatClampNeg = l := nI_clamp (by omega)
  have hl20 : l < 20 := by
    have h9 : nI l < iv 23 := by grind [mgo, xbi]
    rw [hi] at h9
    have := (nI_ltI (a := l) (b := ln) (by omega) (by omega)).mp h9
    omega
  show xEv _ k_M_extend 0 [some (.ref (ad 0)), some (.int (nI l)), some (.int u), some (.int y)] [] _ _
  refine ev_aload_n d_M_extend_0 rfl ?_
  refine ev_aload_n d_M_extend_1 rfl ?_
  refine ev_iload_n d_M_extend_2 rfl ?_
  refine ev_v1r d_M_extend_3 q_8_184 rfl (mM_obj ok) ⟨rfl, Nat.le_of_ble_eq_true rfl, Nat.le_of_ble_eq_true rfl⟩ (c_M_isLoan ok _) ?_
  refine ev_cutv (E := 31) (V := xbi ((0 ≤ u ∧ u ≤ 100000) ∧ 0 ≤ y ∧ y ≤ 100000)) ?_ (fun hk_1 => ?_)
  · refine ev_iconst (v := 1) d_M_extend_31 rfl ?_
    refine ev_v3r d_M_extend_32 q_8_116 rfl (mM_obj ok) ⟨rfl, Nat.le_of_ble_eq_true rfl, Nat.le_of_ble_eq_true rfl⟩ (c_M_goes ok _ _ _) ?_
    refine ev_if_ne (t := 40) d_M_extend_35 (by decide) (fun _ => ?_) (fun c_35 => absurd c_35 (by rw [h]; decide))
    refine ev_iload_n d_M_extend_40 rfl ?_
    refine ev_aload_n d_M_extend_41 rfl ?_
    refine ev_get d_M_extend_42 f_8_73 (mM_obj ok) rfl ?_
    refine ev_iload_n d_M_extend_45 rfl ?_
    refine ev_iald d_M_extend_46 (mM_arr ok 27 rfl) ⟨rfl, vp_in_nI (N := 20) (by omega) (by decide)⟩ rfl ?_
    refine ev_icmp_le (t := 52) d_M_extend_47 (by decide) (fun _ => ?_) (fun c_47 => absurd (by grind) c_47)
    refine ev_iload_n d_M_extend_52 rfl ?_
    refine ev_aload_n d_M_extend_53 rfl ?_
    refine ev_get d_M_extend_54 f_8_73 (mM_obj ok) rfl ?_
    refine ev_iload_n d_M_extend_57 rfl ?_
    refine ev_iald d_M_extend_58 (mM_arr ok 27 rfl) ⟨rfl, vp_in_nI (N := 20) (by omega) (by decide)⟩ rfl ?_
    refine ev_icmp_gt (t := 64) d_M_extend_59 (by decide) (fun c_59 => absurd c_59 (by grind)) (fun _ => ?_)
    refine ev_iconst (v := 2) d_M_extend_62 rfl ?_
    exact xEv.to (ev_iret d_M_extend_63 rfl) (by grind [upd, va_up, xbi])
  · refine ev_iload_n d_M_extend_6 rfl ?_
    refine ev_iconst (v := 0) d_M_extend_7 rfl ?_
    refine ev_ldc d_M_extend_8 l_8_108 ?_
    refine ev_s3r d_M_extend_10 q_8_112 rfl ⟨rfl, Nat.le_of_ble_eq_true rfl, Nat.le_of_ble_eq_true rfl⟩ (c_M_within _ _ _) ?_
    refine ev_if_eq (t := 30) d_M_extend_13 (by decide) (fun c_13_2 => ?_) (fun c_13_2 => ?_)
    · refine ev_iconst (v := 0) d_M_extend_30 rfl ?_
      exact hk_1 _ (by grind [xbi])
    · refine ev_iload_n d_M_extend_16 rfl ?_
      refine ev_iconst (v := 0) d_M_extend_17 rfl ?_
      refine ev_ldc d_M_extend_18 l_8_108 ?_
      refine ev_s3r d_M_extend_20 q_8_112 rfl ⟨rfl, Nat.le_of_ble_eq_true rfl, Nat.le_of_ble_eq_true rfl⟩ (c_M_within _ _ _) ?_
      refine ev_if_eq (t := 30) d_M_extend_23 (by decide) (fun c_23_3 => ?_) (fun c_23_3 => ?_)
      · refine ev_iconst (v := 0) d_M_extend_30 rfl ?_
        exact hk_1 _ (by grind [xbi])
      · refine ev_iconst (v := 1) d_M_extend_26 rfl ?_
        refine ev_goto (t := 31) d_M_extend_27 (by decide) ?_
        exact hk_1 _ (by grind [xbi])
set_option maxRecDepth 20000 in
theorem c_M_extend_3 {d : Nat} {B : xMm} {ad : Nat → Nat} {ix : Nat → Option Nat} {iv : Nat → Int32} {av : Nat → Nat → Int32} {ns : Nat × Nat} (ok : mOk ad ix) (u y : Int32) (l : Nat) (hlt : l < 2 ^ 31) (ln : Nat) (hln : ln ≤ 20) (hi : iv 23 = nI ln) (h : mgo (xbi (0 ≤ nI l ∧ nI l < iv 23)) (xbi ((0 ≤ u ∧ u ≤ 100000) ∧ 0 ≤ y ∧ y ≤ 100000)) 1 = 0) (h1 : ¬ av 27 l < y) (h2 : ¬ u ≤ av 27 l) (h3 : anyF (mOut av (av 25 l) (av 26 l) u (nI l)) ln 0 = true) : xCl (d + 1) k_M_extend [.ref (ad 0), .int (nI l), .int u, .int y] (mM B ad ix iv av, ns) (.inl (some (.int 3)), (mM B ad ix (upd iv 0 0) (av), ns)) := by
  have h0l : 0 ≤ nI l := nI_pos' (by omega)
  have el : (nI l).toNatClampNeg = l := nI_clamp (by omega)
  have hl20 : l < 20 := by
    have h9 : nI l < iv 23 := by grind [mgo, xbi]
    rw [hi] at h9
    have := (nI_ltI (a := l) (b := ln) (by omega) (by omega)).mp h9
    omega
  show xEv _ k_M_extend 0 [some (.ref (ad 0)), some (.int (nI l)), some (.int u), some (.int y)] [] _ _
  refine ev_aload_n d_M_extend_0 rfl ?_
  refine ev_aload_n d_M_extend_1 rfl ?_
  refine ev_iload_n d_M_extend_2 rfl ?_
  refine ev_v1r d_M_extend_3 q_8_184 rfl (mM_obj ok) ⟨rfl, Nat.le_of_ble_eq_true rfl, Nat.le_of_ble_eq_true rfl⟩ (c_M_isLoan ok _) ?_
  refine ev_cutv (E := 31) (V := xbi ((0 ≤ u ∧ u ≤ 100000) ∧ 0 ≤ y ∧ y ≤ 100000)) ?_ (fun hk_1 => ?_)
  · refine ev_iconst (v := 1) d_M_extend_31 rfl ?_
    refine ev_v3r d_M_extend_32 q_8_116 rfl (mM_obj ok) ⟨rfl, Nat.le_of_ble_eq_true rfl, Nat.le_of_ble_eq_true rfl⟩ (c_M_goes ok _ _ _) ?_
    refine ev_if_ne (t := 40) d_M_extend_35 (by decide) (fun _ => ?_) (fun c_35 => absurd c_35 (by rw [h]; decide))
    refine ev_iload_n d_M_extend_40 rfl ?_
    refine ev_aload_n d_M_extend_41 rfl ?_
    refine ev_get d_M_extend_42 f_8_73 (mM_obj ok) rfl ?_
    refine ev_iload_n d_M_extend_45 rfl ?_
    refine ev_iald d_M_extend_46 (mM_arr ok 27 rfl) ⟨rfl, vp_in_nI (N := 20) (by omega) (by decide)⟩ rfl ?_
    refine ev_icmp_le (t := 52) d_M_extend_47 (by decide) (fun _ => ?_) (fun c_47 => absurd (by grind) c_47)
    refine ev_iload_n d_M_extend_52 rfl ?_
    refine ev_aload_n d_M_extend_53 rfl ?_
    refine ev_get d_M_extend_54 f_8_73 (mM_obj ok) rfl ?_
    refine ev_iload_n d_M_extend_57 rfl ?_
    refine ev_iald d_M_extend_58 (mM_arr ok 27 rfl) ⟨rfl, vp_in_nI (N := 20) (by omega) (by decide)⟩ rfl ?_
    refine ev_icmp_gt (t := 64) d_M_extend_59 (by decide) (fun _ => ?_) (fun c_59 => absurd (by grind) c_59)
    refine ev_aload_n d_M_extend_64 rfl ?_
    refine ev_aload_n d_M_extend_65 rfl ?_
    refine ev_get d_M_extend_66 f_8_67 (mM_obj ok) rfl ?_
    refine ev_iload_n d_M_extend_69 rfl ?_
    refine ev_iald d_M_extend_70 (mM_arr ok 25 rfl) ⟨rfl, vp_in_nI (N := 20) (by omega) (by decide)⟩ rfl ?_
    refine ev_aload_n d_M_extend_71 rfl ?_
    refine ev_get d_M_extend_72 f_8_70 (mM_obj ok) rfl ?_
    refine ev_iload_n d_M_extend_75 rfl ?_
    refine ev_iald d_M_extend_76 (mM_arr ok 26 rfl) ⟨rfl, vp_in_nI (N := 20) (by omega) (by decide)⟩ rfl ?_
    refine ev_iload_n d_M_extend_77 rfl ?_
    refine ev_iload_n d_M_extend_78 rfl ?_
    rw [el]
    refine ev_v4r d_M_extend_79 q_8_180 rfl (mM_obj ok) ⟨rfl, Nat.le_of_ble_eq_true rfl, Nat.le_of_ble_eq_true rfl⟩ (c_M_isOut ok _ _ _ _ ln hln (by grind [upd])) ?_
    refine ev_if_eq (t := 87) d_M_extend_82 (by decide) (fun c_82 => absurd c_82 (by rw [h3]; decide)) (fun _ => ?_)
    refine ev_iconst (v := 3) d_M_extend_85 rfl ?_
    exact xEv.to (ev_iret d_M_extend_86 rfl) (by grind [upd, va_up, xbi])
  · refine ev_iload_n d_M_extend_6 rfl ?_
    refine ev_iconst (v := 0) d_M_extend_7 rfl ?_
    refine ev_ldc d_M_extend_8 l_8_108 ?_
    refine ev_s3r d_M_extend_10 q_8_112 rfl ⟨rfl, Nat.le_of_ble_eq_true rfl, Nat.le_of_ble_eq_true rfl⟩ (c_M_within _ _ _) ?_
    refine ev_if_eq (t := 30) d_M_extend_13 (by decide) (fun c_13_2 => ?_) (fun c_13_2 => ?_)
    · refine ev_iconst (v := 0) d_M_extend_30 rfl ?_
      exact hk_1 _ (by grind [xbi])
    · refine ev_iload_n d_M_extend_16 rfl ?_
      refine ev_iconst (v := 0) d_M_extend_17 rfl ?_
      refine ev_ldc d_M_extend_18 l_8_108 ?_
      refine ev_s3r d_M_extend_20 q_8_112 rfl ⟨rfl, Nat.le_of_ble_eq_true rfl, Nat.le_of_ble_eq_true rfl⟩ (c_M_within _ _ _) ?_
      refine ev_if_eq (t := 30) d_M_extend_23 (by decide) (fun c_23_3 => ?_) (fun c_23_3 => ?_)
      · refine ev_iconst (v := 0) d_M_extend_30 rfl ?_
        exact hk_1 _ (by grind [xbi])
      · refine ev_iconst (v := 1) d_M_extend_26 rfl ?_
        refine ev_goto (t := 31) d_M_extend_27 (by decide) ?_
        exact hk_1 _ (by grind [xbi])
set_option maxRecDepth 20000 in
theorem c_M_extend_ok {d : Nat} {B : xMm} {ad : Nat → Nat} {ix : Nat → Option Nat} {iv : Nat → Int32} {av : Nat → Nat → Int32} {ns : Nat × Nat} (ok : mOk ad ix) (u y : Int32) (l : Nat) (hlt : l < 2 ^ 31) (ln : Nat) (hln : ln ≤ 20) (hi : iv 23 = nI ln) (h : mgo (xbi (0 ≤ nI l ∧ nI l < iv 23)) (xbi ((0 ≤ u ∧ u ≤ 100000) ∧ 0 ≤ y ∧ y ≤ 100000)) 1 = 0) (h1 : ¬ av 27 l < y) (h2 : ¬ u ≤ av 27 l) (h3 : anyF (mOut av (av 25 l) (av 26 l) u (nI l)) ln 0 = false) : xCl (d + 1) k_M_extend [.ref (ad 0), .int (nI l), .int u, .int y] (mM B ad ix iv av, ns) (.inl (some (.int 0)), (mM B ad ix (upd iv 0 0) (va_up av 27 (upd (av 27) l u)), ns)) := by
  have h0l : 0 ≤ nI l := nI_pos' (by omega)
  have el : (nI l).toNatClampNeg = l := nI_clamp (by omega)
  have hl20 : l < 20 := by
    have h9 : nI l < iv 23 := by grind [mgo, xbi]
    rw [hi] at h9
    have := (nI_ltI (a := l) (b := ln) (by omega) (by omega)).mp h9
    omega
  show xEv _ k_M_extend 0 [some (.ref (ad 0)), some (.int (nI l)), some (.int u), some (.int y)] [] _ _
  refine ev_aload_n d_M_extend_0 rfl ?_
  refine ev_aload_n d_M_extend_1 rfl ?_
  refine ev_iload_n d_M_extend_2 rfl ?_
  refine ev_v1r d_M_extend_3 q_8_184 rfl (mM_obj ok) ⟨rfl, Nat.le_of_ble_eq_true rfl, Nat.le_of_ble_eq_true rfl⟩ (c_M_isLoan ok _) ?_
  refine ev_cutv (E := 31) (V := xbi ((0 ≤ u ∧ u ≤ 100000) ∧ 0 ≤ y ∧ y ≤ 100000)) ?_ (fun hk_1 => ?_)
  · refine ev_iconst (v := 1) d_M_extend_31 rfl ?_
    refine ev_v3r d_M_extend_32 q_8_116 rfl (mM_obj ok) ⟨rfl, Nat.le_of_ble_eq_true rfl, Nat.le_of_ble_eq_true rfl⟩ (c_M_goes ok _ _ _) ?_
    refine ev_if_ne (t := 40) d_M_extend_35 (by decide) (fun _ => ?_) (fun c_35 => absurd c_35 (by rw [h]; decide))
    refine ev_iload_n d_M_extend_40 rfl ?_
    refine ev_aload_n d_M_extend_41 rfl ?_
    refine ev_get d_M_extend_42 f_8_73 (mM_obj ok) rfl ?_
    refine ev_iload_n d_M_extend_45 rfl ?_
    refine ev_iald d_M_extend_46 (mM_arr ok 27 rfl) ⟨rfl, vp_in_nI (N := 20) (by omega) (by decide)⟩ rfl ?_
    refine ev_icmp_le (t := 52) d_M_extend_47 (by decide) (fun _ => ?_) (fun c_47 => absurd (by grind) c_47)
    refine ev_iload_n d_M_extend_52 rfl ?_
    refine ev_aload_n d_M_extend_53 rfl ?_
    refine ev_get d_M_extend_54 f_8_73 (mM_obj ok) rfl ?_
    refine ev_iload_n d_M_extend_57 rfl ?_
    refine ev_iald d_M_extend_58 (mM_arr ok 27 rfl) ⟨rfl, vp_in_nI (N := 20) (by omega) (by decide)⟩ rfl ?_
    refine ev_icmp_gt (t := 64) d_M_extend_59 (by decide) (fun _ => ?_) (fun c_59 => absurd (by grind) c_59)
    refine ev_aload_n d_M_extend_64 rfl ?_
    refine ev_aload_n d_M_extend_65 rfl ?_
    refine ev_get d_M_extend_66 f_8_67 (mM_obj ok) rfl ?_
    refine ev_iload_n d_M_extend_69 rfl ?_
    refine ev_iald d_M_extend_70 (mM_arr ok 25 rfl) ⟨rfl, vp_in_nI (N := 20) (by omega) (by decide)⟩ rfl ?_
    refine ev_aload_n d_M_extend_71 rfl ?_
    refine ev_get d_M_extend_72 f_8_70 (mM_obj ok) rfl ?_
    refine ev_iload_n d_M_extend_75 rfl ?_
    refine ev_iald d_M_extend_76 (mM_arr ok 26 rfl) ⟨rfl, vp_in_nI (N := 20) (by omega) (by decide)⟩ rfl ?_
    refine ev_iload_n d_M_extend_77 rfl ?_
    refine ev_iload_n d_M_extend_78 rfl ?_
    rw [el]
    refine ev_v4r d_M_extend_79 q_8_180 rfl (mM_obj ok) ⟨rfl, Nat.le_of_ble_eq_true rfl, Nat.le_of_ble_eq_true rfl⟩ (c_M_isOut ok _ _ _ _ ln hln (by grind [upd])) ?_
    refine ev_if_eq (t := 87) d_M_extend_82 (by decide) (fun _ => ?_) (fun c_82 => absurd (by rw [h3]; rfl) c_82)
    refine ev_aload_n d_M_extend_87 rfl ?_
    refine ev_get d_M_extend_88 f_8_73 (mM_obj ok) rfl ?_
    refine ev_iload_n d_M_extend_91 rfl ?_
    refine ev_iload_n d_M_extend_92 rfl ?_
    refine ev_iast d_M_extend_93 (mM_arr ok 27 rfl) ⟨rfl, vp_in_nI (N := 20) (by omega) (by decide)⟩ (mM_ast ok 27 rfl) ?_
    refine ev_iconst (v := 0) d_M_extend_94 rfl ?_
    exact xEv.to (ev_iret d_M_extend_95 rfl) (by grind [upd, va_up, xbi])
  · refine ev_iload_n d_M_extend_6 rfl ?_
    refine ev_iconst (v := 0) d_M_extend_7 rfl ?_
    refine ev_ldc d_M_extend_8 l_8_108 ?_
    refine ev_s3r d_M_extend_10 q_8_112 rfl ⟨rfl, Nat.le_of_ble_eq_true rfl, Nat.le_of_ble_eq_true rfl⟩ (c_M_within _ _ _) ?_
    refine ev_if_eq (t := 30) d_M_extend_13 (by decide) (fun c_13_2 => ?_) (fun c_13_2 => ?_)
    · refine ev_iconst (v := 0) d_M_extend_30 rfl ?_
      exact hk_1 _ (by grind [xbi])
    · refine ev_iload_n d_M_extend_16 rfl ?_
      refine ev_iconst (v := 0) d_M_extend_17 rfl ?_
      refine ev_ldc d_M_extend_18 l_8_108 ?_
      refine ev_s3r d_M_extend_20 q_8_112 rfl ⟨rfl, Nat.le_of_ble_eq_true rfl, Nat.le_of_ble_eq_true rfl⟩ (c_M_within _ _ _) ?_
      refine ev_if_eq (t := 30) d_M_extend_23 (by decide) (fun c_23_3 => ?_) (fun c_23_3 => ?_)
      · refine ev_iconst (v := 0) d_M_extend_30 rfl ?_
        exact hk_1 _ (by grind [xbi])
      · refine ev_iconst (v := 1) d_M_extend_26 rfl ?_
        refine ev_goto (t := 31) d_M_extend_27 (by decide) ?_
        exact hk_1 _ (by grind [xbi])
set_option maxRecDepth 20000 in
theorem c_M_told_no1 {d : Nat} {B : xMm} {ad : Nat → Nat} {ix : Nat → Option Nat} {iv : Nat → Int32} {av : Nat → Nat → Int32} {ns : Nat × Nat} (ok : mOk ad ix) (l k w : Int32) (h : ¬ ((0 ≤ l ∧ l < iv 23) ∧ (w = 0 ∨ w = 1) ∧ -1 ≤ k)) : xCl (d + 1) k_M_told [.ref (ad 0), .int l, .int k, .int w] (mM B ad ix iv av, ns) (.inl (some (.int 0)), (mM B ad ix (upd iv 0 1) (av), ns)) := by
  show xEv _ k_M_told 0 [some (.ref (ad 0)), some (.int l), some (.int k), some (.int w), none] [] _ _
  refine ev_cutv (E := 27) (V := 0) ?_ (fun hk_1 => ?_)
  · refine ev_istore (lo1 := [some (.ref (ad 0)), some (.int l), some (.int k), some (.int w), some (.int (0))]) d_M_told_27 (Nat.le_of_ble_eq_true rfl) rfl ?_
    refine ev_aload_n d_M_told_29 rfl ?_
    refine ev_cutv (E := 50) (V := 0) ?_ (fun hk_2 => ?_)
    · refine ev_iconst (v := 1) d_M_told_50 rfl ?_
      refine ev_iconst (v := 1) d_M_told_51 rfl ?_
      refine ev_v3r d_M_told_52 q_8_116 rfl (mM_obj ok) ⟨rfl, Nat.le_of_ble_eq_true rfl, Nat.le_of_ble_eq_true rfl⟩ (c_M_goes ok _ _ _) ?_
      refine ev_if_ne (t := 60) d_M_told_55 (by decide) (fun c_55 => absurd (by decide) c_55) (fun _ => ?_)
      refine ev_iconst (v := 0) d_M_told_58 rfl ?_
      exact xEv.to (ev_iret d_M_told_59 rfl) (by grind [upd, va_up, xbi, mgo])
    · refine ev_iload d_M_told_30 rfl ?_
      refine ev_if_eq (t := 49) d_M_told_32 (by decide) (fun _ => ?_) (fun c_32 => absurd (by grind) c_32)
      refine ev_iconst (v := 0) d_M_told_49 rfl ?_
      exact hk_2 _ (by grind)
  · refine ev_aload_n d_M_told_0 rfl ?_
    refine ev_iload_n d_M_told_1 rfl ?_
    refine ev_v1r d_M_told_2 q_8_184 rfl (mM_obj ok) ⟨rfl, Nat.le_of_ble_eq_true rfl, Nat.le_of_ble_eq_true rfl⟩ (c_M_isLoan ok _) ?_
    refine ev_if_eq (t := 26) d_M_told_5 (by decide) (fun c_5_3 => ?_) (fun c_5_3 => ?_)
    · refine ev_iconst (v := 0) d_M_told_26 rfl ?_
      exact hk_1 _ (by grind [xbi])
    · refine ev_iload_n d_M_told_8 rfl ?_
      refine ev_if_eq (t := 17) d_M_told_9 (by decide) (fun c_9_4 => ?_) (fun c_9_4 => ?_)
      · refine ev_iload_n d_M_told_17 rfl ?_
        refine ev_iconst (v := (-1)) d_M_told_18 rfl ?_
        refine ev_icmp_lt (t := 26) d_M_told_19 (by decide) (fun c_19_5 => ?_) (fun c_19_5 => ?_)
        · refine ev_iconst (v := 0) d_M_told_26 rfl ?_
          exact hk_1 _ (by grind [xbi])
        · refine ev_iconst (v := 1) d_M_told_22 rfl ?_
          refine ev_goto (t := 27) d_M_told_23 (by decide) ?_
          exact hk_1 _ (by grind [xbi])
      · refine ev_iload_n d_M_told_12 rfl ?_
        refine ev_iconst (v := 1) d_M_told_13 rfl ?_
        refine ev_icmp_ne (t := 26) d_M_told_14 (by decide) (fun c_14_6 => ?_) (fun c_14_6 => ?_)
        · refine ev_iconst (v := 0) d_M_told_26 rfl ?_
          exact hk_1 _ (by grind [xbi])
        · refine ev_iload_n d_M_told_17 rfl ?_
          refine ev_iconst (v := (-1)) d_M_told_18 rfl ?_
          refine ev_icmp_lt (t := 26) d_M_told_19 (by decide) (fun c_19_7 => ?_) (fun c_19_7 => ?_)
          · refine ev_iconst (v := 0) d_M_told_26 rfl ?_
            exact hk_1 _ (by grind [xbi])
          · refine ev_iconst (v := 1) d_M_told_22 rfl ?_
            refine ev_goto (t := 27) d_M_told_23 (by decide) ?_
            exact hk_1 _ (by grind [xbi])
set_option maxRecDepth 20000 in
theorem c_M_told_no2 {d : Nat} {B : xMm} {ad : Nat → Nat} {ix : Nat → Option Nat} {iv : Nat → Int32} {av : Nat → Nat → Int32} {ns : Nat × Nat} (ok : mOk ad ix) (k w : Int32) (l : Nat) (hl : l < 20) (h : (0 ≤ nI l ∧ nI l < iv 23) ∧ (w = 0 ∨ w = 1) ∧ -1 ≤ k) (h2 : ¬ k < av 30 l) : xCl (d + 1) k_M_told [.ref (ad 0), .int (nI l), .int k, .int w] (mM B ad ix iv av, ns) (.inl (some (.int 0)), (mM B ad ix (upd iv 0 1) (av), ns)) := by
  have h0l : 0 ≤ nI l := nI_pos' (by omega)
  have el : (nI l).toNatClampNeg = l := nI_clamp (by omega)
  show xEv _ k_M_told 0 [some (.ref (ad 0)), some (.int (nI l)), some (.int k), some (.int w), none] [] _ _
  refine ev_cutv (E := 27) (V := 1) ?_ (fun hk_1 => ?_)
  · refine ev_istore (lo1 := [some (.ref (ad 0)), some (.int (nI l)), some (.int k), some (.int w), some (.int (1))]) d_M_told_27 (Nat.le_of_ble_eq_true rfl) rfl ?_
    refine ev_aload_n d_M_told_29 rfl ?_
    refine ev_cutv (E := 50) (V := 0) ?_ (fun hk_2 => ?_)
    · refine ev_iconst (v := 1) d_M_told_50 rfl ?_
      refine ev_iconst (v := 1) d_M_told_51 rfl ?_
      refine ev_v3r d_M_told_52 q_8_116 rfl (mM_obj ok) ⟨rfl, Nat.le_of_ble_eq_true rfl, Nat.le_of_ble_eq_true rfl⟩ (c_M_goes ok _ _ _) ?_
      refine ev_if_ne (t := 60) d_M_told_55 (by decide) (fun c_55 => absurd (by decide) c_55) (fun _ => ?_)
      refine ev_iconst (v := 0) d_M_told_58 rfl ?_
      exact xEv.to (ev_iret d_M_told_59 rfl) (by grind [upd, va_up, xbi, mgo])
    · refine ev_iload d_M_told_30 rfl ?_
      refine ev_if_eq (t := 49) d_M_told_32 (by decide) (fun c_32 => absurd c_32 (by grind)) (fun _ => ?_)
      refine ev_iload_n d_M_told_35 rfl ?_
      refine ev_aload_n d_M_told_36 rfl ?_
      refine ev_get d_M_told_37 f_8_83 (mM_obj ok) rfl ?_
      refine ev_iload_n d_M_told_40 rfl ?_
      refine ev_iald d_M_told_41 (mM_arr ok 30 rfl) ⟨rfl, vp_in_nI (N := 20) (by omega) (by decide)⟩ rfl ?_
      refine ev_icmp_ge (t := 49) d_M_told_42 (by decide) (fun c_42_3 => ?_) (fun c_42_3 => ?_)
      · refine ev_iconst (v := 0) d_M_told_49 rfl ?_
        exact hk_2 _ (by grind)
      · refine ev_iconst (v := 1) d_M_told_45 rfl ?_
        refine ev_goto (t := 50) d_M_told_46 (by decide) ?_
        exact hk_2 _ (by grind)
  · refine ev_aload_n d_M_told_0 rfl ?_
    refine ev_iload_n d_M_told_1 rfl ?_
    refine ev_v1r d_M_told_2 q_8_184 rfl (mM_obj ok) ⟨rfl, Nat.le_of_ble_eq_true rfl, Nat.le_of_ble_eq_true rfl⟩ (c_M_isLoan ok _) ?_
    refine ev_if_eq (t := 26) d_M_told_5 (by decide) (fun c_5_4 => ?_) (fun c_5_4 => ?_)
    · refine ev_iconst (v := 0) d_M_told_26 rfl ?_
      exact hk_1 _ (by grind [xbi])
    · refine ev_iload_n d_M_told_8 rfl ?_
      refine ev_if_eq (t := 17) d_M_told_9 (by decide) (fun c_9_5 => ?_) (fun c_9_5 => ?_)
      · refine ev_iload_n d_M_told_17 rfl ?_
        refine ev_iconst (v := (-1)) d_M_told_18 rfl ?_
        refine ev_icmp_lt (t := 26) d_M_told_19 (by decide) (fun c_19_6 => ?_) (fun c_19_6 => ?_)
        · refine ev_iconst (v := 0) d_M_told_26 rfl ?_
          exact hk_1 _ (by grind [xbi])
        · refine ev_iconst (v := 1) d_M_told_22 rfl ?_
          refine ev_goto (t := 27) d_M_told_23 (by decide) ?_
          exact hk_1 _ (by grind [xbi])
      · refine ev_iload_n d_M_told_12 rfl ?_
        refine ev_iconst (v := 1) d_M_told_13 rfl ?_
        refine ev_icmp_ne (t := 26) d_M_told_14 (by decide) (fun c_14_7 => ?_) (fun c_14_7 => ?_)
        · refine ev_iconst (v := 0) d_M_told_26 rfl ?_
          exact hk_1 _ (by grind [xbi])
        · refine ev_iload_n d_M_told_17 rfl ?_
          refine ev_iconst (v := (-1)) d_M_told_18 rfl ?_
          refine ev_icmp_lt (t := 26) d_M_told_19 (by decide) (fun c_19_8 => ?_) (fun c_19_8 => ?_)
          · refine ev_iconst (v := 0) d_M_told_26 rfl ?_
            exact hk_1 _ (by grind [xbi])
          · refine ev_iconst (v := 1) d_M_told_22 rfl ?_
            refine ev_goto (t := 27) d_M_told_23 (by decide) ?_
            exact hk_1 _ (by grind [xbi])
set_option maxRecDepth 20000 in
theorem c_M_told_n {d : Nat} {B : xMm} {ad : Nat → Nat} {ix : Nat → Option Nat} {iv : Nat → Int32} {av : Nat → Nat → Int32} {ns : Nat × Nat} (ok : mOk ad ix) (k w : Int32) (l : Nat) (hl : l < 20) (h : (0 ≤ nI l ∧ nI l < iv 23) ∧ (w = 0 ∨ w = 1) ∧ -1 ≤ k) (h2 : k < av 30 l) (hk : k = -1) : xCl (d + 1) k_M_told [.ref (ad 0), .int (nI l), .int k, .int w] (mM B ad ix iv av, ns) (.inl (some (.int (av 30 l))), (mM B ad ix (upd iv 0 0) (av), ns)) := by
  have h0l : 0 ≤ nI l := nI_pos' (by omega)
  have el : (nI l).toNatClampNeg = l := nI_clamp (by omega)
  show xEv _ k_M_told 0 [some (.ref (ad 0)), some (.int (nI l)), some (.int k), some (.int w), none] [] _ _
  refine ev_cutv (E := 27) (V := 1) ?_ (fun hk_1 => ?_)
  · refine ev_istore (lo1 := [some (.ref (ad 0)), some (.int (nI l)), some (.int k), some (.int w), some (.int (1))]) d_M_told_27 (Nat.le_of_ble_eq_true rfl) rfl ?_
    refine ev_aload_n d_M_told_29 rfl ?_
    refine ev_cutv (E := 50) (V := 1) ?_ (fun hk_2 => ?_)
    · refine ev_iconst (v := 1) d_M_told_50 rfl ?_
      refine ev_iconst (v := 1) d_M_told_51 rfl ?_
      refine ev_v3r d_M_told_52 q_8_116 rfl (mM_obj ok) ⟨rfl, Nat.le_of_ble_eq_true rfl, Nat.le_of_ble_eq_true rfl⟩ (c_M_goes ok _ _ _) ?_
      refine ev_if_ne (t := 60) d_M_told_55 (by decide) (fun _ => ?_) (fun c_55 => absurd c_55 (by decide))
      refine ev_iload_n d_M_told_60 rfl ?_
      refine ev_iconst (v := (-1)) d_M_told_61 rfl ?_
      refine ev_icmp_ne (t := 74) d_M_told_62 (by decide) (fun c_62 => absurd hk c_62) (fun _ => ?_)
      refine ev_aload_n d_M_told_65 rfl ?_
      refine ev_get d_M_told_66 f_8_83 (mM_obj ok) rfl ?_
      refine ev_iload_n d_M_told_69 rfl ?_
      refine ev_iald d_M_told_70 (mM_arr ok 30 rfl) ⟨rfl, vp_in_nI (N := 20) (by omega) (by decide)⟩ rfl ?_
      refine ev_goto (t := 103) d_M_told_71 (by decide) ?_
      exact xEv.to (ev_iret d_M_told_103 rfl) (by grind [upd, va_up, xbi, mgo])
    · refine ev_iload d_M_told_30 rfl ?_
      refine ev_if_eq (t := 49) d_M_told_32 (by decide) (fun c_32 => absurd c_32 (by grind)) (fun _ => ?_)
      refine ev_iload_n d_M_told_35 rfl ?_
      refine ev_aload_n d_M_told_36 rfl ?_
      refine ev_get d_M_told_37 f_8_83 (mM_obj ok) rfl ?_
      refine ev_iload_n d_M_told_40 rfl ?_
      refine ev_iald d_M_told_41 (mM_arr ok 30 rfl) ⟨rfl, vp_in_nI (N := 20) (by omega) (by decide)⟩ rfl ?_
      refine ev_icmp_ge (t := 49) d_M_told_42 (by decide) (fun c_42_3 => ?_) (fun c_42_3 => ?_)
      · refine ev_iconst (v := 0) d_M_told_49 rfl ?_
        exact hk_2 _ (by grind)
      · refine ev_iconst (v := 1) d_M_told_45 rfl ?_
        refine ev_goto (t := 50) d_M_told_46 (by decide) ?_
        exact hk_2 _ (by grind)
  · refine ev_aload_n d_M_told_0 rfl ?_
    refine ev_iload_n d_M_told_1 rfl ?_
    refine ev_v1r d_M_told_2 q_8_184 rfl (mM_obj ok) ⟨rfl, Nat.le_of_ble_eq_true rfl, Nat.le_of_ble_eq_true rfl⟩ (c_M_isLoan ok _) ?_
    refine ev_if_eq (t := 26) d_M_told_5 (by decide) (fun c_5_4 => ?_) (fun c_5_4 => ?_)
    · refine ev_iconst (v := 0) d_M_told_26 rfl ?_
      exact hk_1 _ (by grind [xbi])
    · refine ev_iload_n d_M_told_8 rfl ?_
      refine ev_if_eq (t := 17) d_M_told_9 (by decide) (fun c_9_5 => ?_) (fun c_9_5 => ?_)
      · refine ev_iload_n d_M_told_17 rfl ?_
        refine ev_iconst (v := (-1)) d_M_told_18 rfl ?_
        refine ev_icmp_lt (t := 26) d_M_told_19 (by decide) (fun c_19_6 => ?_) (fun c_19_6 => ?_)
        · refine ev_iconst (v := 0) d_M_told_26 rfl ?_
          exact hk_1 _ (by grind [xbi])
        · refine ev_iconst (v := 1) d_M_told_22 rfl ?_
          refine ev_goto (t := 27) d_M_told_23 (by decide) ?_
          exact hk_1 _ (by grind [xbi])
      · refine ev_iload_n d_M_told_12 rfl ?_
        refine ev_iconst (v := 1) d_M_told_13 rfl ?_
        refine ev_icmp_ne (t := 26) d_M_told_14 (by decide) (fun c_14_7 => ?_) (fun c_14_7 => ?_)
        · refine ev_iconst (v := 0) d_M_told_26 rfl ?_
          exact hk_1 _ (by grind [xbi])
        · refine ev_iload_n d_M_told_17 rfl ?_
          refine ev_iconst (v := (-1)) d_M_told_18 rfl ?_
          refine ev_icmp_lt (t := 26) d_M_told_19 (by decide) (fun c_19_8 => ?_) (fun c_19_8 => ?_)
          · refine ev_iconst (v := 0) d_M_told_26 rfl ?_
            exact hk_1 _ (by grind [xbi])
          · refine ev_iconst (v := 1) d_M_told_22 rfl ?_
            refine ev_goto (t := 27) d_M_told_23 (by decide) ?_
            exact hk_1 _ (by grind [xbi])
set_option maxRecDepth 20000 in
theorem c_M_told_h {d : Nat} {B : xMm} {ad : Nat → Nat} {ix : Nat → Option Nat} {iv : Nat → Int32} {av : Nat → Nat → Int32} {ns : Nat × Nat} (ok : mOk ad ix) (k w : Int32) (l : Nat) (hl : l < 20) (h : (0 ≤ nI l ∧ nI l < iv 23) ∧ (w = 0 ∨ w = 1) ∧ -1 ≤ k) (h2 : k < av 30 l) (j : Nat) (hj : j < 100) (hk : k = nI j) (hw : w = 0) : xCl (d + 1) k_M_told [.ref (ad 0), .int (nI l), .int k, .int w] (mM B ad ix iv av, ns) (.inl (some (.int (av 31 (100 * l + j)))), (mM B ad ix (upd iv 0 0) (av), ns)) := by
  have h0l : 0 ≤ nI l := nI_pos' (by omega)
  have el : (nI l).toNatClampNeg = l := nI_clamp (by omega)
  have ex : (100 * nI l + k).toNatClampNeg = 100 * l + j := by rw [hk, nI100]; exact nI_clamp (by omega)
  have hx : xin (100 * nI l + k) 2000 := by rw [hk, nI100]; exact vp_in_nI (N := 2000) (by omega) (by decide)
  have hk1 : ¬ k = -1 := by
    rw [hk]
    have := nI_pos' (n := j) (by omega)
    grind
  show xEv _ k_M_told 0 [some (.ref (ad 0)), some (.int (nI l)), some (.int k), some (.int w), none] [] _ _
  refine ev_cutv (E := 27) (V := 1) ?_ (fun hk_1 => ?_)
  · refine ev_istore (lo1 := [some (.ref (ad 0)), some (.int (nI l)), some (.int k), some (.int w), some (.int (1))]) d_M_told_27 (Nat.le_of_ble_eq_true rfl) rfl ?_
    refine ev_aload_n d_M_told_29 rfl ?_
    refine ev_cutv (E := 50) (V := 1) ?_ (fun hk_2 => ?_)
    · refine ev_iconst (v := 1) d_M_told_50 rfl ?_
      refine ev_iconst (v := 1) d_M_told_51 rfl ?_
      refine ev_v3r d_M_told_52 q_8_116 rfl (mM_obj ok) ⟨rfl, Nat.le_of_ble_eq_true rfl, Nat.le_of_ble_eq_true rfl⟩ (c_M_goes ok _ _ _) ?_
      refine ev_if_ne (t := 60) d_M_told_55 (by decide) (fun _ => ?_) (fun c_55 => absurd c_55 (by decide))
      refine ev_iload_n d_M_told_60 rfl ?_
      refine ev_iconst (v := (-1)) d_M_told_61 rfl ?_
      refine ev_icmp_ne (t := 74) d_M_told_62 (by decide) (fun _ => ?_) (fun c_62 => absurd c_62 hk1)
      refine ev_iload_n d_M_told_74 rfl ?_
      refine ev_if_ne (t := 92) d_M_told_75 (by decide) (fun c_75 => absurd hw c_75) (fun _ => ?_)
      refine ev_aload_n d_M_told_78 rfl ?_
      refine ev_get d_M_told_79 f_8_86 (mM_obj ok) rfl ?_
      refine ev_bipush (v := 100) d_M_told_82 rfl ?_
      refine ev_iload_n d_M_told_84 rfl ?_
      refine ev_imul d_M_told_85 ?_
      refine ev_iload_n d_M_told_86 rfl ?_
      refine ev_iadd d_M_told_87 ?_
      refine ev_iald d_M_told_88 (mM_arr ok 31 rfl) ⟨rfl, hx⟩ rfl ?_
      refine ev_goto (t := 103) d_M_told_89 (by decide) ?_
      exact xEv.to (ev_iret d_M_told_103 rfl) (by grind [upd, va_up, xbi, mgo])
    · refine ev_iload d_M_told_30 rfl ?_
      refine ev_if_eq (t := 49) d_M_told_32 (by decide) (fun c_32 => absurd c_32 (by grind)) (fun _ => ?_)
      refine ev_iload_n d_M_told_35 rfl ?_
      refine ev_aload_n d_M_told_36 rfl ?_
      refine ev_get d_M_told_37 f_8_83 (mM_obj ok) rfl ?_
      refine ev_iload_n d_M_told_40 rfl ?_
      refine ev_iald d_M_told_41 (mM_arr ok 30 rfl) ⟨rfl, vp_in_nI (N := 20) (by omega) (by decide)⟩ rfl ?_
      refine ev_icmp_ge (t := 49) d_M_told_42 (by decide) (fun c_42_3 => ?_) (fun c_42_3 => ?_)
      · refine ev_iconst (v := 0) d_M_told_49 rfl ?_
        exact hk_2 _ (by grind)
      · refine ev_iconst (v := 1) d_M_told_45 rfl ?_
        refine ev_goto (t := 50) d_M_told_46 (by decide) ?_
        exact hk_2 _ (by grind)
  · refine ev_aload_n d_M_told_0 rfl ?_
    refine ev_iload_n d_M_told_1 rfl ?_
    refine ev_v1r d_M_told_2 q_8_184 rfl (mM_obj ok) ⟨rfl, Nat.le_of_ble_eq_true rfl, Nat.le_of_ble_eq_true rfl⟩ (c_M_isLoan ok _) ?_
    refine ev_if_eq (t := 26) d_M_told_5 (by decide) (fun c_5_4 => ?_) (fun c_5_4 => ?_)
    · refine ev_iconst (v := 0) d_M_told_26 rfl ?_
      exact hk_1 _ (by grind [xbi])
    · refine ev_iload_n d_M_told_8 rfl ?_
      refine ev_if_eq (t := 17) d_M_told_9 (by decide) (fun c_9_5 => ?_) (fun c_9_5 => ?_)
      · refine ev_iload_n d_M_told_17 rfl ?_
        refine ev_iconst (v := (-1)) d_M_told_18 rfl ?_
        refine ev_icmp_lt (t := 26) d_M_told_19 (by decide) (fun c_19_6 => ?_) (fun c_19_6 => ?_)
        · refine ev_iconst (v := 0) d_M_told_26 rfl ?_
          exact hk_1 _ (by grind [xbi])
        · refine ev_iconst (v := 1) d_M_told_22 rfl ?_
          refine ev_goto (t := 27) d_M_told_23 (by decide) ?_
          exact hk_1 _ (by grind [xbi])
      · refine ev_iload_n d_M_told_12 rfl ?_
        refine ev_iconst (v := 1) d_M_told_13 rfl ?_
        refine ev_icmp_ne (t := 26) d_M_told_14 (by decide) (fun c_14_7 => ?_) (fun c_14_7 => ?_)
        · refine ev_iconst (v := 0) d_M_told_26 rfl ?_
          exact hk_1 _ (by grind [xbi])
        · refine ev_iload_n d_M_told_17 rfl ?_
          refine ev_iconst (v := (-1)) d_M_told_18 rfl ?_
          refine ev_icmp_lt (t := 26) d_M_told_19 (by decide) (fun c_19_8 => ?_) (fun c_19_8 => ?_)
          · refine ev_iconst (v := 0) d_M_told_26 rfl ?_
            exact hk_1 _ (by grind [xbi])
          · refine ev_iconst (v := 1) d_M_told_22 rfl ?_
            refine ev_goto (t := 27) d_M_told_23 (by decide) ?_
            exact hk_1 _ (by grind [xbi])
set_option maxRecDepth 20000 in
theorem c_M_told_t {d : Nat} {B : xMm} {ad : Nat → Nat} {ix : Nat → Option Nat} {iv : Nat → Int32} {av : Nat → Nat → Int32} {ns : Nat × Nat} (ok : mOk ad ix) (k w : Int32) (l : Nat) (hl : l < 20) (h : (0 ≤ nI l ∧ nI l < iv 23) ∧ (w = 0 ∨ w = 1) ∧ -1 ≤ k) (h2 : k < av 30 l) (j : Nat) (hj : j < 100) (hk : k = nI j) (hw : ¬ w = 0) : xCl (d + 1) k_M_told [.ref (ad 0), .int (nI l), .int k, .int w] (mM B ad ix iv av, ns) (.inl (some (.int (av 32 (100 * l + j)))), (mM B ad ix (upd iv 0 0) (av), ns)) := by
  have h0l : 0 ≤ nI l := nI_pos' (by omega)
  have el : (nI l).toNatClampNeg = l := nI_clamp (by omega)
  have ex : (100 * nI l + k).toNatClampNeg = 100 * l + j := by rw [hk, nI100]; exact nI_clamp (by omega)
  have hx : xin (100 * nI l + k) 2000 := by rw [hk, nI100]; exact vp_in_nI (N := 2000) (by omega) (by decide)
  have hk1 : ¬ k = -1 := by
    rw [hk]
    have := nI_pos' (n := j) (by omega)
    grind
  show xEv _ k_M_told 0 [some (.ref (ad 0)), some (.int (nI l)), some (.int k), some (.int w), none] [] _ _
  refine ev_cutv (E := 27) (V := 1) ?_ (fun hk_1 => ?_)
  · refine ev_istore (lo1 := [some (.ref (ad 0)), some (.int (nI l)), some (.int k), some (.int w), some (.int (1))]) d_M_told_27 (Nat.le_of_ble_eq_true rfl) rfl ?_
    refine ev_aload_n d_M_told_29 rfl ?_
    refine ev_cutv (E := 50) (V := 1) ?_ (fun hk_2 => ?_)
    · refine ev_iconst (v := 1) d_M_told_50 rfl ?_
      refine ev_iconst (v := 1) d_M_told_51 rfl ?_
      refine ev_v3r d_M_told_52 q_8_116 rfl (mM_obj ok) ⟨rfl, Nat.le_of_ble_eq_true rfl, Nat.le_of_ble_eq_true rfl⟩ (c_M_goes ok _ _ _) ?_
      refine ev_if_ne (t := 60) d_M_told_55 (by decide) (fun _ => ?_) (fun c_55 => absurd c_55 (by decide))
      refine ev_iload_n d_M_told_60 rfl ?_
      refine ev_iconst (v := (-1)) d_M_told_61 rfl ?_
      refine ev_icmp_ne (t := 74) d_M_told_62 (by decide) (fun _ => ?_) (fun c_62 => absurd c_62 hk1)
      refine ev_iload_n d_M_told_74 rfl ?_
      refine ev_if_ne (t := 92) d_M_told_75 (by decide) (fun _ => ?_) (fun c_75 => absurd c_75 hw)
      refine ev_aload_n d_M_told_92 rfl ?_
      refine ev_get d_M_told_93 f_8_89 (mM_obj ok) rfl ?_
      refine ev_bipush (v := 100) d_M_told_96 rfl ?_
      refine ev_iload_n d_M_told_98 rfl ?_
      refine ev_imul d_M_told_99 ?_
      refine ev_iload_n d_M_told_100 rfl ?_
      refine ev_iadd d_M_told_101 ?_
      refine ev_iald d_M_told_102 (mM_arr ok 32 rfl) ⟨rfl, hx⟩ rfl ?_
      exact xEv.to (ev_iret d_M_told_103 rfl) (by grind [upd, va_up, xbi, mgo])
    · refine ev_iload d_M_told_30 rfl ?_
      refine ev_if_eq (t := 49) d_M_told_32 (by decide) (fun c_32 => absurd c_32 (by grind)) (fun _ => ?_)
      refine ev_iload_n d_M_told_35 rfl ?_
      refine ev_aload_n d_M_told_36 rfl ?_
      refine ev_get d_M_told_37 f_8_83 (mM_obj ok) rfl ?_
      refine ev_iload_n d_M_told_40 rfl ?_
      refine ev_iald d_M_told_41 (mM_arr ok 30 rfl) ⟨rfl, vp_in_nI (N := 20) (by omega) (by decide)⟩ rfl ?_
      refine ev_icmp_ge (t := 49) d_M_told_42 (by decide) (fun c_42_3 => ?_) (fun c_42_3 => ?_)
      · refine ev_iconst (v := 0) d_M_told_49 rfl ?_
        exact hk_2 _ (by grind)
      · refine ev_iconst (v := 1) d_M_told_45 rfl ?_
        refine ev_goto (t := 50) d_M_told_46 (by decide) ?_
        exact hk_2 _ (by grind)
  · refine ev_aload_n d_M_told_0 rfl ?_
    refine ev_iload_n d_M_told_1 rfl ?_
    refine ev_v1r d_M_told_2 q_8_184 rfl (mM_obj ok) ⟨rfl, Nat.le_of_ble_eq_true rfl, Nat.le_of_ble_eq_true rfl⟩ (c_M_isLoan ok _) ?_
    refine ev_if_eq (t := 26) d_M_told_5 (by decide) (fun c_5_4 => ?_) (fun c_5_4 => ?_)
    · refine ev_iconst (v := 0) d_M_told_26 rfl ?_
      exact hk_1 _ (by grind [xbi])
    · refine ev_iload_n d_M_told_8 rfl ?_
      refine ev_if_eq (t := 17) d_M_told_9 (by decide) (fun c_9_5 => ?_) (fun c_9_5 => ?_)
      · refine ev_iload_n d_M_told_17 rfl ?_
        refine ev_iconst (v := (-1)) d_M_told_18 rfl ?_
        refine ev_icmp_lt (t := 26) d_M_told_19 (by decide) (fun c_19_6 => ?_) (fun c_19_6 => ?_)
        · refine ev_iconst (v := 0) d_M_told_26 rfl ?_
          exact hk_1 _ (by grind [xbi])
        · refine ev_iconst (v := 1) d_M_told_22 rfl ?_
          refine ev_goto (t := 27) d_M_told_23 (by decide) ?_
          exact hk_1 _ (by grind [xbi])
      · refine ev_iload_n d_M_told_12 rfl ?_
        refine ev_iconst (v := 1) d_M_told_13 rfl ?_
        refine ev_icmp_ne (t := 26) d_M_told_14 (by decide) (fun c_14_7 => ?_) (fun c_14_7 => ?_)
        · refine ev_iconst (v := 0) d_M_told_26 rfl ?_
          exact hk_1 _ (by grind [xbi])
        · refine ev_iload_n d_M_told_17 rfl ?_
          refine ev_iconst (v := (-1)) d_M_told_18 rfl ?_
          refine ev_icmp_lt (t := 26) d_M_told_19 (by decide) (fun c_19_8 => ?_) (fun c_19_8 => ?_)
          · refine ev_iconst (v := 0) d_M_told_26 rfl ?_
            exact hk_1 _ (by grind [xbi])
          · refine ev_iconst (v := 1) d_M_told_22 rfl ?_
            refine ev_goto (t := 27) d_M_told_23 (by decide) ?_
            exact hk_1 _ (by grind [xbi])
set_option maxRecDepth 20000 in
theorem c_M_input_no1 {d : Nat} {B : xMm} {ad : Nat → Nat} {ix : Nat → Option Nat} {iv : Nat → Int32} {av : Nat → Nat → Int32} {ns : Nat × Nat} (ok : mOk ad ix) (n h v : Int32) (hn : ¬ (0 ≤ n ∧ n < 8)) : xCl (d + 1) k_M_input [.ref (ad 0), .int n, .int h, .int v] (mM B ad ix iv av, ns) (.inl (some (.int 0)), (mM B ad ix (upd iv 0 1) (av), ns)) := by
  show xEv _ k_M_input 0 [some (.ref (ad 0)), some (.int n), some (.int h), some (.int v), none, none, none] [] _ _
  refine ev_cutv (E := 15) (V := 0) ?_ (fun hk_1 => ?_)
  · refine ev_istore (lo1 := [some (.ref (ad 0)), some (.int n), some (.int h), some (.int v), some (.int (0)), none, none]) d_M_input_15 (Nat.le_of_ble_eq_true rfl) rfl ?_
    refine ev_cutv (E := 32) (V := 0) ?_ (fun hk_2 => ?_)
    · refine ev_istore (lo1 := [some (.ref (ad 0)), some (.int n), some (.int h), some (.int v), some (.int (0)), some (.int (0)), none]) d_M_input_32 (Nat.le_of_ble_eq_true rfl) rfl ?_
      refine ev_cutv (E := 77) (V := 0) ?_ (fun hk_3 => ?_)
      · refine ev_istore (lo1 := [some (.ref (ad 0)), some (.int n), some (.int h), some (.int v), some (.int (0)), some (.int (0)), some (.int (0))]) d_M_input_77 (Nat.le_of_ble_eq_true rfl) rfl ?_
        refine ev_aload_n d_M_input_79 rfl ?_
        refine ev_iload d_M_input_80 rfl ?_
        refine ev_cutv (E := 94) (V := 1) ?_ (fun hk_4 => ?_)
        · refine ev_cutv (E := 114) (V := 0) ?_ (fun hk_5 => ?_)
          · refine ev_v3r d_M_input_114 q_8_116 rfl (mM_obj ok) ⟨rfl, Nat.le_of_ble_eq_true rfl, Nat.le_of_ble_eq_true rfl⟩ (c_M_goes ok _ _ _) ?_
            refine ev_if_ne (t := 122) d_M_input_117 (by decide) (fun c_117 => absurd (by decide) c_117) (fun _ => ?_)
            refine ev_iconst (v := 0) d_M_input_120 rfl ?_
            exact xEv.to (ev_iret d_M_input_121 rfl) (by grind [upd, va_up, xbi, mgo])
          · refine ev_iload d_M_input_94 rfl ?_
            refine ev_if_eq (t := 113) d_M_input_96 (by decide) (fun _ => ?_) (fun c_96 => absurd (by grind) c_96)
            refine ev_iconst (v := 0) d_M_input_113 rfl ?_
            exact hk_5 _ (by grind)
        · refine ev_iload d_M_input_82 rfl ?_
          refine ev_bipush (v := 60) d_M_input_84 rfl ?_
          refine ev_icmp_ge (t := 93) d_M_input_86 (by decide) (fun c_86 => absurd c_86 (by grind)) (fun _ => ?_)
          refine ev_iconst (v := 1) d_M_input_89 rfl ?_
          refine ev_goto (t := 94) d_M_input_90 (by decide) ?_
          exact hk_4 _ (by grind)
      · refine ev_iload d_M_input_34 rfl ?_
        refine ev_if_eq (t := 76) d_M_input_36 (by decide) (fun _ => ?_) (fun c_36 => absurd (by grind) c_36)
        refine ev_iconst (v := 0) d_M_input_76 rfl ?_
        exact hk_3 _ (by grind)
    · refine ev_iload d_M_input_17 rfl ?_
      refine ev_if_eq (t := 31) d_M_input_19 (by decide) (fun _ => ?_) (fun c_19 => absurd (by grind) c_19)
      refine ev_iconst (v := 0) d_M_input_31 rfl ?_
      exact hk_2 _ (by grind)
  · refine ev_iload_n d_M_input_0 rfl ?_
    refine ev_if_lt (t := 14) d_M_input_1 (by decide) (fun c_1_6 => ?_) (fun c_1_6 => ?_)
    · refine ev_iconst (v := 0) d_M_input_14 rfl ?_
      exact hk_1 _ (by grind)
    · refine ev_iload_n d_M_input_4 rfl ?_
      refine ev_bipush (v := 8) d_M_input_5 rfl ?_
      refine ev_icmp_ge (t := 14) d_M_input_7 (by decide) (fun c_7_7 => ?_) (fun c_7_7 => ?_)
      · refine ev_iconst (v := 0) d_M_input_14 rfl ?_
        exact hk_1 _ (by grind)
      · refine ev_iconst (v := 1) d_M_input_10 rfl ?_
        refine ev_goto (t := 15) d_M_input_11 (by decide) ?_
        exact hk_1 _ (by grind)
set_option maxRecDepth 20000 in
theorem c_M_input_no2 {d : Nat} {B : xMm} {ad : Nat → Nat} {ix : Nat → Option Nat} {iv : Nat → Int32} {av : Nat → Nat → Int32} {ns : Nat × Nat} (ok : mOk ad ix) (h v : Int32) (n : Nat) (hn : n < 8) (rn : Nat) (hrn : rn ≤ 60) (hr : av 18 n = nI rn) (hm : mgo 1 (xbi (nI rn < 60)) (xbi (((0 ≤ h ∧ h ≤ 2400000) ∧ (rn = 0 ∨ av 19 (60 * n + rn - 1) < h)) ∧ 0 ≤ v ∧ v ≤ 999999)) ≠ 0) : xCl (d + 1) k_M_input [.ref (ad 0), .int (nI n), .int h, .int v] (mM B ad ix iv av, ns) (.inl (some (.int 0)), (mM B ad ix (upd iv 0 (mgo 1 (xbi (nI rn < 60)) (xbi (((0 ≤ h ∧ h ≤ 2400000) ∧ (rn = 0 ∨ av 19 (60 * n + rn - 1) < h)) ∧ 0 ≤ v ∧ v ≤ 999999)))) (av), ns)) := by
  have h0n : 0 ≤ nI n := nI_pos' (by omega)
  have en : (nI n).toNatClampNeg = n := nI_clamp (by omega)
  have hn8 : nI n < 8 := nI_lt hn (by decide)
  have ern : (nI rn).toNatClampNeg = rn := nI_clamp (by omega)
  have hz : nI rn = 0 ↔ rn = 0 := by rw [show (0 : Int32) = nI 0 from rfl]; exact nI_eq (by omega) (by decide)
  have ex : 0 < rn → (60 * nI n + nI rn - 1).toNatClampNeg = 60 * n + rn - 1 := fun h0 => by rw [nI60, show 60 * n + rn = (60 * n + rn - 1) + 1 by omega, nI_pred]; exact nI_clamp (by omega)
  have hx : ¬ nI rn = 0 → xin (60 * nI n + nI rn - 1) 480 := fun h0 => by
    have h1 : 0 < rn := by
      have : ¬ rn = 0 := fun e => h0 (hz.mpr e)
      omega
    rw [nI60, show 60 * n + rn = (60 * n + rn - 1) + 1 by omega, nI_pred]
    exact vp_in_nI (N := 480) (by omega) (by decide)
  show xEv _ k_M_input 0 [some (.ref (ad 0)), some (.int (nI n)), some (.int h), some (.int v), none, none, none] [] _ _
  refine ev_cutv (E := 15) (V := 1) ?_ (fun hk_1 => ?_)
  · refine ev_istore (lo1 := [some (.ref (ad 0)), some (.int (nI n)), some (.int h), some (.int v), some (.int (1)), none, none]) d_M_input_15 (Nat.le_of_ble_eq_true rfl) rfl ?_
    refine ev_cutv (E := 32) (V := nI rn) ?_ (fun hk_2 => ?_)
    · refine ev_istore (lo1 := [some (.ref (ad 0)), some (.int (nI n)), some (.int h), some (.int v), some (.int (1)), some (.int (nI rn)), none]) d_M_input_32 (Nat.le_of_ble_eq_true rfl) rfl ?_
      refine ev_cutv (E := 77) (V := xbi ((0 ≤ h ∧ h ≤ 2400000) ∧ (rn = 0 ∨ av 19 (60 * n + rn - 1) < h))) ?_ (fun hk_3 => ?_)
      · refine ev_top (fun x_4 ex_4 => ?_)
        refine ev_istore (lo1 := [some (.ref (ad 0)), some (.int (nI n)), some (.int h), some (.int v), some (.int (1)), some (.int (nI rn)), some (.int x_4)]) d_M_input_77 (Nat.le_of_ble_eq_true rfl) rfl ?_
        refine ev_aload_n d_M_input_79 rfl ?_
        refine ev_iload d_M_input_80 rfl ?_
        refine ev_cutv (E := 94) (V := xbi (nI rn < 60)) ?_ (fun hk_5 => ?_)
        · refine ev_cutv (E := 114) (V := xbi (((0 ≤ h ∧ h ≤ 2400000) ∧ (rn = 0 ∨ av 19 (60 * n + rn - 1) < h)) ∧ 0 ≤ v ∧ v ≤ 999999)) ?_ (fun hk_6 => ?_)
          · refine ev_v3r d_M_input_114 q_8_116 rfl (mM_obj ok) ⟨rfl, Nat.le_of_ble_eq_true rfl, Nat.le_of_ble_eq_true rfl⟩ (c_M_goes ok _ _ _) ?_
            refine ev_if_ne (t := 122) d_M_input_117 (by decide) (fun c_117 => absurd (xbi_f hm) c_117) (fun _ => ?_)
            refine ev_iconst (v := 0) d_M_input_120 rfl ?_
            exact xEv.to (ev_iret d_M_input_121 rfl) rfl
          · refine ev_iload d_M_input_94 rfl ?_
            refine ev_if_eq (t := 113) d_M_input_96 (by decide) (fun c_96_7 => ?_) (fun c_96_7 => ?_)
            · refine ev_iconst (v := 0) d_M_input_113 rfl ?_
              exact hk_6 _ (by clear hm ex hx; grind [xbi])
            · refine ev_iload_n d_M_input_99 rfl ?_
              refine ev_iconst (v := 0) d_M_input_100 rfl ?_
              refine ev_ldc d_M_input_101 l_8_172 ?_
              refine ev_s3r d_M_input_103 q_8_112 rfl ⟨rfl, Nat.le_of_ble_eq_true rfl, Nat.le_of_ble_eq_true rfl⟩ (c_M_within _ _ _) ?_
              refine ev_if_eq (t := 113) d_M_input_106 (by decide) (fun c_106_8 => ?_) (fun c_106_8 => ?_)
              · refine ev_iconst (v := 0) d_M_input_113 rfl ?_
                exact hk_6 _ (by clear hm ex hx; grind [xbi])
              · refine ev_iconst (v := 1) d_M_input_109 rfl ?_
                refine ev_goto (t := 114) d_M_input_110 (by decide) ?_
                exact hk_6 _ (by clear hm ex hx; grind [xbi])
        · refine ev_iload d_M_input_82 rfl ?_
          refine ev_bipush (v := 60) d_M_input_84 rfl ?_
          refine ev_icmp_ge (t := 93) d_M_input_86 (by decide) (fun c_86_9 => ?_) (fun c_86_9 => ?_)
          · refine ev_iconst (v := 0) d_M_input_93 rfl ?_
            exact hk_5 _ (by clear hm ex hx; grind [xbi])
          · refine ev_iconst (v := 1) d_M_input_89 rfl ?_
            refine ev_goto (t := 94) d_M_input_90 (by decide) ?_
            exact hk_5 _ (by clear hm ex hx; grind [xbi])
      · refine ev_iload d_M_input_34 rfl ?_
        refine ev_if_eq (t := 76) d_M_input_36 (by decide) (fun c_36_10 => ?_) (fun c_36_10 => ?_)
        · refine ev_iconst (v := 0) d_M_input_76 rfl ?_
          exact hk_3 _ (by clear hm ex hx; grind [xbi])
        · refine ev_iload_n d_M_input_39 rfl ?_
          refine ev_iconst (v := 0) d_M_input_40 rfl ?_
          refine ev_ldc d_M_input_41 l_8_171 ?_
          refine ev_s3r d_M_input_43 q_8_112 rfl ⟨rfl, Nat.le_of_ble_eq_true rfl, Nat.le_of_ble_eq_true rfl⟩ (c_M_within _ _ _) ?_
          refine ev_if_eq (t := 76) d_M_input_46 (by decide) (fun c_46_11 => ?_) (fun c_46_11 => ?_)
          · refine ev_iconst (v := 0) d_M_input_76 rfl ?_
            exact hk_3 _ (by clear hm ex hx; grind [xbi])
          · refine ev_iload d_M_input_49 rfl ?_
            refine ev_if_eq (t := 72) d_M_input_51 (by decide) (fun c_51_12 => ?_) (fun c_51_12 => ?_)
            · refine ev_iconst (v := 1) d_M_input_72 rfl ?_
              refine ev_goto (t := 77) d_M_input_73 (by decide) ?_
              exact hk_3 _ (by clear hm ex hx; grind [xbi])
            · refine ev_iload_n d_M_input_54 rfl ?_
              refine ev_aload_n d_M_input_55 rfl ?_
              refine ev_get d_M_input_56 f_8_52 (mM_obj ok) rfl ?_
              refine ev_bipush (v := 60) d_M_input_59 rfl ?_
              refine ev_iload_n d_M_input_61 rfl ?_
              refine ev_imul d_M_input_62 ?_
              refine ev_iload d_M_input_63 rfl ?_
              refine ev_iadd d_M_input_65 ?_
              refine ev_iconst (v := 1) d_M_input_66 rfl ?_
              refine ev_isub d_M_input_67 ?_
              refine ev_iald d_M_input_68 (mM_arr ok 19 rfl) ⟨rfl, hx (by assumption)⟩ rfl ?_
              rw [ex (by have h7 : ¬ rn = 0 := fun e => absurd (hz.mpr e) (by assumption); omega)]
              refine ev_icmp_le (t := 76) d_M_input_69 (by decide) (fun c_69_13 => ?_) (fun c_69_13 => ?_)
              · refine ev_iconst (v := 0) d_M_input_76 rfl ?_
                exact hk_3 _ (by clear hm ex hx; grind [xbi])
              · refine ev_iconst (v := 1) d_M_input_72 rfl ?_
                refine ev_goto (t := 77) d_M_input_73 (by decide) ?_
                exact hk_3 _ (by clear hm ex hx; grind [xbi])
    · refine ev_iload d_M_input_17 rfl ?_
      refine ev_if_eq (t := 31) d_M_input_19 (by decide) (fun c_19_14 => ?_) (fun c_19_14 => ?_)
      · refine ev_iconst (v := 0) d_M_input_31 rfl ?_
        exact hk_2 _ (by clear hm ex hx; grind)
      · refine ev_aload_n d_M_input_22 rfl ?_
        refine ev_get d_M_input_23 f_8_49 (mM_obj ok) rfl ?_
        refine ev_iload_n d_M_input_26 rfl ?_
        refine ev_iald d_M_input_27 (mM_arr ok 18 rfl) ⟨rfl, vp_in_nI (N := 8) hn (by decide)⟩ rfl ?_
        refine ev_goto (t := 32) d_M_input_28 (by decide) ?_
        exact hk_2 _ (by clear hm ex hx; grind)
  · refine ev_iload_n d_M_input_0 rfl ?_
    refine ev_if_lt (t := 14) d_M_input_1 (by decide) (fun c_1_15 => ?_) (fun c_1_15 => ?_)
    · refine ev_iconst (v := 0) d_M_input_14 rfl ?_
      exact hk_1 _ (by clear hm ex hx; grind)
    · refine ev_iload_n d_M_input_4 rfl ?_
      refine ev_bipush (v := 8) d_M_input_5 rfl ?_
      refine ev_icmp_ge (t := 14) d_M_input_7 (by decide) (fun c_7_16 => ?_) (fun c_7_16 => ?_)
      · refine ev_iconst (v := 0) d_M_input_14 rfl ?_
        exact hk_1 _ (by clear hm ex hx; grind)
      · refine ev_iconst (v := 1) d_M_input_10 rfl ?_
        refine ev_goto (t := 15) d_M_input_11 (by decide) ?_
        exact hk_1 _ (by clear hm ex hx; grind)
set_option maxRecDepth 20000 in
theorem c_M_input_ok {d : Nat} {B : xMm} {ad : Nat → Nat} {ix : Nat → Option Nat} {iv : Nat → Int32} {av : Nat → Nat → Int32} {ns : Nat × Nat} (ok : mOk ad ix) (h v : Int32) (n : Nat) (hn : n < 8) (rn : Nat) (hrn : rn ≤ 60) (hr : av 18 n = nI rn) (hm : mgo 1 (xbi (nI rn < 60)) (xbi (((0 ≤ h ∧ h ≤ 2400000) ∧ (rn = 0 ∨ av 19 (60 * n + rn - 1) < h)) ∧ 0 ≤ v ∧ v ≤ 999999)) = 0) : xCl (d + 1) k_M_input [.ref (ad 0), .int (nI n), .int h, .int v] (mM B ad ix iv av, ns) (.inl (some (.int (nI (rn + 1)))), (mM B ad ix (upd iv 0 0) (va_up (va_up (va_up av 19 (upd (av 19) (60 * n + rn) h)) 20 (upd (av 20) (60 * n + rn) v)) 18 (upd (av 18) n (nI (rn + 1)))), ns)) := by
  have h0n : 0 ≤ nI n := nI_pos' (by omega)
  have en : (nI n).toNatClampNeg = n := nI_clamp (by omega)
  have hn8 : nI n < 8 := nI_lt hn (by decide)
  have ern : (nI rn).toNatClampNeg = rn := nI_clamp (by omega)
  have hz : nI rn = 0 ↔ rn = 0 := by rw [show (0 : Int32) = nI 0 from rfl]; exact nI_eq (by omega) (by decide)
  have ex : 0 < rn → (60 * nI n + nI rn - 1).toNatClampNeg = 60 * n + rn - 1 := fun h0 => by rw [nI60, show 60 * n + rn = (60 * n + rn - 1) + 1 by omega, nI_pred]; exact nI_clamp (by omega)
  have hx : ¬ nI rn = 0 → xin (60 * nI n + nI rn - 1) 480 := fun h0 => by
    have h1 : 0 < rn := by
      have : ¬ rn = 0 := fun e => h0 (hz.mpr e)
      omega
    rw [nI60, show 60 * n + rn = (60 * n + rn - 1) + 1 by omega, nI_pred]
    exact vp_in_nI (N := 480) (by omega) (by decide)
  have hlt : rn < 60 := by
    have h9 : nI rn < 60 := by grind [mgo, xbi]
    exact (nI_ltI (a := rn) (b := 60) (by omega) (by decide)).mp h9
  have ey : (60 * nI n + nI rn).toNatClampNeg = 60 * n + rn := by rw [nI60]; exact nI_clamp (by omega)
  have hy : xin (60 * nI n + nI rn) 480 := by rw [nI60]; exact vp_in_nI (N := 480) (by omega) (by decide)
  have es : nI (rn + 1) = nI rn + 1 := nI_succ rn
  show xEv _ k_M_input 0 [some (.ref (ad 0)), some (.int (nI n)), some (.int h), some (.int v), none, none, none] [] _ _
  refine ev_cutv (E := 15) (V := 1) ?_ (fun hk_1 => ?_)
  · refine ev_istore (lo1 := [some (.ref (ad 0)), some (.int (nI n)), some (.int h), some (.int v), some (.int (1)), none, none]) d_M_input_15 (Nat.le_of_ble_eq_true rfl) rfl ?_
    refine ev_cutv (E := 32) (V := nI rn) ?_ (fun hk_2 => ?_)
    · refine ev_istore (lo1 := [some (.ref (ad 0)), some (.int (nI n)), some (.int h), some (.int v), some (.int (1)), some (.int (nI rn)), none]) d_M_input_32 (Nat.le_of_ble_eq_true rfl) rfl ?_
      refine ev_cutv (E := 77) (V := xbi ((0 ≤ h ∧ h ≤ 2400000) ∧ (rn = 0 ∨ av 19 (60 * n + rn - 1) < h))) ?_ (fun hk_3 => ?_)
      · refine ev_top (fun x_4 ex_4 => ?_)
        refine ev_istore (lo1 := [some (.ref (ad 0)), some (.int (nI n)), some (.int h), some (.int v), some (.int (1)), some (.int (nI rn)), some (.int x_4)]) d_M_input_77 (Nat.le_of_ble_eq_true rfl) rfl ?_
        refine ev_aload_n d_M_input_79 rfl ?_
        refine ev_iload d_M_input_80 rfl ?_
        refine ev_cutv (E := 94) (V := xbi (nI rn < 60)) ?_ (fun hk_5 => ?_)
        · refine ev_cutv (E := 114) (V := xbi (((0 ≤ h ∧ h ≤ 2400000) ∧ (rn = 0 ∨ av 19 (60 * n + rn - 1) < h)) ∧ 0 ≤ v ∧ v ≤ 999999)) ?_ (fun hk_6 => ?_)
          · refine ev_v3r d_M_input_114 q_8_116 rfl (mM_obj ok) ⟨rfl, Nat.le_of_ble_eq_true rfl, Nat.le_of_ble_eq_true rfl⟩ (c_M_goes ok _ _ _) ?_
            refine ev_if_ne (t := 122) d_M_input_117 (by decide) (fun _ => ?_) (fun c_117 => absurd c_117 (by rw [hm]; decide))
            refine ev_aload_n d_M_input_122 rfl ?_
            refine ev_get d_M_input_123 f_8_52 (mM_obj ok) rfl ?_
            refine ev_bipush (v := 60) d_M_input_126 rfl ?_
            refine ev_iload_n d_M_input_128 rfl ?_
            refine ev_imul d_M_input_129 ?_
            refine ev_iload d_M_input_130 rfl ?_
            refine ev_iadd d_M_input_132 ?_
            refine ev_iload_n d_M_input_133 rfl ?_
            refine ev_iast d_M_input_134 (mM_arr ok 19 rfl) ⟨rfl, hy⟩ (mM_ast ok 19 rfl) ?_
            rw [ey]
            refine ev_aload_n d_M_input_135 rfl ?_
            refine ev_get d_M_input_136 f_8_55 (mM_obj ok) rfl ?_
            refine ev_bipush (v := 60) d_M_input_139 rfl ?_
            refine ev_iload_n d_M_input_141 rfl ?_
            refine ev_imul d_M_input_142 ?_
            refine ev_iload d_M_input_143 rfl ?_
            refine ev_iadd d_M_input_145 ?_
            refine ev_iload_n d_M_input_146 rfl ?_
            refine ev_iast d_M_input_147 (mM_arr ok 20 rfl) ⟨rfl, hy⟩ (mM_ast ok 20 rfl) ?_
            rw [ey]
            refine ev_aload_n d_M_input_148 rfl ?_
            refine ev_get d_M_input_149 f_8_49 (mM_obj ok) rfl ?_
            refine ev_iload_n d_M_input_152 rfl ?_
            refine ev_dup2 d_M_input_153 ⟨rfl, rfl⟩ ?_
            refine ev_iald d_M_input_154 (mM_arr ok 18 rfl) ⟨rfl, vp_in_nI (N := 8) hn (by decide)⟩ rfl ?_
            rw [en]
            refine ev_iconst (v := 1) d_M_input_155 rfl ?_
            refine ev_iadd d_M_input_156 ?_
            refine ev_iast d_M_input_157 (mM_arr ok 18 rfl) ⟨rfl, vp_in_nI (N := 8) hn (by decide)⟩ (mM_ast ok 18 rfl) ?_
            rw [en]
            refine ev_aload_n d_M_input_158 rfl ?_
            refine ev_get d_M_input_159 f_8_49 (mM_obj ok) rfl ?_
            refine ev_iload_n d_M_input_162 rfl ?_
            refine ev_iald d_M_input_163 (mM_arr ok 18 rfl) ⟨rfl, vp_in_nI (N := 8) hn (by decide)⟩ rfl ?_
            rw [en]
            exact xEv.to (ev_iret d_M_input_164 rfl) (by rw [hm]; clear hm ex hx ey hy; simp [va_up, upd, hr, es])
          · refine ev_iload d_M_input_94 rfl ?_
            refine ev_if_eq (t := 113) d_M_input_96 (by decide) (fun c_96_7 => ?_) (fun c_96_7 => ?_)
            · refine ev_iconst (v := 0) d_M_input_113 rfl ?_
              exact hk_6 _ (by clear hm ex hx; grind [xbi])
            · refine ev_iload_n d_M_input_99 rfl ?_
              refine ev_iconst (v := 0) d_M_input_100 rfl ?_
              refine ev_ldc d_M_input_101 l_8_172 ?_
              refine ev_s3r d_M_input_103 q_8_112 rfl ⟨rfl, Nat.le_of_ble_eq_true rfl, Nat.le_of_ble_eq_true rfl⟩ (c_M_within _ _ _) ?_
              refine ev_if_eq (t := 113) d_M_input_106 (by decide) (fun c_106_8 => ?_) (fun c_106_8 => ?_)
              · refine ev_iconst (v := 0) d_M_input_113 rfl ?_
                exact hk_6 _ (by clear hm ex hx; grind [xbi])
              · refine ev_iconst (v := 1) d_M_input_109 rfl ?_
                refine ev_goto (t := 114) d_M_input_110 (by decide) ?_
                exact hk_6 _ (by clear hm ex hx; grind [xbi])
        · refine ev_iload d_M_input_82 rfl ?_
          refine ev_bipush (v := 60) d_M_input_84 rfl ?_
          refine ev_icmp_ge (t := 93) d_M_input_86 (by decide) (fun c_86_9 => ?_) (fun c_86_9 => ?_)
          · refine ev_iconst (v := 0) d_M_input_93 rfl ?_
            exact hk_5 _ (by clear hm ex hx; grind [xbi])
          · refine ev_iconst (v := 1) d_M_input_89 rfl ?_
            refine ev_goto (t := 94) d_M_input_90 (by decide) ?_
            exact hk_5 _ (by clear hm ex hx; grind [xbi])
      · refine ev_iload d_M_input_34 rfl ?_
        refine ev_if_eq (t := 76) d_M_input_36 (by decide) (fun c_36_10 => ?_) (fun c_36_10 => ?_)
        · refine ev_iconst (v := 0) d_M_input_76 rfl ?_
          exact hk_3 _ (by clear hm ex hx; grind [xbi])
        · refine ev_iload_n d_M_input_39 rfl ?_
          refine ev_iconst (v := 0) d_M_input_40 rfl ?_
          refine ev_ldc d_M_input_41 l_8_171 ?_
          refine ev_s3r d_M_input_43 q_8_112 rfl ⟨rfl, Nat.le_of_ble_eq_true rfl, Nat.le_of_ble_eq_true rfl⟩ (c_M_within _ _ _) ?_
          refine ev_if_eq (t := 76) d_M_input_46 (by decide) (fun c_46_11 => ?_) (fun c_46_11 => ?_)
          · refine ev_iconst (v := 0) d_M_input_76 rfl ?_
            exact hk_3 _ (by clear hm ex hx; grind [xbi])
          · refine ev_iload d_M_input_49 rfl ?_
            refine ev_if_eq (t := 72) d_M_input_51 (by decide) (fun c_51_12 => ?_) (fun c_51_12 => ?_)
            · refine ev_iconst (v := 1) d_M_input_72 rfl ?_
              refine ev_goto (t := 77) d_M_input_73 (by decide) ?_
              exact hk_3 _ (by clear hm ex hx; grind [xbi])
            · refine ev_iload_n d_M_input_54 rfl ?_
              refine ev_aload_n d_M_input_55 rfl ?_
              refine ev_get d_M_input_56 f_8_52 (mM_obj ok) rfl ?_
              refine ev_bipush (v := 60) d_M_input_59 rfl ?_
              refine ev_iload_n d_M_input_61 rfl ?_
              refine ev_imul d_M_input_62 ?_
              refine ev_iload d_M_input_63 rfl ?_
              refine ev_iadd d_M_input_65 ?_
              refine ev_iconst (v := 1) d_M_input_66 rfl ?_
              refine ev_isub d_M_input_67 ?_
              refine ev_iald d_M_input_68 (mM_arr ok 19 rfl) ⟨rfl, hx (by assumption)⟩ rfl ?_
              rw [ex (by have h7 : ¬ rn = 0 := fun e => absurd (hz.mpr e) (by assumption); omega)]
              refine ev_icmp_le (t := 76) d_M_input_69 (by decide) (fun c_69_13 => ?_) (fun c_69_13 => ?_)
              · refine ev_iconst (v := 0) d_M_input_76 rfl ?_
                exact hk_3 _ (by clear hm ex hx; grind [xbi])
              · refine ev_iconst (v := 1) d_M_input_72 rfl ?_
                refine ev_goto (t := 77) d_M_input_73 (by decide) ?_
                exact hk_3 _ (by clear hm ex hx; grind [xbi])
    · refine ev_iload d_M_input_17 rfl ?_
      refine ev_if_eq (t := 31) d_M_input_19 (by decide) (fun c_19_14 => ?_) (fun c_19_14 => ?_)
      · refine ev_iconst (v := 0) d_M_input_31 rfl ?_
        exact hk_2 _ (by clear hm ex hx; grind)
      · refine ev_aload_n d_M_input_22 rfl ?_
        refine ev_get d_M_input_23 f_8_49 (mM_obj ok) rfl ?_
        refine ev_iload_n d_M_input_26 rfl ?_
        refine ev_iald d_M_input_27 (mM_arr ok 18 rfl) ⟨rfl, vp_in_nI (N := 8) hn (by decide)⟩ rfl ?_
        refine ev_goto (t := 32) d_M_input_28 (by decide) ?_
        exact hk_2 _ (by clear hm ex hx; grind)
  · refine ev_iload_n d_M_input_0 rfl ?_
    refine ev_if_lt (t := 14) d_M_input_1 (by decide) (fun c_1_15 => ?_) (fun c_1_15 => ?_)
    · refine ev_iconst (v := 0) d_M_input_14 rfl ?_
      exact hk_1 _ (by clear hm ex hx; grind)
    · refine ev_iload_n d_M_input_4 rfl ?_
      refine ev_bipush (v := 8) d_M_input_5 rfl ?_
      refine ev_icmp_ge (t := 14) d_M_input_7 (by decide) (fun c_7_16 => ?_) (fun c_7_16 => ?_)
      · refine ev_iconst (v := 0) d_M_input_14 rfl ?_
        exact hk_1 _ (by clear hm ex hx; grind)
      · refine ev_iconst (v := 1) d_M_input_10 rfl ?_
        refine ev_goto (t := 15) d_M_input_11 (by decide) ?_
        exact hk_1 _ (by clear hm ex hx; grind)
