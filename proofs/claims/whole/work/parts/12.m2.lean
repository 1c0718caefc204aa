/-! the reference's methods without loops -/
theorem ev_cutv {d : Nat} {y : xMt} {pc : Nat} {lo : xL} {st : List Value} {σ : xS} {r : xO × xS} {E : Nat} {V : Int32} (h : xEv d y E lo (.int V :: st) σ r) (k : (∀ b : Int32, b = V → xEv d y E lo (.int b :: st) σ r) → xEv d y pc lo st σ r) : xEv d y pc lo st σ r := k fun _ e => e ▸ h
theorem xin_i {i : Int32} {n : Nat} (N : Int32) (hN : N.toInt = n) (h0 : 0 ≤ i) (h1 : i < N) : xin i n := by
  have a0 : (0 : Int32).toInt ≤ i.toInt := Int32.le_iff_toInt_le.mp h0
  have a1 : i.toInt < N.toInt := Int32.lt_iff_toInt_lt.mp h1
  have a2 : (0 : Int32).toInt = 0 := by decide
  exact vp_in_iff.mpr ⟨by omega, by omega⟩
set_option maxRecDepth 20000 in
theorem c_M_unit_ok {d : Nat} {B : xMm} {ad : Nat → Nat} {ix : Nat → Option Nat} {iv : Nat → Int32} {av : Nat → Nat → Int32} {ns : Nat × Nat} (ok : mOk ad ix) (s : Int32) (h0 : 0 ≤ iv 1) (h : mgo (xbi (iv 1 < 80)) (xbi (33 ≤ s ∧ s ≤ 126)) 1 = 0) : xCl (d + 1) k_M_unit [.ref (ad 0), .int s] (mM B ad ix iv av, ns) (.inl (some (.int (iv 1 + 1))), (mM B ad ix (upd (upd iv 0 0) 1 (iv 1 + 1)) (va_up av 2 (upd (av 2) (iv 1).toNatClampNeg s)), ns)) := by
  show xEv _ k_M_unit 0 [some (.ref (ad 0)), some (.int s)] [] _ _
  refine ev_aload_n d_M_unit_0 rfl ?_
  refine ev_cutv (E := 15) (V := xbi (iv 1 < 80)) ?_ (fun hk_1 => ?_)
  · refine ev_iload_n d_M_unit_15 rfl ?_
    refine ev_bipush (v := 33) d_M_unit_16 rfl ?_
    refine ev_bipush (v := 126) d_M_unit_18 rfl ?_
    refine ev_s3r d_M_unit_20 q_8_112 rfl ⟨rfl, Nat.le_of_ble_eq_true rfl, Nat.le_of_ble_eq_true rfl⟩ (c_M_within _ _ _) ?_
    refine ev_iconst (v := 1) d_M_unit_23 rfl ?_
    refine ev_v3r d_M_unit_24 q_8_116 rfl (mM_obj ok) ⟨rfl, Nat.le_of_ble_eq_true rfl, Nat.le_of_ble_eq_true rfl⟩ (c_M_goes ok _ _ _) ?_
    refine ev_if_ne (t := 32) d_M_unit_27 (by decide) (fun _ => ?_) (fun c_27 => absurd c_27 (by rw [h]; decide))
    refine ev_aload_n d_M_unit_32 rfl ?_
    refine ev_get d_M_unit_33 f_8_7 (mM_obj ok) rfl ?_
    refine ev_aload_n d_M_unit_36 rfl ?_
    refine ev_get d_M_unit_37 f_8_109 (mM_obj ok) rfl ?_
    refine ev_iload_n d_M_unit_40 rfl ?_
    refine ev_iast d_M_unit_41 (mM_arr ok 2 rfl) ⟨rfl, (xin_i 80 (by decide) (by grind [upd]) (by grind [upd, mgo, xbi]))⟩ (mM_ast ok 2 rfl) ?_
    refine ev_aload_n d_M_unit_42 rfl ?_
    refine ev_dup d_M_unit_43 rfl ?_
    refine ev_get d_M_unit_44 f_8_109 (mM_obj ok) rfl ?_
    refine ev_iconst (v := 1) d_M_unit_47 rfl ?_
    refine ev_iadd d_M_unit_48 ?_
    refine ev_put d_M_unit_49 f_8_109 (mM_obj ok) ⟨Nat.le_of_ble_eq_true rfl, xfit_i rfl, Or.inl rfl⟩ (mM_put ok rfl) ?_
    refine ev_aload_n d_M_unit_52 rfl ?_
    refine ev_get d_M_unit_53 f_8_109 (mM_obj ok) rfl ?_
    exact xEv.to (ev_iret d_M_unit_56 rfl) (by grind [upd, va_up, xbi])
  · refine ev_aload_n d_M_unit_1 rfl ?_
    refine ev_get d_M_unit_2 f_8_109 (mM_obj ok) rfl ?_
    refine ev_bipush (v := 80) d_M_unit_5 rfl ?_
    refine ev_icmp_ge (t := 14) d_M_unit_7 (by decide) (fun c_7_2 => ?_) (fun c_7_2 => ?_)
    · refine ev_iconst (v := 0) d_M_unit_14 rfl ?_
      exact hk_1 _ (by rw [xbi_f (by grind)])
    · refine ev_iconst (v := 1) d_M_unit_10 rfl ?_
      refine ev_goto (t := 15) d_M_unit_11 (by decide) ?_
      exact hk_1 _ (by rw [xbi_t (by grind)])
set_option maxRecDepth 20000 in
theorem c_M_unit_no {d : Nat} {B : xMm} {ad : Nat → Nat} {ix : Nat → Option Nat} {iv : Nat → Int32} {av : Nat → Nat → Int32} {ns : Nat × Nat} (ok : mOk ad ix) (s : Int32) (h : mgo (xbi (iv 1 < 80)) (xbi (33 ≤ s ∧ s ≤ 126)) 1 ≠ 0) : xCl (d + 1) k_M_unit [.ref (ad 0), .int s] (mM B ad ix iv av, ns) (.inl (some (.int 0)), (mM B ad ix (upd iv 0 (mgo (xbi (iv 1 < 80)) (xbi (33 ≤ s ∧ s ≤ 126)) 1)) (av), ns)) := by
  show xEv _ k_M_unit 0 [some (.ref (ad 0)), some (.int s)] [] _ _
  refine ev_aload_n d_M_unit_0 rfl ?_
  refine ev_cutv (E := 15) (V := xbi (iv 1 < 80)) ?_ (fun hk_1 => ?_)
  · refine ev_iload_n d_M_unit_15 rfl ?_
    refine ev_bipush (v := 33) d_M_unit_16 rfl ?_
    refine ev_bipush (v := 126) d_M_unit_18 rfl ?_
    refine ev_s3r d_M_unit_20 q_8_112 rfl ⟨rfl, Nat.le_of_ble_eq_true rfl, Nat.le_of_ble_eq_true rfl⟩ (c_M_within _ _ _) ?_
    refine ev_iconst (v := 1) d_M_unit_23 rfl ?_
    refine ev_v3r d_M_unit_24 q_8_116 rfl (mM_obj ok) ⟨rfl, Nat.le_of_ble_eq_true rfl, Nat.le_of_ble_eq_true rfl⟩ (c_M_goes ok _ _ _) ?_
    refine ev_if_ne (t := 32) d_M_unit_27 (by decide) (fun c_27 => absurd (xbi_f h) c_27) (fun _ => ?_)
    refine ev_iconst (v := 0) d_M_unit_30 rfl ?_
    exact xEv.to (ev_iret d_M_unit_31 rfl) (by grind [upd, va_up, xbi])
  · refine ev_aload_n d_M_unit_1 rfl ?_
    refine ev_get d_M_unit_2 f_8_109 (mM_obj ok) rfl ?_
    refine ev_bipush (v := 80) d_M_unit_5 rfl ?_
    refine ev_icmp_ge (t := 14) d_M_unit_7 (by decide) (fun c_7_2 => ?_) (fun c_7_2 => ?_)
    · refine ev_iconst (v := 0) d_M_unit_14 rfl ?_
      exact hk_1 _ (by rw [xbi_f (by grind)])
    · refine ev_iconst (v := 1) d_M_unit_10 rfl ?_
      refine ev_goto (t := 15) d_M_unit_11 (by decide) ?_
      exact hk_1 _ (by rw [xbi_t (by grind)])
set_option maxRecDepth 20000 in
theorem c_M_terms_ok {d : Nat} {B : xMm} {ad : Nat → Nat} {ix : Nat → Option Nat} {iv : Nat → Int32} {av : Nat → Nat → Int32} {ns : Nat × Nat} (ok : mOk ad ix) (c : Nat) (hc : c < 8) (h : nI c < iv 3) : xCl (d + 1) k_M_terms [.ref (ad 0), .int (nI c)] (mM B ad ix iv av, ns) (.inl (some (.int (av 4 c))), (mM B ad ix (upd iv 0 0) (av), ns)) := by
  have h0c : 0 ≤ nI c := nI_pos' (by omega)
  have ec : (nI c).toNatClampNeg = c := nI_clamp (by omega)
  show xEv _ k_M_terms 0 [some (.ref (ad 0)), some (.int (nI c))] [] _ _
  refine ev_aload_n d_M_terms_0 rfl ?_
  refine ev_aload_n d_M_terms_1 rfl ?_
  refine ev_iload_n d_M_terms_2 rfl ?_
  refine ev_v1r d_M_terms_3 q_8_146 rfl (mM_obj ok) ⟨rfl, Nat.le_of_ble_eq_true rfl, Nat.le_of_ble_eq_true rfl⟩ (c_M_isContract ok _) ?_
  refine ev_iconst (v := 1) d_M_terms_6 rfl ?_
  refine ev_iconst (v := 1) d_M_terms_7 rfl ?_
  refine ev_v3r d_M_terms_8 q_8_116 rfl (mM_obj ok) ⟨rfl, Nat.le_of_ble_eq_true rfl, Nat.le_of_ble_eq_true rfl⟩ (c_M_goes ok _ _ _) ?_
  refine ev_if_eq (t := 23) d_M_terms_11 (by decide) (fun c_11 => absurd c_11 (by grind [xbi, mgo])) (fun _ => ?_)
  refine ev_aload_n d_M_terms_14 rfl ?_
  refine ev_get d_M_terms_15 f_8_13 (mM_obj ok) rfl ?_
  refine ev_iload_n d_M_terms_18 rfl ?_
  refine ev_iald d_M_terms_19 (mM_arr ok 4 rfl) ⟨rfl, vp_in_nI hc (by decide)⟩ rfl ?_
  refine ev_goto (t := 24) d_M_terms_20 (by decide) ?_
  exact xEv.to (ev_iret d_M_terms_24 rfl) (by grind [upd, va_up, xbi, mgo])
set_option maxRecDepth 20000 in
theorem c_M_terms_no {d : Nat} {B : xMm} {ad : Nat → Nat} {ix : Nat → Option Nat} {iv : Nat → Int32} {av : Nat → Nat → Int32} {ns : Nat × Nat} (ok : mOk ad ix) (c : Int32) (h : ¬ (0 ≤ c ∧ c < iv 3)) : xCl (d + 1) k_M_terms [.ref (ad 0), .int c] (mM B ad ix iv av, ns) (.inl (some (.int 0)), (mM B ad ix (upd iv 0 1) (av), ns)) := by
  show xEv _ k_M_terms 0 [some (.ref (ad 0)), some (.int c)] [] _ _
  refine ev_aload_n d_M_terms_0 rfl ?_
  refine ev_aload_n d_M_terms_1 rfl ?_
  refine ev_iload_n d_M_terms_2 rfl ?_
  refine ev_v1r d_M_terms_3 q_8_146 rfl (mM_obj ok) ⟨rfl, Nat.le_of_ble_eq_true rfl, Nat.le_of_ble_eq_true rfl⟩ (c_M_isContract ok _) ?_
  refine ev_iconst (v := 1) d_M_terms_6 rfl ?_
  refine ev_iconst (v := 1) d_M_terms_7 rfl ?_
  refine ev_v3r d_M_terms_8 q_8_116 rfl (mM_obj ok) ⟨rfl, Nat.le_of_ble_eq_true rfl, Nat.le_of_ble_eq_true rfl⟩ (c_M_goes ok _ _ _) ?_
  refine ev_if_eq (t := 23) d_M_terms_11 (by decide) (fun _ => ?_) (fun c_11 => absurd (by grind [xbi, mgo]) c_11)
  refine ev_iconst (v := 0) d_M_terms_23 rfl ?_
  exact xEv.to (ev_iret d_M_terms_24 rfl) (by grind [upd, va_up, xbi, mgo])
set_option maxRecDepth 20000 in
theorem c_M_fails_no {d : Nat} {B : xMm} {ad : Nat → Nat} {ix : Nat → Option Nat} {iv : Nat → Int32} {av : Nat → Nat → Int32} {ns : Nat × Nat} (ok : mOk ad ix) (n f t : Int32) (h : mgo (xbi (0 ≤ n ∧ n < 8)) (xbi (0 ≤ f ∧ f ≤ t ∧ t ≤ 2400000)) 1 ≠ 0) : xCl (d + 1) k_M_fails [.ref (ad 0), .int n, .int f, .int t] (mM B ad ix iv av, ns) (.inl none, (mM B ad ix (upd iv 0 (mgo (xbi (0 ≤ n ∧ n < 8)) (xbi (0 ≤ f ∧ f ≤ t ∧ t ≤ 2400000)) 1)) (av), ns)) := by
  show xEv _ k_M_fails 0 [some (.ref (ad 0)), some (.int n), some (.int f), some (.int t)] [] _ _
  refine ev_aload_n d_M_fails_0 rfl ?_
  refine ev_cutv (E := 16) (V := xbi (0 ≤ n ∧ n < 8)) ?_ (fun hk_1 => ?_)
  · refine ev_cutv (E := 36) (V := xbi (0 ≤ f ∧ f ≤ t ∧ t ≤ 2400000)) ?_ (fun hk_2 => ?_)
    · refine ev_iconst (v := 1) d_M_fails_36 rfl ?_
      refine ev_v3r d_M_fails_37 q_8_116 rfl (mM_obj ok) ⟨rfl, Nat.le_of_ble_eq_true rfl, Nat.le_of_ble_eq_true rfl⟩ (c_M_goes ok _ _ _) ?_
      refine ev_if_eq (t := 57) d_M_fails_40 (by decide) (fun _ => ?_) (fun c_40 => absurd (xbi_f h) c_40)
      exact xEv.to (ev_ret d_M_fails_57 rfl) (by grind [upd, va_up, xbi])
    · refine ev_iload_n d_M_fails_16 rfl ?_
      refine ev_if_lt (t := 35) d_M_fails_17 (by decide) (fun c_17_3 => ?_) (fun c_17_3 => ?_)
      · refine ev_iconst (v := 0) d_M_fails_35 rfl ?_
        exact hk_2 _ (by rw [xbi_f (by grind)])
      · refine ev_iload_n d_M_fails_20 rfl ?_
        refine ev_iload_n d_M_fails_21 rfl ?_
        refine ev_icmp_gt (t := 35) d_M_fails_22 (by decide) (fun c_22_4 => ?_) (fun c_22_4 => ?_)
        · refine ev_iconst (v := 0) d_M_fails_35 rfl ?_
          exact hk_2 _ (by rw [xbi_f (by grind)])
        · refine ev_iload_n d_M_fails_25 rfl ?_
          refine ev_ldc d_M_fails_26 l_8_171 ?_
          refine ev_icmp_gt (t := 35) d_M_fails_28 (by decide) (fun c_28_5 => ?_) (fun c_28_5 => ?_)
          · refine ev_iconst (v := 0) d_M_fails_35 rfl ?_
            exact hk_2 _ (by rw [xbi_f (by grind)])
          · refine ev_iconst (v := 1) d_M_fails_31 rfl ?_
            refine ev_goto (t := 36) d_M_fails_32 (by decide) ?_
            exact hk_2 _ (by rw [xbi_t (by grind)])
  · refine ev_iload_n d_M_fails_1 rfl ?_
    refine ev_if_lt (t := 15) d_M_fails_2 (by decide) (fun c_2_6 => ?_) (fun c_2_6 => ?_)
    · refine ev_iconst (v := 0) d_M_fails_15 rfl ?_
      exact hk_1 _ (by rw [xbi_f (by grind)])
    · refine ev_iload_n d_M_fails_5 rfl ?_
      refine ev_bipush (v := 8) d_M_fails_6 rfl ?_
      refine ev_icmp_ge (t := 15) d_M_fails_8 (by decide) (fun c_8_7 => ?_) (fun c_8_7 => ?_)
      · refine ev_iconst (v := 0) d_M_fails_15 rfl ?_
        exact hk_1 _ (by rw [xbi_f (by grind)])
      · refine ev_iconst (v := 1) d_M_fails_11 rfl ?_
        refine ev_goto (t := 16) d_M_fails_12 (by decide) ?_
        exact hk_1 _ (by rw [xbi_t (by grind)])
set_option maxRecDepth 20000 in
theorem c_M_fails_ok {d : Nat} {B : xMm} {ad : Nat → Nat} {ix : Nat → Option Nat} {iv : Nat → Int32} {av : Nat → Nat → Int32} {ns : Nat × Nat} (ok : mOk ad ix) (f t : Int32) (n : Nat) (hn : n < 8) (h1 : 0 ≤ f) (h2 : f ≤ t) (h3 : t ≤ 2400000) : xCl (d + 1) k_M_fails [.ref (ad 0), .int (nI n), .int f, .int t] (mM B ad ix iv av, ns) (.inl none, (mM B ad ix (upd iv 0 0) (va_up (va_up av 21 (upd (av 21) n f)) 22 (upd (av 22) n t)), ns)) := by
  have h0n : 0 ≤ nI n := nI_pos' (by omega)
  have en : (nI n).toNatClampNeg = n := nI_clamp (by omega)
  have hn8 : nI n < 8 := nI_lt hn (by decide)
  show xEv _ k_M_fails 0 [some (.ref (ad 0)), some (.int (nI n)), some (.int f), some (.int t)] [] _ _
  refine ev_aload_n d_M_fails_0 rfl ?_
  refine ev_cutv (E := 16) (V := xbi (0 ≤ nI n ∧ nI n < 8)) ?_ (fun hk_1 => ?_)
  · refine ev_cutv (E := 36) (V := xbi (0 ≤ f ∧ f ≤ t ∧ t ≤ 2400000)) ?_ (fun hk_2 => ?_)
    · refine ev_iconst (v := 1) d_M_fails_36 rfl ?_
      refine ev_v3r d_M_fails_37 q_8_116 rfl (mM_obj ok) ⟨rfl, Nat.le_of_ble_eq_true rfl, Nat.le_of_ble_eq_true rfl⟩ (c_M_goes ok _ _ _) ?_
      refine ev_if_eq (t := 57) d_M_fails_40 (by decide) (fun c_40 => absurd c_40 (by grind [xbi, mgo])) (fun _ => ?_)
      refine ev_aload_n d_M_fails_43 rfl ?_
      refine ev_get d_M_fails_44 f_8_58 (mM_obj ok) rfl ?_
      refine ev_iload_n d_M_fails_47 rfl ?_
      refine ev_iload_n d_M_fails_48 rfl ?_
      refine ev_iast d_M_fails_49 (mM_arr ok 21 rfl) ⟨rfl, vp_in_nI hn (by decide)⟩ (mM_ast ok 21 rfl) ?_
      refine ev_aload_n d_M_fails_50 rfl ?_
      refine ev_get d_M_fails_51 f_8_61 (mM_obj ok) rfl ?_
      refine ev_iload_n d_M_fails_54 rfl ?_
      refine ev_iload_n d_M_fails_55 rfl ?_
      refine ev_iast d_M_fails_56 (mM_arr ok 22 rfl) ⟨rfl, vp_in_nI hn (by decide)⟩ (mM_ast ok 22 rfl) ?_
      exact xEv.to (ev_ret d_M_fails_57 rfl) (by grind [upd, va_up, xbi, mgo])
    · refine ev_iload_n d_M_fails_16 rfl ?_
      refine ev_if_lt (t := 35) d_M_fails_17 (by decide) (fun c_17_3 => ?_) (fun c_17_3 => ?_)
      · refine ev_iconst (v := 0) d_M_fails_35 rfl ?_
        exact hk_2 _ (by rw [xbi_f (by grind)])
      · refine ev_iload_n d_M_fails_20 rfl ?_
        refine ev_iload_n d_M_fails_21 rfl ?_
        refine ev_icmp_gt (t := 35) d_M_fails_22 (by decide) (fun c_22_4 => ?_) (fun c_22_4 => ?_)
        · refine ev_iconst (v := 0) d_M_fails_35 rfl ?_
          exact hk_2 _ (by rw [xbi_f (by grind)])
        · refine ev_iload_n d_M_fails_25 rfl ?_
          refine ev_ldc d_M_fails_26 l_8_171 ?_
          refine ev_icmp_gt (t := 35) d_M_fails_28 (by decide) (fun c_28_5 => ?_) (fun c_28_5 => ?_)
          · refine ev_iconst (v := 0) d_M_fails_35 rfl ?_
            exact hk_2 _ (by rw [xbi_f (by grind)])
          · refine ev_iconst (v := 1) d_M_fails_31 rfl ?_
            refine ev_goto (t := 36) d_M_fails_32 (by decide) ?_
            exact hk_2 _ (by rw [xbi_t (by grind)])
  · refine ev_iload_n d_M_fails_1 rfl ?_
    refine ev_if_lt (t := 15) d_M_fails_2 (by decide) (fun c_2_6 => ?_) (fun c_2_6 => ?_)
    · refine ev_iconst (v := 0) d_M_fails_15 rfl ?_
      exact hk_1 _ (by rw [xbi_f (by grind)])
    · refine ev_iload_n d_M_fails_5 rfl ?_
      refine ev_bipush (v := 8) d_M_fails_6 rfl ?_
      refine ev_icmp_ge (t := 15) d_M_fails_8 (by decide) (fun c_8_7 => ?_) (fun c_8_7 => ?_)
      · refine ev_iconst (v := 0) d_M_fails_15 rfl ?_
        exact hk_1 _ (by rw [xbi_f (by grind)])
      · refine ev_iconst (v := 1) d_M_fails_11 rfl ?_
        refine ev_goto (t := 16) d_M_fails_12 (by decide) ?_
        exact hk_1 _ (by rw [xbi_t (by grind)])
set_option maxRecDepth 20000 in
theorem c_M_shield_no {d : Nat} {B : xMm} {ad : Nat → Nat} {ix : Nat → Option Nat} {iv : Nat → Int32} {av : Nat → Nat → Int32} {ns : Nat × Nat} (ok : mOk ad ix) (l b : Int32) (h : ¬ (0 ≤ l ∧ l < iv 23)) : xCl (d + 1) k_M_shield [.ref (ad 0), .int l, .int b] (mM B ad ix iv av, ns) (.inl (some (.int 0)), (mM B ad ix (upd iv 0 1) (av), ns)) := by
  show xEv _ k_M_shield 0 [some (.ref (ad 0)), some (.int l), some (.int b), none] [] _ _
  refine ev_aload_n d_M_shield_0 rfl ?_
  refine ev_aload_n d_M_shield_1 rfl ?_
  refine ev_iload_n d_M_shield_2 rfl ?_
  refine ev_v1r d_M_shield_3 q_8_184 rfl (mM_obj ok) ⟨rfl, Nat.le_of_ble_eq_true rfl, Nat.le_of_ble_eq_true rfl⟩ (c_M_isLoan ok _) ?_
  refine ev_iconst (v := 1) d_M_shield_6 rfl ?_
  refine ev_iconst (v := 1) d_M_shield_7 rfl ?_
  refine ev_v3r d_M_shield_8 q_8_116 rfl (mM_obj ok) ⟨rfl, Nat.le_of_ble_eq_true rfl, Nat.le_of_ble_eq_true rfl⟩ (c_M_goes ok _ _ _) ?_
  refine ev_if_ne (t := 16) d_M_shield_11 (by decide) (fun c_11 => absurd (by grind [xbi, mgo]) c_11) (fun _ => ?_)
  refine ev_iconst (v := 0) d_M_shield_14 rfl ?_
  exact xEv.to (ev_zret d_M_shield_15 rfl (Or.inl rfl)) (by grind [upd, va_up, xbi, mgo])
set_option maxRecDepth 20000 in
theorem c_M_shield_ok {d : Nat} {B : xMm} {ad : Nat → Nat} {ix : Nat → Option Nat} {iv : Nat → Int32} {av : Nat → Nat → Int32} {ns : Nat × Nat} (ok : mOk ad ix) (b : Int32) (l : Nat) (hl : l < 20) (h : nI l < iv 23) (hb : b = 0 ∨ b = 1) : xCl (d + 1) k_M_shield [.ref (ad 0), .int (nI l), .int b] (mM B ad ix iv av, ns) (.inl (some (.int (xbi (av 28 l ≠ b)))), (mM B ad ix (upd iv 0 0) (va_up av 28 (upd (av 28) l b)), ns)) := by
  have h0l : 0 ≤ nI l := nI_pos' (by omega)
  have el : (nI l).toNatClampNeg = l := nI_clamp (by omega)
  have hb1 : b &&& 1 = b := by rcases hb with rfl | rfl <;> rfl
  show xEv _ k_M_shield 0 [some (.ref (ad 0)), some (.int (nI l)), some (.int b), none] [] _ _
  refine ev_aload_n d_M_shield_0 rfl ?_
  refine ev_aload_n d_M_shield_1 rfl ?_
  refine ev_iload_n d_M_shield_2 rfl ?_
  refine ev_v1r d_M_shield_3 q_8_184 rfl (mM_obj ok) ⟨rfl, Nat.le_of_ble_eq_true rfl, Nat.le_of_ble_eq_true rfl⟩ (c_M_isLoan ok _) ?_
  refine ev_iconst (v := 1) d_M_shield_6 rfl ?_
  refine ev_iconst (v := 1) d_M_shield_7 rfl ?_
  refine ev_v3r d_M_shield_8 q_8_116 rfl (mM_obj ok) ⟨rfl, Nat.le_of_ble_eq_true rfl, Nat.le_of_ble_eq_true rfl⟩ (c_M_goes ok _ _ _) ?_
  refine ev_if_ne (t := 16) d_M_shield_11 (by decide) (fun _ => ?_) (fun c_11 => absurd c_11 (by grind [xbi, mgo]))
  refine ev_aload_n d_M_shield_16 rfl ?_
  refine ev_get d_M_shield_17 f_8_76 (mM_obj ok) rfl ?_
  refine ev_iload_n d_M_shield_20 rfl ?_
  refine ev_zald d_M_shield_21 (mM_arr ok 28 rfl) ⟨rfl, vp_in_nI hl (by decide)⟩ rfl ?_
  refine ev_top (fun x_1 ex_1 => ?_)
  refine ev_istore_n (lo1 := [some (.ref (ad 0)), some (.int (nI l)), some (.int b), some (.int x_1)]) d_M_shield_22 (Nat.le_of_ble_eq_true rfl) rfl ?_
  refine ev_aload_n d_M_shield_23 rfl ?_
  refine ev_get d_M_shield_24 f_8_76 (mM_obj ok) rfl ?_
  refine ev_iload_n d_M_shield_27 rfl ?_
  refine ev_iload_n d_M_shield_28 rfl ?_
  refine ev_zast d_M_shield_29 (mM_arr ok 28 rfl) ⟨rfl, vp_in_nI hl (by decide)⟩ (mM_ast ok 28 rfl) ?_
  refine ev_iload_n d_M_shield_30 rfl ?_
  refine ev_iload_n d_M_shield_31 rfl ?_
  refine ev_icmp_eq (t := 39) d_M_shield_32 (by decide) (fun c_32_2 => ?_) (fun c_32_2 => ?_)
  · refine ev_iconst (v := 0) d_M_shield_39 rfl ?_
    exact xEv.to (ev_zret d_M_shield_40 rfl (Or.inl rfl)) (by grind [upd, va_up, xbi, mgo])
  · refine ev_iconst (v := 1) d_M_shield_35 rfl ?_
    refine ev_goto (t := 40) d_M_shield_36 (by decide) ?_
    exact xEv.to (ev_zret d_M_shield_40 rfl (Or.inr rfl)) (by grind [upd, va_up, xbi, mgo])
set_option maxRecDepth 20000 in
theorem c_M_request_no {d : Nat} {B : xMm} {ad : Nat → Nat} {ix : Nat → Option Nat} {iv : Nat → Int32} {av : Nat → Nat → Int32} {ns : Nat × Nat} (ok : mOk ad ix) (t f u : Int32) (h : mgo (xbi (0 ≤ t ∧ t < 16)) (xbi (iv 33 < 30)) (xbi (0 ≤ f ∧ f ≤ u ∧ u ≤ 100000)) ≠ 0) : xCl (d + 1) k_M_request [.ref (ad 0), .int t, .int f, .int u] (mM B ad ix iv av, ns) (.inl (some (.int 0)), (mM B ad ix (upd iv 0 (mgo (xbi (0 ≤ t ∧ t < 16)) (xbi (iv 33 < 30)) (xbi (0 ≤ f ∧ f ≤ u ∧ u ≤ 100000)))) (av), ns)) := by
  show xEv _ k_M_request 0 [some (.ref (ad 0)), some (.int t), some (.int f), some (.int u)] [] _ _
  refine ev_aload_n d_M_request_0 rfl ?_
  refine ev_iload_n d_M_request_1 rfl ?_
  refine ev_s1r d_M_request_2 q_8_173 rfl ⟨rfl, Nat.le_of_ble_eq_true rfl, Nat.le_of_ble_eq_true rfl⟩ (c_M_isThing _) ?_
  refine ev_cutv (E := 19) (V := xbi (iv 33 < 30)) ?_ (fun hk_1 => ?_)
  · refine ev_iload_n d_M_request_19 rfl ?_
    refine ev_iload_n d_M_request_20 rfl ?_
    refine ev_s2r d_M_request_21 q_8_176 rfl ⟨rfl, Nat.le_of_ble_eq_true rfl, Nat.le_of_ble_eq_true rfl⟩ (c_M_areDays _ _) ?_
    refine ev_v3r d_M_request_24 q_8_116 rfl (mM_obj ok) ⟨rfl, Nat.le_of_ble_eq_true rfl, Nat.le_of_ble_eq_true rfl⟩ (c_M_goes ok _ _ _) ?_
    refine ev_if_ne (t := 32) d_M_request_27 (by decide) (fun c_27 => absurd (xbi_f h) c_27) (fun _ => ?_)
    refine ev_iconst (v := 0) d_M_request_30 rfl ?_
    exact xEv.to (ev_iret d_M_request_31 rfl) (by grind [upd, va_up, xbi])
  · refine ev_aload_n d_M_request_5 rfl ?_
    refine ev_get d_M_request_6 f_8_196 (mM_obj ok) rfl ?_
    refine ev_bipush (v := 30) d_M_request_9 rfl ?_
    refine ev_icmp_ge (t := 18) d_M_request_11 (by decide) (fun c_11_2 => ?_) (fun c_11_2 => ?_)
    · refine ev_iconst (v := 0) d_M_request_18 rfl ?_
      exact hk_1 _ (by rw [xbi_f (by grind)])
    · refine ev_iconst (v := 1) d_M_request_14 rfl ?_
      refine ev_goto (t := 19) d_M_request_15 (by decide) ?_
      exact hk_1 _ (by rw [xbi_t (by grind)])
set_option maxRecDepth 20000 in
theorem c_M_request_ok {d : Nat} {B : xMm} {ad : Nat → Nat} {ix : Nat → Option Nat} {iv : Nat → Int32} {av : Nat → Nat → Int32} {ns : Nat × Nat} (ok : mOk ad ix) (t f u : Int32) (n : Nat) (hn : n < 30) (hi : iv 33 = nI n) (h1 : 0 ≤ t ∧ t < 16) (h3 : 0 ≤ f ∧ f ≤ u ∧ u ≤ 100000) : xCl (d + 1) k_M_request [.ref (ad 0), .int t, .int f, .int u] (mM B ad ix iv av, ns) (.inl (some (.int (nI n))), (mM B ad ix (upd (upd iv 0 0) 33 (nI (n + 1))) (va_up (va_up (va_up av 34 (upd (av 34) n t)) 35 (upd (av 35) n f)) 36 (upd (av 36) n u)), ns)) := by
  have h0n : 0 ≤ nI n := nI_pos' (by omega)
  have en : (nI n).toNatClampNeg = n := nI_clamp (by omega)
  have hn8 : iv 33 < 30 := by rw [hi]; exact nI_lt hn (by decide)
  have es : nI (n + 1) = nI n + 1 := nI_succ n
  have ep : nI n + 1 - 1 = nI n := by rw [← es]; exact nI_pred n
  show xEv _ k_M_request 0 [some (.ref (ad 0)), some (.int t), some (.int f), some (.int u)] [] _ _
  refine ev_aload_n d_M_request_0 rfl ?_
  refine ev_iload_n d_M_request_1 rfl ?_
  refine ev_s1r d_M_request_2 q_8_173 rfl ⟨rfl, Nat.le_of_ble_eq_true rfl, Nat.le_of_ble_eq_true rfl⟩ (c_M_isThing _) ?_
  refine ev_cutv (E := 19) (V := xbi (iv 33 < 30)) ?_ (fun hk_1 => ?_)
  · refine ev_iload_n d_M_request_19 rfl ?_
    refine ev_iload_n d_M_request_20 rfl ?_
    refine ev_s2r d_M_request_21 q_8_176 rfl ⟨rfl, Nat.le_of_ble_eq_true rfl, Nat.le_of_ble_eq_true rfl⟩ (c_M_areDays _ _) ?_
    refine ev_v3r d_M_request_24 q_8_116 rfl (mM_obj ok) ⟨rfl, Nat.le_of_ble_eq_true rfl, Nat.le_of_ble_eq_true rfl⟩ (c_M_goes ok _ _ _) ?_
    refine ev_if_ne (t := 32) d_M_request_27 (by decide) (fun _ => ?_) (fun c_27 => absurd c_27 (by grind [xbi, mgo]))
    refine ev_aload_n d_M_request_32 rfl ?_
    refine ev_get d_M_request_33 f_8_92 (mM_obj ok) rfl ?_
    refine ev_aload_n d_M_request_36 rfl ?_
    refine ev_get d_M_request_37 f_8_196 (mM_obj ok) rfl ?_
    refine ev_iload_n d_M_request_40 rfl ?_
    refine ev_iast d_M_request_41 (mM_arr ok 34 rfl) ⟨rfl, (by rw [show upd iv 0 _ 33 = nI n from by grind [upd]]; exact vp_in_nI hn (by decide))⟩ (mM_ast ok 34 rfl) ?_
    refine ev_aload_n d_M_request_42 rfl ?_
    refine ev_get d_M_request_43 f_8_95 (mM_obj ok) rfl ?_
    refine ev_aload_n d_M_request_46 rfl ?_
    refine ev_get d_M_request_47 f_8_196 (mM_obj ok) rfl ?_
    refine ev_iload_n d_M_request_50 rfl ?_
    refine ev_iast d_M_request_51 (mM_arr ok 35 rfl) ⟨rfl, (by rw [show upd iv 0 _ 33 = nI n from by grind [upd]]; exact vp_in_nI hn (by decide))⟩ (mM_ast ok 35 rfl) ?_
    refine ev_aload_n d_M_request_52 rfl ?_
    refine ev_get d_M_request_53 f_8_98 (mM_obj ok) rfl ?_
    refine ev_aload_n d_M_request_56 rfl ?_
    refine ev_get d_M_request_57 f_8_196 (mM_obj ok) rfl ?_
    refine ev_iload_n d_M_request_60 rfl ?_
    refine ev_iast d_M_request_61 (mM_arr ok 36 rfl) ⟨rfl, (by rw [show upd iv 0 _ 33 = nI n from by grind [upd]]; exact vp_in_nI hn (by decide))⟩ (mM_ast ok 36 rfl) ?_
    refine ev_aload_n d_M_request_62 rfl ?_
    refine ev_dup d_M_request_63 rfl ?_
    refine ev_get d_M_request_64 f_8_196 (mM_obj ok) rfl ?_
    refine ev_iconst (v := 1) d_M_request_67 rfl ?_
    refine ev_iadd d_M_request_68 ?_
    refine ev_put d_M_request_69 f_8_196 (mM_obj ok) ⟨Nat.le_of_ble_eq_true rfl, xfit_i rfl, Or.inl rfl⟩ (mM_put ok rfl) ?_
    refine ev_aload_n d_M_request_72 rfl ?_
    refine ev_get d_M_request_73 f_8_196 (mM_obj ok) rfl ?_
    refine ev_iconst (v := 1) d_M_request_76 rfl ?_
    refine ev_isub d_M_request_77 ?_
    exact xEv.to (ev_iret d_M_request_78 rfl) (by grind [upd, va_up, xbi, mgo])
  · refine ev_aload_n d_M_request_5 rfl ?_
    refine ev_get d_M_request_6 f_8_196 (mM_obj ok) rfl ?_
    refine ev_bipush (v := 30) d_M_request_9 rfl ?_
    refine ev_icmp_ge (t := 18) d_M_request_11 (by decide) (fun c_11_2 => ?_) (fun c_11_2 => ?_)
    · refine ev_iconst (v := 0) d_M_request_18 rfl ?_
      exact hk_1 _ (by rw [xbi_f (by grind)])
    · refine ev_iconst (v := 1) d_M_request_14 rfl ?_
      refine ev_goto (t := 19) d_M_request_15 (by decide) ?_
      exact hk_1 _ (by rw [xbi_t (by grind)])
set_option maxRecDepth 20000 in
theorem c_M_allDays {d : Nat} {B : xMm} {ad : Nat → Nat} {ix : Nat → Option Nat} {iv : Nat → Int32} {av : Nat → Nat → Int32} {ns : Nat × Nat} (ok : mOk ad ix) (l : Nat) (hl : l < 20) : xCl (d) k_M_allDays [.ref (ad 0), .int (nI l)] (mM B ad ix iv av, ns) (.inl (some (.int (av 27 l - av 26 l + 1))), (mM B ad ix (iv) (av), ns)) := by
  have h0l : 0 ≤ nI l := nI_pos' (by omega)
  have el : (nI l).toNatClampNeg = l := nI_clamp (by omega)
  show xEv _ k_M_allDays 0 [some (.ref (ad 0)), some (.int (nI l))] [] _ _
  refine ev_aload_n d_M_allDays_0 rfl ?_
  refine ev_get d_M_allDays_1 f_8_73 (mM_obj ok) rfl ?_
  refine ev_iload_n d_M_allDays_4 rfl ?_
  refine ev_iald d_M_allDays_5 (mM_arr ok 27 rfl) ⟨rfl, vp_in_nI hl (by decide)⟩ rfl ?_
  refine ev_aload_n d_M_allDays_6 rfl ?_
  refine ev_get d_M_allDays_7 f_8_70 (mM_obj ok) rfl ?_
  refine ev_iload_n d_M_allDays_10 rfl ?_
  refine ev_iald d_M_allDays_11 (mM_arr ok 26 rfl) ⟨rfl, vp_in_nI hl (by decide)⟩ rfl ?_
  refine ev_isub d_M_allDays_12 ?_
  refine ev_iconst (v := 1) d_M_allDays_13 rfl ?_
  refine ev_iadd d_M_allDays_14 ?_
  exact xEv.to (ev_iret d_M_allDays_15 rfl) (by grind [upd, va_up, xbi])
set_option maxRecDepth 20000 in
theorem c_M_days_no {d : Nat} {B : xMm} {ad : Nat → Nat} {ix : Nat → Option Nat} {iv : Nat → Int32} {av : Nat → Nat → Int32} {ns : Nat × Nat} (ok : mOk ad ix) (l : Int32) (h : ¬ (0 ≤ l ∧ l < iv 23)) : xCl (d + 1) k_M_days [.ref (ad 0), .int l] (mM B ad ix iv av, ns) (.inl (some (.int 0)), (mM B ad ix (upd iv 0 1) (av), ns)) := by
  show xEv _ k_M_days 0 [some (.ref (ad 0)), some (.int l)] [] _ _
  refine ev_aload_n d_M_days_0 rfl ?_
  refine ev_aload_n d_M_days_1 rfl ?_
  refine ev_iload_n d_M_days_2 rfl ?_
  refine ev_v1r d_M_days_3 q_8_184 rfl (mM_obj ok) ⟨rfl, Nat.le_of_ble_eq_true rfl, Nat.le_of_ble_eq_true rfl⟩ (c_M_isLoan ok _) ?_
  refine ev_iconst (v := 1) d_M_days_6 rfl ?_
  refine ev_iconst (v := 1) d_M_days_7 rfl ?_
  refine ev_v3r d_M_days_8 q_8_116 rfl (mM_obj ok) ⟨rfl, Nat.le_of_ble_eq_true rfl, Nat.le_of_ble_eq_true rfl⟩ (c_M_goes ok _ _ _) ?_
  refine ev_if_eq (t := 22) d_M_days_11 (by decide) (fun _ => ?_) (fun c_11 => absurd (by grind [xbi, mgo]) c_11)
  refine ev_iconst (v := 0) d_M_days_22 rfl ?_
  exact xEv.to (ev_iret d_M_days_23 rfl) (by grind [upd, va_up, xbi, mgo])
set_option maxRecDepth 20000 in
theorem c_M_days_ok {d : Nat} {B : xMm} {ad : Nat → Nat} {ix : Nat → Option Nat} {iv : Nat → Int32} {av : Nat → Nat → Int32} {ns : Nat × Nat} (ok : mOk ad ix) (l : Nat) (hl : l < 20) (h : nI l < iv 23) : xCl (d + 1) k_M_days [.ref (ad 0), .int (nI l)] (mM B ad ix iv av, ns) (.inl (some (.int (av 27 l - av 26 l + 1))), (mM B ad ix (upd iv 0 0) (av), ns)) := by
  have h0l : 0 ≤ nI l := nI_pos' (by omega)
  have el : (nI l).toNatClampNeg = l := nI_clamp (by omega)
  show xEv _ k_M_days 0 [some (.ref (ad 0)), some (.int (nI l))] [] _ _
  refine ev_aload_n d_M_days_0 rfl ?_
  refine ev_aload_n d_M_days_1 rfl ?_
  refine ev_iload_n d_M_days_2 rfl ?_
  refine ev_v1r d_M_days_3 q_8_184 rfl (mM_obj ok) ⟨rfl, Nat.le_of_ble_eq_true rfl, Nat.le_of_ble_eq_true rfl⟩ (c_M_isLoan ok _) ?_
  refine ev_iconst (v := 1) d_M_days_6 rfl ?_
  refine ev_iconst (v := 1) d_M_days_7 rfl ?_
  refine ev_v3r d_M_days_8 q_8_116 rfl (mM_obj ok) ⟨rfl, Nat.le_of_ble_eq_true rfl, Nat.le_of_ble_eq_true rfl⟩ (c_M_goes ok _ _ _) ?_
  refine ev_if_eq (t := 22) d_M_days_11 (by decide) (fun c_11 => absurd c_11 (by grind [xbi, mgo])) (fun _ => ?_)
  refine ev_aload_n d_M_days_14 rfl ?_
  refine ev_iload_n d_M_days_15 rfl ?_
  refine ev_v1r d_M_days_16 q_8_202 rfl (mM_obj ok) ⟨rfl, Nat.le_of_ble_eq_true rfl, Nat.le_of_ble_eq_true rfl⟩ (c_M_allDays ok _ hl) ?_
  refine ev_goto (t := 23) d_M_days_19 (by decide) ?_
  exact xEv.to (ev_iret d_M_days_23 rfl) (by grind [upd, va_up, xbi, mgo])
set_option maxRecDepth 20000 in
theorem c_M_allFee {d : Nat} {B : xMm} {ad : Nat → Nat} {ix : Nat → Option Nat} {iv : Nat → Int32} {av : Nat → Nat → Int32} {ns : Nat × Nat} (ok : mOk ad ix) (l : Nat) (c : Nat) (hl : l < 20) (hc : c < 8) (hlc : av 24 l = nI c) : xCl (d + 1) k_M_allFee [.ref (ad 0), .int (nI l)] (mM B ad ix iv av, ns) (.inl (some (.int (5 * (av 27 l - av 26 l + 1) + 20 * av 4 c + (if av 28 l = 0 then 300 else 0) + 50 * av 30 l))), (mM B ad ix (iv) (av), ns)) := by
  have h0l : 0 ≤ nI l := nI_pos' (by omega)
  have el : (nI l).toNatClampNeg = l := nI_clamp (by omega)
  have ec : (nI c).toNatClampNeg = c := nI_clamp (by omega)
  show xEv _ k_M_allFee 0 [some (.ref (ad 0)), some (.int (nI l))] [] _ _
  refine ev_iconst (v := 5) d_M_allFee_0 rfl ?_
  refine ev_aload_n d_M_allFee_1 rfl ?_
  refine ev_iload_n d_M_allFee_2 rfl ?_
  refine ev_v1r d_M_allFee_3 q_8_202 rfl (mM_obj ok) ⟨rfl, Nat.le_of_ble_eq_true rfl, Nat.le_of_ble_eq_true rfl⟩ (c_M_allDays ok _ hl) ?_
  refine ev_imul d_M_allFee_6 ?_
  refine ev_bipush (v := 20) d_M_allFee_7 rfl ?_
  refine ev_aload_n d_M_allFee_9 rfl ?_
  refine ev_get d_M_allFee_10 f_8_13 (mM_obj ok) rfl ?_
  refine ev_aload_n d_M_allFee_13 rfl ?_
  refine ev_get d_M_allFee_14 f_8_64 (mM_obj ok) rfl ?_
  refine ev_iload_n d_M_allFee_17 rfl ?_
  refine ev_iald d_M_allFee_18 (mM_arr ok 24 rfl) ⟨rfl, vp_in_nI hl (by decide)⟩ rfl ?_
  refine ev_iald d_M_allFee_19 (mM_arr ok 4 rfl) ⟨rfl, (by rw [el, hlc]; exact vp_in_nI hc (by decide))⟩ rfl ?_
  refine ev_imul d_M_allFee_20 ?_
  refine ev_iadd d_M_allFee_21 ?_
  refine ev_aload_n d_M_allFee_22 rfl ?_
  refine ev_get d_M_allFee_23 f_8_76 (mM_obj ok) rfl ?_
  refine ev_iload_n d_M_allFee_26 rfl ?_
  refine ev_zald d_M_allFee_27 (mM_arr ok 28 rfl) ⟨rfl, vp_in_nI hl (by decide)⟩ rfl ?_
  refine ev_if_eq (t := 35) d_M_allFee_28 (by decide) (fun c_28_1 => ?_) (fun c_28_1 => ?_)
  · refine ev_sipush (v := 300) d_M_allFee_35 rfl ?_
    refine ev_iadd d_M_allFee_38 ?_
    refine ev_bipush (v := 50) d_M_allFee_39 rfl ?_
    refine ev_aload_n d_M_allFee_41 rfl ?_
    refine ev_get d_M_allFee_42 f_8_83 (mM_obj ok) rfl ?_
    refine ev_iload_n d_M_allFee_45 rfl ?_
    refine ev_iald d_M_allFee_46 (mM_arr ok 30 rfl) ⟨rfl, vp_in_nI hl (by decide)⟩ rfl ?_
    refine ev_imul d_M_allFee_47 ?_
    refine ev_iadd d_M_allFee_48 ?_
    exact xEv.to (ev_iret d_M_allFee_49 rfl) (by grind [upd, va_up, xbi])
  · refine ev_iconst (v := 0) d_M_allFee_31 rfl ?_
    refine ev_goto (t := 38) d_M_allFee_32 (by decide) ?_
    refine ev_iadd d_M_allFee_38 ?_
    refine ev_bipush (v := 50) d_M_allFee_39 rfl ?_
    refine ev_aload_n d_M_allFee_41 rfl ?_
    refine ev_get d_M_allFee_42 f_8_83 (mM_obj ok) rfl ?_
    refine ev_iload_n d_M_allFee_45 rfl ?_
    refine ev_iald d_M_allFee_46 (mM_arr ok 30 rfl) ⟨rfl, vp_in_nI hl (by decide)⟩ rfl ?_
    refine ev_imul d_M_allFee_47 ?_
    refine ev_iadd d_M_allFee_48 ?_
    exact xEv.to (ev_iret d_M_allFee_49 rfl) (by grind [upd, va_up, xbi])
set_option maxRecDepth 20000 in
theorem c_M_fee_no {d : Nat} {B : xMm} {ad : Nat → Nat} {ix : Nat → Option Nat} {iv : Nat → Int32} {av : Nat → Nat → Int32} {ns : Nat × Nat} (ok : mOk ad ix) (l : Int32) (h : ¬ (0 ≤ l ∧ l < iv 23)) : xCl (d + 2) k_M_fee [.ref (ad 0), .int l] (mM B ad ix iv av, ns) (.inl (some (.int 0)), (mM B ad ix (upd iv 0 1) (av), ns)) := by
  show xEv _ k_M_fee 0 [some (.ref (ad 0)), some (.int l)] [] _ _
  refine ev_aload_n d_M_fee_0 rfl ?_
  refine ev_aload_n d_M_fee_1 rfl ?_
  refine ev_iload_n d_M_fee_2 rfl ?_
  refine ev_v1r d_M_fee_3 q_8_184 rfl (mM_obj ok) ⟨rfl, Nat.le_of_ble_eq_true rfl, Nat.le_of_ble_eq_true rfl⟩ (c_M_isLoan ok _) ?_
  refine ev_iconst (v := 1) d_M_fee_6 rfl ?_
  refine ev_iconst (v := 1) d_M_fee_7 rfl ?_
  refine ev_v3r d_M_fee_8 q_8_116 rfl (mM_obj ok) ⟨rfl, Nat.le_of_ble_eq_true rfl, Nat.le_of_ble_eq_true rfl⟩ (c_M_goes ok _ _ _) ?_
  refine ev_if_eq (t := 22) d_M_fee_11 (by decide) (fun _ => ?_) (fun c_11 => absurd (by grind [xbi, mgo]) c_11)
  refine ev_iconst (v := 0) d_M_fee_22 rfl ?_
  exact xEv.to (ev_iret d_M_fee_23 rfl) (by grind [upd, va_up, xbi, mgo])
set_option maxRecDepth 20000 in
theorem c_M_fee_ok {d : Nat} {B : xMm} {ad : Nat → Nat} {ix : Nat → Option Nat} {iv : Nat → Int32} {av : Nat → Nat → Int32} {ns : Nat × Nat} (ok : mOk ad ix) (l : Nat) (c : Nat) (hl : l < 20) (hc : c < 8) (hlc : av 24 l = nI c) (h : nI l < iv 23) : xCl (d + 2) k_M_fee [.ref (ad 0), .int (nI l)] (mM B ad ix iv av, ns) (.inl (some (.int (5 * (av 27 l - av 26 l + 1) + 20 * av 4 c + (if av 28 l = 0 then 300 else 0) + 50 * av 30 l))), (mM B ad ix (upd iv 0 0) (av), ns)) := by
  have h0l : 0 ≤ nI l := nI_pos' (by omega)
  have el : (nI l).toNatClampNeg = l := nI_clamp (by omega)
  show xEv _ k_M_fee 0 [some (.ref (ad 0)), some (.int (nI l))] [] _ _
  refine ev_aload_n d_M_fee_0 rfl ?_
  refine ev_aload_n d_M_fee_1 rfl ?_
  refine ev_iload_n d_M_fee_2 rfl ?_
  refine ev_v1r d_M_fee_3 q_8_184 rfl (mM_obj ok) ⟨rfl, Nat.le_of_ble_eq_true rfl, Nat.le_of_ble_eq_true rfl⟩ (c_M_isLoan ok _) ?_
  refine ev_iconst (v := 1) d_M_fee_6 rfl ?_
  refine ev_iconst (v := 1) d_M_fee_7 rfl ?_
  refine ev_v3r d_M_fee_8 q_8_116 rfl (mM_obj ok) ⟨rfl, Nat.le_of_ble_eq_true rfl, Nat.le_of_ble_eq_true rfl⟩ (c_M_goes ok _ _ _) ?_
  refine ev_if_eq (t := 22) d_M_fee_11 (by decide) (fun c_11 => absurd c_11 (by grind [xbi, mgo])) (fun _ => ?_)
  refine ev_aload_n d_M_fee_14 rfl ?_
  refine ev_iload_n d_M_fee_15 rfl ?_
  refine ev_v1r d_M_fee_16 q_8_206 rfl (mM_obj ok) ⟨rfl, Nat.le_of_ble_eq_true rfl, Nat.le_of_ble_eq_true rfl⟩ (c_M_allFee ok _ c hl hc hlc) ?_
  refine ev_goto (t := 23) d_M_fee_19 (by decide) ?_
  exact xEv.to (ev_iret d_M_fee_23 rfl) (by grind [upd, va_up, xbi, mgo])
set_option maxRecDepth 20000 in
theorem c_M_put {d : Nat} {B : xMm} {ad : Nat → Nat} {ix : Nat → Option Nat} {iv : Nat → Int32} {av : Nat → Nat → Int32} {ns : Nat × Nat} (ok : mOk ad ix) (s : Int32) (n : Nat) (hn : n < 400) (hi : iv 17 = nI n) : xCl (d) k_M_put [.ref (ad 0), .int s] (mM B ad ix iv av, ns) (.inl none, (mM B ad ix (upd iv 17 (nI (n + 1))) (va_up av 16 (upd (av 16) n s)), ns)) := by
  have h0n : 0 ≤ nI n := nI_pos' (by omega)
  have en : (nI n).toNatClampNeg = n := nI_clamp (by omega)
  have es : nI (n + 1) = nI n + 1 := nI_succ n
  show xEv _ k_M_put 0 [some (.ref (ad 0)), some (.int s)] [] _ _
  refine ev_aload_n d_M_put_0 rfl ?_
  refine ev_get d_M_put_1 f_8_46 (mM_obj ok) rfl ?_
  refine ev_aload_n d_M_put_4 rfl ?_
  refine ev_get d_M_put_5 f_8_149 (mM_obj ok) rfl ?_
  refine ev_iload_n d_M_put_8 rfl ?_
  refine ev_iast d_M_put_9 (mM_arr ok 16 rfl) ⟨rfl, (by rw [hi]; exact vp_in_nI hn (by decide))⟩ (mM_ast ok 16 rfl) ?_
  refine ev_aload_n d_M_put_10 rfl ?_
  refine ev_dup d_M_put_11 rfl ?_
  refine ev_get d_M_put_12 f_8_149 (mM_obj ok) rfl ?_
  refine ev_iconst (v := 1) d_M_put_15 rfl ?_
  refine ev_iadd d_M_put_16 ?_
  refine ev_put d_M_put_17 f_8_149 (mM_obj ok) ⟨Nat.le_of_ble_eq_true rfl, xfit_i rfl, Or.inl rfl⟩ (mM_put ok rfl) ?_
  exact xEv.to (ev_ret d_M_put_20 rfl) (by grind [upd, va_up, xbi])
