/-! the reference's methods without loops -/
theorem ev_cutv {d : Nat} {y : xMt} {pc : Nat} {lo : xL} {st : List Value} {σ : xS} {r : xO × xS} {E : Nat} {V : Int32} (h : xEv d y E lo (.int V :: st) σ r) (k : (∀ b : Int32, b = V → xEv d y E lo (.int b :: st) σ r) → xEv d y pc lo st σ r) : xEv d y pc lo st σ r := k fun _ e => e ▸ h
theorem xin_i {i : Int32} {n : Nat} (N : Int32) (hN : N.toInt = n) (h0 : 0 ≤ i) (h1 : i < N) : xin i n := by
  have a0 : (0 : Int32).toInt ≤ i.toInt := Int32.le_iff_toInt_le.mp h0
  have a1 : i.toInt < N.toInt := Int32.lt_iff_toInt_lt.mp h1
  have a2 : (0 : Int32).toInt = 0 := by decide
  exact vp_in_iff.mpr ⟨by omega, by omega⟩
set_option maxRecDepth 20000 in
theorem c_M_unit_ok {d : Nat} {B : xMm} {ad : Nat → Nat} {ix : Nat → Option Nat} {iv : Nat → Int32} {av : Nat → Nat → Int32} {ns : Nat × Nat} (ok : mOk ad ix) (s : Int32) (h0 : 0 ≤ iv 1) (h : mgo (xbi (iv 1 < 80)) (xbi (33 ≤ s ∧ s ≤ 126)) 1 = 0) : xCl (d + 1) k_M_unit [.ref (ad 0), .int s] (mM B ad ix iv av, ns) (.inl (some (.int (iv 1 + 1))), (mM B ad ix (upd (upd iv 0 0) 1 (iv 1 + 1)) (va_up av 2 (upd (av 2) (iv 1).toNatClampNeg s)), ns)) := by
  show xEv _ k_M_unit 0 [some (.ref (ad 0)), some (.int s)] [] _ _
  refine ev_aload_n d_M_unit_0 rfl ?_
  refine ev_cutv (E := 15) (V := xbi (iv 1 < 80)) ?_ (fun hk_1 => ?_)
  · refine ev_iload_n d_M_unit_15 rfl ?_
    refine ev_bipush (v := 33) d_M_unit_16 rfl ?_
    refine ev_bipush (v := 126) d_M_unit_18 rfl ?_
    refine ev_s3r d_M_unit_20 q_8_112 rfl ⟨rfl, Nat.le_of_ble_eq_true rfl, Nat.le_of_ble_eq_true rfl⟩ (c_M_within _ _ _) ?_
    refine ev_iconst (v := 1) d_M_unit_23 rfl ?_
    refine ev_v3r d_M_unit_24 q_8_116 rfl (mM_obj ok) ⟨rfl, Nat.le_of_ble_eq_true rfl, Nat.le_of_ble_eq_true rfl⟩ (c_M_goes ok _ _ _) ?_
    refine ev_if_ne (t := 32) d_M_unit_27 (by decide) (fun _ => ?_) (fun c_27 => absurd c_27 (by rw [h]; decide))
    refine ev_aload_n d_M_unit_32 rfl ?_
    refine ev_get d_M_unit_33 f_8_7 (mM_obj ok) rfl ?_
    refine ev_aload_n d_M_unit_36 rfl ?_
    refine ev_get d_M_unit_37 f_8_109 (mM_obj ok) rfl ?_
    refine ev_iload_n d_M_unit_40 rfl ?_
    refine ev_iast d_M_unit_41 (mM_arr ok 2 rfl) ⟨rfl, (xin_i 80 (by decide) (by grind [upd]) (by grind [upd, mgo, xbi]))⟩ (mM_ast ok 2 rfl) ?_
    refine ev_aload_n d_M_unit_42 rfl ?_
    refine ev_dup d_M_unit_43 rfl ?_
    refine ev_get d_M_unit_44 f_8_109 (mM_obj ok) rfl ?_
    refine ev_iconst (v := 1) d_M_unit_47 rfl ?_
    refine ev_iadd d_M_unit_48 ?_
    refine ev_put d_M_unit_49 f_8_109 (mM_obj ok) ⟨Nat.le_of_ble_eq_true rfl, xfit_i rfl, Or.inl rfl⟩ (mM_put ok rfl) ?_
    refine ev_aload_n d_M_unit_52 rfl ?_
    refine ev_get d_M_unit_53 f_8_109 (mM_obj ok) rfl ?_
    exact xEv.to (ev_iret d_M_unit_56 rfl) (by grind [upd, va_up, xbi])
  · refine ev_aload_n d_M_unit_1 rfl ?_
    refine ev_get d_M_unit_2 f_8_109 (mM_obj ok) rfl ?_
    refine ev_bipush (v := 80) d_M_unit_5 rfl ?_
    refine ev_icmp_ge (t := 14) d_M_unit_7 (by decide) (fun c_7_2 => ?_) (fun c_7_2 => ?_)
    · refine ev_iconst (v := 0) d_M_unit_14 rfl ?_
      exact hk_1 _ (by rw [xbi_f (by grind)])
    · refine ev_iconst (v := 1) d_M_unit_10 rfl ?_
      refine ev_goto (t := 15) d_M_unit_11 (by decide) ?_
      exact hk_1 _ (by rw [xbi_t (by grind)])
set_option maxRecDepth 20000 in
theorem c_M_unit_no {d : Nat} {B : xMm} {ad : Nat → Nat} {ix : Nat → Option Nat} {iv : Nat → Int32} {av : Nat → Nat → Int32} {ns : Nat × Nat} (ok : mOk ad ix) (s : Int32) (h : mgo (xbi (iv 1 < 80)) (xbi (33 ≤ s ∧ s ≤ 126)) 1 ≠ 0) : xCl (d + 1) k_M_unit [.ref (ad 0), .int s] (mM B ad ix iv av, ns) (.inl (some (.int 0)), (mM B ad ix (upd iv 0 (mgo (xbi (iv 1 < 80)) (xbi (33 ≤ s ∧ s ≤ 126)) 1)) (av), ns)) := by
  show xEv _ k_M_unit 0 [some (.ref (ad 0)), some (.int s)] [] _ _
  refine ev_aload_n d_M_unit_0 rfl ?_
  refine ev_cutv (E := 15) (V := xbi (iv 1 < 80)) ?_ (fun hk_1 => ?_)
  · refine ev_iload_n d_M_unit_15 rfl ?_
    refine ev_bipush (v := 33) d_M_unit_16 rfl ?_
    refine ev_bipush (v := 126) d_M_unit_18 rfl ?_
    refine ev_s3r d_M_unit_20 q_8_112 rfl ⟨rfl, Nat.le_of_ble_eq_true rfl, Nat.le_of_ble_eq_true rfl⟩ (c_M_within _ _ _) ?_
    refine ev_iconst (v := 1) d_M_unit_23 rfl ?_
    refine ev_v3r d_M_unit_24 q_8_116 rfl (mM_obj ok) ⟨rfl, Nat.le_of_ble_eq_true rfl, Nat.le_of_ble_eq_true rfl⟩ (c_M_goes ok _ _ _) ?_
    refine ev_if_ne (t := 32) d_M_unit_27 (by decide) (fun c_27 => absurd (xbi_f h) c_27) (fun _ => ?_)
    refine ev_iconst (v := 0) d_M_unit_30 rfl ?_
    exact xEv.to (ev_iret d_M_unit_31 rfl) (by grind [upd, va_up, xbi])
  · refine ev_aload_n d_M_unit_1 rfl ?_
    refine ev_get d_M_unit_2 f_8_109 (mM_obj ok) rfl ?_
    refine ev_bipush (v := 80) d_M_unit_5 rfl ?_
    refine ev_icmp_ge (t := 14) d_M_unit_7 (by decide) (fun c_7_2 => ?_) (fun c_7_2 => ?_)
    · refine ev_iconst (v := 0) d_M_unit_14 rfl ?_
      exact hk_1 _ (by rw [xbi_f (by grind)])
    · refine ev_iconst (v := 1) d_M_unit_10 rfl ?_
      refine ev_goto (t := 15) d_M_unit_11 (by decide) ?_
      exact hk_1 _ (by rw [xbi_t (by grind)])
