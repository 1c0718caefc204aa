/-! the class: ask, and the terms that could not be asked -/
set_option maxRecDepth 20000 in
theorem c_C_termAt {d : Nat} {M : xMm} {n sl : Nat} {a r x : Nat} {z : Int32} {f : Nat → Option Nat} (ha : M a = some (.inr (1, [.ref r, .ref x, .int z]))) (hr : M r = some (.inl (6, 6, .inr (.inr (.inr (.inr f)))))) (t : Nat) (ht : t < 6) {b : Nat} (hb : f t = some b) : xCl (d) k_C_termAt [.ref a, .int (nI t)] (M, n, sl) (.inl (some (.ref b)), (M, n, sl)) := by
  show xEv _ k_C_termAt 0 [some (.ref a), some (.int (nI t))] [] _ _
  refine ev_iload_n d_C_termAt_0 rfl ?_
  refine ev_if_lt (t := 19) d_C_termAt_1 (by decide) (fun c_1 => absurd c_1 (nI_pos (by omega))) (fun _ => ?_)
  refine ev_iload_n d_C_termAt_4 rfl ?_
  refine ev_bipush (v := 6) d_C_termAt_5 rfl ?_
  refine ev_icmp_ge (t := 19) d_C_termAt_7 (by decide) (fun c_7 => absurd c_7 (nI_ge (b := 6) ht (by decide))) (fun _ => ?_)
  refine ev_aload_n d_C_termAt_10 rfl ?_
  refine ev_get d_C_termAt_11 f_1_11 (ha) rfl ?_
  refine ev_iload_n d_C_termAt_14 rfl ?_
  refine ev_aald d_C_termAt_15 (hr) ⟨rfl, vp_in_nI (N := 6) ht (by decide)⟩ (by rw [nI_clamp (show t < 2 ^ 31 by omega), hb]) ?_
  refine ev_goto (t := 20) d_C_termAt_16 (by decide) ?_
  exact ev_aret d_C_termAt_20 rfl
theorem mVal_c {av av2 : Nat → Nat → Int32} (h1 : av2 19 = av 19) (h2 : av2 20 = av 20) (k : Nat) (h : Int32) : ∀ n i v, mVal av2 k h n i v = mVal av k h n i v
  | 0, _, _ => rfl
  | n + 1, i, v => by rw [mVal, mVal, mVal_c h1 h2 k h n, h1, h2]
theorem mE_c {av av2 : Nat → Nat → Int32} (h18 : av2 18 = av 18) (h19 : av2 19 = av 19) (h20 : av2 20 = av 20) (h21 : av2 21 = av 21) (h22 : av2 22 = av 22) (h26 : av2 26 = av 26) (h28 : av2 28 = av 28) (l : Nat) (h : Int32) : mE av2 l h = mE av l h := by
  funext nm
  have e : ∀ q n, mValue av2 q h n = mValue av q h n := by
    intro q n
    unfold mValue
    rw [mVal_c h19 h20, h21, h22]
  unfold mE
  rw [e, h18, h26, h28]
set_option maxRecDepth 20000 in
theorem l_L_open {d : Nat} {M : xMm} {n sl : Nat} {ct : Nat → Nat} {tg : Nat → Option Nat} {Bn : xMm} {cn rq ln : Nat} {rt : Nat → Nat → Option Nat} {tx : Nat → List Int32} {iv : Nat → Int32} {av : Nat → Nat → Int32} (K : CR M n ct tg Bn cn rq ln rt tx iv av) (l : Nat) (hl : l < ln) (h : Int32) (h0 : 0 ≤ h) (hrows : ∀ q, q < 8 → ∃ rn, rn ≤ 60 ∧ av 18 q = nI rn) (mn : Nat) (hmn : mn ≤ 6) (hc : (av 24 l).toNatClampNeg < cn) (h4 : av 4 (av 24 l).toNatClampNeg = nI mn) (S : Nat → Int32) (E : Int32 → Option Int32) (hE : mE av l h = E) (hS : ∀ t, t < mn → ∃ (a : Nat) (D : Den) (H : Nat), rt (av 24 l).toNatClampNeg t = some a ∧ cN Bn H a D ∧ H ≤ 41 ∧ D.1 E = S t) (k : Int32) : ∀ (j t : Nat) (m : Int32), t + j = mn → xEv (d + 85) k_L_open 31 [some (.ref (ct 0)), some (.int (nI l)), some (.int h), some (.int k), some (.ref (ct (100 + 5 * l))), some (.int m), some (.int (nI t))] [] (M, n, sl) (.inl (some (.int (opR (fk (fun t => decide (S t = 2)) k j t m).1))), (M, n, sl)) := by
  intro j
  induction j with
  | zero =>
    intro t m ht
    refine ev_iload d_L_open_31 rfl ?_
    refine ev_aload d_L_open_33 rfl ?_
    refine ev_get d_L_open_35 f_0_167 ((K.lon l hl)) rfl ?_
    refine ev_get d_L_open_38 f_0_94 ((K.con (av 24 l).toNatClampNeg hc)) rfl ?_
    rw [h4]
    refine ev_icmp_ge (t := 84) d_L_open_41 (by decide) (fun _ => ?_) (fun c_41 => absurd (nI_le (by omega) (by omega)) c_41)
    refine ev_iconst (v := (-1)) d_L_open_84 rfl ?_
    exact xEv.to (ev_iret d_L_open_85 rfl) (by rfl)
  | succ j ih =>
    intro t m ht
    obtain ⟨b, D, H, hb, hN, hH, hSt⟩ := hS t (by omega)
    have hst := c_L_stateOf (sl := sl) K l hl h h0 hrows H (d + 83 - 2 * H) b D hN 0 ⟨0, rfl, by omega⟩
    rw [show d + 83 - 2 * H + 2 * H + 1 = d + 84 by omega, hE, hSt] at hst
    refine ev_iload d_L_open_31 rfl ?_
    refine ev_aload d_L_open_33 rfl ?_
    refine ev_get d_L_open_35 f_0_167 ((K.lon l hl)) rfl ?_
    refine ev_get d_L_open_38 f_0_94 ((K.con (av 24 l).toNatClampNeg hc)) rfl ?_
    rw [h4]
    refine ev_icmp_ge (t := 84) d_L_open_41 (by decide) (fun c_41 => absurd c_41 (nI_ge (by omega) (by omega))) (fun _ => ?_)
    refine ev_aload_n d_L_open_44 rfl ?_
    refine ev_aload d_L_open_45 rfl ?_
    refine ev_get d_L_open_47 f_0_167 ((K.lon l hl)) rfl ?_
    refine ev_iload d_L_open_50 rfl ?_
    refine ev_v1r d_L_open_52 q_0_171 rfl (K.con _ hc) ⟨rfl, Nat.le_of_ble_eq_true rfl, Nat.le_of_ble_eq_true rfl⟩ (c_C_termAt (K.con _ hc) (K.conR _ hc) t (by omega) hb) ?_
    refine ev_aload d_L_open_55 rfl ?_
    refine ev_iload_n d_L_open_57 rfl ?_
    refine ev_iconst (v := 0) d_L_open_58 rfl ?_
    refine ev_v4r d_L_open_59 q_0_175 rfl K.lt ⟨rfl, Nat.le_of_ble_eq_true rfl, Nat.le_of_ble_eq_true rfl⟩ hst ?_
    refine ev_iconst (v := 2) d_L_open_62 rfl ?_
    refine ev_icmp_ne (t := 78) d_L_open_63 (by decide) (fun c_63_1 => ?_) (fun c_63_1 => ?_)
    · obtain ⟨x_2, ex_2⟩ : ∃ z : Int32, z = (nI t) + 1 := ⟨_, rfl⟩
      refine ev_iinc (v := x_2) (lo1 := [some (.ref (ct 0)), some (.int (nI l)), some (.int h), some (.int k), some (.ref (ct (100 + 5 * l))), some (.int m), some (.int x_2)]) d_L_open_78 rfl (by rw [ex_2]; rfl) rfl ?_
      refine ev_goto (t := 31) d_L_open_81 (by decide) ?_
      rw [show x_2 = nI (t + 1) from by rw [ex_2, nI_succ]]
      exact xEv.to (ih (t + 1) _ (by omega)) (by rw [fk]; grind)
    · refine ev_iload d_L_open_66 rfl ?_
      refine ev_iload_n d_L_open_68 rfl ?_
      refine ev_icmp_ne (t := 75) d_L_open_69 (by decide) (fun c_69_3 => ?_) (fun c_69_3 => ?_)
      · obtain ⟨x_4, ex_4⟩ : ∃ z : Int32, z = m + 1 := ⟨_, rfl⟩
        refine ev_iinc (v := x_4) (lo1 := [some (.ref (ct 0)), some (.int (nI l)), some (.int h), some (.int k), some (.ref (ct (100 + 5 * l))), some (.int x_4), some (.int (nI t))]) d_L_open_75 rfl (by rw [ex_4]; rfl) rfl ?_
        obtain ⟨x_5, ex_5⟩ : ∃ z : Int32, z = (nI t) + 1 := ⟨_, rfl⟩
        refine ev_iinc (v := x_5) (lo1 := [some (.ref (ct 0)), some (.int (nI l)), some (.int h), some (.int k), some (.ref (ct (100 + 5 * l))), some (.int x_4), some (.int x_5)]) d_L_open_78 rfl (by rw [ex_5]; rfl) rfl ?_
        refine ev_goto (t := 31) d_L_open_81 (by decide) ?_
        rw [show x_5 = nI (t + 1) from by rw [ex_5, nI_succ]]
        exact xEv.to (ih (t + 1) _ (by omega)) (by rw [fk]; grind)
      · refine ev_iload d_L_open_72 rfl ?_
        exact xEv.to (ev_iret d_L_open_74 rfl) (by rw [fk]; grind [opR])
set_option maxRecDepth 20000 in
theorem c_L_open_no0 {d : Nat} {M : xMm} {n sl : Nat} {ct : Nat → Nat} {tg : Nat → Option Nat} {Bn : xMm} {cn rq ln : Nat} {rt : Nat → Nat → Option Nat} {tx : Nat → List Int32} {iv : Nat → Int32} {av : Nat → Nat → Int32} (K : CR M n ct tg Bn cn rq ln rt tx iv av) (l h k : Int32) (hx : ¬ (0 ≤ l ∧ l < nI ln)) : xCl (d + 85) k_L_open [.ref (ct 0), .int l, .int h, .int k] (M, n, sl) (.inr "java/lang/IndexOutOfBoundsException", (M, n + 1, sl + 6)) := by
  show xEv _ k_L_open 0 [some (.ref (ct 0)), some (.int l), some (.int h), some (.int k), none, none, none] [] _ _
  refine ev_aload_n d_L_open_0 rfl ?_
  refine ev_iload_n d_L_open_1 rfl ?_
  exact ev_v1t d_L_open_2 q_0_149 rfl K.lt ⟨rfl, Nat.le_of_ble_eq_true rfl, Nat.le_of_ble_eq_true rfl⟩ (c_L_loanOf_no K _ hx)
set_option maxRecDepth 20000 in
theorem c_L_open_no1 {d : Nat} {M : xMm} {n sl : Nat} {ct : Nat → Nat} {tg : Nat → Option Nat} {Bn : xMm} {cn rq ln : Nat} {rt : Nat → Nat → Option Nat} {tx : Nat → List Int32} {iv : Nat → Int32} {av : Nat → Nat → Int32} (K : CR M n ct tg Bn cn rq ln rt tx iv av) (l : Nat) (hl : l < ln) (h k : Int32) (hk : ¬ 0 ≤ k) : xCl (d + 85) k_L_open [.ref (ct 0), .int (nI l), .int h, .int k] (M, n, sl) (.inr "java/lang/IndexOutOfBoundsException", (M, n + 1, sl + 6)) := by
  show xEv _ k_L_open 0 [some (.ref (ct 0)), some (.int (nI l)), some (.int h), some (.int k), none, none, none] [] _ _
  refine ev_aload_n d_L_open_0 rfl ?_
  refine ev_iload_n d_L_open_1 rfl ?_
  refine ev_v1r d_L_open_2 q_0_149 rfl K.lt ⟨rfl, Nat.le_of_ble_eq_true rfl, Nat.le_of_ble_eq_true rfl⟩ (c_L_loanOf_ok K l hl) ?_
  refine ev_astore (lo1 := [some (.ref (ct 0)), some (.int (nI l)), some (.int h), some (.int k), some (.ref (ct (100 + 5 * l))), none, none]) d_L_open_5 (Nat.le_of_ble_eq_true rfl) rfl ?_
  refine ev_iload_n d_L_open_7 rfl ?_
  refine ev_if_ge (t := 21) d_L_open_8 (by decide) (fun c_8 => absurd c_8 hk) (fun _ => ?_)
  exact ev_throw d_L_open_11 rfl (Nat.le_of_ble_eq_true rfl)
set_option maxRecDepth 20000 in
theorem c_L_open_no2 {d : Nat} {M : xMm} {n sl : Nat} {ct : Nat → Nat} {tg : Nat → Option Nat} {Bn : xMm} {cn rq ln : Nat} {rt : Nat → Nat → Option Nat} {tx : Nat → List Int32} {iv : Nat → Int32} {av : Nat → Nat → Int32} (K : CR M n ct tg Bn cn rq ln rt tx iv av) (l : Nat) (hl : l < ln) (h k : Int32) (hk : 0 ≤ k) (hh : ¬ (0 ≤ h ∧ h ≤ 2400000)) : xCl (d + 85) k_L_open [.ref (ct 0), .int (nI l), .int h, .int k] (M, n, sl) (.inr "java/lang/IllegalArgumentException", (M, n + 1, sl + 6)) := by
  show xEv _ k_L_open 0 [some (.ref (ct 0)), some (.int (nI l)), some (.int h), some (.int k), none, none, none] [] _ _
  refine ev_aload_n d_L_open_0 rfl ?_
  refine ev_iload_n d_L_open_1 rfl ?_
  refine ev_v1r d_L_open_2 q_0_149 rfl K.lt ⟨rfl, Nat.le_of_ble_eq_true rfl, Nat.le_of_ble_eq_true rfl⟩ (c_L_loanOf_ok K l hl) ?_
  refine ev_astore (lo1 := [some (.ref (ct 0)), some (.int (nI l)), some (.int h), some (.int k), some (.ref (ct (100 + 5 * l))), none, none]) d_L_open_5 (Nat.le_of_ble_eq_true rfl) rfl ?_
  refine ev_iload_n d_L_open_7 rfl ?_
  refine ev_if_ge (t := 21) d_L_open_8 (by decide) (fun _ => ?_) (fun c_8 => absurd hk c_8)
  refine ev_iload_n d_L_open_21 rfl ?_
  exact ev_s1t d_L_open_22 q_0_157 rfl ⟨rfl, Nat.le_of_ble_eq_true rfl, Nat.le_of_ble_eq_true rfl⟩ (c_L_refuseNoHour_no _ hh)
set_option maxRecDepth 20000 in
theorem c_L_open_ok {d : Nat} {M : xMm} {n sl : Nat} {ct : Nat → Nat} {tg : Nat → Option Nat} {Bn : xMm} {cn rq ln : Nat} {rt : Nat → Nat → Option Nat} {tx : Nat → List Int32} {iv : Nat → Int32} {av : Nat → Nat → Int32} (K : CR M n ct tg Bn cn rq ln rt tx iv av) (l : Nat) (hl : l < ln) (h : Int32) (h0 : 0 ≤ h) (hrows : ∀ q, q < 8 → ∃ rn, rn ≤ 60 ∧ av 18 q = nI rn) (mn : Nat) (hmn : mn ≤ 6) (hc : (av 24 l).toNatClampNeg < cn) (h4 : av 4 (av 24 l).toNatClampNeg = nI mn) (S : Nat → Int32) (E : Int32 → Option Int32) (hE : mE av l h = E) (hS : ∀ t, t < mn → ∃ (a : Nat) (D : Den) (H : Nat), rt (av 24 l).toNatClampNeg t = some a ∧ cN Bn H a D ∧ H ≤ 41 ∧ D.1 E = S t) (k : Int32) (hk : 0 ≤ k) (hh : 0 ≤ h ∧ h ≤ 2400000) : xCl (d + 85) k_L_open [.ref (ct 0), .int (nI l), .int h, .int k] (M, n, sl) (.inl (some (.int (opR (fk (fun t => decide (S t = 2)) k mn 0 0).1))), (M, n, sl)) := by
  show xEv _ k_L_open 0 [some (.ref (ct 0)), some (.int (nI l)), some (.int h), some (.int k), none, none, none] [] _ _
  refine ev_aload_n d_L_open_0 rfl ?_
  refine ev_iload_n d_L_open_1 rfl ?_
  refine ev_v1r d_L_open_2 q_0_149 rfl K.lt ⟨rfl, Nat.le_of_ble_eq_true rfl, Nat.le_of_ble_eq_true rfl⟩ (c_L_loanOf_ok K l hl) ?_
  refine ev_astore (lo1 := [some (.ref (ct 0)), some (.int (nI l)), some (.int h), some (.int k), some (.ref (ct (100 + 5 * l))), none, none]) d_L_open_5 (Nat.le_of_ble_eq_true rfl) rfl ?_
  refine ev_iload_n d_L_open_7 rfl ?_
  refine ev_if_ge (t := 21) d_L_open_8 (by decide) (fun _ => ?_) (fun c_8 => absurd hk c_8)
  refine ev_iload_n d_L_open_21 rfl ?_
  refine ev_s1o d_L_open_22 q_0_157 rfl ⟨rfl, Nat.le_of_ble_eq_true rfl, Nat.le_of_ble_eq_true rfl⟩ (c_L_refuseNoHour_ok _ hh) ?_
  refine ev_iconst (v := 0) d_L_open_25 rfl ?_
  refine ev_istore (lo1 := [some (.ref (ct 0)), some (.int (nI l)), some (.int h), some (.int k), some (.ref (ct (100 + 5 * l))), some (.int 0), none]) d_L_open_26 (Nat.le_of_ble_eq_true rfl) rfl ?_
  refine ev_iconst (v := 0) d_L_open_28 rfl ?_
  refine ev_istore (lo1 := [some (.ref (ct 0)), some (.int (nI l)), some (.int h), some (.int k), some (.ref (ct (100 + 5 * l))), some (.int 0), some (.int 0)]) d_L_open_29 (Nat.le_of_ble_eq_true rfl) rfl ?_
  exact l_L_open K l hl h h0 hrows mn hmn hc h4 S E hE hS k mn 0 0 (by omega)
set_option maxRecDepth 20000 in
theorem c_L_ask_no0 {d : Nat} {M : xMm} {n sl : Nat} {ct : Nat → Nat} {tg : Nat → Option Nat} {Bn : xMm} {cn rq ln : Nat} {rt : Nat → Nat → Option Nat} {tx : Nat → List Int32} {iv : Nat → Int32} {av : Nat → Nat → Int32} (K : CR M n ct tg Bn cn rq ln rt tx iv av) (l h : Int32) (hx : ¬ (0 ≤ l ∧ l < nI ln)) : xCl (d + 85) k_L_ask [.ref (ct 0), .int l, .int h] (M, n, sl) (.inr "java/lang/IndexOutOfBoundsException", (M, n + 1, sl + 6)) := by
  show xEv _ k_L_ask 0 [some (.ref (ct 0)), some (.int l), some (.int h), none, none, none, none] [] _ _
  refine ev_aload_n d_L_ask_0 rfl ?_
  refine ev_iload_n d_L_ask_1 rfl ?_
  exact ev_v1t d_L_ask_2 q_0_149 rfl K.lt ⟨rfl, Nat.le_of_ble_eq_true rfl, Nat.le_of_ble_eq_true rfl⟩ (c_L_loanOf_no K _ hx)
set_option maxRecDepth 20000 in
theorem c_L_ask_no1 {d : Nat} {M : xMm} {n sl : Nat} {ct : Nat → Nat} {tg : Nat → Option Nat} {Bn : xMm} {cn rq ln : Nat} {rt : Nat → Nat → Option Nat} {tx : Nat → List Int32} {iv : Nat → Int32} {av : Nat → Nat → Int32} (K : CR M n ct tg Bn cn rq ln rt tx iv av) (l : Nat) (hl : l < ln) (h : Int32) (hh : ¬ (0 ≤ h ∧ h ≤ 2400000)) : xCl (d + 85) k_L_ask [.ref (ct 0), .int (nI l), .int h] (M, n, sl) (.inr "java/lang/IllegalArgumentException", (M, n + 1, sl + 6)) := by
  show xEv _ k_L_ask 0 [some (.ref (ct 0)), some (.int (nI l)), some (.int h), none, none, none, none] [] _ _
  refine ev_aload_n d_L_ask_0 rfl ?_
  refine ev_iload_n d_L_ask_1 rfl ?_
  refine ev_v1r d_L_ask_2 q_0_149 rfl K.lt ⟨rfl, Nat.le_of_ble_eq_true rfl, Nat.le_of_ble_eq_true rfl⟩ (c_L_loanOf_ok K l hl) ?_
  refine ev_astore_n (lo1 := [some (.ref (ct 0)), some (.int (nI l)), some (.int h), some (.ref (ct (100 + 5 * l))), none, none, none]) d_L_ask_5 (Nat.le_of_ble_eq_true rfl) rfl ?_
  refine ev_iload_n d_L_ask_6 rfl ?_
  exact ev_s1t d_L_ask_7 q_0_157 rfl ⟨rfl, Nat.le_of_ble_eq_true rfl, Nat.le_of_ble_eq_true rfl⟩ (c_L_refuseNoHour_no _ hh)
set_option maxRecDepth 20000 in
theorem c_L_ask_out {d : Nat} {M : xMm} {n sl : Nat} {ct : Nat → Nat} {tg : Nat → Option Nat} {Bn : xMm} {cn rq ln : Nat} {rt : Nat → Nat → Option Nat} {tx : Nat → List Int32} {iv : Nat → Int32} {av : Nat → Nat → Int32} (K : CR M n ct tg Bn cn rq ln rt tx iv av) (l : Nat) (hl : l < ln) (h : Int32) (hh : 0 ≤ h ∧ h ≤ 2400000) (ho : ¬ (av 26 l ≤ h / 24 ∧ h / 24 ≤ av 27 l)) : xCl (d + 85) k_L_ask [.ref (ct 0), .int (nI l), .int h] (M, n, sl) (.inl (some (.int (-1))), (M, n, sl)) := by
  show xEv _ k_L_ask 0 [some (.ref (ct 0)), some (.int (nI l)), some (.int h), none, none, none, none] [] _ _
  refine ev_aload_n d_L_ask_0 rfl ?_
  refine ev_iload_n d_L_ask_1 rfl ?_
  refine ev_v1r d_L_ask_2 q_0_149 rfl K.lt ⟨rfl, Nat.le_of_ble_eq_true rfl, Nat.le_of_ble_eq_true rfl⟩ (c_L_loanOf_ok K l hl) ?_
  refine ev_astore_n (lo1 := [some (.ref (ct 0)), some (.int (nI l)), some (.int h), some (.ref (ct (100 + 5 * l))), none, none, none]) d_L_ask_5 (Nat.le_of_ble_eq_true rfl) rfl ?_
  refine ev_iload_n d_L_ask_6 rfl ?_
  refine ev_s1o d_L_ask_7 q_0_157 rfl ⟨rfl, Nat.le_of_ble_eq_true rfl, Nat.le_of_ble_eq_true rfl⟩ (c_L_refuseNoHour_ok _ hh) ?_
  refine ev_aload_n d_L_ask_10 rfl ?_
  refine ev_get d_L_ask_11 f_0_160 ((K.lon l hl)) rfl ?_
  refine ev_iload_n d_L_ask_14 rfl ?_
  refine ev_bipush (v := 24) d_L_ask_15 rfl ?_
  refine ev_idiv d_L_ask_17 (by decide) ?_
  refine ev_v1r d_L_ask_18 q_0_164 rfl (K.lonP l hl) ⟨rfl, Nat.le_of_ble_eq_true rfl, Nat.le_of_ble_eq_true rfl⟩ (c_P_hasDay (K.lonP l hl) _) ?_
  refine ev_if_ne (t := 26) d_L_ask_21 (by decide) (fun c_21 => absurd (xbi_f ho) c_21) (fun _ => ?_)
  refine ev_iconst (v := (-1)) d_L_ask_24 rfl ?_
  exact ev_iret d_L_ask_25 rfl
set_option maxRecDepth 20000 in
theorem l_L_ask {d n sl : Nat} {ct : Nat → Nat} {tg : Nat → Option Nat} {Bn : xMm} {cn rq ln : Nat} {rt : Nat → Nat → Option Nat} {tx : Nat → List Int32} {iv : Nat → Int32} (l : Nat) (hl : l < ln) (h : Int32) (h0 : 0 ≤ h) (mn : Nat) (hmn : mn ≤ 6) (S : Nat → Int32) (E : Int32 → Option Int32) : ∀ (j t : Nat) (f : Int32) (M : xMm) (av : Nat → Nat → Int32), CR M n ct tg Bn cn rq ln rt tx iv av → t + j = mn → (∀ q, q < 8 → ∃ rn, rn ≤ 60 ∧ av 18 q = nI rn) → (av 24 l).toNatClampNeg < cn → av 4 (av 24 l).toNatClampNeg = nI mn → mE av l h = E → (∀ t, t < mn → ∃ (a : Nat) (D : Den) (H : Nat), rt (av 24 l).toNatClampNeg t = some a ∧ cN Bn H a D ∧ H ≤ 41 ∧ D.1 E = S t) → (∃ q, q ≤ 100 ∧ av 30 l = nI q) → ∃ M', CR M' n ct tg Bn cn rq ln rt tx iv (askL l h S j t f av).2 ∧ (∀ z, tg z = none → M' z = M z) ∧ ∀ o6 : Option Value, xEv (d + 85) k_L_ask 32 [some (.ref (ct 0)), some (.int (nI l)), some (.int h), some (.ref (ct (100 + 5 * l))), some (.int f), some (.int (nI t)), o6] [] (M, n, sl) (.inl (some (.int (askL l h S j t f av).1)), (M', n, sl)) := by
  intro j
  induction j with
  | zero =>
    intro t f M av K ht hrows hc h4 hE hS h30
    refine ⟨M, K, fun _ _ => rfl, fun o6 => ?_⟩
    refine ev_iload d_L_ask_32 rfl ?_
    refine ev_aload_n d_L_ask_34 rfl ?_
    refine ev_get d_L_ask_35 f_0_167 ((K.lon l hl)) rfl ?_
    refine ev_get d_L_ask_38 f_0_94 ((K.con (av 24 l).toNatClampNeg hc)) rfl ?_
    rw [h4]
    refine ev_icmp_ge (t := 111) d_L_ask_41 (by decide) (fun _ => ?_) (fun c_41 => absurd (nI_le (by omega) (by omega)) c_41)
    refine ev_iload d_L_ask_111 rfl ?_
    exact xEv.to (ev_iret d_L_ask_113 rfl) (by rfl)
  | succ j ih =>
    intro t f M av K ht hrows hc h4 hE hS h30
    obtain ⟨b, D, H, hb, hN, hH, hSt⟩ := hS t (by omega)
    have hst := c_L_stateOf (sl := sl) K l hl h h0 hrows H (d + 83 - 2 * H) b D hN 0 ⟨0, rfl, by omega⟩
    rw [show d + 83 - 2 * H + 2 * H + 1 = d + 84 by omega, hE, hSt] at hst
    have n4 : ∀ k, k ≠ 29 → k ≠ 30 → k ≠ 31 → k ≠ 32 → askS av l h t (S t) k = av k := fun k a1 a2 a3 a4 => askS_ne a1 a2 a3 a4
    have hc1 : (askS av l h t (S t) 24 l).toNatClampNeg = (av 24 l).toNatClampNeg := by rw [n4 24 (by decide) (by decide) (by decide) (by decide)]
    have hE1 : mE (askS av l h t (S t)) l h = E := by rw [← hE]; exact mE_c (n4 18 (by decide) (by decide) (by decide) (by decide)) (n4 19 (by decide) (by decide) (by decide) (by decide)) (n4 20 (by decide) (by decide) (by decide) (by decide)) (n4 21 (by decide) (by decide) (by decide) (by decide)) (n4 22 (by decide) (by decide) (by decide) (by decide)) (n4 26 (by decide) (by decide) (by decide) (by decide)) (n4 28 (by decide) (by decide) (by decide) (by decide)) l h
    have hr1 : ∀ q, q < 8 → ∃ rn, rn ≤ 60 ∧ askS av l h t (S t) 18 q = nI rn := by rw [n4 18 (by decide) (by decide) (by decide) (by decide)]; exact hrows
    have go : ∀ M1 : xMm, CR M1 n ct tg Bn cn rq ln rt tx iv (askS av l h t (S t)) → ∃ M', CR M' n ct tg Bn cn rq ln rt tx iv (askL l h S j (t + 1) (if S t = 0 ∧ f = 0 then nI t + 1 else f) (askS av l h t (S t))).2 ∧ (∀ z, tg z = none → M' z = M1 z) ∧ ∀ o6 : Option Value, xEv (d + 85) k_L_ask 32 [some (.ref (ct 0)), some (.int (nI l)), some (.int h), some (.ref (ct (100 + 5 * l))), some (.int (if S t = 0 ∧ f = 0 then nI t + 1 else f)), some (.int (nI (t + 1))), o6] [] (M1, n, sl) (.inl (some (.int (askL l h S j (t + 1) (if S t = 0 ∧ f = 0 then nI t + 1 else f) (askS av l h t (S t))).1)), (M', n, sl)) := by
      intro M1 K1
      refine ih (t + 1) _ M1 _ K1 (by omega) hr1 ?_ ?_ hE1 ?_ (askS_30 h30)
      · rw [hc1]; exact hc
      · rw [hc1, n4 4 (by decide) (by decide) (by decide) (by decide)]; exact h4
      · rw [hc1]; exact hS
    obtain ⟨q, hq100, hq⟩ := h30
    by_cases s0 : S t = 0
    · by_cases hb0 : av 29 (6 * l + t) = 0 ∧ q < 100
      · obtain ⟨hb0, hq1⟩ := hb0
        have hA : askS av l h t (S t) = va_up (va_up (va_up (va_up av 31 (upd (av 31) (100 * l + q) h)) 32 (upd (av 32) (100 * l + q) (nI t))) 30 (upd (av 30) l (nI q + 1))) 29 (upd (av 29) (6 * l + t) 1) := by rw [askS, if_pos s0, if_pos ⟨hb0, by rw [hq]; exact nI_lt hq1 (by decide)⟩, hq, nI_clamp (by omega)]
        have K1 := CR_tell K l hl h t q (by omega) hq1
        rw [← hA] at K1
        obtain ⟨M', hK, hF, hx⟩ := go _ K1
        rw [show askL l h S (j + 1) t f av = askL l h S j (t + 1) (if S t = 0 ∧ f = 0 then nI t + 1 else f) (askS av l h t (S t)) from rfl]
        refine ⟨M', hK, fun z hz => (hF z hz).trans ((xset_ne _ _ (fun e_ => by rw [e_, (K.tag (100 + 5 * l) (by unfold lvt; omega)).1] at hz; cases hz)).trans ((xset_ne _ _ (fun e_ => by rw [e_, (K.tag (102 + 5 * l) (by unfold lvt; omega)).1] at hz; cases hz)).trans ((xset_ne _ _ (fun e_ => by rw [e_, (K.tag (101 + 5 * l) (by unfold lvt; omega)).1] at hz; cases hz)).trans ((xset_ne _ _ (fun e_ => by rw [e_, (K.tag (103 + 5 * l) (by unfold lvt; omega)).1] at hz; cases hz)).trans (rfl))))), fun o6 => ?_⟩
        refine ev_iload d_L_ask_32 rfl ?_
        refine ev_aload_n d_L_ask_34 rfl ?_
        refine ev_get d_L_ask_35 f_0_167 ((K.lon l hl)) rfl ?_
        refine ev_get d_L_ask_38 f_0_94 ((K.con (av 24 l).toNatClampNeg hc)) rfl ?_
        rw [h4]
        refine ev_icmp_ge (t := 111) d_L_ask_41 (by decide) (fun c_41 => absurd c_41 (nI_ge (by omega) (by omega))) (fun _ => ?_)
        refine ev_aload_n d_L_ask_44 rfl ?_
        refine ev_aload_n d_L_ask_45 rfl ?_
        refine ev_get d_L_ask_46 f_0_167 ((K.lon l hl)) rfl ?_
        refine ev_iload d_L_ask_49 rfl ?_
        refine ev_v1r d_L_ask_51 q_0_171 rfl (K.con _ hc) ⟨rfl, Nat.le_of_ble_eq_true rfl, Nat.le_of_ble_eq_true rfl⟩ (c_C_termAt (K.con _ hc) (K.conR _ hc) t (by omega) hb) ?_
        refine ev_aload_n d_L_ask_54 rfl ?_
        refine ev_iload_n d_L_ask_55 rfl ?_
        refine ev_iconst (v := 0) d_L_ask_56 rfl ?_
        refine ev_v4r d_L_ask_57 q_0_175 rfl K.lt ⟨rfl, Nat.le_of_ble_eq_true rfl, Nat.le_of_ble_eq_true rfl⟩ hst ?_
        refine ev_top (fun x_1 ex_1 => ?_)
        refine ev_istore (lo1 := [some (.ref (ct 0)), some (.int (nI l)), some (.int h), some (.ref (ct (100 + 5 * l))), some (.int f), some (.int (nI t)), some (.int x_1)]) d_L_ask_60 (Nat.le_of_ble_eq_true rfl) rfl ?_
        refine ev_iload d_L_ask_62 rfl ?_
        refine ev_iconst (v := 1) d_L_ask_64 rfl ?_
        refine ev_icmp_ne (t := 77) d_L_ask_65 (by decide) (fun _ => ?_) (fun c_65 => absurd c_65 (by rw [ex_1, s0]; decide))
        refine ev_iload d_L_ask_77 rfl ?_
        refine ev_if_ne (t := 105) d_L_ask_79 (by decide) (fun c_79 => absurd (by rw [ex_1]; exact s0) c_79) (fun _ => ?_)
        refine ev_aload_n d_L_ask_82 rfl ?_
        refine ev_iload_n d_L_ask_83 rfl ?_
        refine ev_iload d_L_ask_84 rfl ?_
        refine ev_v2o d_L_ask_86 q_0_182 rfl (K.lon l hl) ⟨rfl, Nat.le_of_ble_eq_true rfl, Nat.le_of_ble_eq_true rfl⟩ (c_O_tell_ok (K.lon l hl) (K.lonH l hl) (K.lonT l hl) (K.lonS l hl) h t q (by omega) (by omega) hq (by rw [slc_at _ _ (by omega)]; exact hb0) hq1 (K.ne (by unfold lvt; omega) (by unfold lvt; omega) (by omega)) (K.ne (by unfold lvt; omega) (by unfold lvt; omega) (by omega)) (K.ne (by unfold lvt; omega) (by unfold lvt; omega) (by omega)) (K.ne (by unfold lvt; omega) (by unfold lvt; omega) (by omega)) (K.ne (by unfold lvt; omega) (by unfold lvt; omega) (by omega)) (K.ne (by unfold lvt; omega) (by unfold lvt; omega) (by omega))) ?_
        refine ev_cutv (E := 103) (V := if f = 0 then nI t + 1 else f) ?_ (fun hk_2 => ?_)
        · refine ev_top (fun x_3 ex_3 => ?_)
          refine ev_istore (lo1 := [some (.ref (ct 0)), some (.int (nI l)), some (.int h), some (.ref (ct (100 + 5 * l))), some (.int x_3), some (.int (nI t)), some (.int x_1)]) d_L_ask_103 (Nat.le_of_ble_eq_true rfl) rfl ?_
          obtain ⟨x_4, ex_4⟩ : ∃ z : Int32, z = (nI t) + 1 := ⟨_, rfl⟩
          refine ev_iinc (v := x_4) (lo1 := [some (.ref (ct 0)), some (.int (nI l)), some (.int h), some (.ref (ct (100 + 5 * l))), some (.int x_3), some (.int x_4), some (.int x_1)]) d_L_ask_105 rfl (by rw [ex_4]; rfl) rfl ?_
          refine ev_goto (t := 32) d_L_ask_108 (by decide) ?_
          rw [show x_4 = nI (t + 1) from by rw [ex_4, nI_succ], show x_3 = (if S t = 0 ∧ f = 0 then nI t + 1 else f) from by grind]
          exact xEv.to (hx _) rfl
        · refine ev_iload d_L_ask_89 rfl ?_
          refine ev_if_ne (t := 101) d_L_ask_91 (by decide) (fun c_91_5 => ?_) (fun c_91_5 => ?_)
          · refine ev_iload d_L_ask_101 rfl ?_
            exact hk_2 _ (by grind)
          · refine ev_iconst (v := 1) d_L_ask_94 rfl ?_
            refine ev_iload d_L_ask_95 rfl ?_
            refine ev_iadd d_L_ask_97 ?_
            refine ev_goto (t := 103) d_L_ask_98 (by decide) ?_
            exact hk_2 _ (by grind)
      · have hbn : ¬ (av 29 (6 * l + t) = 0 ∧ q < 100) := hb0
        have hA : askS av l h t (S t) = av := by rw [askS, if_pos s0, if_neg (fun g => hb0 ⟨g.1, by have g2 := g.2; rw [hq] at g2; exact (nI_ltI (a := q) (b := 100) (by omega) (by decide)).mp g2⟩)]
        have K1 := K
        rw [← hA] at K1
        obtain ⟨M', hK, hF, hx⟩ := go _ K1
        rw [show askL l h S (j + 1) t f av = askL l h S j (t + 1) (if S t = 0 ∧ f = 0 then nI t + 1 else f) (askS av l h t (S t)) from rfl]
        refine ⟨M', hK, fun z hz => (hF z hz).trans (rfl), fun o6 => ?_⟩
        refine ev_iload d_L_ask_32 rfl ?_
        refine ev_aload_n d_L_ask_34 rfl ?_
        refine ev_get d_L_ask_35 f_0_167 ((K.lon l hl)) rfl ?_
        refine ev_get d_L_ask_38 f_0_94 ((K.con (av 24 l).toNatClampNeg hc)) rfl ?_
        rw [h4]
        refine ev_icmp_ge (t := 111) d_L_ask_41 (by decide) (fun c_41 => absurd c_41 (nI_ge (by omega) (by omega))) (fun _ => ?_)
        refine ev_aload_n d_L_ask_44 rfl ?_
        refine ev_aload_n d_L_ask_45 rfl ?_
        refine ev_get d_L_ask_46 f_0_167 ((K.lon l hl)) rfl ?_
        refine ev_iload d_L_ask_49 rfl ?_
        refine ev_v1r d_L_ask_51 q_0_171 rfl (K.con _ hc) ⟨rfl, Nat.le_of_ble_eq_true rfl, Nat.le_of_ble_eq_true rfl⟩ (c_C_termAt (K.con _ hc) (K.conR _ hc) t (by omega) hb) ?_
        refine ev_aload_n d_L_ask_54 rfl ?_
        refine ev_iload_n d_L_ask_55 rfl ?_
        refine ev_iconst (v := 0) d_L_ask_56 rfl ?_
        refine ev_v4r d_L_ask_57 q_0_175 rfl K.lt ⟨rfl, Nat.le_of_ble_eq_true rfl, Nat.le_of_ble_eq_true rfl⟩ hst ?_
        refine ev_top (fun x_1 ex_1 => ?_)
        refine ev_istore (lo1 := [some (.ref (ct 0)), some (.int (nI l)), some (.int h), some (.ref (ct (100 + 5 * l))), some (.int f), some (.int (nI t)), some (.int x_1)]) d_L_ask_60 (Nat.le_of_ble_eq_true rfl) rfl ?_
        refine ev_iload d_L_ask_62 rfl ?_
        refine ev_iconst (v := 1) d_L_ask_64 rfl ?_
        refine ev_icmp_ne (t := 77) d_L_ask_65 (by decide) (fun _ => ?_) (fun c_65 => absurd c_65 (by rw [ex_1, s0]; decide))
        refine ev_iload d_L_ask_77 rfl ?_
        refine ev_if_ne (t := 105) d_L_ask_79 (by decide) (fun c_79 => absurd (by rw [ex_1]; exact s0) c_79) (fun _ => ?_)
        refine ev_aload_n d_L_ask_82 rfl ?_
        refine ev_iload_n d_L_ask_83 rfl ?_
        refine ev_iload d_L_ask_84 rfl ?_
        refine ev_v2o d_L_ask_86 q_0_182 rfl (K.lon l hl) ⟨rfl, Nat.le_of_ble_eq_true rfl, Nat.le_of_ble_eq_true rfl⟩ (c_O_tell_no (K.lon l hl) (K.lonH l hl) (K.lonT l hl) (K.lonS l hl) h t q (by omega) (by omega) hq (by rw [slc_at _ _ (by omega)]; exact hbn)) ?_
        refine ev_cutv (E := 103) (V := if f = 0 then nI t + 1 else f) ?_ (fun hk_2 => ?_)
        · refine ev_top (fun x_3 ex_3 => ?_)
          refine ev_istore (lo1 := [some (.ref (ct 0)), some (.int (nI l)), some (.int h), some (.ref (ct (100 + 5 * l))), some (.int x_3), some (.int (nI t)), some (.int x_1)]) d_L_ask_103 (Nat.le_of_ble_eq_true rfl) rfl ?_
          obtain ⟨x_4, ex_4⟩ : ∃ z : Int32, z = (nI t) + 1 := ⟨_, rfl⟩
          refine ev_iinc (v := x_4) (lo1 := [some (.ref (ct 0)), some (.int (nI l)), some (.int h), some (.ref (ct (100 + 5 * l))), some (.int x_3), some (.int x_4), some (.int x_1)]) d_L_ask_105 rfl (by rw [ex_4]; rfl) rfl ?_
          refine ev_goto (t := 32) d_L_ask_108 (by decide) ?_
          rw [show x_4 = nI (t + 1) from by rw [ex_4, nI_succ], show x_3 = (if S t = 0 ∧ f = 0 then nI t + 1 else f) from by grind]
          exact xEv.to (hx _) rfl
        · refine ev_iload d_L_ask_89 rfl ?_
          refine ev_if_ne (t := 101) d_L_ask_91 (by decide) (fun c_91_5 => ?_) (fun c_91_5 => ?_)
          · refine ev_iload d_L_ask_101 rfl ?_
            exact hk_2 _ (by grind)
          · refine ev_iconst (v := 1) d_L_ask_94 rfl ?_
            refine ev_iload d_L_ask_95 rfl ?_
            refine ev_iadd d_L_ask_97 ?_
            refine ev_goto (t := 103) d_L_ask_98 (by decide) ?_
            exact hk_2 _ (by grind)
    · by_cases s1 : S t = 1
      · have hA : askS av l h t (S t) = va_up av 29 (upd (av 29) (6 * l + t) 0) := by rw [askS, if_neg s0, if_pos s1]
        have K1 := CR_forget K l hl t (by omega)
        rw [← hA] at K1
        obtain ⟨M', hK, hF, hx⟩ := go _ K1
        rw [show askL l h S (j + 1) t f av = askL l h S j (t + 1) (if S t = 0 ∧ f = 0 then nI t + 1 else f) (askS av l h t (S t)) from rfl]
        refine ⟨M', hK, fun z hz => (hF z hz).trans ((xset_ne _ _ (fun e_ => by rw [e_, (K.tag (103 + 5 * l) (by unfold lvt; omega)).1] at hz; cases hz)).trans (rfl)), fun o6 => ?_⟩
        refine ev_iload d_L_ask_32 rfl ?_
        refine ev_aload_n d_L_ask_34 rfl ?_
        refine ev_get d_L_ask_35 f_0_167 ((K.lon l hl)) rfl ?_
        refine ev_get d_L_ask_38 f_0_94 ((K.con (av 24 l).toNatClampNeg hc)) rfl ?_
        rw [h4]
        refine ev_icmp_ge (t := 111) d_L_ask_41 (by decide) (fun c_41 => absurd c_41 (nI_ge (by omega) (by omega))) (fun _ => ?_)
        refine ev_aload_n d_L_ask_44 rfl ?_
        refine ev_aload_n d_L_ask_45 rfl ?_
        refine ev_get d_L_ask_46 f_0_167 ((K.lon l hl)) rfl ?_
        refine ev_iload d_L_ask_49 rfl ?_
        refine ev_v1r d_L_ask_51 q_0_171 rfl (K.con _ hc) ⟨rfl, Nat.le_of_ble_eq_true rfl, Nat.le_of_ble_eq_true rfl⟩ (c_C_termAt (K.con _ hc) (K.conR _ hc) t (by omega) hb) ?_
        refine ev_aload_n d_L_ask_54 rfl ?_
        refine ev_iload_n d_L_ask_55 rfl ?_
        refine ev_iconst (v := 0) d_L_ask_56 rfl ?_
        refine ev_v4r d_L_ask_57 q_0_175 rfl K.lt ⟨rfl, Nat.le_of_ble_eq_true rfl, Nat.le_of_ble_eq_true rfl⟩ hst ?_
        refine ev_top (fun x_1 ex_1 => ?_)
        refine ev_istore (lo1 := [some (.ref (ct 0)), some (.int (nI l)), some (.int h), some (.ref (ct (100 + 5 * l))), some (.int f), some (.int (nI t)), some (.int x_1)]) d_L_ask_60 (Nat.le_of_ble_eq_true rfl) rfl ?_
        refine ev_iload d_L_ask_62 rfl ?_
        refine ev_iconst (v := 1) d_L_ask_64 rfl ?_
        refine ev_icmp_ne (t := 77) d_L_ask_65 (by decide) (fun c_65 => absurd (by rw [ex_1]; exact s1) c_65) (fun _ => ?_)
        refine ev_aload_n d_L_ask_68 rfl ?_
        refine ev_iload d_L_ask_69 rfl ?_
        refine ev_v1o d_L_ask_71 q_0_179 rfl (K.lon l hl) ⟨rfl, Nat.le_of_ble_eq_true rfl, Nat.le_of_ble_eq_true rfl⟩ (c_O_forget (fh := fun _ => 0) (ft := fun _ => 0) (K.lon l hl) (K.lonS l hl) t (by omega)) ?_
        refine ev_goto (t := 105) d_L_ask_74 (by decide) ?_
        obtain ⟨x_2, ex_1⟩ : ∃ z : Int32, z = (nI t) + 1 := ⟨_, rfl⟩
        refine ev_iinc (v := x_2) (lo1 := [some (.ref (ct 0)), some (.int (nI l)), some (.int h), some (.ref (ct (100 + 5 * l))), some (.int f), some (.int x_2), some (.int x_1)]) d_L_ask_105 rfl (by rw [ex_1]; rfl) rfl ?_
        refine ev_goto (t := 32) d_L_ask_108 (by decide) ?_
        rw [show x_2 = nI (t + 1) from by rw [ex_1, nI_succ]]
        have hf : (if S t = 0 ∧ f = 0 then nI t + 1 else f) = f := by grind
        rw [hf] at hx ⊢
        exact hx _
      · have hA : askS av l h t (S t) = av := by rw [askS, if_neg s0, if_neg s1]
        have K1 := K
        rw [← hA] at K1
        obtain ⟨M', hK, hF, hx⟩ := go _ K1
        rw [show askL l h S (j + 1) t f av = askL l h S j (t + 1) (if S t = 0 ∧ f = 0 then nI t + 1 else f) (askS av l h t (S t)) from rfl]
        refine ⟨M', hK, fun z hz => (hF z hz).trans (rfl), fun o6 => ?_⟩
        refine ev_iload d_L_ask_32 rfl ?_
        refine ev_aload_n d_L_ask_34 rfl ?_
        refine ev_get d_L_ask_35 f_0_167 ((K.lon l hl)) rfl ?_
        refine ev_get d_L_ask_38 f_0_94 ((K.con (av 24 l).toNatClampNeg hc)) rfl ?_
        rw [h4]
        refine ev_icmp_ge (t := 111) d_L_ask_41 (by decide) (fun c_41 => absurd c_41 (nI_ge (by omega) (by omega))) (fun _ => ?_)
        refine ev_aload_n d_L_ask_44 rfl ?_
        refine ev_aload_n d_L_ask_45 rfl ?_
        refine ev_get d_L_ask_46 f_0_167 ((K.lon l hl)) rfl ?_
        refine ev_iload d_L_ask_49 rfl ?_
        refine ev_v1r d_L_ask_51 q_0_171 rfl (K.con _ hc) ⟨rfl, Nat.le_of_ble_eq_true rfl, Nat.le_of_ble_eq_true rfl⟩ (c_C_termAt (K.con _ hc) (K.conR _ hc) t (by omega) hb) ?_
        refine ev_aload_n d_L_ask_54 rfl ?_
        refine ev_iload_n d_L_ask_55 rfl ?_
        refine ev_iconst (v := 0) d_L_ask_56 rfl ?_
        refine ev_v4r d_L_ask_57 q_0_175 rfl K.lt ⟨rfl, Nat.le_of_ble_eq_true rfl, Nat.le_of_ble_eq_true rfl⟩ hst ?_
        refine ev_top (fun x_1 ex_1 => ?_)
        refine ev_istore (lo1 := [some (.ref (ct 0)), some (.int (nI l)), some (.int h), some (.ref (ct (100 + 5 * l))), some (.int f), some (.int (nI t)), some (.int x_1)]) d_L_ask_60 (Nat.le_of_ble_eq_true rfl) rfl ?_
        refine ev_iload d_L_ask_62 rfl ?_
        refine ev_iconst (v := 1) d_L_ask_64 rfl ?_
        refine ev_icmp_ne (t := 77) d_L_ask_65 (by decide) (fun _ => ?_) (fun c_65 => absurd c_65 (by rw [ex_1]; exact s1))
        refine ev_iload d_L_ask_77 rfl ?_
        refine ev_if_ne (t := 105) d_L_ask_79 (by decide) (fun _ => ?_) (fun c_79 => absurd c_79 (by rw [ex_1]; exact s0))
        obtain ⟨x_2, ex_1⟩ : ∃ z : Int32, z = (nI t) + 1 := ⟨_, rfl⟩
        refine ev_iinc (v := x_2) (lo1 := [some (.ref (ct 0)), some (.int (nI l)), some (.int h), some (.ref (ct (100 + 5 * l))), some (.int f), some (.int x_2), some (.int x_1)]) d_L_ask_105 rfl (by rw [ex_1]; rfl) rfl ?_
        refine ev_goto (t := 32) d_L_ask_108 (by decide) ?_
        rw [show x_2 = nI (t + 1) from by rw [ex_1, nI_succ]]
        have hf : (if S t = 0 ∧ f = 0 then nI t + 1 else f) = f := by grind
        rw [hf] at hx ⊢
        exact hx _
set_option maxRecDepth 20000 in
theorem c_L_ask_ok {d : Nat} {M : xMm} {n sl : Nat} {ct : Nat → Nat} {tg : Nat → Option Nat} {Bn : xMm} {cn rq ln : Nat} {rt : Nat → Nat → Option Nat} {tx : Nat → List Int32} {iv : Nat → Int32} {av : Nat → Nat → Int32} (K : CR M n ct tg Bn cn rq ln rt tx iv av) (l : Nat) (hl : l < ln) (h : Int32) (h0 : 0 ≤ h) (hrows : ∀ q, q < 8 → ∃ rn, rn ≤ 60 ∧ av 18 q = nI rn) (mn : Nat) (hmn : mn ≤ 6) (hc : (av 24 l).toNatClampNeg < cn) (h4 : av 4 (av 24 l).toNatClampNeg = nI mn) (S : Nat → Int32) (E : Int32 → Option Int32) (hE : mE av l h = E) (hS : ∀ t, t < mn → ∃ (a : Nat) (D : Den) (H : Nat), rt (av 24 l).toNatClampNeg t = some a ∧ cN Bn H a D ∧ H ≤ 41 ∧ D.1 E = S t) (h30 : ∃ q, q ≤ 100 ∧ av 30 l = nI q) (hh : 0 ≤ h ∧ h ≤ 2400000) (ho : av 26 l ≤ h / 24 ∧ h / 24 ≤ av 27 l) : ∃ M', CR M' n ct tg Bn cn rq ln rt tx iv (askL l h S mn 0 0 av).2 ∧ (∀ z, tg z = none → M' z = M z) ∧ xCl (d + 85) k_L_ask [.ref (ct 0), .int (nI l), .int h] (M, n, sl) (.inl (some (.int (askL l h S mn 0 0 av).1)), (M', n, sl)) := by
  obtain ⟨M', hK, hF, hx⟩ := l_L_ask (d := d) (sl := sl) l hl h h0 mn hmn S E mn 0 0 M av K (by omega) hrows hc h4 hE hS h30
  refine ⟨M', hK, hF, ?_⟩
  show xEv _ k_L_ask 0 [some (.ref (ct 0)), some (.int (nI l)), some (.int h), none, none, none, none] [] _ _
  refine ev_aload_n d_L_ask_0 rfl ?_
  refine ev_iload_n d_L_ask_1 rfl ?_
  refine ev_v1r d_L_ask_2 q_0_149 rfl K.lt ⟨rfl, Nat.le_of_ble_eq_true rfl, Nat.le_of_ble_eq_true rfl⟩ (c_L_loanOf_ok K l hl) ?_
  refine ev_astore_n (lo1 := [some (.ref (ct 0)), some (.int (nI l)), some (.int h), some (.ref (ct (100 + 5 * l))), none, none, none]) d_L_ask_5 (Nat.le_of_ble_eq_true rfl) rfl ?_
  refine ev_iload_n d_L_ask_6 rfl ?_
  refine ev_s1o d_L_ask_7 q_0_157 rfl ⟨rfl, Nat.le_of_ble_eq_true rfl, Nat.le_of_ble_eq_true rfl⟩ (c_L_refuseNoHour_ok _ hh) ?_
  refine ev_aload_n d_L_ask_10 rfl ?_
  refine ev_get d_L_ask_11 f_0_160 ((K.lon l hl)) rfl ?_
  refine ev_iload_n d_L_ask_14 rfl ?_
  refine ev_bipush (v := 24) d_L_ask_15 rfl ?_
  refine ev_idiv d_L_ask_17 (by decide) ?_
  refine ev_v1r d_L_ask_18 q_0_164 rfl (K.lonP l hl) ⟨rfl, Nat.le_of_ble_eq_true rfl, Nat.le_of_ble_eq_true rfl⟩ (c_P_hasDay (K.lonP l hl) _) ?_
  refine ev_if_ne (t := 26) d_L_ask_21 (by decide) (fun _ => ?_) (fun c_21 => absurd c_21 (by rw [xbi_t ho]; decide))
  refine ev_iconst (v := 0) d_L_ask_26 rfl ?_
  refine ev_istore (lo1 := [some (.ref (ct 0)), some (.int (nI l)), some (.int h), some (.ref (ct (100 + 5 * l))), some (.int 0), none, none]) d_L_ask_27 (Nat.le_of_ble_eq_true rfl) rfl ?_
  refine ev_iconst (v := 0) d_L_ask_29 rfl ?_
  refine ev_istore (lo1 := [some (.ref (ct 0)), some (.int (nI l)), some (.int h), some (.ref (ct (100 + 5 * l))), some (.int 0), some (.int 0), none]) d_L_ask_30 (Nat.le_of_ble_eq_true rfl) rfl ?_
  exact hx none
