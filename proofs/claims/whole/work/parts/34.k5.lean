/-! the class: its methods, over the heap of CR -/
set_option maxRecDepth 20000 in
theorem c_L_terms_no0 {d : Nat} {M : xMm} {n sl : Nat} {ct : Nat → Nat} {tg : Nat → Option Nat} {Bn : xMm} {cn rq ln : Nat} {rt : Nat → Nat → Option Nat} {tx : Nat → List Int32} {iv : Nat → Int32} {av : Nat → Nat → Int32} (K : CR M n ct tg Bn cn rq ln rt tx iv av) (c : Int32) (h : ¬ (0 ≤ c ∧ c < nI cn)) : xCl (d + 1) k_L_terms [.ref (ct 0), .int c] (M, n, sl) (.inr "java/lang/IndexOutOfBoundsException", (M, n + 1, sl + 6)) := by
  show xEv _ k_L_terms 0 [some (.ref (ct 0)), some (.int c)] [] _ _
  refine ev_aload_n d_L_terms_0 rfl ?_
  refine ev_iload_n d_L_terms_1 rfl ?_
  exact ev_v1t d_L_terms_2 q_0_90 rfl K.lt ⟨rfl, Nat.le_of_ble_eq_true rfl, Nat.le_of_ble_eq_true rfl⟩ (c_L_contractOf_no K _ h)
set_option maxRecDepth 20000 in
theorem c_L_terms_ok {d : Nat} {M : xMm} {n sl : Nat} {ct : Nat → Nat} {tg : Nat → Option Nat} {Bn : xMm} {cn rq ln : Nat} {rt : Nat → Nat → Option Nat} {tx : Nat → List Int32} {iv : Nat → Int32} {av : Nat → Nat → Int32} (K : CR M n ct tg Bn cn rq ln rt tx iv av) (c : Nat) (hc : c < cn) : xCl (d + 1) k_L_terms [.ref (ct 0), .int (nI c)] (M, n, sl) (.inl (some (.int (av 4 c))), (M, n, sl)) := by
  show xEv _ k_L_terms 0 [some (.ref (ct 0)), some (.int (nI c))] [] _ _
  refine ev_aload_n d_L_terms_0 rfl ?_
  refine ev_iload_n d_L_terms_1 rfl ?_
  refine ev_v1r d_L_terms_2 q_0_90 rfl K.lt ⟨rfl, Nat.le_of_ble_eq_true rfl, Nat.le_of_ble_eq_true rfl⟩ (c_L_contractOf_ok K c hc) ?_
  refine ev_get d_L_terms_5 f_0_94 ((K.con c hc)) rfl ?_
  exact ev_iret d_L_terms_8 rfl
set_option maxRecDepth 20000 in
theorem c_L_written_no0 {d : Nat} {M : xMm} {n sl : Nat} {ct : Nat → Nat} {tg : Nat → Option Nat} {Bn : xMm} {cn rq ln : Nat} {rt : Nat → Nat → Option Nat} {tx : Nat → List Int32} {iv : Nat → Int32} {av : Nat → Nat → Int32} (K : CR M n ct tg Bn cn rq ln rt tx iv av) (c i : Int32) (h : ¬ (0 ≤ c ∧ c < nI cn)) : xCl (d + 1) k_L_written [.ref (ct 0), .int c, .int i] (M, n, sl) (.inr "java/lang/IndexOutOfBoundsException", (M, n + 1, sl + 6)) := by
  show xEv _ k_L_written 0 [some (.ref (ct 0)), some (.int c), some (.int i)] [] _ _
  refine ev_aload_n d_L_written_0 rfl ?_
  refine ev_iload_n d_L_written_1 rfl ?_
  exact ev_v1t d_L_written_2 q_0_90 rfl K.lt ⟨rfl, Nat.le_of_ble_eq_true rfl, Nat.le_of_ble_eq_true rfl⟩ (c_L_contractOf_no K _ h)
set_option maxRecDepth 20000 in
theorem c_L_written_no {d : Nat} {M : xMm} {n sl : Nat} {ct : Nat → Nat} {tg : Nat → Option Nat} {Bn : xMm} {cn rq ln : Nat} {rt : Nat → Nat → Option Nat} {tx : Nat → List Int32} {iv : Nat → Int32} {av : Nat → Nat → Int32} (K : CR M n ct tg Bn cn rq ln rt tx iv av) (c : Nat) (i : Int32) (hc : c < cn) (hw : (tx c).length ≤ 240) (h : ¬ (-1 ≤ i ∧ i < nI (tx c).length)) : xCl (d + 2) k_L_written [.ref (ct 0), .int (nI c), .int i] (M, n, sl) (.inr "java/lang/IndexOutOfBoundsException", (M, n + 1, sl + 6)) := by
  show xEv _ k_L_written 0 [some (.ref (ct 0)), some (.int (nI c)), some (.int i)] [] _ _
  refine ev_aload_n d_L_written_0 rfl ?_
  refine ev_iload_n d_L_written_1 rfl ?_
  refine ev_v1r d_L_written_2 q_0_90 rfl K.lt ⟨rfl, Nat.le_of_ble_eq_true rfl, Nat.le_of_ble_eq_true rfl⟩ (c_L_contractOf_ok K c hc) ?_
  refine ev_get d_L_written_5 f_0_95 ((K.con c hc)) rfl ?_
  refine ev_iload_n d_L_written_8 rfl ?_
  exact ev_s2t d_L_written_9 q_0_98 rfl ⟨rfl, Nat.le_of_ble_eq_true rfl, Nat.le_of_ble_eq_true rfl⟩ (c_L_signOrSize_no (K.ne (by unfold lvt; omega) (by unfold lvt; omega) (by omega)) (K.conT c hc) (K.conA c hc) (nI_le (b := 240) hw (by decide)) i h)
set_option maxRecDepth 20000 in
theorem c_L_written_ok {d : Nat} {M : xMm} {n sl : Nat} {ct : Nat → Nat} {tg : Nat → Option Nat} {Bn : xMm} {cn rq ln : Nat} {rt : Nat → Nat → Option Nat} {tx : Nat → List Int32} {iv : Nat → Int32} {av : Nat → Nat → Int32} (K : CR M n ct tg Bn cn rq ln rt tx iv av) (c : Nat) (i : Int32) (hc : c < cn) (hw : (tx c).length ≤ 240) (h : -1 ≤ i ∧ i < nI (tx c).length) : xCl (d + 2) k_L_written [.ref (ct 0), .int (nI c), .int i] (M, n, sl) (.inl (some (.int (if i = -1 then nI (tx c).length else wrF (fun _ => 0) (tx c) i.toNatClampNeg))), (M, n, sl)) := by
  show xEv _ k_L_written 0 [some (.ref (ct 0)), some (.int (nI c)), some (.int i)] [] _ _
  refine ev_aload_n d_L_written_0 rfl ?_
  refine ev_iload_n d_L_written_1 rfl ?_
  refine ev_v1r d_L_written_2 q_0_90 rfl K.lt ⟨rfl, Nat.le_of_ble_eq_true rfl, Nat.le_of_ble_eq_true rfl⟩ (c_L_contractOf_ok K c hc) ?_
  refine ev_get d_L_written_5 f_0_95 ((K.con c hc)) rfl ?_
  refine ev_iload_n d_L_written_8 rfl ?_
  refine ev_s2r d_L_written_9 q_0_98 rfl ⟨rfl, Nat.le_of_ble_eq_true rfl, Nat.le_of_ble_eq_true rfl⟩ (c_L_signOrSize_ok (K.ne (by unfold lvt; omega) (by unfold lvt; omega) (by omega)) (K.conT c hc) (K.conA c hc) (nI_le (b := 240) hw (by decide)) i h) ?_
  exact ev_iret d_L_written_12 rfl
set_option maxRecDepth 20000 in
theorem c_L_told_no0 {d : Nat} {M : xMm} {n sl : Nat} {ct : Nat → Nat} {tg : Nat → Option Nat} {Bn : xMm} {cn rq ln : Nat} {rt : Nat → Nat → Option Nat} {tx : Nat → List Int32} {iv : Nat → Int32} {av : Nat → Nat → Int32} (K : CR M n ct tg Bn cn rq ln rt tx iv av) (l k w : Int32) (h : ¬ (0 ≤ l ∧ l < nI ln)) : xCl (d + 1) k_L_told [.ref (ct 0), .int l, .int k, .int w] (M, n, sl) (.inr "java/lang/IndexOutOfBoundsException", (M, n + 1, sl + 6)) := by
  show xEv _ k_L_told 0 [some (.ref (ct 0)), some (.int l), some (.int k), some (.int w), none] [] _ _
  refine ev_aload_n d_L_told_0 rfl ?_
  refine ev_iload_n d_L_told_1 rfl ?_
  exact ev_v1t d_L_told_2 q_0_149 rfl K.lt ⟨rfl, Nat.le_of_ble_eq_true rfl, Nat.le_of_ble_eq_true rfl⟩ (c_L_loanOf_no K _ h)
set_option maxRecDepth 20000 in
theorem c_L_told_no {d : Nat} {M : xMm} {n sl : Nat} {ct : Nat → Nat} {tg : Nat → Option Nat} {Bn : xMm} {cn rq ln : Nat} {rt : Nat → Nat → Option Nat} {tx : Nat → List Int32} {iv : Nat → Int32} {av : Nat → Nat → Int32} (K : CR M n ct tg Bn cn rq ln rt tx iv av) (l : Nat) (hl : l < ln) (k w : Int32) (h : ¬ ((w = 0 ∨ w = 1) ∧ -1 ≤ k ∧ k < av 30 l)) : xCl (d + 1) k_L_told [.ref (ct 0), .int (nI l), .int k, .int w] (M, n, sl) (.inr "java/lang/IndexOutOfBoundsException", (M, n + 1, sl + 6)) := by
  show xEv _ k_L_told 0 [some (.ref (ct 0)), some (.int (nI l)), some (.int k), some (.int w), none] [] _ _
  refine ev_aload_n d_L_told_0 rfl ?_
  refine ev_iload_n d_L_told_1 rfl ?_
  refine ev_v1r d_L_told_2 q_0_149 rfl K.lt ⟨rfl, Nat.le_of_ble_eq_true rfl, Nat.le_of_ble_eq_true rfl⟩ (c_L_loanOf_ok K l hl) ?_
  refine ev_astore (lo1 := [some (.ref (ct 0)), some (.int (nI l)), some (.int k), some (.int w), some (.ref (ct (100 + 5 * l)))]) d_L_told_5 (Nat.le_of_ble_eq_true rfl) rfl ?_
  refine ev_iload_n d_L_told_7 rfl ?_
  refine ev_if_lt (t := 30) d_L_told_8 (by decide) (fun c_8_1 => ?_) (fun c_8_1 => ?_)
  · exact ev_throw d_L_told_30 rfl (Nat.le_of_ble_eq_true rfl)
  · refine ev_iload_n d_L_told_11 rfl ?_
    refine ev_iconst (v := 1) d_L_told_12 rfl ?_
    refine ev_icmp_gt (t := 30) d_L_told_13 (by decide) (fun c_13_2 => ?_) (fun c_13_2 => ?_)
    · exact ev_throw d_L_told_30 rfl (Nat.le_of_ble_eq_true rfl)
    · refine ev_iload_n d_L_told_16 rfl ?_
      refine ev_iconst (v := (-1)) d_L_told_17 rfl ?_
      refine ev_icmp_lt (t := 30) d_L_told_18 (by decide) (fun c_18_3 => ?_) (fun c_18_3 => ?_)
      · exact ev_throw d_L_told_30 rfl (Nat.le_of_ble_eq_true rfl)
      · refine ev_iload_n d_L_told_21 rfl ?_
        refine ev_aload d_L_told_22 rfl ?_
        refine ev_get d_L_told_24 f_0_190 ((K.lon l hl)) rfl ?_
        refine ev_icmp_lt (t := 40) d_L_told_27 (by decide) (fun c_27 => absurd c_27 (by grind)) (fun _ => ?_)
        exact ev_throw d_L_told_30 rfl (Nat.le_of_ble_eq_true rfl)
set_option maxRecDepth 20000 in
theorem c_L_told_n {d : Nat} {M : xMm} {n sl : Nat} {ct : Nat → Nat} {tg : Nat → Option Nat} {Bn : xMm} {cn rq ln : Nat} {rt : Nat → Nat → Option Nat} {tx : Nat → List Int32} {iv : Nat → Int32} {av : Nat → Nat → Int32} (K : CR M n ct tg Bn cn rq ln rt tx iv av) (l : Nat) (hl : l < ln) (k w : Int32) (h : (w = 0 ∨ w = 1) ∧ -1 ≤ k ∧ k < av 30 l) (hk : k = -1) : xCl (d + 1) k_L_told [.ref (ct 0), .int (nI l), .int k, .int w] (M, n, sl) (.inl (some (.int (av 30 l))), (M, n, sl)) := by
  show xEv _ k_L_told 0 [some (.ref (ct 0)), some (.int (nI l)), some (.int k), some (.int w), none] [] _ _
  refine ev_aload_n d_L_told_0 rfl ?_
  refine ev_iload_n d_L_told_1 rfl ?_
  refine ev_v1r d_L_told_2 q_0_149 rfl K.lt ⟨rfl, Nat.le_of_ble_eq_true rfl, Nat.le_of_ble_eq_true rfl⟩ (c_L_loanOf_ok K l hl) ?_
  refine ev_astore (lo1 := [some (.ref (ct 0)), some (.int (nI l)), some (.int k), some (.int w), some (.ref (ct (100 + 5 * l)))]) d_L_told_5 (Nat.le_of_ble_eq_true rfl) rfl ?_
  refine ev_iload_n d_L_told_7 rfl ?_
  refine ev_if_lt (t := 30) d_L_told_8 (by decide) (fun c_8 => absurd c_8 (by grind)) (fun _ => ?_)
  refine ev_iload_n d_L_told_11 rfl ?_
  refine ev_iconst (v := 1) d_L_told_12 rfl ?_
  refine ev_icmp_gt (t := 30) d_L_told_13 (by decide) (fun c_13 => absurd c_13 (by grind)) (fun _ => ?_)
  refine ev_iload_n d_L_told_16 rfl ?_
  refine ev_iconst (v := (-1)) d_L_told_17 rfl ?_
  refine ev_icmp_lt (t := 30) d_L_told_18 (by decide) (fun c_18 => absurd c_18 (by grind)) (fun _ => ?_)
  refine ev_iload_n d_L_told_21 rfl ?_
  refine ev_aload d_L_told_22 rfl ?_
  refine ev_get d_L_told_24 f_0_190 ((K.lon l hl)) rfl ?_
  refine ev_icmp_lt (t := 40) d_L_told_27 (by decide) (fun _ => ?_) (fun c_27 => absurd h.2.2 c_27)
  refine ev_iload_n d_L_told_40 rfl ?_
  refine ev_iconst (v := (-1)) d_L_told_41 rfl ?_
  refine ev_icmp_ne (t := 51) d_L_told_42 (by decide) (fun c_42 => absurd hk c_42) (fun _ => ?_)
  refine ev_aload d_L_told_45 rfl ?_
  refine ev_get d_L_told_47 f_0_190 ((K.lon l hl)) rfl ?_
  exact ev_iret d_L_told_50 rfl
set_option maxRecDepth 20000 in
theorem c_L_told_h {d : Nat} {M : xMm} {n sl : Nat} {ct : Nat → Nat} {tg : Nat → Option Nat} {Bn : xMm} {cn rq ln : Nat} {rt : Nat → Nat → Option Nat} {tx : Nat → List Int32} {iv : Nat → Int32} {av : Nat → Nat → Int32} (K : CR M n ct tg Bn cn rq ln rt tx iv av) (l : Nat) (hl : l < ln) (k w : Int32) (h : (w = 0 ∨ w = 1) ∧ -1 ≤ k ∧ k < av 30 l) (j : Nat) (hj : j < 100) (hk : k = nI j) (hw : w = 0) : xCl (d + 1) k_L_told [.ref (ct 0), .int (nI l), .int k, .int w] (M, n, sl) (.inl (some (.int (av 31 (100 * l + j)))), (M, n, sl)) := by
  have hk1 : ¬ k = -1 := by
    rw [hk]
    have := nI_pos' (n := j) (by omega)
    grind
  show xEv _ k_L_told 0 [some (.ref (ct 0)), some (.int (nI l)), some (.int k), some (.int w), none] [] _ _
  refine ev_aload_n d_L_told_0 rfl ?_
  refine ev_iload_n d_L_told_1 rfl ?_
  refine ev_v1r d_L_told_2 q_0_149 rfl K.lt ⟨rfl, Nat.le_of_ble_eq_true rfl, Nat.le_of_ble_eq_true rfl⟩ (c_L_loanOf_ok K l hl) ?_
  refine ev_astore (lo1 := [some (.ref (ct 0)), some (.int (nI l)), some (.int k), some (.int w), some (.ref (ct (100 + 5 * l)))]) d_L_told_5 (Nat.le_of_ble_eq_true rfl) rfl ?_
  refine ev_iload_n d_L_told_7 rfl ?_
  refine ev_if_lt (t := 30) d_L_told_8 (by decide) (fun c_8 => absurd c_8 (by grind)) (fun _ => ?_)
  refine ev_iload_n d_L_told_11 rfl ?_
  refine ev_iconst (v := 1) d_L_told_12 rfl ?_
  refine ev_icmp_gt (t := 30) d_L_told_13 (by decide) (fun c_13 => absurd c_13 (by grind)) (fun _ => ?_)
  refine ev_iload_n d_L_told_16 rfl ?_
  refine ev_iconst (v := (-1)) d_L_told_17 rfl ?_
  refine ev_icmp_lt (t := 30) d_L_told_18 (by decide) (fun c_18 => absurd c_18 (by grind)) (fun _ => ?_)
  refine ev_iload_n d_L_told_21 rfl ?_
  refine ev_aload d_L_told_22 rfl ?_
  refine ev_get d_L_told_24 f_0_190 ((K.lon l hl)) rfl ?_
  refine ev_icmp_lt (t := 40) d_L_told_27 (by decide) (fun _ => ?_) (fun c_27 => absurd h.2.2 c_27)
  refine ev_iload_n d_L_told_40 rfl ?_
  refine ev_iconst (v := (-1)) d_L_told_41 rfl ?_
  refine ev_icmp_ne (t := 51) d_L_told_42 (by decide) (fun _ => ?_) (fun c_42 => absurd c_42 hk1)
  refine ev_iload_n d_L_told_51 rfl ?_
  refine ev_if_ne (t := 65) d_L_told_52 (by decide) (fun c_52 => absurd hw c_52) (fun _ => ?_)
  refine ev_aload d_L_told_55 rfl ?_
  refine ev_get d_L_told_57 f_0_195 ((K.lon l hl)) rfl ?_
  refine ev_iload_n d_L_told_60 rfl ?_
  refine ev_iald d_L_told_61 ((K.lonH l hl)) ⟨rfl, (by rw [hk]; exact vp_in_nI (N := 100) hj (by decide))⟩ rfl ?_
  refine ev_goto (t := 72) d_L_told_62 (by decide) ?_
  exact xEv.to (ev_iret d_L_told_72 rfl) (by rw [hk, nI_clamp (by omega), slc_at _ _ hj])
set_option maxRecDepth 20000 in
theorem c_L_told_t {d : Nat} {M : xMm} {n sl : Nat} {ct : Nat → Nat} {tg : Nat → Option Nat} {Bn : xMm} {cn rq ln : Nat} {rt : Nat → Nat → Option Nat} {tx : Nat → List Int32} {iv : Nat → Int32} {av : Nat → Nat → Int32} (K : CR M n ct tg Bn cn rq ln rt tx iv av) (l : Nat) (hl : l < ln) (k w : Int32) (h : (w = 0 ∨ w = 1) ∧ -1 ≤ k ∧ k < av 30 l) (j : Nat) (hj : j < 100) (hk : k = nI j) (hw : ¬ w = 0) : xCl (d + 1) k_L_told [.ref (ct 0), .int (nI l), .int k, .int w] (M, n, sl) (.inl (some (.int (av 32 (100 * l + j)))), (M, n, sl)) := by
  have hk1 : ¬ k = -1 := by
    rw [hk]
    have := nI_pos' (n := j) (by omega)
    grind
  show xEv _ k_L_told 0 [some (.ref (ct 0)), some (.int (nI l)), some (.int k), some (.int w), none] [] _ _
  refine ev_aload_n d_L_told_0 rfl ?_
  refine ev_iload_n d_L_told_1 rfl ?_
  refine ev_v1r d_L_told_2 q_0_149 rfl K.lt ⟨rfl, Nat.le_of_ble_eq_true rfl, Nat.le_of_ble_eq_true rfl⟩ (c_L_loanOf_ok K l hl) ?_
  refine ev_astore (lo1 := [some (.ref (ct 0)), some (.int (nI l)), some (.int k), some (.int w), some (.ref (ct (100 + 5 * l)))]) d_L_told_5 (Nat.le_of_ble_eq_true rfl) rfl ?_
  refine ev_iload_n d_L_told_7 rfl ?_
  refine ev_if_lt (t := 30) d_L_told_8 (by decide) (fun c_8 => absurd c_8 (by grind)) (fun _ => ?_)
  refine ev_iload_n d_L_told_11 rfl ?_
  refine ev_iconst (v := 1) d_L_told_12 rfl ?_
  refine ev_icmp_gt (t := 30) d_L_told_13 (by decide) (fun c_13 => absurd c_13 (by grind)) (fun _ => ?_)
  refine ev_iload_n d_L_told_16 rfl ?_
  refine ev_iconst (v := (-1)) d_L_told_17 rfl ?_
  refine ev_icmp_lt (t := 30) d_L_told_18 (by decide) (fun c_18 => absurd c_18 (by grind)) (fun _ => ?_)
  refine ev_iload_n d_L_told_21 rfl ?_
  refine ev_aload d_L_told_22 rfl ?_
  refine ev_get d_L_told_24 f_0_190 ((K.lon l hl)) rfl ?_
  refine ev_icmp_lt (t := 40) d_L_told_27 (by decide) (fun _ => ?_) (fun c_27 => absurd h.2.2 c_27)
  refine ev_iload_n d_L_told_40 rfl ?_
  refine ev_iconst (v := (-1)) d_L_told_41 rfl ?_
  refine ev_icmp_ne (t := 51) d_L_told_42 (by decide) (fun _ => ?_) (fun c_42 => absurd c_42 hk1)
  refine ev_iload_n d_L_told_51 rfl ?_
  refine ev_if_ne (t := 65) d_L_told_52 (by decide) (fun _ => ?_) (fun c_52 => absurd c_52 hw)
  refine ev_aload d_L_told_65 rfl ?_
  refine ev_get d_L_told_67 f_0_199 ((K.lon l hl)) rfl ?_
  refine ev_iload_n d_L_told_70 rfl ?_
  refine ev_iald d_L_told_71 ((K.lonT l hl)) ⟨rfl, (by rw [hk]; exact vp_in_nI (N := 100) hj (by decide))⟩ rfl ?_
  exact xEv.to (ev_iret d_L_told_72 rfl) (by rw [hk, nI_clamp (by omega), slc_at _ _ hj])
set_option maxRecDepth 20000 in
theorem c_L_days_no0 {d : Nat} {M : xMm} {n sl : Nat} {ct : Nat → Nat} {tg : Nat → Option Nat} {Bn : xMm} {cn rq ln : Nat} {rt : Nat → Nat → Option Nat} {tx : Nat → List Int32} {iv : Nat → Int32} {av : Nat → Nat → Int32} (K : CR M n ct tg Bn cn rq ln rt tx iv av) (l : Int32) (h : ¬ (0 ≤ l ∧ l < nI ln)) : xCl (d + 1) k_L_days [.ref (ct 0), .int l] (M, n, sl) (.inr "java/lang/IndexOutOfBoundsException", (M, n + 1, sl + 6)) := by
  show xEv _ k_L_days 0 [some (.ref (ct 0)), some (.int l)] [] _ _
  refine ev_aload_n d_L_days_0 rfl ?_
  refine ev_iload_n d_L_days_1 rfl ?_
  exact ev_v1t d_L_days_2 q_0_149 rfl K.lt ⟨rfl, Nat.le_of_ble_eq_true rfl, Nat.le_of_ble_eq_true rfl⟩ (c_L_loanOf_no K _ h)
set_option maxRecDepth 20000 in
theorem c_L_days_ok {d : Nat} {M : xMm} {n sl : Nat} {ct : Nat → Nat} {tg : Nat → Option Nat} {Bn : xMm} {cn rq ln : Nat} {rt : Nat → Nat → Option Nat} {tx : Nat → List Int32} {iv : Nat → Int32} {av : Nat → Nat → Int32} (K : CR M n ct tg Bn cn rq ln rt tx iv av) (l : Nat) (hl : l < ln) : xCl (d + 1) k_L_days [.ref (ct 0), .int (nI l)] (M, n, sl) (.inl (some (.int (av 27 l - av 26 l + 1))), (M, n, sl)) := by
  show xEv _ k_L_days 0 [some (.ref (ct 0)), some (.int (nI l))] [] _ _
  refine ev_aload_n d_L_days_0 rfl ?_
  refine ev_iload_n d_L_days_1 rfl ?_
  refine ev_v1r d_L_days_2 q_0_149 rfl K.lt ⟨rfl, Nat.le_of_ble_eq_true rfl, Nat.le_of_ble_eq_true rfl⟩ (c_L_loanOf_ok K l hl) ?_
  refine ev_get d_L_days_5 f_0_160 ((K.lon l hl)) rfl ?_
  refine ev_v0r d_L_days_8 q_0_230 rfl (K.lonP l hl) ⟨rfl, Nat.le_of_ble_eq_true rfl, Nat.le_of_ble_eq_true rfl⟩ (c_P_length (K.lonP l hl)) ?_
  exact ev_iret d_L_days_11 rfl
set_option maxRecDepth 20000 in
theorem c_L_fee_no0 {d : Nat} {M : xMm} {n sl : Nat} {ct : Nat → Nat} {tg : Nat → Option Nat} {Bn : xMm} {cn rq ln : Nat} {rt : Nat → Nat → Option Nat} {tx : Nat → List Int32} {iv : Nat → Int32} {av : Nat → Nat → Int32} (K : CR M n ct tg Bn cn rq ln rt tx iv av) (l : Int32) (h : ¬ (0 ≤ l ∧ l < nI ln)) : xCl (d + 1) k_L_fee [.ref (ct 0), .int l] (M, n, sl) (.inr "java/lang/IndexOutOfBoundsException", (M, n + 1, sl + 6)) := by
  show xEv _ k_L_fee 0 [some (.ref (ct 0)), some (.int l)] [] _ _
  refine ev_aload_n d_L_fee_0 rfl ?_
  refine ev_iload_n d_L_fee_1 rfl ?_
  exact ev_v1t d_L_fee_2 q_0_149 rfl K.lt ⟨rfl, Nat.le_of_ble_eq_true rfl, Nat.le_of_ble_eq_true rfl⟩ (c_L_loanOf_no K _ h)
set_option maxRecDepth 20000 in
theorem c_L_fee_ok {d : Nat} {M : xMm} {n sl : Nat} {ct : Nat → Nat} {tg : Nat → Option Nat} {Bn : xMm} {cn rq ln : Nat} {rt : Nat → Nat → Option Nat} {tx : Nat → List Int32} {iv : Nat → Int32} {av : Nat → Nat → Int32} (K : CR M n ct tg Bn cn rq ln rt tx iv av) (l : Nat) (hl : l < ln) (c : Nat) (hc : c < cn) (hlc : (av 24 l).toNatClampNeg = c)  : xCl (d + 2) k_L_fee [.ref (ct 0), .int (nI l)] (M, n, sl) (.inl (some (.int (5 * (av 27 l - av 26 l + 1) + 20 * av 4 c + (if av 28 l = 0 then 300 else 0) + 50 * av 30 l))), (M, n, sl)) := by
  show xEv _ k_L_fee 0 [some (.ref (ct 0)), some (.int (nI l))] [] _ _
  refine ev_aload_n d_L_fee_0 rfl ?_
  refine ev_iload_n d_L_fee_1 rfl ?_
  refine ev_v1r d_L_fee_2 q_0_149 rfl K.lt ⟨rfl, Nat.le_of_ble_eq_true rfl, Nat.le_of_ble_eq_true rfl⟩ (c_L_loanOf_ok K l hl) ?_
  refine ev_v0r d_L_fee_5 q_0_233 rfl (K.lon l hl) ⟨rfl, Nat.le_of_ble_eq_true rfl, Nat.le_of_ble_eq_true rfl⟩ (c_O_price (fs := fun _ => 0) (ft := fun _ => 0) (fh := fun _ => 0) ((K.lon l hl).trans (by rw [hlc])) (K.lonP l hl) (K.con c hc)) ?_
  exact ev_iret d_L_fee_8 rfl
set_option maxRecDepth 20000 in
theorem c_L_unit_no1 {d : Nat} {M : xMm} {n sl : Nat} {ct : Nat → Nat} {tg : Nat → Option Nat} {Bn : xMm} {cn rq ln : Nat} {rt : Nat → Nat → Option Nat} {tx : Nat → List Int32} {iv : Nat → Int32} {av : Nat → Nat → Int32} (K : CR M n ct tg Bn cn rq ln rt tx iv av) (s : Int32) (h : ¬ iv 1 < 80) : xCl (d + 1) k_L_unit [.ref (ct 0), .int s] (M, n, sl) (.inr "java/lang/IllegalStateException", (M, n + 1, sl + 6)) := by
  show xEv _ k_L_unit 0 [some (.ref (ct 0)), some (.int s)] [] _ _
  refine ev_aload_n d_L_unit_0 rfl ?_
  refine ev_get d_L_unit_1 f_0_10 (K.lt) rfl ?_
  refine ev_get d_L_unit_4 f_0_54 (K.pad) rfl ?_
  refine ev_bipush (v := 80) d_L_unit_7 rfl ?_
  refine ev_icmp_lt (t := 22) d_L_unit_9 (by decide) (fun c_9 => absurd c_9 h) (fun _ => ?_)
  exact ev_throw d_L_unit_12 rfl (Nat.le_of_ble_eq_true rfl)
set_option maxRecDepth 20000 in
theorem c_L_unit_no2 {d : Nat} {M : xMm} {n sl : Nat} {ct : Nat → Nat} {tg : Nat → Option Nat} {Bn : xMm} {cn rq ln : Nat} {rt : Nat → Nat → Option Nat} {tx : Nat → List Int32} {iv : Nat → Int32} {av : Nat → Nat → Int32} (K : CR M n ct tg Bn cn rq ln rt tx iv av) (s : Int32) (h : iv 1 < 80) (h2 : ¬ (33 ≤ s ∧ s ≤ 126)) : xCl (d + 1) k_L_unit [.ref (ct 0), .int s] (M, n, sl) (.inr "java/lang/IllegalArgumentException", (M, n + 1, sl + 6)) := by
  show xEv _ k_L_unit 0 [some (.ref (ct 0)), some (.int s)] [] _ _
  refine ev_aload_n d_L_unit_0 rfl ?_
  refine ev_get d_L_unit_1 f_0_10 (K.lt) rfl ?_
  refine ev_get d_L_unit_4 f_0_54 (K.pad) rfl ?_
  refine ev_bipush (v := 80) d_L_unit_7 rfl ?_
  refine ev_icmp_lt (t := 22) d_L_unit_9 (by decide) (fun _ => ?_) (fun c_9 => absurd h c_9)
  refine ev_iload_n d_L_unit_22 rfl ?_
  refine ev_bipush (v := 33) d_L_unit_23 rfl ?_
  refine ev_icmp_lt (t := 34) d_L_unit_25 (by decide) (fun c_25_1 => ?_) (fun c_25_1 => ?_)
  · exact ev_throw d_L_unit_34 rfl (Nat.le_of_ble_eq_true rfl)
  · refine ev_iload_n d_L_unit_28 rfl ?_
    refine ev_bipush (v := 126) d_L_unit_29 rfl ?_
    refine ev_icmp_le (t := 44) d_L_unit_31 (by decide) (fun c_31 => absurd c_31 (by grind)) (fun _ => ?_)
    exact ev_throw d_L_unit_34 rfl (Nat.le_of_ble_eq_true rfl)
set_option maxRecDepth 20000 in
theorem c_L_unit_ok {d : Nat} {M : xMm} {n sl : Nat} {ct : Nat → Nat} {tg : Nat → Option Nat} {Bn : xMm} {cn rq ln : Nat} {rt : Nat → Nat → Option Nat} {tx : Nat → List Int32} {iv : Nat → Int32} {av : Nat → Nat → Int32} (K : CR M n ct tg Bn cn rq ln rt tx iv av) (s : Int32) (pn : Nat) (hpn : pn ≤ 80) (hp : iv 1 = nI pn) (h : pn < 80) (h2 : 33 ≤ s ∧ s ≤ 126) : xCl (d + 1) k_L_unit [.ref (ct 0), .int s] (M, n, sl) (.inl (some (.int (nI (pn + 1)))), (xset (xset M (ct 2) (.inl (0, 240, .inl (upd (av 2) pn s)))) (ct 1) (.inr (6, [.ref (ct 2), .int (nI (pn + 1))])), n, sl)) := by
  show xEv _ k_L_unit 0 [some (.ref (ct 0)), some (.int s)] [] _ _
  refine ev_aload_n d_L_unit_0 rfl ?_
  refine ev_get d_L_unit_1 f_0_10 (K.lt) rfl ?_
  refine ev_get d_L_unit_4 f_0_54 (K.pad) rfl ?_
  refine ev_bipush (v := 80) d_L_unit_7 rfl ?_
  refine ev_icmp_lt (t := 22) d_L_unit_9 (by decide) (fun _ => ?_) (fun c_9 => absurd (by rw [hp]; exact nI_lt h (by decide)) c_9)
  refine ev_iload_n d_L_unit_22 rfl ?_
  refine ev_bipush (v := 33) d_L_unit_23 rfl ?_
  refine ev_icmp_lt (t := 34) d_L_unit_25 (by decide) (fun c_25 => absurd c_25 (by grind)) (fun _ => ?_)
  refine ev_iload_n d_L_unit_28 rfl ?_
  refine ev_bipush (v := 126) d_L_unit_29 rfl ?_
  refine ev_icmp_le (t := 44) d_L_unit_31 (by decide) (fun _ => ?_) (fun c_31 => absurd h2.2 c_31)
  refine ev_aload_n d_L_unit_44 rfl ?_
  refine ev_get d_L_unit_45 f_0_10 (K.lt) rfl ?_
  refine ev_iload_n d_L_unit_48 rfl ?_
  refine ev_v1o d_L_unit_49 q_0_69 rfl K.pad ⟨rfl, Nat.le_of_ble_eq_true rfl, Nat.le_of_ble_eq_true rfl⟩ (c_W_add0 (K.ne (by unfold lvt; omega) (by unfold lvt; omega) (by omega)) K.pad K.padA pn (by omega) hp) ?_
  refine ev_aload_n d_L_unit_52 rfl ?_
  refine ev_get d_L_unit_53 f_0_10 ((xset_ne _ _ (K.ne (by unfold lvt; omega) (by unfold lvt; omega) (by omega))).trans ((xset_ne _ _ (K.ne (by unfold lvt; omega) (by unfold lvt; omega) (by omega))).trans (K.lt))) rfl ?_
  refine ev_get d_L_unit_56 f_0_54 (xset_self _ _ _) rfl ?_
  exact ev_iret d_L_unit_59 rfl
set_option maxRecDepth 20000 in
theorem c_L_input_no0 {d : Nat} {M : xMm} {n sl : Nat} {ct : Nat → Nat} {tg : Nat → Option Nat} {Bn : xMm} {cn rq ln : Nat} {rt : Nat → Nat → Option Nat} {tx : Nat → List Int32} {iv : Nat → Int32} {av : Nat → Nat → Int32} (K : CR M n ct tg Bn cn rq ln rt tx iv av) (i h v : Int32) (hi : ¬ (0 ≤ i ∧ i < 8)) : xCl (d + 1) k_L_input [.ref (ct 0), .int i, .int h, .int v] (M, n, sl) (.inr "java/lang/IndexOutOfBoundsException", (M, n + 1, sl + 6)) := by
  show xEv _ k_L_input 0 [some (.ref (ct 0)), some (.int i), some (.int h), some (.int v), none] [] _ _
  refine ev_aload_n d_L_input_0 rfl ?_
  refine ev_iload_n d_L_input_1 rfl ?_
  exact ev_v1t d_L_input_2 q_0_102 rfl K.lt ⟨rfl, Nat.le_of_ble_eq_true rfl, Nat.le_of_ble_eq_true rfl⟩ (c_L_inputOf_no K _ hi)
set_option maxRecDepth 20000 in
theorem c_L_input_no1 {d : Nat} {M : xMm} {n sl : Nat} {ct : Nat → Nat} {tg : Nat → Option Nat} {Bn : xMm} {cn rq ln : Nat} {rt : Nat → Nat → Option Nat} {tx : Nat → List Int32} {iv : Nat → Int32} {av : Nat → Nat → Int32} (K : CR M n ct tg Bn cn rq ln rt tx iv av) (i : Nat) (hi : i < 8) (h v : Int32) (rn : Nat) (hrn : rn ≤ 60) (hr : av 18 i = nI rn) (hx : ¬ rn < 60) : xCl (d + 1) k_L_input [.ref (ct 0), .int (nI i), .int h, .int v] (M, n, sl) (.inr "java/lang/IllegalStateException", (M, n + 1, sl + 6)) := by
  show xEv _ k_L_input 0 [some (.ref (ct 0)), some (.int (nI i)), some (.int h), some (.int v), none] [] _ _
  refine ev_aload_n d_L_input_0 rfl ?_
  refine ev_iload_n d_L_input_1 rfl ?_
  refine ev_v1r d_L_input_2 q_0_102 rfl K.lt ⟨rfl, Nat.le_of_ble_eq_true rfl, Nat.le_of_ble_eq_true rfl⟩ (c_L_inputOf_ok K i hi) ?_
  refine ev_astore (lo1 := [some (.ref (ct 0)), some (.int (nI i)), some (.int h), some (.int v), some (.ref (ct (10 + 3 * i)))]) d_L_input_5 (Nat.le_of_ble_eq_true rfl) rfl ?_
  refine ev_aload d_L_input_7 rfl ?_
  refine ev_get d_L_input_9 f_0_106 ((K.inp i hi)) rfl ?_
  refine ev_bipush (v := 60) d_L_input_12 rfl ?_
  refine ev_icmp_lt (t := 27) d_L_input_14 (by decide) (fun c_14 => absurd c_14 (by rw [hr]; exact nI_nlt (b := 60) (by omega) (by omega))) (fun _ => ?_)
  exact ev_throw d_L_input_17 rfl (Nat.le_of_ble_eq_true rfl)
set_option maxRecDepth 20000 in
theorem c_L_input_no2 {d : Nat} {M : xMm} {n sl : Nat} {ct : Nat → Nat} {tg : Nat → Option Nat} {Bn : xMm} {cn rq ln : Nat} {rt : Nat → Nat → Option Nat} {tx : Nat → List Int32} {iv : Nat → Int32} {av : Nat → Nat → Int32} (K : CR M n ct tg Bn cn rq ln rt tx iv av) (i : Nat) (hi : i < 8) (h v : Int32) (rn : Nat) (hrn : rn ≤ 60) (hr : av 18 i = nI rn) (hx : rn < 60) (hy : ¬ ((0 ≤ h ∧ h ≤ 2400000) ∧ (if rn = 0 then -1 else av 19 (60 * i + (rn - 1))) < h ∧ 0 ≤ v ∧ v ≤ 999999)) : xCl (d + 1) k_L_input [.ref (ct 0), .int (nI i), .int h, .int v] (M, n, sl) (.inr "java/lang/IllegalArgumentException", (M, n + 1, sl + 6)) := by
  have elh : (if rn = 0 then -1 else slc 60 (av 19) i (rn - 1)) = (if rn = 0 then -1 else av 19 (60 * i + (rn - 1))) := by
    by_cases h9 : rn = 0
    · rw [if_pos h9, if_pos h9]
    · rw [if_neg h9, if_neg h9, slc_at _ _ (by omega)]
  show xEv _ k_L_input 0 [some (.ref (ct 0)), some (.int (nI i)), some (.int h), some (.int v), none] [] _ _
  refine ev_aload_n d_L_input_0 rfl ?_
  refine ev_iload_n d_L_input_1 rfl ?_
  refine ev_v1r d_L_input_2 q_0_102 rfl K.lt ⟨rfl, Nat.le_of_ble_eq_true rfl, Nat.le_of_ble_eq_true rfl⟩ (c_L_inputOf_ok K i hi) ?_
  refine ev_astore (lo1 := [some (.ref (ct 0)), some (.int (nI i)), some (.int h), some (.int v), some (.ref (ct (10 + 3 * i)))]) d_L_input_5 (Nat.le_of_ble_eq_true rfl) rfl ?_
  refine ev_aload d_L_input_7 rfl ?_
  refine ev_get d_L_input_9 f_0_106 ((K.inp i hi)) rfl ?_
  refine ev_bipush (v := 60) d_L_input_12 rfl ?_
  refine ev_icmp_lt (t := 27) d_L_input_14 (by decide) (fun _ => ?_) (fun c_14 => absurd (by rw [hr]; exact nI_lt hx (by decide)) c_14)
  refine ev_iload_n d_L_input_27 rfl ?_
  refine ev_s1r d_L_input_28 q_0_109 rfl ⟨rfl, Nat.le_of_ble_eq_true rfl, Nat.le_of_ble_eq_true rfl⟩ (c_L_isHour _) ?_
  refine ev_if_eq (t := 53) d_L_input_31 (by decide) (fun c_31_1 => ?_) (fun c_31_1 => ?_)
  · exact ev_throw d_L_input_53 rfl (Nat.le_of_ble_eq_true rfl)
  · refine ev_iload_n d_L_input_34 rfl ?_
    refine ev_aload d_L_input_35 rfl ?_
    refine ev_v0r d_L_input_37 q_0_113 rfl (K.inp i hi) ⟨rfl, Nat.le_of_ble_eq_true rfl, Nat.le_of_ble_eq_true rfl⟩ (c_I_lastHour (K.inp i hi) (K.inpH i hi) (K.inpV i hi) rn hrn hr) ?_
    rw [elh]
    refine ev_icmp_le (t := 53) d_L_input_40 (by decide) (fun c_40_2 => ?_) (fun c_40_2 => ?_)
    · exact ev_throw d_L_input_53 rfl (Nat.le_of_ble_eq_true rfl)
    · refine ev_iload_n d_L_input_43 rfl ?_
      refine ev_if_lt (t := 53) d_L_input_44 (by decide) (fun c_44_3 => ?_) (fun c_44_3 => ?_)
      · exact ev_throw d_L_input_53 rfl (Nat.le_of_ble_eq_true rfl)
      · refine ev_iload_n d_L_input_47 rfl ?_
        refine ev_ldc d_L_input_48 l_0_117 ?_
        refine ev_icmp_le (t := 63) d_L_input_50 (by decide) (fun c_50 => absurd c_50 (by grind [xbi])) (fun _ => ?_)
        exact ev_throw d_L_input_53 rfl (Nat.le_of_ble_eq_true rfl)
set_option maxRecDepth 20000 in
theorem c_L_input_ok {d : Nat} {M : xMm} {n sl : Nat} {ct : Nat → Nat} {tg : Nat → Option Nat} {Bn : xMm} {cn rq ln : Nat} {rt : Nat → Nat → Option Nat} {tx : Nat → List Int32} {iv : Nat → Int32} {av : Nat → Nat → Int32} (K : CR M n ct tg Bn cn rq ln rt tx iv av) (i : Nat) (hi : i < 8) (h v : Int32) (rn : Nat) (hrn : rn ≤ 60) (hr : av 18 i = nI rn) (hx : rn < 60) (hy : ((0 ≤ h ∧ h ≤ 2400000) ∧ (if rn = 0 then -1 else av 19 (60 * i + (rn - 1))) < h ∧ 0 ≤ v ∧ v ≤ 999999)) : xCl (d + 1) k_L_input [.ref (ct 0), .int (nI i), .int h, .int v] (M, n, sl) (.inl (some (.int (nI (rn + 1)))), (xset (xset (xset M (ct (11 + 3 * i)) (.inl (0, 60, .inl (upd (slc 60 (av 19) i) rn h)))) (ct (12 + 3 * i)) (.inl (0, 60, .inl (upd (slc 60 (av 20) i) rn v)))) (ct (10 + 3 * i)) (.inr (2, [.ref (ct (11 + 3 * i)), .ref (ct (12 + 3 * i)), .int (nI (rn + 1)), .int (av 21 i), .int (av 22 i)])), n, sl)) := by
  have elh : (if rn = 0 then -1 else slc 60 (av 19) i (rn - 1)) = (if rn = 0 then -1 else av 19 (60 * i + (rn - 1))) := by
    by_cases h9 : rn = 0
    · rw [if_pos h9, if_pos h9]
    · rw [if_neg h9, if_neg h9, slc_at _ _ (by omega)]
  show xEv _ k_L_input 0 [some (.ref (ct 0)), some (.int (nI i)), some (.int h), some (.int v), none] [] _ _
  refine ev_aload_n d_L_input_0 rfl ?_
  refine ev_iload_n d_L_input_1 rfl ?_
  refine ev_v1r d_L_input_2 q_0_102 rfl K.lt ⟨rfl, Nat.le_of_ble_eq_true rfl, Nat.le_of_ble_eq_true rfl⟩ (c_L_inputOf_ok K i hi) ?_
  refine ev_astore (lo1 := [some (.ref (ct 0)), some (.int (nI i)), some (.int h), some (.int v), some (.ref (ct (10 + 3 * i)))]) d_L_input_5 (Nat.le_of_ble_eq_true rfl) rfl ?_
  refine ev_aload d_L_input_7 rfl ?_
  refine ev_get d_L_input_9 f_0_106 ((K.inp i hi)) rfl ?_
  refine ev_bipush (v := 60) d_L_input_12 rfl ?_
  refine ev_icmp_lt (t := 27) d_L_input_14 (by decide) (fun _ => ?_) (fun c_14 => absurd (by rw [hr]; exact nI_lt hx (by decide)) c_14)
  refine ev_iload_n d_L_input_27 rfl ?_
  refine ev_s1r d_L_input_28 q_0_109 rfl ⟨rfl, Nat.le_of_ble_eq_true rfl, Nat.le_of_ble_eq_true rfl⟩ (c_L_isHour _) ?_
  refine ev_if_eq (t := 53) d_L_input_31 (by decide) (fun c_31 => absurd c_31 (by rw [xbi_t hy.1]; decide)) (fun _ => ?_)
  refine ev_iload_n d_L_input_34 rfl ?_
  refine ev_aload d_L_input_35 rfl ?_
  refine ev_v0r d_L_input_37 q_0_113 rfl (K.inp i hi) ⟨rfl, Nat.le_of_ble_eq_true rfl, Nat.le_of_ble_eq_true rfl⟩ (c_I_lastHour (K.inp i hi) (K.inpH i hi) (K.inpV i hi) rn hrn hr) ?_
  rw [elh]
  refine ev_icmp_le (t := 53) d_L_input_40 (by decide) (fun c_40 => absurd c_40 (by grind)) (fun _ => ?_)
  refine ev_iload_n d_L_input_43 rfl ?_
  refine ev_if_lt (t := 53) d_L_input_44 (by decide) (fun c_44 => absurd c_44 (by grind)) (fun _ => ?_)
  refine ev_iload_n d_L_input_47 rfl ?_
  refine ev_ldc d_L_input_48 l_0_117 ?_
  refine ev_icmp_le (t := 63) d_L_input_50 (by decide) (fun _ => ?_) (fun c_50 => absurd hy.2.2.2 c_50)
  refine ev_aload d_L_input_63 rfl ?_
  refine ev_iload_n d_L_input_65 rfl ?_
  refine ev_iload_n d_L_input_66 rfl ?_
  refine ev_v2o d_L_input_67 q_0_120 rfl (K.inp i hi) ⟨rfl, Nat.le_of_ble_eq_true rfl, Nat.le_of_ble_eq_true rfl⟩ (c_I_add (K.inp i hi) (K.inpH i hi) (K.inpV i hi) h v (K.ne (by unfold lvt; omega) (by unfold lvt; omega) (by omega)) (K.ne (by unfold lvt; omega) (by unfold lvt; omega) (by omega)) (K.ne (by unfold lvt; omega) (by unfold lvt; omega) (by omega)) rn hx hr) ?_
  refine ev_aload d_L_input_70 rfl ?_
  refine ev_get d_L_input_72 f_0_106 (xset_self _ _ _) rfl ?_
  exact ev_iret d_L_input_75 rfl
set_option maxRecDepth 20000 in
theorem c_L_fails_no0 {d : Nat} {M : xMm} {n sl : Nat} {ct : Nat → Nat} {tg : Nat → Option Nat} {Bn : xMm} {cn rq ln : Nat} {rt : Nat → Nat → Option Nat} {tx : Nat → List Int32} {iv : Nat → Int32} {av : Nat → Nat → Int32} (K : CR M n ct tg Bn cn rq ln rt tx iv av) (i f t : Int32) (hi : ¬ (0 ≤ i ∧ i < 8)) : xCl (d + 1) k_L_fails [.ref (ct 0), .int i, .int f, .int t] (M, n, sl) (.inr "java/lang/IndexOutOfBoundsException", (M, n + 1, sl + 6)) := by
  show xEv _ k_L_fails 0 [some (.ref (ct 0)), some (.int i), some (.int f), some (.int t), none] [] _ _
  refine ev_aload_n d_L_fails_0 rfl ?_
  refine ev_iload_n d_L_fails_1 rfl ?_
  exact ev_v1t d_L_fails_2 q_0_102 rfl K.lt ⟨rfl, Nat.le_of_ble_eq_true rfl, Nat.le_of_ble_eq_true rfl⟩ (c_L_inputOf_no K _ hi)
set_option maxRecDepth 20000 in
theorem c_L_fails_no {d : Nat} {M : xMm} {n sl : Nat} {ct : Nat → Nat} {tg : Nat → Option Nat} {Bn : xMm} {cn rq ln : Nat} {rt : Nat → Nat → Option Nat} {tx : Nat → List Int32} {iv : Nat → Int32} {av : Nat → Nat → Int32} (K : CR M n ct tg Bn cn rq ln rt tx iv av) (i : Nat) (hi : i < 8) (f t : Int32) (hy : ¬ (0 ≤ f ∧ f ≤ t ∧ t ≤ 2400000)) : xCl (d + 1) k_L_fails [.ref (ct 0), .int (nI i), .int f, .int t] (M, n, sl) (.inr "java/lang/IllegalArgumentException", (M, n + 1, sl + 6)) := by
  show xEv _ k_L_fails 0 [some (.ref (ct 0)), some (.int (nI i)), some (.int f), some (.int t), none] [] _ _
  refine ev_aload_n d_L_fails_0 rfl ?_
  refine ev_iload_n d_L_fails_1 rfl ?_
  refine ev_v1r d_L_fails_2 q_0_102 rfl K.lt ⟨rfl, Nat.le_of_ble_eq_true rfl, Nat.le_of_ble_eq_true rfl⟩ (c_L_inputOf_ok K i hi) ?_
  refine ev_astore (lo1 := [some (.ref (ct 0)), some (.int (nI i)), some (.int f), some (.int t), some (.ref (ct (10 + 3 * i)))]) d_L_fails_5 (Nat.le_of_ble_eq_true rfl) rfl ?_
  refine ev_iload_n d_L_fails_7 rfl ?_
  refine ev_s1r d_L_fails_8 q_0_109 rfl ⟨rfl, Nat.le_of_ble_eq_true rfl, Nat.le_of_ble_eq_true rfl⟩ (c_L_isHour _) ?_
  refine ev_if_eq (t := 26) d_L_fails_11 (by decide) (fun c_11_1 => ?_) (fun c_11_1 => ?_)
  · exact ev_throw d_L_fails_26 rfl (Nat.le_of_ble_eq_true rfl)
  · refine ev_iload_n d_L_fails_14 rfl ?_
    refine ev_s1r d_L_fails_15 q_0_109 rfl ⟨rfl, Nat.le_of_ble_eq_true rfl, Nat.le_of_ble_eq_true rfl⟩ (c_L_isHour _) ?_
    refine ev_if_eq (t := 26) d_L_fails_18 (by decide) (fun c_18_2 => ?_) (fun c_18_2 => ?_)
    · exact ev_throw d_L_fails_26 rfl (Nat.le_of_ble_eq_true rfl)
    · refine ev_iload_n d_L_fails_21 rfl ?_
      refine ev_iload_n d_L_fails_22 rfl ?_
      refine ev_icmp_ge (t := 36) d_L_fails_23 (by decide) (fun c_23 => absurd c_23 (by grind [xbi])) (fun _ => ?_)
      exact ev_throw d_L_fails_26 rfl (Nat.le_of_ble_eq_true rfl)
set_option maxRecDepth 20000 in
theorem c_L_fails_ok {d : Nat} {M : xMm} {n sl : Nat} {ct : Nat → Nat} {tg : Nat → Option Nat} {Bn : xMm} {cn rq ln : Nat} {rt : Nat → Nat → Option Nat} {tx : Nat → List Int32} {iv : Nat → Int32} {av : Nat → Nat → Int32} (K : CR M n ct tg Bn cn rq ln rt tx iv av) (i : Nat) (hi : i < 8) (f t : Int32) (hy : (0 ≤ f ∧ f ≤ t ∧ t ≤ 2400000)) : xCl (d + 1) k_L_fails [.ref (ct 0), .int (nI i), .int f, .int t] (M, n, sl) (.inl none, (xset M (ct (10 + 3 * i)) (.inr (2, [.ref (ct (11 + 3 * i)), .ref (ct (12 + 3 * i)), .int (av 18 i), .int f, .int t])), n, sl)) := by
  show xEv _ k_L_fails 0 [some (.ref (ct 0)), some (.int (nI i)), some (.int f), some (.int t), none] [] _ _
  refine ev_aload_n d_L_fails_0 rfl ?_
  refine ev_iload_n d_L_fails_1 rfl ?_
  refine ev_v1r d_L_fails_2 q_0_102 rfl K.lt ⟨rfl, Nat.le_of_ble_eq_true rfl, Nat.le_of_ble_eq_true rfl⟩ (c_L_inputOf_ok K i hi) ?_
  refine ev_astore (lo1 := [some (.ref (ct 0)), some (.int (nI i)), some (.int f), some (.int t), some (.ref (ct (10 + 3 * i)))]) d_L_fails_5 (Nat.le_of_ble_eq_true rfl) rfl ?_
  refine ev_iload_n d_L_fails_7 rfl ?_
  refine ev_s1r d_L_fails_8 q_0_109 rfl ⟨rfl, Nat.le_of_ble_eq_true rfl, Nat.le_of_ble_eq_true rfl⟩ (c_L_isHour _) ?_
  refine ev_if_eq (t := 26) d_L_fails_11 (by decide) (fun c_11 => absurd c_11 (by rw [xbi_t (by grind)]; decide)) (fun _ => ?_)
  refine ev_iload_n d_L_fails_14 rfl ?_
  refine ev_s1r d_L_fails_15 q_0_109 rfl ⟨rfl, Nat.le_of_ble_eq_true rfl, Nat.le_of_ble_eq_true rfl⟩ (c_L_isHour _) ?_
  refine ev_if_eq (t := 26) d_L_fails_18 (by decide) (fun c_18 => absurd c_18 (by rw [xbi_t (by grind)]; decide)) (fun _ => ?_)
  refine ev_iload_n d_L_fails_21 rfl ?_
  refine ev_iload_n d_L_fails_22 rfl ?_
  refine ev_icmp_ge (t := 36) d_L_fails_23 (by decide) (fun _ => ?_) (fun c_23 => absurd hy.2.1 c_23)
  refine ev_aload d_L_fails_36 rfl ?_
  refine ev_iload_n d_L_fails_38 rfl ?_
  refine ev_put (M1 := (xset M (ct (10 + 3 * i)) (.inr (2, [.ref (ct (11 + 3 * i)), .ref (ct (12 + 3 * i)), .int (av 18 i), .int f, .int (av 22 i)])))) d_L_fails_39 f_0_125 ((K.inp i hi)) ⟨Nat.le_of_ble_eq_true rfl, (xfit_i rfl), Or.inl rfl⟩ rfl ?_
  refine ev_aload d_L_fails_42 rfl ?_
  refine ev_iload_n d_L_fails_44 rfl ?_
  refine ev_put (M1 := (xset M (ct (10 + 3 * i)) (.inr (2, [.ref (ct (11 + 3 * i)), .ref (ct (12 + 3 * i)), .int (av 18 i), .int f, .int t])))) d_L_fails_45 f_0_128 (xset_self _ _ _) ⟨Nat.le_of_ble_eq_true rfl, (xfit_i rfl), Or.inl rfl⟩ (xset_xset _ _ _ _) ?_
  exact ev_ret d_L_fails_48 rfl
set_option maxRecDepth 20000 in
theorem c_L_shield_no {d : Nat} {M : xMm} {n sl : Nat} {ct : Nat → Nat} {tg : Nat → Option Nat} {Bn : xMm} {cn rq ln : Nat} {rt : Nat → Nat → Option Nat} {tx : Nat → List Int32} {iv : Nat → Int32} {av : Nat → Nat → Int32} (K : CR M n ct tg Bn cn rq ln rt tx iv av) (l b : Int32) (h : ¬ (0 ≤ l ∧ l < nI ln)) : xCl (d + 1) k_L_shield [.ref (ct 0), .int l, .int b] (M, n, sl) (.inr "java/lang/IndexOutOfBoundsException", (M, n + 1, sl + 6)) := by
  show xEv _ k_L_shield 0 [some (.ref (ct 0)), some (.int l), some (.int b), none, none] [] _ _
  refine ev_aload_n d_L_shield_0 rfl ?_
  refine ev_iload_n d_L_shield_1 rfl ?_
  exact ev_v1t d_L_shield_2 q_0_149 rfl K.lt ⟨rfl, Nat.le_of_ble_eq_true rfl, Nat.le_of_ble_eq_true rfl⟩ (c_L_loanOf_no K _ h)
set_option maxRecDepth 20000 in
theorem c_L_shield_ok {d : Nat} {M : xMm} {n sl : Nat} {ct : Nat → Nat} {tg : Nat → Option Nat} {Bn : xMm} {cn rq ln : Nat} {rt : Nat → Nat → Option Nat} {tx : Nat → List Int32} {iv : Nat → Int32} {av : Nat → Nat → Int32} (K : CR M n ct tg Bn cn rq ln rt tx iv av) (l : Nat) (hl : l < ln) (b : Int32) (hb : b = 0 ∨ b = 1) : xCl (d + 1) k_L_shield [.ref (ct 0), .int (nI l), .int b] (M, n, sl) (.inl (some (.int (xbi (av 28 l ≠ b)))), (xset M (ct (100 + 5 * l)) (.inr (3, [.ref (ct (200 + 4 * (av 24 l).toNatClampNeg)), .ref (ct (101 + 5 * l)), .ref (ct (102 + 5 * l)), .ref (ct (103 + 5 * l)), .ref (ct (104 + 5 * l)), .int b, .int (av 30 l)])), n, sl)) := by
  show xEv _ k_L_shield 0 [some (.ref (ct 0)), some (.int (nI l)), some (.int b), none, none] [] _ _
  refine ev_aload_n d_L_shield_0 rfl ?_
  refine ev_iload_n d_L_shield_1 rfl ?_
  refine ev_v1r d_L_shield_2 q_0_149 rfl K.lt ⟨rfl, Nat.le_of_ble_eq_true rfl, Nat.le_of_ble_eq_true rfl⟩ (c_L_loanOf_ok K l hl) ?_
  refine ev_astore_n (lo1 := [some (.ref (ct 0)), some (.int (nI l)), some (.int b), some (.ref (ct (100 + 5 * l))), none]) d_L_shield_5 (Nat.le_of_ble_eq_true rfl) rfl ?_
  refine ev_cutv (E := 19) (V := xbi (av 28 l ≠ b)) ?_ (fun hk_1 => ?_)
  · refine ev_top (fun x_2 ex_2 => ?_)
    refine ev_istore (lo1 := [some (.ref (ct 0)), some (.int (nI l)), some (.int b), some (.ref (ct (100 + 5 * l))), some (.int x_2)]) d_L_shield_19 (Nat.le_of_ble_eq_true rfl) rfl ?_
    refine ev_aload_n d_L_shield_21 rfl ?_
    refine ev_iload_n d_L_shield_22 rfl ?_
    refine ev_put (M1 := (xset M (ct (100 + 5 * l)) (.inr (3, [.ref (ct (200 + 4 * (av 24 l).toNatClampNeg)), .ref (ct (101 + 5 * l)), .ref (ct (102 + 5 * l)), .ref (ct (103 + 5 * l)), .ref (ct (104 + 5 * l)), .int b, .int (av 30 l)])))) d_L_shield_23 f_0_153 ((K.lon l hl)) ⟨Nat.le_of_ble_eq_true rfl, (by rcases hb with rfl | rfl <;> rfl), Or.inl rfl⟩ rfl ?_
    refine ev_iload d_L_shield_26 rfl ?_
    skip
    exact xEv.to (ev_zret d_L_shield_28 rfl (by grind [xbi])) (by grind)
  · refine ev_aload_n d_L_shield_6 rfl ?_
    refine ev_get d_L_shield_7 f_0_153 ((K.lon l hl)) rfl ?_
    refine ev_iload_n d_L_shield_10 rfl ?_
    refine ev_icmp_eq (t := 18) d_L_shield_11 (by decide) (fun c_11_3 => ?_) (fun c_11_3 => ?_)
    · refine ev_iconst (v := 0) d_L_shield_18 rfl ?_
      exact hk_1 _ (by rw [xbi_f (by grind)])
    · refine ev_iconst (v := 1) d_L_shield_14 rfl ?_
      refine ev_goto (t := 19) d_L_shield_15 (by decide) ?_
      exact hk_1 _ (by rw [xbi_t (by grind)])
