/-! the class: requests, loans, extensions -/
set_option maxRecDepth 20000 in
theorem CR_request {M : xMm} {n : Nat} {ct : Nat → Nat} {tg : Nat → Option Nat} {Bn : xMm} {cn rq ln : Nat} {rt : Nat → Nat → Option Nat} {tx : Nat → List Int32} {iv : Nat → Int32} {av : Nat → Nat → Int32} (K : CR M n ct tg Bn cn rq ln rt tx iv av) (t f u : Int32) (hrq : rq < 30) : CR (xset (xset (xset M (n) (.inr (7, [.int t, .int f, .int u]))) (ct 8) (.inl (5, 30, .inr (.inr (.inr (.inr (va_up (fun r => if r < rq then some (ct (40 + r)) else none) rq (some n)))))))) (ct 0) (.inr (0, [.ref (ct 1), .ref (ct 3), .ref (ct 5), .ref (ct 6), .ref (ct 7), .ref (ct 8), .int (iv 3), .int (iv 23), .int (nI (rq + 1))]))) (n + 1) (va_up ct (40 + rq) n) (fun q => if q = n then some (40 + rq) else tg q) Bn cn (rq + 1) ln rt tx (upd (upd iv 0 0) 33 (nI (rq + 1))) (va_up (va_up (va_up av 34 (upd (av 34) rq t)) 35 (upd (av 35) rq f)) 36 (upd (av 36) rq u)) := by
  have hcnt := K.cnt
  unfold CR
  refine ⟨?_, ?_, ?_, ?_, ?_, ?_, ?_, ?_, ?_, ?_, ?_, ?_, ?_, ?_, ?_, ?_, ?_, ?_, ?_, ?_, ?_, ?_, ?_, ?_, ?_, ?_⟩
  · simp (disch := omega) only [va_up_ne]
    exact xset_self _ _ _
  · try simp (disch := omega) only [va_up_ne]
    exact (xset_ne _ _ (K.ne (by unfold lvt; omega) (by unfold lvt; omega) (by omega))).trans ((xset_ne _ _ (K.ne (by unfold lvt; omega) (by unfold lvt; omega) (by omega))).trans ((xset_ne _ _ (Nat.ne_of_lt (Nat.lt_of_lt_of_le (K.tag _ (by unfold lvt; omega)).2 (by omega)))).trans (K.pad)))
  · try simp (disch := omega) only [va_up_ne]
    exact (xset_ne _ _ (K.ne (by unfold lvt; omega) (by unfold lvt; omega) (by omega))).trans ((xset_ne _ _ (K.ne (by unfold lvt; omega) (by unfold lvt; omega) (by omega))).trans ((xset_ne _ _ (Nat.ne_of_lt (Nat.lt_of_lt_of_le (K.tag _ (by unfold lvt; omega)).2 (by omega)))).trans (K.padA)))
  · obtain ⟨z, f, g3, g4⟩ := K.lets
    try simp (disch := omega) only [va_up_ne]
    exact ⟨z, f, (xset_ne _ _ (K.ne (by unfold lvt; omega) (by unfold lvt; omega) (by omega))).trans ((xset_ne _ _ (K.ne (by unfold lvt; omega) (by unfold lvt; omega) (by omega))).trans ((xset_ne _ _ (Nat.ne_of_lt (Nat.lt_of_lt_of_le (K.tag _ (by unfold lvt; omega)).2 (by omega)))).trans (g3))), (xset_ne _ _ (K.ne (by unfold lvt; omega) (by unfold lvt; omega) (by omega))).trans ((xset_ne _ _ (K.ne (by unfold lvt; omega) (by unfold lvt; omega) (by omega))).trans ((xset_ne _ _ (Nat.ne_of_lt (Nat.lt_of_lt_of_le (K.tag _ (by unfold lvt; omega)).2 (by omega)))).trans (g4)))⟩
  · try simp (disch := omega) only [va_up_ne]
    exact (xset_ne _ _ (K.ne (by unfold lvt; omega) (by unfold lvt; omega) (by omega))).trans ((xset_ne _ _ (K.ne (by unfold lvt; omega) (by unfold lvt; omega) (by omega))).trans ((xset_ne _ _ (Nat.ne_of_lt (Nat.lt_of_lt_of_le (K.tag _ (by unfold lvt; omega)).2 (by omega)))).trans (K.cons)))
  · try simp (disch := omega) only [va_up_ne]
    exact (xset_ne _ _ (K.ne (by unfold lvt; omega) (by unfold lvt; omega) (by omega))).trans ((xset_ne _ _ (K.ne (by unfold lvt; omega) (by unfold lvt; omega) (by omega))).trans ((xset_ne _ _ (Nat.ne_of_lt (Nat.lt_of_lt_of_le (K.tag _ (by unfold lvt; omega)).2 (by omega)))).trans (K.inps)))
  · try simp (disch := omega) only [va_up_ne]
    exact (xset_ne _ _ (K.ne (by unfold lvt; omega) (by unfold lvt; omega) (by omega))).trans ((xset_ne _ _ (K.ne (by unfold lvt; omega) (by unfold lvt; omega) (by omega))).trans ((xset_ne _ _ (Nat.ne_of_lt (Nat.lt_of_lt_of_le (K.tag _ (by unfold lvt; omega)).2 (by omega)))).trans (K.lons)))
  · rw [va_up_ne (k := 40 + rq) (j := 8) _ _ (by omega)]
    refine ((xset_ne _ _ (K.ne (by unfold lvt; omega) (by unfold lvt; omega) (by omega))).trans (xset_self _ _ _)).trans ?_
    congr 9
    funext r
    by_cases e0 : r = rq
    · subst e0
      simp [va_up]
    · rw [va_up_ne _ _ e0]
      by_cases e1 : r < rq
      · rw [if_pos e1, if_pos (by omega), va_up_ne _ _ (by omega)]
      · rw [if_neg e1, if_neg (by omega)]
  · intro i0 hi0
    try simp (disch := omega) only [va_up_ne]
    exact (xset_ne _ _ (K.ne (by unfold lvt; omega) (by unfold lvt; omega) (by omega))).trans ((xset_ne _ _ (K.ne (by unfold lvt; omega) (by unfold lvt; omega) (by omega))).trans ((xset_ne _ _ (Nat.ne_of_lt (Nat.lt_of_lt_of_le (K.tag _ (by unfold lvt; omega)).2 (by omega)))).trans (K.inp i0 hi0)))
  · intro i0 hi0
    try simp (disch := omega) only [va_up_ne]
    exact (xset_ne _ _ (K.ne (by unfold lvt; omega) (by unfold lvt; omega) (by omega))).trans ((xset_ne _ _ (K.ne (by unfold lvt; omega) (by unfold lvt; omega) (by omega))).trans ((xset_ne _ _ (Nat.ne_of_lt (Nat.lt_of_lt_of_le (K.tag _ (by unfold lvt; omega)).2 (by omega)))).trans (K.inpH i0 hi0)))
  · intro i0 hi0
    try simp (disch := omega) only [va_up_ne]
    exact (xset_ne _ _ (K.ne (by unfold lvt; omega) (by unfold lvt; omega) (by omega))).trans ((xset_ne _ _ (K.ne (by unfold lvt; omega) (by unfold lvt; omega) (by omega))).trans ((xset_ne _ _ (Nat.ne_of_lt (Nat.lt_of_lt_of_le (K.tag _ (by unfold lvt; omega)).2 (by omega)))).trans (K.inpV i0 hi0)))
  · intro r0 hr0
    by_cases e0 : r0 = rq
    · subst e0
      rw [va_up_self]
      refine ((xset_ne _ _ (Ne.symm (Nat.ne_of_lt (K.tag _ (by unfold lvt; omega)).2))).trans ((xset_ne _ _ (Ne.symm (Nat.ne_of_lt (K.tag _ (by unfold lvt; omega)).2))).trans (xset_self _ _ _))).trans ?_
      simp [va_up, upd]
    · rw [va_up_ne _ _ (by omega)]
      refine ((xset_ne _ _ (K.ne (by unfold lvt; omega) (by unfold lvt; omega) (by omega))).trans ((xset_ne _ _ (K.ne (by unfold lvt; omega) (by unfold lvt; omega) (by omega))).trans ((xset_ne _ _ (Nat.ne_of_lt (Nat.lt_of_lt_of_le (K.tag _ (by unfold lvt; omega)).2 (by omega)))).trans (K.req r0 (by omega))))).trans ?_
      simp [va_up, upd, e0]
  · intro l0 hl0
    try simp (disch := omega) only [va_up_ne]
    exact (xset_ne _ _ (K.ne (by unfold lvt; omega) (by unfold lvt; omega) (by omega))).trans ((xset_ne _ _ (K.ne (by unfold lvt; omega) (by unfold lvt; omega) (by omega))).trans ((xset_ne _ _ (Nat.ne_of_lt (Nat.lt_of_lt_of_le (K.tag _ (by unfold lvt; omega)).2 (by omega)))).trans (K.lon l0 hl0)))
  · intro l0 hl0
    try simp (disch := omega) only [va_up_ne]
    exact (xset_ne _ _ (K.ne (by unfold lvt; omega) (by unfold lvt; omega) (by omega))).trans ((xset_ne _ _ (K.ne (by unfold lvt; omega) (by unfold lvt; omega) (by omega))).trans ((xset_ne _ _ (Nat.ne_of_lt (Nat.lt_of_lt_of_le (K.tag _ (by unfold lvt; omega)).2 (by omega)))).trans (K.lonH l0 hl0)))
  · intro l0 hl0
    try simp (disch := omega) only [va_up_ne]
    exact (xset_ne _ _ (K.ne (by unfold lvt; omega) (by unfold lvt; omega) (by omega))).trans ((xset_ne _ _ (K.ne (by unfold lvt; omega) (by unfold lvt; omega) (by omega))).trans ((xset_ne _ _ (Nat.ne_of_lt (Nat.lt_of_lt_of_le (K.tag _ (by unfold lvt; omega)).2 (by omega)))).trans (K.lonT l0 hl0)))
  · intro l0 hl0
    try simp (disch := omega) only [va_up_ne]
    exact (xset_ne _ _ (K.ne (by unfold lvt; omega) (by unfold lvt; omega) (by omega))).trans ((xset_ne _ _ (K.ne (by unfold lvt; omega) (by unfold lvt; omega) (by omega))).trans ((xset_ne _ _ (Nat.ne_of_lt (Nat.lt_of_lt_of_le (K.tag _ (by unfold lvt; omega)).2 (by omega)))).trans (K.lonS l0 hl0)))
  · intro l0 hl0
    try simp (disch := omega) only [va_up_ne]
    exact (xset_ne _ _ (K.ne (by unfold lvt; omega) (by unfold lvt; omega) (by omega))).trans ((xset_ne _ _ (K.ne (by unfold lvt; omega) (by unfold lvt; omega) (by omega))).trans ((xset_ne _ _ (Nat.ne_of_lt (Nat.lt_of_lt_of_le (K.tag _ (by unfold lvt; omega)).2 (by omega)))).trans (K.lonP l0 hl0)))
  · intro c0 hc0
    try simp (disch := omega) only [va_up_ne]
    exact (xset_ne _ _ (K.ne (by unfold lvt; omega) (by unfold lvt; omega) (by omega))).trans ((xset_ne _ _ (K.ne (by unfold lvt; omega) (by unfold lvt; omega) (by omega))).trans ((xset_ne _ _ (Nat.ne_of_lt (Nat.lt_of_lt_of_le (K.tag _ (by unfold lvt; omega)).2 (by omega)))).trans (K.con c0 hc0)))
  · intro c0 hc0
    try simp (disch := omega) only [va_up_ne]
    exact (xset_ne _ _ (K.ne (by unfold lvt; omega) (by unfold lvt; omega) (by omega))).trans ((xset_ne _ _ (K.ne (by unfold lvt; omega) (by unfold lvt; omega) (by omega))).trans ((xset_ne _ _ (Nat.ne_of_lt (Nat.lt_of_lt_of_le (K.tag _ (by unfold lvt; omega)).2 (by omega)))).trans (K.conR c0 hc0)))
  · intro c0 hc0
    try simp (disch := omega) only [va_up_ne]
    exact (xset_ne _ _ (K.ne (by unfold lvt; omega) (by unfold lvt; omega) (by omega))).trans ((xset_ne _ _ (K.ne (by unfold lvt; omega) (by unfold lvt; omega) (by omega))).trans ((xset_ne _ _ (Nat.ne_of_lt (Nat.lt_of_lt_of_le (K.tag _ (by unfold lvt; omega)).2 (by omega)))).trans (K.conT c0 hc0)))
  · intro c0 hc0
    try simp (disch := omega) only [va_up_ne]
    exact (xset_ne _ _ (K.ne (by unfold lvt; omega) (by unfold lvt; omega) (by omega))).trans ((xset_ne _ _ (K.ne (by unfold lvt; omega) (by unfold lvt; omega) (by omega))).trans ((xset_ne _ _ (Nat.ne_of_lt (Nat.lt_of_lt_of_le (K.tag _ (by unfold lvt; omega)).2 (by omega)))).trans (K.conA c0 hc0)))
  · intro a e h
    exact (xset_ne _ _ (K.nn (by rw [h]; simp) (by unfold lvt; omega))).trans ((xset_ne _ _ (K.nn (by rw [h]; simp) (by unfold lvt; omega))).trans ((xset_ne _ _ (Nat.ne_of_lt (Nat.lt_of_lt_of_le (K.tgn a (by rw [h]; simp)).2 (by omega)))).trans (K.nod a e h)))
  · intro t ht
    by_cases e_ : t = 40 + rq
    · subst e_
      rw [va_up_self]
      exact ⟨if_pos rfl, by omega⟩
    · rw [va_up_ne _ _ e_]
      have h9 : lvt cn rq ln t := by unfold lvt at ht ⊢; omega
      have h8 := K.tag t h9
      refine ⟨?_, by omega⟩
      show (if ct t = n then some (40 + rq) else tg (ct t)) = some t
      rw [if_neg (by omega)]
      exact h8.1
  · intro a ha
    have h1 := (K.tgn a ha).1
    have h2 := (K.tgn a ha).2
    refine ⟨?_, by omega⟩
    show (if a = n then some (40 + rq) else tg a) = some 999
    rw [if_neg (by omega)]
    exact h1
  · intro a ha
    rcases Nat.lt_or_ge a (n + 1) with g | g
    · exact g
    · exfalso
      apply ha
      show (if a = n then some (40 + rq) else tg a) = none
      rw [if_neg (by omega)]
      cases e9 : tg a with
      | none => rfl
      | some x => exact absurd (K.tgo a (by rw [e9]; simp)) (by omega)
  · refine ⟨by omega, by omega, by omega, hcnt.2.2.2.1, ?_, hcnt.2.2.2.2.2⟩
    simp [upd]
set_option maxRecDepth 20000 in
theorem c_L_request_no1 {d : Nat} {M : xMm} {n sl : Nat} {ct : Nat → Nat} {tg : Nat → Option Nat} {Bn : xMm} {cn rq ln : Nat} {rt : Nat → Nat → Option Nat} {tx : Nat → List Int32} {iv : Nat → Int32} {av : Nat → Nat → Int32} (K : CR M n ct tg Bn cn rq ln rt tx iv av) (t f u : Int32) (h1 : ¬ (0 ≤ t ∧ t < 16)) : xCl (d + 2) k_L_request [.ref (ct 0), .int t, .int f, .int u] (M, n, sl) (.inr "java/lang/IndexOutOfBoundsException", (M, n + 1, sl + 6)) := by
  show xEv _ k_L_request 0 [some (.ref (ct 0)), some (.int t), some (.int f), some (.int u)] [] _ _
  refine ev_iload_n d_L_request_0 rfl ?_
  exact ev_s1t d_L_request_1 q_0_131 rfl ⟨rfl, Nat.le_of_ble_eq_true rfl, Nat.le_of_ble_eq_true rfl⟩ (c_L_refuseNoThing_no _ h1)
set_option maxRecDepth 20000 in
theorem c_L_request_no2 {d : Nat} {M : xMm} {n sl : Nat} {ct : Nat → Nat} {tg : Nat → Option Nat} {Bn : xMm} {cn rq ln : Nat} {rt : Nat → Nat → Option Nat} {tx : Nat → List Int32} {iv : Nat → Int32} {av : Nat → Nat → Int32} (K : CR M n ct tg Bn cn rq ln rt tx iv av) (t f u : Int32) (h1 : (0 ≤ t ∧ t < 16)) (h2 : ¬ iv 33 < 30) : xCl (d + 2) k_L_request [.ref (ct 0), .int t, .int f, .int u] (M, n, sl) (.inr "java/lang/IllegalStateException", (M, n + 1, sl + 6)) := by
  show xEv _ k_L_request 0 [some (.ref (ct 0)), some (.int t), some (.int f), some (.int u)] [] _ _
  refine ev_iload_n d_L_request_0 rfl ?_
  refine ev_s1o d_L_request_1 q_0_131 rfl ⟨rfl, Nat.le_of_ble_eq_true rfl, Nat.le_of_ble_eq_true rfl⟩ (c_L_refuseNoThing_ok _ h1) ?_
  refine ev_aload_n d_L_request_4 rfl ?_
  refine ev_get d_L_request_5 f_0_50 (K.lt) rfl ?_
  refine ev_bipush (v := 30) d_L_request_8 rfl ?_
  refine ev_icmp_lt (t := 23) d_L_request_10 (by decide) (fun c_10 => absurd c_10 h2) (fun _ => ?_)
  exact ev_throw d_L_request_13 rfl (Nat.le_of_ble_eq_true rfl)
set_option maxRecDepth 20000 in
theorem c_L_request_no3 {d : Nat} {M : xMm} {n sl : Nat} {ct : Nat → Nat} {tg : Nat → Option Nat} {Bn : xMm} {cn rq ln : Nat} {rt : Nat → Nat → Option Nat} {tx : Nat → List Int32} {iv : Nat → Int32} {av : Nat → Nat → Int32} (K : CR M n ct tg Bn cn rq ln rt tx iv av) (t f u : Int32) (h1 : (0 ≤ t ∧ t < 16)) (h2 : iv 33 < 30) (h3 : ¬ (0 ≤ f ∧ f ≤ u ∧ u ≤ 100000)) : xCl (d + 2) k_L_request [.ref (ct 0), .int t, .int f, .int u] (M, n, sl) (.inr "java/lang/IllegalArgumentException", (M, n + 1, sl + 6)) := by
  show xEv _ k_L_request 0 [some (.ref (ct 0)), some (.int t), some (.int f), some (.int u)] [] _ _
  refine ev_iload_n d_L_request_0 rfl ?_
  refine ev_s1o d_L_request_1 q_0_131 rfl ⟨rfl, Nat.le_of_ble_eq_true rfl, Nat.le_of_ble_eq_true rfl⟩ (c_L_refuseNoThing_ok _ h1) ?_
  refine ev_aload_n d_L_request_4 rfl ?_
  refine ev_get d_L_request_5 f_0_50 (K.lt) rfl ?_
  refine ev_bipush (v := 30) d_L_request_8 rfl ?_
  refine ev_icmp_lt (t := 23) d_L_request_10 (by decide) (fun _ => ?_) (fun c_10 => absurd h2 c_10)
  refine ev_iload_n d_L_request_23 rfl ?_
  refine ev_iload_n d_L_request_24 rfl ?_
  exact ev_s2t d_L_request_25 q_0_136 rfl ⟨rfl, Nat.le_of_ble_eq_true rfl, Nat.le_of_ble_eq_true rfl⟩ (c_L_refuseNoDays_no _ _ h3)
set_option maxRecDepth 20000 in
theorem c_L_request_ok {d : Nat} {M : xMm} {n sl : Nat} {ct : Nat → Nat} {tg : Nat → Option Nat} {Bn : xMm} {cn rq ln : Nat} {rt : Nat → Nat → Option Nat} {tx : Nat → List Int32} {iv : Nat → Int32} {av : Nat → Nat → Int32} (K : CR M n ct tg Bn cn rq ln rt tx iv av) (t f u : Int32) (h1 : (0 ≤ t ∧ t < 16)) (hrq : rq < 30) (h3 : (0 ≤ f ∧ f ≤ u ∧ u ≤ 100000)) : xCl (d + 2) k_L_request [.ref (ct 0), .int t, .int f, .int u] (M, n, sl) (.inl (some (.int (nI rq))), ((xset (xset (xset M (n) (.inr (7, [.int t, .int f, .int u]))) (ct 8) (.inl (5, 30, .inr (.inr (.inr (.inr (va_up (fun r => if r < rq then some (ct (40 + r)) else none) rq (some n)))))))) (ct 0) (.inr (0, [.ref (ct 1), .ref (ct 3), .ref (ct 5), .ref (ct 6), .ref (ct 7), .ref (ct 8), .int (iv 3), .int (iv 23), .int (nI (rq + 1))]))), n + 1, sl + 3)) := by
  have hcnt := K.cnt
  show xEv _ k_L_request 0 [some (.ref (ct 0)), some (.int t), some (.int f), some (.int u)] [] _ _
  refine ev_iload_n d_L_request_0 rfl ?_
  refine ev_s1o d_L_request_1 q_0_131 rfl ⟨rfl, Nat.le_of_ble_eq_true rfl, Nat.le_of_ble_eq_true rfl⟩ (c_L_refuseNoThing_ok _ h1) ?_
  refine ev_aload_n d_L_request_4 rfl ?_
  refine ev_get d_L_request_5 f_0_50 (K.lt) rfl ?_
  refine ev_bipush (v := 30) d_L_request_8 rfl ?_
  refine ev_icmp_lt (t := 23) d_L_request_10 (by decide) (fun _ => ?_) (fun c_10 => absurd (by rw [hcnt.2.2.2.2.1]; exact nI_lt hrq (by decide)) c_10)
  refine ev_iload_n d_L_request_23 rfl ?_
  refine ev_iload_n d_L_request_24 rfl ?_
  refine ev_s2o d_L_request_25 q_0_136 rfl ⟨rfl, Nat.le_of_ble_eq_true rfl, Nat.le_of_ble_eq_true rfl⟩ (c_L_refuseNoDays_ok _ _ h3) ?_
  refine ev_aload_n d_L_request_28 rfl ?_
  refine ev_get d_L_request_29 f_0_39 (K.lt) rfl ?_
  refine ev_aload_n d_L_request_32 rfl ?_
  refine ev_get d_L_request_33 f_0_50 (K.lt) rfl ?_
  refine ev_new (S1 := ((xset M (n) (.inr (7, [.int 0, .int 0, .int 0]))), n + 1, sl + 3)) d_L_request_36 rfl n_0_37 rfl ?_
  refine ev_dup d_L_request_39 rfl ?_
  refine ev_iload_n d_L_request_40 rfl ?_
  refine ev_iload_n d_L_request_41 rfl ?_
  refine ev_iload_n d_L_request_42 rfl ?_
  refine ev_i3 d_L_request_43 ⟨_, q_0_139, by decide, by decide⟩ rfl ⟨rfl, Nat.le_of_ble_eq_true rfl, Nat.le_of_ble_eq_true rfl⟩ (c_P_init _ _ _ (xset_self _ _ _)) ?_
  rw [xset_xset]
  refine ev_aast (M1 := (xset (xset M (n) (.inr (7, [.int t, .int f, .int u]))) (ct 8) (.inl (5, 30, .inr (.inr (.inr (.inr (va_up (fun r => if r < rq then some (ct (40 + r)) else none) ((iv 33)).toNatClampNeg (some (n)))))))))) d_L_request_46 ((xset_ne _ _ (Nat.ne_of_lt (K.tag _ (by unfold lvt; omega)).2)).trans (K.reqs)) rfl (xset_self _ _ _) (by rw [hcnt.2.2.2.2.1]; exact vp_in_nI (N := 30) hrq (by decide)) rfl ?_
  refine ev_aload_n d_L_request_47 rfl ?_
  refine ev_dup d_L_request_48 rfl ?_
  refine ev_get d_L_request_49 f_0_50 ((xset_ne _ _ (K.ne (by unfold lvt; omega) (by unfold lvt; omega) (by omega))).trans ((xset_ne _ _ (Nat.ne_of_lt (K.tag _ (by unfold lvt; omega)).2)).trans (K.lt))) rfl ?_
  refine ev_iconst (v := 1) d_L_request_52 rfl ?_
  refine ev_iadd d_L_request_53 ?_
  refine ev_put (M1 := (xset (xset (xset M (n) (.inr (7, [.int t, .int f, .int u]))) (ct 8) (.inl (5, 30, .inr (.inr (.inr (.inr (va_up (fun r => if r < rq then some (ct (40 + r)) else none) ((iv 33)).toNatClampNeg (some (n))))))))) (ct 0) (.inr (0, [.ref (ct 1), .ref (ct 3), .ref (ct 5), .ref (ct 6), .ref (ct 7), .ref (ct 8), .int (iv 3), .int (iv 23), .int ((iv 33) + 1)])))) d_L_request_54 f_0_50 ((xset_ne _ _ (K.ne (by unfold lvt; omega) (by unfold lvt; omega) (by omega))).trans ((xset_ne _ _ (Nat.ne_of_lt (K.tag _ (by unfold lvt; omega)).2)).trans (K.lt))) ⟨Nat.le_of_ble_eq_true rfl, (xfit_i rfl), Or.inl rfl⟩ rfl ?_
  refine ev_aload_n d_L_request_57 rfl ?_
  refine ev_get d_L_request_58 f_0_50 (xset_self _ _ _) rfl ?_
  refine ev_iconst (v := 1) d_L_request_61 rfl ?_
  refine ev_isub d_L_request_62 ?_
  exact xEv.to (ev_iret d_L_request_63 rfl) (by rw [hcnt.2.2.2.2.1, nI_clamp (show rq < 2 ^ 31 by omega), ← nI_succ, nI_pred])
set_option maxRecDepth 20000 in
theorem l_L_clashesWithLoan {d : Nat} {M : xMm} {n sl : Nat} {ct : Nat → Nat} {tg : Nat → Option Nat} {Bn : xMm} {cn rq ln : Nat} {rt : Nat → Nat → Option Nat} {tx : Nat → List Int32} {iv : Nat → Int32} {av : Nat → Nat → Int32} (K : CR M n ct tg Bn cn rq ln rt tx iv av) {p : Nat} {t f u : Int32} (hp : M p = some (.inr (7, [.int t, .int f, .int u]))) (b : Int32) : ∀ m i, i + m = ln → xEv (d + 1) k_L_clashesWithLoan 2 [some (.ref (ct 0)), some (.ref p), some (.int b), some (.int (nI i))] [] (M, n, sl) (.inl (some (.int (xb (anyF (mOut av t f u b) m i)))), (M, n, sl)) := by
  have hcnt := K.cnt
  intro m
  induction m with
  | zero =>
    intro i hi
    refine ev_iload_n d_L_clashesWithLoan_2 rfl ?_
    refine ev_aload_n d_L_clashesWithLoan_3 rfl ?_
    refine ev_get d_L_clashesWithLoan_4 f_0_47 (K.lt) rfl ?_
    refine ev_icmp_ge (t := 38) d_L_clashesWithLoan_7 (by decide) (fun _ => ?_) (fun c_7 => absurd (by rw [hcnt.2.2.2.2.2]; exact nI_le (by omega) (by omega)) c_7)
    refine ev_iconst (v := 0) d_L_clashesWithLoan_38 rfl ?_
    exact ev_zret d_L_clashesWithLoan_39 rfl (Or.inl rfl)
  | succ m ih =>
    intro i hi
    have hl : i < ln := by omega
    refine ev_iload_n d_L_clashesWithLoan_2 rfl ?_
    refine ev_aload_n d_L_clashesWithLoan_3 rfl ?_
    refine ev_get d_L_clashesWithLoan_4 f_0_47 (K.lt) rfl ?_
    refine ev_icmp_ge (t := 38) d_L_clashesWithLoan_7 (by decide) (fun c_7 => absurd c_7 (by rw [hcnt.2.2.2.2.2]; exact nI_ge (by omega) (by omega))) (fun _ => ?_)
    refine ev_iload_n d_L_clashesWithLoan_10 rfl ?_
    refine ev_iload_n d_L_clashesWithLoan_11 rfl ?_
    refine ev_icmp_eq (t := 32) d_L_clashesWithLoan_12 (by decide) (fun c_12_1 => ?_) (fun c_12_1 => ?_)
    · obtain ⟨x_2, ex_2⟩ : ∃ z : Int32, z = (nI i) + 1 := ⟨_, rfl⟩
      refine ev_iinc (v := x_2) (lo1 := [some (.ref (ct 0)), some (.ref p), some (.int b), some (.int x_2)]) d_L_clashesWithLoan_32 rfl (by rw [ex_2]; rfl) rfl ?_
      refine ev_goto (t := 2) d_L_clashesWithLoan_35 (by decide) ?_
      rw [show x_2 = nI (i + 1) from by rw [ex_2, nI_succ]]
      exact xEv.to (ih (i + 1) (by omega)) (by rw [show anyF (mOut av t f u b) (m + 1) i = anyF (mOut av t f u b) m (i + 1) from by rw [anyF, show mOut av t f u b i = false from by unfold mOut; grind [xbi]]; rfl])
    · refine ev_aload_n d_L_clashesWithLoan_15 rfl ?_
      refine ev_aload_n d_L_clashesWithLoan_16 rfl ?_
      refine ev_iload_n d_L_clashesWithLoan_17 rfl ?_
      refine ev_v1r d_L_clashesWithLoan_18 q_0_149 rfl K.lt ⟨rfl, Nat.le_of_ble_eq_true rfl, Nat.le_of_ble_eq_true rfl⟩ (c_L_loanOf_ok K i hl) ?_
      refine ev_get d_L_clashesWithLoan_21 f_0_160 ((K.lon i hl)) rfl ?_
      refine ev_s2r d_L_clashesWithLoan_24 q_0_222 rfl ⟨rfl, Nat.le_of_ble_eq_true rfl, Nat.le_of_ble_eq_true rfl⟩ (c_L_areClashing hp (K.lonP i hl)) ?_
      refine ev_if_eq (t := 32) d_L_clashesWithLoan_27 (by decide) (fun c_27_3 => ?_) (fun c_27_3 => ?_)
      · obtain ⟨x_4, ex_4⟩ : ∃ z : Int32, z = (nI i) + 1 := ⟨_, rfl⟩
        refine ev_iinc (v := x_4) (lo1 := [some (.ref (ct 0)), some (.ref p), some (.int b), some (.int x_4)]) d_L_clashesWithLoan_32 rfl (by rw [ex_4]; rfl) rfl ?_
        refine ev_goto (t := 2) d_L_clashesWithLoan_35 (by decide) ?_
        rw [show x_4 = nI (i + 1) from by rw [ex_4, nI_succ]]
        exact xEv.to (ih (i + 1) (by omega)) (by rw [show anyF (mOut av t f u b) (m + 1) i = anyF (mOut av t f u b) m (i + 1) from by rw [anyF, show mOut av t f u b i = false from by unfold mOut; grind [xbi]]; rfl])
      · refine ev_iconst (v := 1) d_L_clashesWithLoan_30 rfl ?_
        exact xEv.to (ev_zret d_L_clashesWithLoan_31 rfl (Or.inr rfl)) (by rw [show anyF (mOut av t f u b) (m + 1) i = true from by rw [anyF, show mOut av t f u b i = true from by unfold mOut; grind [xbi]]; rfl]; rfl)
set_option maxRecDepth 20000 in
theorem c_L_clashesWithLoan {d : Nat} {M : xMm} {n sl : Nat} {ct : Nat → Nat} {tg : Nat → Option Nat} {Bn : xMm} {cn rq ln : Nat} {rt : Nat → Nat → Option Nat} {tx : Nat → List Int32} {iv : Nat → Int32} {av : Nat → Nat → Int32} (K : CR M n ct tg Bn cn rq ln rt tx iv av) {p : Nat} {t f u : Int32} (hp : M p = some (.inr (7, [.int t, .int f, .int u]))) (b : Int32) : xCl (d + 1) k_L_clashesWithLoan [.ref (ct 0), .ref p, .int b] (M, n, sl) (.inl (some (.int (xb (anyF (mOut av t f u b) ln 0)))), (M, n, sl)) := by
  show xEv _ k_L_clashesWithLoan 0 [some (.ref (ct 0)), some (.ref p), some (.int b), none] [] _ _
  refine ev_iconst (v := 0) d_L_clashesWithLoan_0 rfl ?_
  refine ev_istore_n (lo1 := [some (.ref (ct 0)), some (.ref p), some (.int b), some (.int 0)]) d_L_clashesWithLoan_1 (Nat.le_of_ble_eq_true rfl) rfl ?_
  exact l_L_clashesWithLoan K hp b ln 0 (by omega)
