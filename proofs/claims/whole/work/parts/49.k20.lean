/-! the class: read, and a new object -/
set_option maxRecDepth 20000 in
theorem c_R_init {d : Nat} {M : xMm} {n sl : Nat} {a : Nat} (b : Nat) (ha : M a = some (.inr (5, [.null, .int 0]))) : xCl (d) k_R_init [.ref a, .ref b] (M, n, sl) (.inl none, (xset M a (.inr (5, [.ref b, .int 0])), n, sl)) := by
  show xEv _ k_R_init 0 [some (.ref a), some (.ref b)] [] _ _
  refine ev_aload_n d_R_init_0 rfl ?_
  refine ev_obj d_R_init_1 q_5_3 (Nat.le_of_ble_eq_true rfl) ?_
  refine ev_aload_n d_R_init_4 rfl ?_
  refine ev_iconst (v := 0) d_R_init_5 rfl ?_
  refine ev_put (M1 := (xset M (a) (.inr (5, [.null, .int 0])))) d_R_init_6 f_5_9 (ha) ⟨Nat.le_of_ble_eq_true rfl, (xfit_i rfl), Or.inr ⟨rfl, rfl⟩⟩ rfl ?_
  refine ev_aload_n d_R_init_9 rfl ?_
  refine ev_aload_n d_R_init_10 rfl ?_
  refine ev_put (M1 := (xset M (a) (.inr (5, [.ref b, .int 0])))) d_R_init_11 f_5_15 (xset_self _ _ _) ⟨Nat.le_of_ble_eq_true rfl, (xfit_v rfl rfl rfl), Or.inr ⟨rfl, rfl⟩⟩ (xset_xset _ _ _ _) ?_
  exact ev_ret d_R_init_14 rfl
set_option maxRecDepth 20000 in
theorem c_R_readContract {e : Nat} {N : xMm} {n sl ra w ba : Nat} {s : Nat → Int32} {len : Nat} (hR : RS N n ra w ba s len) : ∃ (N1 : xMm) (n1 sl1 : Nat) (v : Value), xCl (e + 496) k_R_readContract [.ref ra] (rdM N ra w 0, n, sl) (.inl (some v), (rdM N1 ra w (pC s len 6 0).1, n1, sl1)) ∧ (∀ x, x < n → x ≠ ra → N1 x = N x) ∧ n + 4 ≤ n1 ∧ n1 ≤ n + 4 + (pC s len 6 0).1 ∧ sl1 = sl + 251 + 5 * (n1 - (n + 4)) ∧ (((pC s len 6 0).2 = none ∧ v = .null) ∨ ∃ (Ds : List Den) (rf1 : Nat → Option Nat), (pC s len 6 0).2 = some Ds ∧ v = .ref n ∧ CT N1 n Ds.length rf1 (txS Ds) ∧ ∀ t, t < Ds.length → ∃ (a : Nat) (D : Den), rf1 t = some a ∧ n + 4 ≤ a ∧ a < n1 ∧ Ds[t]? = some D ∧ rN N1 (n + 4) 31 a D) := by
  obtain ⟨M1, hci, f1, f2, f3, f4, f5⟩ := c_C_init (d := e + 494) (M := xset (rdM N ra w 0) n (.inr (1, [.null, .null, .int 0]))) (n := n + 1) (sl := sl + 3) (a := n) (by omega) (xset_self _ _ _)
  have hra := hR.2.2.2.2.2.2.2.1
  have hself : M1 = rdM M1 ra w 0 := (xset_id ((f5 ra (by omega) (by omega)).trans ((xset_ne _ _ (by omega)).trans (xset_self _ _ _)))).symm
  have hM1 : ∀ x, x < n → x ≠ ra → M1 x = N x := fun x hx hx2 => (f5 x (by omega) (by omega)).trans ((xset_ne _ _ (by omega)).trans (xset_ne _ _ hx2))
  have hR1 : RS M1 (n + 4) ra w ba s len := by
    obtain ⟨g1, g2, g3, g4, g5, g6, g7, g8, g9⟩ := hR
    exact ⟨(hM1 w g6 g3).trans g1, (hM1 ba g7 g4).trans g2, g3, g4, g5, by omega, by omega, by omega, g9⟩
  have hT1 : CT M1 n 0 (fun _ => none) [] := ⟨f1, f2, f3, f4.trans (by rw [wrF_nil])⟩
  obtain ⟨N1, n1, sl1, v, hx, hk, hn, hb, hs, hr⟩ := l_R_readContract (ra := ra) (w := w) (ba := ba) (c0 := n) (s := s) (len := len) ⟨hR.2.2.2.2.2.1, hR.2.2.2.2.2.2.1, hra⟩ 6 e 0 0 M1 (n + 4) (sl + 251) (fun _ => none) [] hR1 hT1 (by omega) (by omega) (by omega) (by simp) none
  refine ⟨N1, n1, sl1, v, ?_, fun x hx hx2 => (hk x (by omega) (Or.inl hx)).trans (hM1 x hx hx2), hn, by omega, hs, ?_⟩
  · show xEv _ k_R_readContract 0 [some (.ref ra), none, none, none] [] _ _
    refine ev_new (S1 := ((xset (rdM N ra w 0) (n) (.inr (1, [.null, .null, .int 0]))), n + 1, sl + 3)) d_R_readContract_0 rfl n_5_19 rfl ?_
    dsimp only
    refine ev_dup d_R_readContract_3 rfl ?_
    refine ev_i0 d_R_readContract_4 ⟨_, q_5_21, by decide, by decide⟩ rfl ⟨rfl, Nat.le_of_ble_eq_true rfl, Nat.le_of_ble_eq_true rfl⟩ hci ?_
    rw [hself]
    refine ev_astore_n (lo1 := [some (.ref ra), some (.ref (n)), none, none]) d_R_readContract_7 (Nat.le_of_ble_eq_true rfl) rfl ?_
    refine ev_iconst (v := 5) d_R_readContract_8 rfl ?_
    refine ev_istore_n (lo1 := [some (.ref ra), some (.ref (n)), some (.int (nI 6 - 1)), none]) d_R_readContract_9 (Nat.le_of_ble_eq_true rfl) rfl ?_
    exact hx
  · rcases hr with h | ⟨Ds, rf1, g1, g2, g3, -, g5⟩
    · exact Or.inl h
    · rw [Nat.zero_add, List.nil_append] at g3
      exact Or.inr ⟨Ds, rf1, g1, g2, g3, fun t ht => by obtain ⟨a, D, h1, h2⟩ := g5 t ht; rw [Nat.zero_add] at h1; exact ⟨a, D, h1, h2⟩⟩
set_option maxRecDepth 20000 in
theorem c_L_read_no {d : Nat} {M : xMm} {n sl : Nat} {ct : Nat → Nat} {tg : Nat → Option Nat} {Bn : xMm} {cn rq ln : Nat} {rt : Nat → Nat → Option Nat} {tx : Nat → List Int32} {iv : Nat → Int32} {av : Nat → Nat → Int32} (K : CR M n ct tg Bn cn rq ln rt tx iv av) (h : ¬ iv 3 < 8) : xCl (d + 497) k_L_read [.ref (ct 0)] (M, n, sl) (.inr "java/lang/IllegalStateException", (M, n + 1, sl + 6)) := by
  show xEv _ k_L_read 0 [some (.ref (ct 0)), none, none] [] _ _
  refine ev_aload_n d_L_read_0 rfl ?_
  refine ev_get d_L_read_1 f_0_43 (K.lt) rfl ?_
  refine ev_bipush (v := 8) d_L_read_4 rfl ?_
  refine ev_icmp_lt (t := 19) d_L_read_6 (by decide) (fun c_6 => absurd c_6 h) (fun _ => ?_)
  exact ev_throw d_L_read_9 rfl (Nat.le_of_ble_eq_true rfl)
set_option maxRecDepth 20000 in
theorem c_L_read_bad {d : Nat} {M : xMm} {n sl : Nat} {ct : Nat → Nat} {tg : Nat → Option Nat} {Bn : xMm} {cn rq ln : Nat} {rt : Nat → Nat → Option Nat} {tx : Nat → List Int32} {iv : Nat → Int32} {av : Nat → Nat → Int32} (K : CR M n ct tg Bn cn rq ln rt tx iv av) (pn : Nat) (hpn : pn ≤ 80) (hp : iv 1 = nI pn) (hcn : cn < 8) (hbad : (pC (av 2) pn 6 0).2 = none) : ∃ (M1 : xMm) (n1 sl1 : Nat), xCl (d + 497) k_L_read [.ref (ct 0)] (M, n, sl) (.inl (some (.int (-1 - nI (pC (av 2) pn 6 0).1))), (M1, n1, sl1)) ∧ CR M1 n1 ct tg Bn cn rq ln rt tx (upd (upd iv 0 0) 1 0) av ∧ (∀ x, x < n → tg x = none → M1 x = M x) ∧ n ≤ n1 ∧ n1 ≤ n + 5 + (pC (av 2) pn 6 0).1 ∧ sl1 ≤ sl + 253 + 5 * (n1 - n) := by
  have hcnt := K.cnt
  have h8 : iv 3 < 8 := by rw [hcnt.2.2.2.1]; exact nI_lt hcn (by decide)
  have hne : ∀ t, lvt cn rq ln t → ct t ≠ n := fun t ht => Nat.ne_of_lt (K.tag t ht).2
  have hR : RS (xset M n (.inr (5, [.ref (ct 1), .int 0]))) (n + 1) n (ct 1) (ct 2) (av 2) pn := ⟨(xset_ne _ _ (hne 1 (by unfold lvt; omega))).trans (K.pad.trans (by rw [hp])), (xset_ne _ _ (hne 2 (by unfold lvt; omega))).trans K.padA, hne 1 (by unfold lvt; omega), hne 2 (by unfold lvt; omega), K.ne (by unfold lvt; omega) (by unfold lvt; omega) (by omega), Nat.lt_succ_of_lt (K.tag 1 (by unfold lvt; omega)).2, Nat.lt_succ_of_lt (K.tag 2 (by unfold lvt; omega)).2, by omega, hpn⟩
  obtain ⟨N1, n1, sl1, v, hcl, hk0, hn, hb, hs, hr⟩ := c_R_readContract (e := d) (sl := sl + 2) hR
  rw [show rdM (xset M n (.inr (5, [.ref (ct 1), .int 0]))) n (ct 1) 0 = rdM M n (ct 1) 0 from xset_xset _ _ _ _] at hcl
  have hk : ∀ x, x < n + 1 → x ≠ n → N1 x = M x := fun x hx hx2 => (hk0 x hx hx2).trans (xset_ne _ _ hx2)
  rw [hbad] at hr
  rcases hr with ⟨-, rfl⟩ | ⟨Ds, rf1, g1, -⟩
  · generalize hqq : (pC (av 2) pn 6 0).1 = q at *
    have hk1 : ∀ x, x < n → rdM N1 n (ct 1) q x = M x := fun x hx => (xset_ne _ _ (by omega)).trans (hk x (by omega) (by omega))
    refine ⟨xset (rdM N1 n (ct 1) q) (ct 1) (.inr (6, [.ref (ct 2), .int 0])), n1, sl1, ?_, CR_clear (CR_ext K (by omega) hk1), fun x hx ht => (xset_ne _ _ (fun e_ => by rw [e_, (K.tag 1 (by unfold lvt; omega)).1] at ht; cases ht)).trans (hk1 x hx), by omega, by omega, by omega⟩
    show xEv _ k_L_read 0 [some (.ref (ct 0)), none, none] [] _ _
    refine ev_aload_n d_L_read_0 rfl ?_
    refine ev_get d_L_read_1 f_0_43 (K.lt) rfl ?_
    refine ev_bipush (v := 8) d_L_read_4 rfl ?_
    refine ev_icmp_lt (t := 19) d_L_read_6 (by decide) (fun _ => ?_) (fun c_6 => absurd h8 c_6)
    refine ev_new (S1 := ((xset M (n) (.inr (5, [.null, .int 0]))), n + 1, sl + 2)) d_L_read_19 rfl n_0_75 rfl ?_
    dsimp only
    refine ev_dup d_L_read_22 rfl ?_
    refine ev_aload_n d_L_read_23 rfl ?_
    refine ev_get d_L_read_24 f_0_10 ((xset_ne _ _ (hne 0 (by unfold lvt; omega))).trans (K.lt)) rfl ?_
    refine ev_i1 d_L_read_27 ⟨_, q_0_77, by decide, by decide⟩ rfl ⟨rfl, Nat.le_of_ble_eq_true rfl, Nat.le_of_ble_eq_true rfl⟩ (c_R_init _ (xset_self _ _ _)) ?_
    rw [xset_xset]
    rw [show xset M n (.inr (5, [.ref (ct 1), .int 0])) = rdM M n (ct 1) 0 from rfl]
    refine ev_astore_n (lo1 := [some (.ref (ct 0)), some (.ref (n)), none]) d_L_read_30 (Nat.le_of_ble_eq_true rfl) rfl ?_
    refine ev_aload_n d_L_read_31 rfl ?_
    refine ev_v0r d_L_read_32 q_0_80 rfl (xset_self _ _ _) ⟨rfl, Nat.le_of_ble_eq_true rfl, Nat.le_of_ble_eq_true rfl⟩ hcl ?_
    refine ev_astore_nN (lo1 := [some (.ref (ct 0)), some (.ref (n)), some (.null)]) d_L_read_35 (Nat.le_of_ble_eq_true rfl) rfl ?_
    refine ev_aload_n d_L_read_36 rfl ?_
    refine ev_get d_L_read_37 f_0_10 (((xset_ne _ _ (hne 0 (by unfold lvt; omega))).trans ((hk _ (Nat.lt_succ_of_lt (K.tag 0 (by unfold lvt; omega)).2) (hne 0 (by unfold lvt; omega))).trans K.lt))) rfl ?_
    refine ev_v0o d_L_read_40 q_0_84 rfl ((xset_ne _ _ (hne 1 (by unfold lvt; omega))).trans ((hk _ (Nat.lt_succ_of_lt (K.tag 1 (by unfold lvt; omega)).2) (hne 1 (by unfold lvt; omega))).trans K.pad)) ⟨rfl, Nat.le_of_ble_eq_true rfl, Nat.le_of_ble_eq_true rfl⟩ (c_W_clear ((xset_ne _ _ (hne 1 (by unfold lvt; omega))).trans ((hk _ (Nat.lt_succ_of_lt (K.tag 1 (by unfold lvt; omega)).2) (hne 1 (by unfold lvt; omega))).trans K.pad))) ?_
    refine ev_aload_nN d_L_read_43 rfl ?_
    refine ev_ifnonnullN d_L_read_44 ?_
    refine ev_iconst (v := (-1)) d_L_read_47 rfl ?_
    refine ev_aload_n d_L_read_48 rfl ?_
    refine ev_get d_L_read_49 f_0_87 ((xset_ne _ _ (Ne.symm (hne 1 (by unfold lvt; omega)))).trans ((xset_self _ _ _))) rfl ?_
    refine ev_isub d_L_read_52 ?_
    exact ev_iret d_L_read_53 rfl
  · cases g1
set_option maxRecDepth 20000 in
theorem c_L_read_ok {d : Nat} {M : xMm} {n sl : Nat} {ct : Nat → Nat} {tg : Nat → Option Nat} {Bn : xMm} {cn rq ln : Nat} {rt : Nat → Nat → Option Nat} {tx : Nat → List Int32} {iv : Nat → Int32} {av : Nat → Nat → Int32} (K : CR M n ct tg Bn cn rq ln rt tx iv av) (pn : Nat) (hpn : pn ≤ 80) (hp : iv 1 = nI pn) (hcn : cn < 8) (Ds : List Den) (hgood : (pC (av 2) pn 6 0).2 = some Ds) (hlc : ∀ l, l < ln → (av 24 l).toNatClampNeg < cn) (av2 : Nat → Nat → Int32) (ha : ∀ k, (k < 4 ∨ 12 < k) → av2 k = av k) (ha4 : av2 4 cn = nI Ds.length) (ha4c : ∀ c, c ≠ cn → av2 4 c = av 4 c) : ∃ (M1 : xMm) (n1 sl1 : Nat) (tg2 : Nat → Option Nat) (Bn2 : xMm) (rf1 : Nat → Option Nat), xCl (d + 497) k_L_read [.ref (ct 0)] (M, n, sl) (.inl (some (.int (nI cn))), (M1, n1, sl1)) ∧ CR M1 n1 (va_up (va_up (va_up (va_up ct (200 + 4 * cn) (n + 1)) (201 + 4 * cn) (n + 2)) (202 + 4 * cn) (n + 3)) (203 + 4 * cn) (n + 4)) tg2 Bn2 (cn + 1) rq ln (fun c => if c = cn then rf1 else rt c) (fun c => if c = cn then txS Ds else tx c) (upd (upd (upd iv 0 0) 3 (nI (cn + 1))) 1 0) av2 ∧ (∀ x, x < n → tg x = none → M1 x = M x) ∧ (∀ x, x < n → tg2 x = tg x) ∧ (∀ x e, Bn x = some e → Bn2 x = some e) ∧ (∀ t, t < Ds.length → ∃ (a : Nat) (D : Den), rf1 t = some a ∧ Ds[t]? = some D ∧ cN Bn2 31 a D) ∧ n ≤ n1 ∧ n1 ≤ n + 5 + (pC (av 2) pn 6 0).1 ∧ sl1 ≤ sl + 253 + 5 * (n1 - n) := by
  have hcnt := K.cnt
  have h8 : iv 3 < 8 := by rw [hcnt.2.2.2.1]; exact nI_lt hcn (by decide)
  have hne : ∀ t, lvt cn rq ln t → ct t ≠ n := fun t ht => Nat.ne_of_lt (K.tag t ht).2
  have hR : RS (xset M n (.inr (5, [.ref (ct 1), .int 0]))) (n + 1) n (ct 1) (ct 2) (av 2) pn := ⟨(xset_ne _ _ (hne 1 (by unfold lvt; omega))).trans (K.pad.trans (by rw [hp])), (xset_ne _ _ (hne 2 (by unfold lvt; omega))).trans K.padA, hne 1 (by unfold lvt; omega), hne 2 (by unfold lvt; omega), K.ne (by unfold lvt; omega) (by unfold lvt; omega) (by omega), Nat.lt_succ_of_lt (K.tag 1 (by unfold lvt; omega)).2, Nat.lt_succ_of_lt (K.tag 2 (by unfold lvt; omega)).2, by omega, hpn⟩
  obtain ⟨N1, n1, sl1, v, hcl, hk0, hn, hb, hs, hr⟩ := c_R_readContract (e := d) (sl := sl + 2) hR
  rw [show rdM (xset M n (.inr (5, [.ref (ct 1), .int 0]))) n (ct 1) 0 = rdM M n (ct 1) 0 from xset_xset _ _ _ _] at hcl
  have hk : ∀ x, x < n + 1 → x ≠ n → N1 x = M x := fun x hx hx2 => (hk0 x hx hx2).trans (xset_ne _ _ hx2)
  rw [hgood] at hr
  rcases hr with ⟨g1, -⟩ | ⟨Ds2, rf1, g1, rfl, hT, hts⟩
  · cases g1
  · cases g1
    generalize hqq : (pC (av 2) pn 6 0).1 = q at *
    have hk1 : ∀ x, x < n → rdM N1 n (ct 1) q x = M x := fun x hx => (xset_ne _ _ (by omega)).trans (hk x (by omega) (by omega))
    have hT2 : CT (rdM N1 n (ct 1) q) (n + 1) Ds.length rf1 (txS Ds) := hT.keep (fun x h1 h2 => xset_ne _ _ (by omega))
    have KK := CR_read (CR_ext K (show n ≤ n1 by omega) hk1) n (by omega) (fun t ht => (K.tag t ht).2) (fun a ha => (K.tgn a ha).2) (fun a ha => K.tgo a ha) hcn Ds.length rf1 (txS Ds) hT2 hlc av2 ha ha4 ha4c
    refine ⟨_, n1, sl1, _, _, rf1, ?_, KK, fun x hx ht => ?_, fun x hx => ?_, fun x e hx => ?_, fun t ht => ?_, by omega, by omega, by omega⟩
    · show xEv _ k_L_read 0 [some (.ref (ct 0)), none, none] [] _ _
      refine ev_aload_n d_L_read_0 rfl ?_
      refine ev_get d_L_read_1 f_0_43 (K.lt) rfl ?_
      refine ev_bipush (v := 8) d_L_read_4 rfl ?_
      refine ev_icmp_lt (t := 19) d_L_read_6 (by decide) (fun _ => ?_) (fun c_6 => absurd h8 c_6)
      refine ev_new (S1 := ((xset M (n) (.inr (5, [.null, .int 0]))), n + 1, sl + 2)) d_L_read_19 rfl n_0_75 rfl ?_
      dsimp only
      refine ev_dup d_L_read_22 rfl ?_
      refine ev_aload_n d_L_read_23 rfl ?_
      refine ev_get d_L_read_24 f_0_10 ((xset_ne _ _ (hne 0 (by unfold lvt; omega))).trans (K.lt)) rfl ?_
      refine ev_i1 d_L_read_27 ⟨_, q_0_77, by decide, by decide⟩ rfl ⟨rfl, Nat.le_of_ble_eq_true rfl, Nat.le_of_ble_eq_true rfl⟩ (c_R_init _ (xset_self _ _ _)) ?_
      rw [xset_xset]
      rw [show xset M n (.inr (5, [.ref (ct 1), .int 0])) = rdM M n (ct 1) 0 from rfl]
      refine ev_astore_n (lo1 := [some (.ref (ct 0)), some (.ref (n)), none]) d_L_read_30 (Nat.le_of_ble_eq_true rfl) rfl ?_
      refine ev_aload_n d_L_read_31 rfl ?_
      refine ev_v0r d_L_read_32 q_0_80 rfl (xset_self _ _ _) ⟨rfl, Nat.le_of_ble_eq_true rfl, Nat.le_of_ble_eq_true rfl⟩ hcl ?_
      refine ev_astore_n (lo1 := [some (.ref (ct 0)), some (.ref (n)), some (.ref (n + 1))]) d_L_read_35 (Nat.le_of_ble_eq_true rfl) rfl ?_
      refine ev_aload_n d_L_read_36 rfl ?_
      refine ev_get d_L_read_37 f_0_10 (((xset_ne _ _ (hne 0 (by unfold lvt; omega))).trans ((hk _ (Nat.lt_succ_of_lt (K.tag 0 (by unfold lvt; omega)).2) (hne 0 (by unfold lvt; omega))).trans K.lt))) rfl ?_
      refine ev_v0o d_L_read_40 q_0_84 rfl ((xset_ne _ _ (hne 1 (by unfold lvt; omega))).trans ((hk _ (Nat.lt_succ_of_lt (K.tag 1 (by unfold lvt; omega)).2) (hne 1 (by unfold lvt; omega))).trans K.pad)) ⟨rfl, Nat.le_of_ble_eq_true rfl, Nat.le_of_ble_eq_true rfl⟩ (c_W_clear ((xset_ne _ _ (hne 1 (by unfold lvt; omega))).trans ((hk _ (Nat.lt_succ_of_lt (K.tag 1 (by unfold lvt; omega)).2) (hne 1 (by unfold lvt; omega))).trans K.pad))) ?_
      refine ev_aload_n d_L_read_43 rfl ?_
      refine ev_ifnonnull (t := 54) d_L_read_44 (by decide) ?_
      refine ev_aload_n d_L_read_54 rfl ?_
      refine ev_get d_L_read_55 f_0_21 ((xset_ne _ _ (K.ne (by unfold lvt; omega) (by unfold lvt; omega) (by omega))).trans (((xset_ne _ _ (hne 0 (by unfold lvt; omega))).trans ((hk _ (Nat.lt_succ_of_lt (K.tag 0 (by unfold lvt; omega)).2) (hne 0 (by unfold lvt; omega))).trans K.lt)))) rfl ?_
      refine ev_aload_n d_L_read_58 rfl ?_
      refine ev_get d_L_read_59 f_0_43 ((xset_ne _ _ (K.ne (by unfold lvt; omega) (by unfold lvt; omega) (by omega))).trans (((xset_ne _ _ (hne 0 (by unfold lvt; omega))).trans ((hk _ (Nat.lt_succ_of_lt (K.tag 0 (by unfold lvt; omega)).2) (hne 0 (by unfold lvt; omega))).trans K.lt)))) rfl ?_
      refine ev_aload_n d_L_read_62 rfl ?_
      refine ev_aast (M1 := (xset (xset (rdM N1 n (ct 1) q) (ct 1) (.inr (6, [.ref (ct 2), .int 0]))) (ct 5) (.inl (2, 8, .inr (.inr (.inr (.inr (va_up (fun c => if c < cn then some (ct (200 + 4 * c)) else none) ((iv 3)).toNatClampNeg (some (n + 1)))))))))) d_L_read_63 ((xset_ne _ _ (K.ne (by unfold lvt; omega) (by unfold lvt; omega) (by omega))).trans (((xset_ne _ _ (hne 5 (by unfold lvt; omega))).trans ((hk _ (Nat.lt_succ_of_lt (K.tag 5 (by unfold lvt; omega)).2) (hne 5 (by unfold lvt; omega))).trans K.cons)))) rfl ((xset_ne _ _ (fun e_ => absurd (K.tag 1 (by unfold lvt; omega)).2 (by omega))).trans (((xset_ne _ _ (by omega)).trans hT.1))) (by rw [hcnt.2.2.2.1]; exact vp_in_nI (N := 8) hcn (by decide)) rfl ?_
      refine ev_aload_n d_L_read_64 rfl ?_
      refine ev_dup d_L_read_65 rfl ?_
      refine ev_get d_L_read_66 f_0_43 ((xset_ne _ _ (K.ne (by unfold lvt; omega) (by unfold lvt; omega) (by omega))).trans ((xset_ne _ _ (K.ne (by unfold lvt; omega) (by unfold lvt; omega) (by omega))).trans (((xset_ne _ _ (hne 0 (by unfold lvt; omega))).trans ((hk _ (Nat.lt_succ_of_lt (K.tag 0 (by unfold lvt; omega)).2) (hne 0 (by unfold lvt; omega))).trans K.lt))))) rfl ?_
      refine ev_iconst (v := 1) d_L_read_69 rfl ?_
      refine ev_iadd d_L_read_70 ?_
      refine ev_put (M1 := (xset (xset (xset (rdM N1 n (ct 1) q) (ct 1) (.inr (6, [.ref (ct 2), .int 0]))) (ct 5) (.inl (2, 8, .inr (.inr (.inr (.inr (va_up (fun c => if c < cn then some (ct (200 + 4 * c)) else none) ((iv 3)).toNatClampNeg (some (n + 1))))))))) (ct 0) (.inr (0, [.ref (ct 1), .ref (ct 3), .ref (ct 5), .ref (ct 6), .ref (ct 7), .ref (ct 8), .int ((iv 3) + 1), .int (iv 23), .int (iv 33)])))) d_L_read_71 f_0_43 ((xset_ne _ _ (K.ne (by unfold lvt; omega) (by unfold lvt; omega) (by omega))).trans ((xset_ne _ _ (K.ne (by unfold lvt; omega) (by unfold lvt; omega) (by omega))).trans (((xset_ne _ _ (hne 0 (by unfold lvt; omega))).trans ((hk _ (Nat.lt_succ_of_lt (K.tag 0 (by unfold lvt; omega)).2) (hne 0 (by unfold lvt; omega))).trans K.lt))))) ⟨Nat.le_of_ble_eq_true rfl, (xfit_i rfl), Or.inl rfl⟩ rfl ?_
      refine ev_aload_n d_L_read_74 rfl ?_
      refine ev_get d_L_read_75 f_0_43 (xset_self _ _ _) rfl ?_
      refine ev_iconst (v := 1) d_L_read_78 rfl ?_
      refine ev_isub d_L_read_79 ?_
      exact xEv.to (ev_iret d_L_read_80 rfl) (by rw [hcnt.2.2.2.1, nI_clamp (show cn < 2 ^ 31 by omega), ← nI_succ, nI_pred])
    · exact (xset_ne _ _ (fun e_ => by rw [e_, (K.tag 0 (by unfold lvt; omega)).1] at ht; cases ht)).trans ((xset_ne _ _ (fun e_ => by rw [e_, (K.tag 5 (by unfold lvt; omega)).1] at ht; cases ht)).trans ((xset_ne _ _ (fun e_ => by rw [e_, (K.tag 1 (by unfold lvt; omega)).1] at ht; cases ht)).trans (hk1 x hx)))
    · show (if x = n + 1 then some (200 + 4 * cn) else if x = n + 2 then some (201 + 4 * cn) else if x = n + 3 then some (202 + 4 * cn) else if x = n + 4 then some (203 + 4 * cn) else if n + 5 ≤ x ∧ x < n1 then some 999 else tg x) = tg x
      rw [if_neg (by omega), if_neg (by omega), if_neg (by omega), if_neg (by omega), if_neg (by omega)]
    · have h1 := (K.tgn x (by rw [hx]; simp)).2
      show (if n + 5 ≤ x ∧ x < n1 then rdM N1 n (ct 1) q x else Bn x) = some e
      rw [if_neg (by omega)]
      exact hx
    · obtain ⟨a, D, h1, h2, h3, h4, h5⟩ := hts t ht
      refine ⟨a, D, h1, h4, rN_c _ a D (rN_keep _ a D h5 (fun x e g1 g2 g3 => ?_) (fun kd nm nu i x g => ⟨x, ?_⟩))⟩
      · show (if n + 5 ≤ x ∧ x < n1 then rdM N1 n (ct 1) q x else Bn x) = some e
        rw [if_pos (by omega)]
        exact (xset_ne _ _ (by omega)).trans g3
      · show (if n + 5 ≤ a ∧ a < n1 then rdM N1 n (ct 1) q a else Bn a) = _
        rw [if_pos (by omega)]
        exact (xset_ne _ _ (by omega)).trans g
