/-! the reference: ask, and open -/
set_option maxRecDepth 20000 in
theorem c_M_ask_no {d : Nat} {B : xMm} {ad : Nat → Nat} {ix : Nat → Option Nat} {iv : Nat → Int32} {av : Nat → Nat → Int32} {ns : Nat × Nat} (ok : mOk ad ix) (l h : Int32) (hg : mgo (xbi (0 ≤ l ∧ l < iv 23)) (xbi (0 ≤ h ∧ h ≤ 2400000)) 1 ≠ 0) : xCl (d + 4) k_M_ask [.ref (ad 0), .int l, .int h] (mM B ad ix iv av, ns) (.inl (some (.int 0)), (mM B ad ix (upd iv 0 (mgo (xbi (0 ≤ l ∧ l < iv 23)) (xbi (0 ≤ h ∧ h ≤ 2400000)) 1)) (av), ns)) := by
  show xEv _ k_M_ask 0 [some (.ref (ad 0)), some (.int l), some (.int h), none, none, none, none] [] _ _
  refine ev_aload_n d_M_ask_0 rfl ?_
  refine ev_aload_n d_M_ask_1 rfl ?_
  refine ev_iload_n d_M_ask_2 rfl ?_
  refine ev_v1r d_M_ask_3 q_8_184 rfl (mM_obj ok) ⟨rfl, Nat.le_of_ble_eq_true rfl, Nat.le_of_ble_eq_true rfl⟩ (c_M_isLoan ok _) ?_
  refine ev_iload_n d_M_ask_6 rfl ?_
  refine ev_iconst (v := 0) d_M_ask_7 rfl ?_
  refine ev_ldc d_M_ask_8 l_8_171 ?_
  refine ev_s3r d_M_ask_10 q_8_112 rfl ⟨rfl, Nat.le_of_ble_eq_true rfl, Nat.le_of_ble_eq_true rfl⟩ (c_M_within _ _ _) ?_
  refine ev_iconst (v := 1) d_M_ask_13 rfl ?_
  refine ev_v3r d_M_ask_14 q_8_116 rfl (mM_obj ok) ⟨rfl, Nat.le_of_ble_eq_true rfl, Nat.le_of_ble_eq_true rfl⟩ (c_M_goes ok _ _ _) ?_
  refine ev_if_ne (t := 22) d_M_ask_17 (by decide) (fun c_17 => absurd (xbi_f hg) c_17) (fun _ => ?_)
  refine ev_iconst (v := 0) d_M_ask_20 rfl ?_
  exact xEv.to (ev_iret d_M_ask_21 rfl) (by grind [upd, va_up, xbi])
set_option maxRecDepth 20000 in
theorem c_M_ask_out {d : Nat} {B : xMm} {ad : Nat → Nat} {ix : Nat → Option Nat} {iv : Nat → Int32} {av : Nat → Nat → Int32} {ns : Nat × Nat} (ok : mOk ad ix) (h : Int32) (l : Nat) (hl : l < 20) (hg : mgo (xbi (0 ≤ nI l ∧ nI l < iv 23)) (xbi (0 ≤ h ∧ h ≤ 2400000)) 1 = 0) (ho : ¬ (av 26 l ≤ h / 24 ∧ h / 24 ≤ av 27 l)) : xCl (d + 4) k_M_ask [.ref (ad 0), .int (nI l), .int h] (mM B ad ix iv av, ns) (.inl (some (.int (-1))), (mM B ad ix (upd iv 0 0) (av), ns)) := by
  have el : (nI l).toNatClampNeg = l := nI_clamp (by omega)
  show xEv _ k_M_ask 0 [some (.ref (ad 0)), some (.int (nI l)), some (.int h), none, none, none, none] [] _ _
  refine ev_aload_n d_M_ask_0 rfl ?_
  refine ev_aload_n d_M_ask_1 rfl ?_
  refine ev_iload_n d_M_ask_2 rfl ?_
  refine ev_v1r d_M_ask_3 q_8_184 rfl (mM_obj ok) ⟨rfl, Nat.le_of_ble_eq_true rfl, Nat.le_of_ble_eq_true rfl⟩ (c_M_isLoan ok _) ?_
  refine ev_iload_n d_M_ask_6 rfl ?_
  refine ev_iconst (v := 0) d_M_ask_7 rfl ?_
  refine ev_ldc d_M_ask_8 l_8_171 ?_
  refine ev_s3r d_M_ask_10 q_8_112 rfl ⟨rfl, Nat.le_of_ble_eq_true rfl, Nat.le_of_ble_eq_true rfl⟩ (c_M_within _ _ _) ?_
  refine ev_iconst (v := 1) d_M_ask_13 rfl ?_
  refine ev_v3r d_M_ask_14 q_8_116 rfl (mM_obj ok) ⟨rfl, Nat.le_of_ble_eq_true rfl, Nat.le_of_ble_eq_true rfl⟩ (c_M_goes ok _ _ _) ?_
  refine ev_if_ne (t := 22) d_M_ask_17 (by decide) (fun _ => ?_) (fun c_17 => absurd c_17 (by rw [hg]; decide))
  refine ev_iload_n d_M_ask_22 rfl ?_
  refine ev_bipush (v := 24) d_M_ask_23 rfl ?_
  refine ev_idiv d_M_ask_25 (by decide) ?_
  refine ev_aload_n d_M_ask_26 rfl ?_
  refine ev_get d_M_ask_27 f_8_70 (mM_obj ok) rfl ?_
  refine ev_iload_n d_M_ask_30 rfl ?_
  refine ev_iald d_M_ask_31 (mM_arr ok 26 rfl) ⟨rfl, vp_in_nI (N := 20) (by omega) (by decide)⟩ rfl ?_
  rw [el]
  refine ev_aload_n d_M_ask_32 rfl ?_
  refine ev_get d_M_ask_33 f_8_73 (mM_obj ok) rfl ?_
  refine ev_iload_n d_M_ask_36 rfl ?_
  refine ev_iald d_M_ask_37 (mM_arr ok 27 rfl) ⟨rfl, vp_in_nI (N := 20) (by omega) (by decide)⟩ rfl ?_
  rw [el]
  refine ev_s3r d_M_ask_38 q_8_112 rfl ⟨rfl, Nat.le_of_ble_eq_true rfl, Nat.le_of_ble_eq_true rfl⟩ (c_M_within _ _ _) ?_
  refine ev_if_ne (t := 46) d_M_ask_41 (by decide) (fun c_41 => absurd (xbi_f ho) c_41) (fun _ => ?_)
  refine ev_iconst (v := (-1)) d_M_ask_44 rfl ?_
  exact xEv.to (ev_iret d_M_ask_45 rfl) (by grind [upd, va_up, xbi])
set_option maxRecDepth 20000 in
theorem c_M_ask_ok {d : Nat} {B : xMm} {ad : Nat → Nat} {ix : Nat → Option Nat} {iv : Nat → Int32} {av : Nat → Nat → Int32} {ns : Nat × Nat} (ok : mOk ad ix) (l c N : Nat) (h : Int32) (hl : l < 20) (hc : c < 8) (hN : N ≤ 160) (h24 : av 24 l = nI c) (h6 : av 6 c = nI N) (hrows : ∀ q, q < 8 → ∃ rn, rn ≤ 60 ∧ av 18 q = nI rn) (hnm : ∀ k, k < N → av 7 (160 * c + k) = 0 → mNm (av 10 (160 * c + k))) (mn : Nat) (S : Nat → Int32) (hmn : mn ≤ 6) (h4 : av 4 c = nI mn) (hro : ∀ t, t < mn → ∃ r, r < N ∧ av 5 (6 * c + t) = nI r ∧ (tF av c N (mE av l h) N (av 13)) r = S t) (h30 : ∃ n, n ≤ 100 ∧ av 30 l = nI n) (hg : mgo (xbi (0 ≤ nI l ∧ nI l < iv 23)) (xbi (0 ≤ h ∧ h ≤ 2400000)) 1 = 0) (ho : av 26 l ≤ h / 24 ∧ h / 24 ≤ av 27 l) : xCl (d + 4) k_M_ask [.ref (ad 0), .int (nI l), .int h] (mM B ad ix iv av, ns) (.inl (some (.int (askL l h S mn 0 0 (va_up av 13 (tF av c N (mE av l h) N (av 13)))).1)), (mM B ad ix (upd iv 0 0) (askL l h S mn 0 0 (va_up av 13 (tF av c N (mE av l h) N (av 13)))).2, ns)) := by
  have el : (nI l).toNatClampNeg = l := nI_clamp (by omega)
  show xEv _ k_M_ask 0 [some (.ref (ad 0)), some (.int (nI l)), some (.int h), none, none, none, none] [] _ _
  refine ev_aload_n d_M_ask_0 rfl ?_
  refine ev_aload_n d_M_ask_1 rfl ?_
  refine ev_iload_n d_M_ask_2 rfl ?_
  refine ev_v1r d_M_ask_3 q_8_184 rfl (mM_obj ok) ⟨rfl, Nat.le_of_ble_eq_true rfl, Nat.le_of_ble_eq_true rfl⟩ (c_M_isLoan ok _) ?_
  refine ev_iload_n d_M_ask_6 rfl ?_
  refine ev_iconst (v := 0) d_M_ask_7 rfl ?_
  refine ev_ldc d_M_ask_8 l_8_171 ?_
  refine ev_s3r d_M_ask_10 q_8_112 rfl ⟨rfl, Nat.le_of_ble_eq_true rfl, Nat.le_of_ble_eq_true rfl⟩ (c_M_within _ _ _) ?_
  refine ev_iconst (v := 1) d_M_ask_13 rfl ?_
  refine ev_v3r d_M_ask_14 q_8_116 rfl (mM_obj ok) ⟨rfl, Nat.le_of_ble_eq_true rfl, Nat.le_of_ble_eq_true rfl⟩ (c_M_goes ok _ _ _) ?_
  refine ev_if_ne (t := 22) d_M_ask_17 (by decide) (fun _ => ?_) (fun c_17 => absurd c_17 (by rw [hg]; decide))
  refine ev_iload_n d_M_ask_22 rfl ?_
  refine ev_bipush (v := 24) d_M_ask_23 rfl ?_
  refine ev_idiv d_M_ask_25 (by decide) ?_
  refine ev_aload_n d_M_ask_26 rfl ?_
  refine ev_get d_M_ask_27 f_8_70 (mM_obj ok) rfl ?_
  refine ev_iload_n d_M_ask_30 rfl ?_
  refine ev_iald d_M_ask_31 (mM_arr ok 26 rfl) ⟨rfl, vp_in_nI (N := 20) (by omega) (by decide)⟩ rfl ?_
  rw [el]
  refine ev_aload_n d_M_ask_32 rfl ?_
  refine ev_get d_M_ask_33 f_8_73 (mM_obj ok) rfl ?_
  refine ev_iload_n d_M_ask_36 rfl ?_
  refine ev_iald d_M_ask_37 (mM_arr ok 27 rfl) ⟨rfl, vp_in_nI (N := 20) (by omega) (by decide)⟩ rfl ?_
  rw [el]
  refine ev_s3r d_M_ask_38 q_8_112 rfl ⟨rfl, Nat.le_of_ble_eq_true rfl, Nat.le_of_ble_eq_true rfl⟩ (c_M_within _ _ _) ?_
  refine ev_if_ne (t := 46) d_M_ask_41 (by decide) (fun _ => ?_) (fun c_41 => absurd c_41 (by rw [xbi_t ho]; decide))
  refine ev_aload_n d_M_ask_46 rfl ?_
  refine ev_iload_n d_M_ask_47 rfl ?_
  refine ev_iload_n d_M_ask_48 rfl ?_
  refine ev_v2o d_M_ask_49 q_8_193 rfl (mM_obj ok) ⟨rfl, Nat.le_of_ble_eq_true rfl, Nat.le_of_ble_eq_true rfl⟩ (c_M_work ok l c N h hl hc hN h24 h6 hrows hnm) ?_
  refine ev_aload_n d_M_ask_52 rfl ?_
  refine ev_get d_M_ask_53 f_8_64 (mM_obj ok) rfl ?_
  refine ev_iload_n d_M_ask_56 rfl ?_
  refine ev_iald d_M_ask_57 (mM_arr ok 24 rfl) ⟨rfl, vp_in_nI (N := 20) (by omega) (by decide)⟩ rfl ?_
  rw [va_up_ne (k := 13) (j := 24) _ _ (by decide), el, h24]
  refine ev_istore_n (lo1 := [some (.ref (ad 0)), some (.int (nI l)), some (.int h), some (.int (nI c)), none, none, none]) d_M_ask_58 (Nat.le_of_ble_eq_true rfl) rfl ?_
  refine ev_iconst (v := 0) d_M_ask_59 rfl ?_
  refine ev_istore (lo1 := [some (.ref (ad 0)), some (.int (nI l)), some (.int h), some (.int (nI c)), some (.int 0), none, none]) d_M_ask_60 (Nat.le_of_ble_eq_true rfl) rfl ?_
  refine ev_iconst (v := 0) d_M_ask_62 rfl ?_
  refine ev_istore (lo1 := [some (.ref (ad 0)), some (.int (nI l)), some (.int h), some (.int (nI c)), some (.int 0), some (.int 0), none]) d_M_ask_63 (Nat.le_of_ble_eq_true rfl) rfl ?_
  refine xEv.to (l_M_ask ok l c mn h S hl hc hmn mn 0 0 (va_up av 13 (tF av c N (mE av l h) N (av 13))) none (by omega) ?_ ?_ ?_) ?_
  · rw [va_up_ne (k := 13) (j := 4) _ _ (by decide)]; exact h4
  · intro t ht
    obtain ⟨r, h1, h2, h3⟩ := hro t ht
    exact ⟨r, by omega, by rw [va_up_ne (k := 13) (j := 5) _ _ (by decide)]; exact h2, by rw [va_up_self]; exact h3⟩
  · rw [va_up_ne (k := 13) (j := 30) _ _ (by decide)]; exact h30
  · rw [hg]
def opR (q : Option Nat) : Int32 := match q with | some t => nI t | none => -1
set_option maxRecDepth 20000 in
theorem l_M_open {d : Nat} {B : xMm} {ad : Nat → Nat} {ix : Nat → Option Nat} {iv : Nat → Int32} {av : Nat → Nat → Int32} {ns : Nat × Nat} (ok : mOk ad ix) (l c mn : Nat) (h k : Int32) (S : Nat → Int32) (hl : l < 20) (hc : c < 8) (hmn : mn ≤ 6) (h4 : av 4 c = nI mn) (hro : ∀ t, t < mn → ∃ r, r < 160 ∧ av 5 (6 * c + t) = nI r ∧ av 13 r = S t) : ∀ (m t : Nat) (n : Int32), t + m = mn → xEv (d + 4) k_M_open 54 [some (.ref (ad 0)), some (.int (nI l)), some (.int h), some (.int k), some (.int (nI c)), some (.int n), some (.int (nI t))] [] (mM B ad ix iv av, ns) (.inl (some (.int (opR (fk (fun t => decide (S t = 2)) k m t n).1))), (mM B ad ix iv av, ns)) := by
  have ec : (nI c).toNatClampNeg = c := nI_clamp (by omega)
  intro m
  induction m with
  | zero =>
    intro t n ht
    refine ev_iload d_M_open_54 rfl ?_
    refine ev_aload_n d_M_open_56 rfl ?_
    refine ev_get d_M_open_57 f_8_13 (mM_obj ok) rfl ?_
    refine ev_iload d_M_open_60 rfl ?_
    refine ev_iald d_M_open_62 (mM_arr ok 4 rfl) ⟨rfl, vp_in_nI (N := 8) hc (by decide)⟩ rfl ?_
    rw [ec, h4]
    refine ev_icmp_ge (t := 106) d_M_open_63 (by decide) (fun _ => ?_) (fun c_63 => absurd (nI_le (by omega) (by omega)) c_63)
    refine ev_iconst (v := (-1)) d_M_open_106 rfl ?_
    exact xEv.to (ev_iret d_M_open_107 rfl) rfl
  | succ m ih =>
    intro t n ht
    obtain ⟨r, hr160, hr, hs⟩ := hro t (by omega)
    refine ev_iload d_M_open_54 rfl ?_
    refine ev_aload_n d_M_open_56 rfl ?_
    refine ev_get d_M_open_57 f_8_13 (mM_obj ok) rfl ?_
    refine ev_iload d_M_open_60 rfl ?_
    refine ev_iald d_M_open_62 (mM_arr ok 4 rfl) ⟨rfl, vp_in_nI (N := 8) hc (by decide)⟩ rfl ?_
    rw [ec, h4]
    refine ev_icmp_ge (t := 106) d_M_open_63 (by decide) (fun c_63 => absurd c_63 (nI_ge (by omega) (by omega))) (fun _ => ?_)
    refine ev_aload_n d_M_open_66 rfl ?_
    refine ev_get d_M_open_67 f_8_40 (mM_obj ok) rfl ?_
    refine ev_aload_n d_M_open_70 rfl ?_
    refine ev_get d_M_open_71 f_8_16 (mM_obj ok) rfl ?_
    refine ev_bipush (v := 6) d_M_open_74 rfl ?_
    refine ev_iload d_M_open_76 rfl ?_
    refine ev_imul d_M_open_78 ?_
    refine ev_iload d_M_open_79 rfl ?_
    refine ev_iadd d_M_open_81 ?_
    rw [nI6]
    refine ev_iald d_M_open_82 (mM_arr ok 5 rfl) ⟨rfl, vp_in_nI (N := 48) (by omega) (by decide)⟩ rfl ?_
    rw [nI_clamp (show 6 * c + t < 2 ^ 31 by omega), hr]
    refine ev_iald d_M_open_83 (mM_arr ok 13 rfl) ⟨rfl, vp_in_nI (N := 160) (by omega) (by decide)⟩ rfl ?_
    rw [nI_clamp (show r < 2 ^ 31 by omega), hs]
    refine ev_iconst (v := 2) d_M_open_84 rfl ?_
    refine ev_icmp_ne (t := 100) d_M_open_85 (by decide) (fun c_85_1 => ?_) (fun c_85_1 => ?_)
    · obtain ⟨x_2, ex_2⟩ : ∃ z : Int32, z = (nI t) + 1 := ⟨_, rfl⟩
      refine ev_iinc (v := x_2) (lo1 := [some (.ref (ad 0)), some (.int (nI l)), some (.int h), some (.int k), some (.int (nI c)), some (.int n), some (.int x_2)]) d_M_open_100 rfl (by rw [ex_2]; rfl) rfl ?_
      refine ev_goto (t := 54) d_M_open_103 (by decide) ?_
      rw [show x_2 = nI (t + 1) from by rw [ex_2, nI_succ]]
      exact xEv.to (ih (t + 1) _ (by omega)) (by rw [fk]; grind)
    · refine ev_iload d_M_open_88 rfl ?_
      refine ev_iload_n d_M_open_90 rfl ?_
      refine ev_icmp_ne (t := 97) d_M_open_91 (by decide) (fun c_91_3 => ?_) (fun c_91_3 => ?_)
      · obtain ⟨x_4, ex_4⟩ : ∃ z : Int32, z = n + 1 := ⟨_, rfl⟩
        refine ev_iinc (v := x_4) (lo1 := [some (.ref (ad 0)), some (.int (nI l)), some (.int h), some (.int k), some (.int (nI c)), some (.int x_4), some (.int (nI t))]) d_M_open_97 rfl (by rw [ex_4]; rfl) rfl ?_
        obtain ⟨x_5, ex_5⟩ : ∃ z : Int32, z = (nI t) + 1 := ⟨_, rfl⟩
        refine ev_iinc (v := x_5) (lo1 := [some (.ref (ad 0)), some (.int (nI l)), some (.int h), some (.int k), some (.int (nI c)), some (.int x_4), some (.int x_5)]) d_M_open_100 rfl (by rw [ex_5]; rfl) rfl ?_
        refine ev_goto (t := 54) d_M_open_103 (by decide) ?_
        rw [show x_5 = nI (t + 1) from by rw [ex_5, nI_succ]]
        exact xEv.to (ih (t + 1) _ (by omega)) (by rw [fk]; grind)
      · refine ev_iload d_M_open_94 rfl ?_
        exact xEv.to (ev_iret d_M_open_96 rfl) (by rw [fk]; grind [opR])
set_option maxRecDepth 20000 in
theorem c_M_open_no {d : Nat} {B : xMm} {ad : Nat → Nat} {ix : Nat → Option Nat} {iv : Nat → Int32} {av : Nat → Nat → Int32} {ns : Nat × Nat} (ok : mOk ad ix) (l h k : Int32) (hg : mgo (xbi ((0 ≤ l ∧ l < iv 23) ∧ 0 ≤ k)) (xbi (0 ≤ h ∧ h ≤ 2400000)) 1 ≠ 0) : xCl (d + 4) k_M_open [.ref (ad 0), .int l, .int h, .int k] (mM B ad ix iv av, ns) (.inl (some (.int 0)), (mM B ad ix (upd iv 0 (mgo (xbi ((0 ≤ l ∧ l < iv 23) ∧ 0 ≤ k)) (xbi (0 ≤ h ∧ h ≤ 2400000)) 1)) (av), ns)) := by
  show xEv _ k_M_open 0 [some (.ref (ad 0)), some (.int l), some (.int h), some (.int k), none, none, none] [] _ _
  refine ev_aload_n d_M_open_0 rfl ?_
  refine ev_cutv (E := 18) (V := xbi ((0 ≤ l ∧ l < iv 23) ∧ 0 ≤ k)) ?_ (fun hk_1 => ?_)
  · refine ev_iload_n d_M_open_18 rfl ?_
    refine ev_iconst (v := 0) d_M_open_19 rfl ?_
    refine ev_ldc d_M_open_20 l_8_171 ?_
    refine ev_s3r d_M_open_22 q_8_112 rfl ⟨rfl, Nat.le_of_ble_eq_true rfl, Nat.le_of_ble_eq_true rfl⟩ (c_M_within _ _ _) ?_
    refine ev_iconst (v := 1) d_M_open_25 rfl ?_
    refine ev_v3r d_M_open_26 q_8_116 rfl (mM_obj ok) ⟨rfl, Nat.le_of_ble_eq_true rfl, Nat.le_of_ble_eq_true rfl⟩ (c_M_goes ok _ _ _) ?_
    refine ev_if_ne (t := 34) d_M_open_29 (by decide) (fun c_29 => absurd (xbi_f hg) c_29) (fun _ => ?_)
    refine ev_iconst (v := 0) d_M_open_32 rfl ?_
    exact xEv.to (ev_iret d_M_open_33 rfl) (by grind [upd, va_up, xbi])
  · refine ev_aload_n d_M_open_1 rfl ?_
    refine ev_iload_n d_M_open_2 rfl ?_
    refine ev_v1r d_M_open_3 q_8_184 rfl (mM_obj ok) ⟨rfl, Nat.le_of_ble_eq_true rfl, Nat.le_of_ble_eq_true rfl⟩ (c_M_isLoan ok _) ?_
    refine ev_if_eq (t := 17) d_M_open_6 (by decide) (fun c_6_2 => ?_) (fun c_6_2 => ?_)
    · refine ev_iconst (v := 0) d_M_open_17 rfl ?_
      exact hk_1 _ (by grind [xbi])
    · refine ev_iload_n d_M_open_9 rfl ?_
      refine ev_if_lt (t := 17) d_M_open_10 (by decide) (fun c_10_3 => ?_) (fun c_10_3 => ?_)
      · refine ev_iconst (v := 0) d_M_open_17 rfl ?_
        exact hk_1 _ (by grind [xbi])
      · refine ev_iconst (v := 1) d_M_open_13 rfl ?_
        refine ev_goto (t := 18) d_M_open_14 (by decide) ?_
        exact hk_1 _ (by grind [xbi])
set_option maxRecDepth 20000 in
theorem c_M_open_ok {d : Nat} {B : xMm} {ad : Nat → Nat} {ix : Nat → Option Nat} {iv : Nat → Int32} {av : Nat → Nat → Int32} {ns : Nat × Nat} (ok : mOk ad ix) (l c N : Nat) (h : Int32) (hl : l < 20) (hc : c < 8) (hN : N ≤ 160) (h24 : av 24 l = nI c) (h6 : av 6 c = nI N) (hrows : ∀ q, q < 8 → ∃ rn, rn ≤ 60 ∧ av 18 q = nI rn) (hnm : ∀ k, k < N → av 7 (160 * c + k) = 0 → mNm (av 10 (160 * c + k))) (mn : Nat) (S : Nat → Int32) (hmn : mn ≤ 6) (h4 : av 4 c = nI mn) (hro : ∀ t, t < mn → ∃ r, r < N ∧ av 5 (6 * c + t) = nI r ∧ (tF av c N (mE av l h) N (av 13)) r = S t) (k : Int32) (hg : mgo (xbi ((0 ≤ nI l ∧ nI l < iv 23) ∧ 0 ≤ k)) (xbi (0 ≤ h ∧ h ≤ 2400000)) 1 = 0) : xCl (d + 4) k_M_open [.ref (ad 0), .int (nI l), .int h, .int k] (mM B ad ix iv av, ns) (.inl (some (.int (opR (fk (fun t => decide (S t = 2)) k mn 0 0).1))), (mM B ad ix (upd iv 0 0) (va_up av 13 (tF av c N (mE av l h) N (av 13))), ns)) := by
  have el : (nI l).toNatClampNeg = l := nI_clamp (by omega)
  show xEv _ k_M_open 0 [some (.ref (ad 0)), some (.int (nI l)), some (.int h), some (.int k), none, none, none] [] _ _
  refine ev_aload_n d_M_open_0 rfl ?_
  refine ev_cutv (E := 18) (V := xbi ((0 ≤ nI l ∧ nI l < iv 23) ∧ 0 ≤ k)) ?_ (fun hk_1 => ?_)
  · refine ev_iload_n d_M_open_18 rfl ?_
    refine ev_iconst (v := 0) d_M_open_19 rfl ?_
    refine ev_ldc d_M_open_20 l_8_171 ?_
    refine ev_s3r d_M_open_22 q_8_112 rfl ⟨rfl, Nat.le_of_ble_eq_true rfl, Nat.le_of_ble_eq_true rfl⟩ (c_M_within _ _ _) ?_
    refine ev_iconst (v := 1) d_M_open_25 rfl ?_
    refine ev_v3r d_M_open_26 q_8_116 rfl (mM_obj ok) ⟨rfl, Nat.le_of_ble_eq_true rfl, Nat.le_of_ble_eq_true rfl⟩ (c_M_goes ok _ _ _) ?_
    refine ev_if_ne (t := 34) d_M_open_29 (by decide) (fun _ => ?_) (fun c_29 => absurd c_29 (by rw [hg]; decide))
    refine ev_aload_n d_M_open_34 rfl ?_
    refine ev_iload_n d_M_open_35 rfl ?_
    refine ev_iload_n d_M_open_36 rfl ?_
    refine ev_v2o d_M_open_37 q_8_193 rfl (mM_obj ok) ⟨rfl, Nat.le_of_ble_eq_true rfl, Nat.le_of_ble_eq_true rfl⟩ (c_M_work ok l c N h hl hc hN h24 h6 hrows hnm) ?_
    refine ev_aload_n d_M_open_40 rfl ?_
    refine ev_get d_M_open_41 f_8_64 (mM_obj ok) rfl ?_
    refine ev_iload_n d_M_open_44 rfl ?_
    refine ev_iald d_M_open_45 (mM_arr ok 24 rfl) ⟨rfl, vp_in_nI (N := 20) (by omega) (by decide)⟩ rfl ?_
    rw [va_up_ne (k := 13) (j := 24) _ _ (by decide), el, h24]
    refine ev_istore (lo1 := [some (.ref (ad 0)), some (.int (nI l)), some (.int h), some (.int k), some (.int (nI c)), none, none]) d_M_open_46 (Nat.le_of_ble_eq_true rfl) rfl ?_
    refine ev_iconst (v := 0) d_M_open_48 rfl ?_
    refine ev_istore (lo1 := [some (.ref (ad 0)), some (.int (nI l)), some (.int h), some (.int k), some (.int (nI c)), some (.int 0), none]) d_M_open_49 (Nat.le_of_ble_eq_true rfl) rfl ?_
    refine ev_iconst (v := 0) d_M_open_51 rfl ?_
    refine ev_istore (lo1 := [some (.ref (ad 0)), some (.int (nI l)), some (.int h), some (.int k), some (.int (nI c)), some (.int 0), some (.int 0)]) d_M_open_52 (Nat.le_of_ble_eq_true rfl) rfl ?_
    refine xEv.to (l_M_open (av := va_up av 13 (tF av c N (mE av l h) N (av 13))) ok l c mn h k S hl hc hmn ?_ ?_ mn 0 0 (by omega)) ?_
    · rw [va_up_ne (k := 13) (j := 4) _ _ (by decide)]; exact h4
    · intro t ht
      obtain ⟨r, h1, h2, h3⟩ := hro t ht
      exact ⟨r, by omega, by rw [va_up_ne (k := 13) (j := 5) _ _ (by decide)]; exact h2, by rw [va_up_self]; exact h3⟩
    · rw [hg]
  · refine ev_aload_n d_M_open_1 rfl ?_
    refine ev_iload_n d_M_open_2 rfl ?_
    refine ev_v1r d_M_open_3 q_8_184 rfl (mM_obj ok) ⟨rfl, Nat.le_of_ble_eq_true rfl, Nat.le_of_ble_eq_true rfl⟩ (c_M_isLoan ok _) ?_
    refine ev_if_eq (t := 17) d_M_open_6 (by decide) (fun c_6_3 => ?_) (fun c_6_3 => ?_)
    · refine ev_iconst (v := 0) d_M_open_17 rfl ?_
      exact hk_1 _ (by grind [xbi])
    · refine ev_iload_n d_M_open_9 rfl ?_
      refine ev_if_lt (t := 17) d_M_open_10 (by decide) (fun c_10_4 => ?_) (fun c_10_4 => ?_)
      · refine ev_iconst (v := 0) d_M_open_17 rfl ?_
        exact hk_1 _ (by grind [xbi])
      · refine ev_iconst (v := 1) d_M_open_13 rfl ?_
        refine ev_goto (t := 18) d_M_open_14 (by decide) ?_
        exact hk_1 _ (by grind [xbi])
