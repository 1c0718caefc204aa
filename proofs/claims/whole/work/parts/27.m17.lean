/-! the reference: nodes laid down, sign by sign -/
def nod (av : Nat → Nat → Int32) (c n : Nat) (kd pa : Int32) : Nat → Nat → Int32 := va_up (va_up (va_up (va_up (va_up (va_up (va_up av 7 (upd (av 7) (160 * c + n) kd)) 8 (upd (av 8) (160 * c + n) pa)) 9 (upd (av 9) (160 * c + n) 0)) 10 (upd (av 10) (160 * c + n) 0)) 11 (upd (av 11) (160 * c + n) 0)) 12 (upd (av 12) (160 * c + n) 0)) 6 (upd (av 6) c (nI (n + 1)))
theorem nod_ne {av : Nat → Nat → Int32} {c n : Nat} {kd pa : Int32} {k : Nat} (h : k < 6 ∨ 12 < k) : nod av c n kd pa k = av k := by
  unfold nod
  rw [va_up_ne _ _ (by omega), va_up_ne _ _ (by omega), va_up_ne _ _ (by omega), va_up_ne _ _ (by omega), va_up_ne _ _ (by omega), va_up_ne _ _ (by omega), va_up_ne _ _ (by omega)]
theorem nod_6 (av : Nat → Nat → Int32) (c n : Nat) (kd pa : Int32) : nod av c n kd pa 6 = upd (av 6) c (nI (n + 1)) := va_up_self _ _ _
theorem nod_7 (av : Nat → Nat → Int32) (c n : Nat) (kd pa : Int32) : nod av c n kd pa 7 = upd (av 7) (160 * c + n) kd := by simp [nod, va_up]
theorem nod_8 (av : Nat → Nat → Int32) (c n : Nat) (kd pa : Int32) : nod av c n kd pa 8 = upd (av 8) (160 * c + n) pa := by simp [nod, va_up]
theorem nod_9 (av : Nat → Nat → Int32) (c n : Nat) (kd pa : Int32) : nod av c n kd pa 9 = upd (av 9) (160 * c + n) 0 := by simp [nod, va_up]
theorem nod_10 (av : Nat → Nat → Int32) (c n : Nat) (kd pa : Int32) : nod av c n kd pa 10 = upd (av 10) (160 * c + n) 0 := by simp [nod, va_up]
theorem nod_11 (av : Nat → Nat → Int32) (c n : Nat) (kd pa : Int32) : nod av c n kd pa 11 = upd (av 11) (160 * c + n) 0 := by simp [nod, va_up]
theorem nod_12 (av : Nat → Nat → Int32) (c n : Nat) (kd pa : Int32) : nod av c n kd pa 12 = upd (av 12) (160 * c + n) 0 := by simp [nod, va_up]
set_option maxRecDepth 20000 in
theorem c_M_node {d : Nat} {B : xMm} {ad : Nat → Nat} {ix : Nat → Option Nat} {iv : Nat → Int32} {av : Nat → Nat → Int32} {ns : Nat × Nat} (ok : mOk ad ix) (kd pa : Int32) (c n : Nat) (hc : c < 8) (hn : n < 160) (h6 : av 6 c = nI n)  : xCl d k_M_node [.ref (ad 0), .int (nI c), .int kd, .int pa] (mM B ad ix iv av, ns) (.inl (some (.int (nI n))), (mM B ad ix iv (nod av c n kd pa), ns)) := by
  have ec : (nI c).toNatClampNeg = c := nI_clamp (by omega)
  have ea : (nI (160 * c + n)).toNatClampNeg = 160 * c + n := nI_clamp (by omega)
  show xEv _ k_M_node 0 [some (.ref (ad 0)), some (.int (nI c)), some (.int kd), some (.int pa), none] [] _ _
  refine ev_sipush (v := 160) d_M_node_0 rfl ?_
  refine ev_iload_n d_M_node_3 rfl ?_
  refine ev_imul d_M_node_4 ?_
  refine ev_aload_n d_M_node_5 rfl ?_
  refine ev_get d_M_node_6 f_8_19 (mM_obj ok) rfl ?_
  refine ev_iload_n d_M_node_9 rfl ?_
  refine ev_iald d_M_node_10 (mM_arr ok 6 rfl) ⟨rfl, vp_in_nI (N := 8) hc (by decide)⟩ rfl ?_
  rw [ec, h6]
  refine ev_iadd d_M_node_11 ?_
  rw [nI160]
  refine ev_istore (lo1 := [some (.ref (ad 0)), some (.int (nI c)), some (.int kd), some (.int pa), some (.int (nI (160 * c + n)))]) d_M_node_12 (Nat.le_of_ble_eq_true rfl) rfl ?_
  refine ev_aload_n d_M_node_14 rfl ?_
  refine ev_get d_M_node_15 f_8_22 (mM_obj ok) rfl ?_
  refine ev_iload d_M_node_18 rfl ?_
  refine ev_iload_n d_M_node_20 rfl ?_
  refine ev_iast d_M_node_21 (mM_arr ok 7 rfl) ⟨rfl, vp_in_nI (N := 1280) (by omega) (by decide)⟩ (mM_ast ok 7 rfl) ?_
  rw [ea]
  refine ev_aload_n d_M_node_22 rfl ?_
  refine ev_get d_M_node_23 f_8_25 (mM_obj ok) rfl ?_
  refine ev_iload d_M_node_26 rfl ?_
  refine ev_iload_n d_M_node_28 rfl ?_
  refine ev_iast d_M_node_29 (mM_arr ok 8 rfl) ⟨rfl, vp_in_nI (N := 1280) (by omega) (by decide)⟩ (mM_ast ok 8 rfl) ?_
  rw [ea, va_up_ne (k := 7) (j := 8) _ _ (by decide)]
  refine ev_aload_n d_M_node_30 rfl ?_
  refine ev_get d_M_node_31 f_8_28 (mM_obj ok) rfl ?_
  refine ev_iload d_M_node_34 rfl ?_
  refine ev_iconst (v := 0) d_M_node_36 rfl ?_
  refine ev_iast d_M_node_37 (mM_arr ok 9 rfl) ⟨rfl, vp_in_nI (N := 1280) (by omega) (by decide)⟩ (mM_ast ok 9 rfl) ?_
  rw [ea, va_up_ne (k := 8) (j := 9) _ _ (by decide), va_up_ne (k := 7) (j := 9) _ _ (by decide)]
  refine ev_aload_n d_M_node_38 rfl ?_
  refine ev_get d_M_node_39 f_8_31 (mM_obj ok) rfl ?_
  refine ev_iload d_M_node_42 rfl ?_
  refine ev_iconst (v := 0) d_M_node_44 rfl ?_
  refine ev_iast d_M_node_45 (mM_arr ok 10 rfl) ⟨rfl, vp_in_nI (N := 1280) (by omega) (by decide)⟩ (mM_ast ok 10 rfl) ?_
  rw [ea, va_up_ne (k := 9) (j := 10) _ _ (by decide), va_up_ne (k := 8) (j := 10) _ _ (by decide), va_up_ne (k := 7) (j := 10) _ _ (by decide)]
  refine ev_aload_n d_M_node_46 rfl ?_
  refine ev_get d_M_node_47 f_8_34 (mM_obj ok) rfl ?_
  refine ev_iload d_M_node_50 rfl ?_
  refine ev_iconst (v := 0) d_M_node_52 rfl ?_
  refine ev_iast d_M_node_53 (mM_arr ok 11 rfl) ⟨rfl, vp_in_nI (N := 1280) (by omega) (by decide)⟩ (mM_ast ok 11 rfl) ?_
  rw [ea, va_up_ne (k := 10) (j := 11) _ _ (by decide), va_up_ne (k := 9) (j := 11) _ _ (by decide), va_up_ne (k := 8) (j := 11) _ _ (by decide), va_up_ne (k := 7) (j := 11) _ _ (by decide)]
  refine ev_aload_n d_M_node_54 rfl ?_
  refine ev_get d_M_node_55 f_8_37 (mM_obj ok) rfl ?_
  refine ev_iload d_M_node_58 rfl ?_
  refine ev_iconst (v := 0) d_M_node_60 rfl ?_
  refine ev_iast d_M_node_61 (mM_arr ok 12 rfl) ⟨rfl, vp_in_nI (N := 1280) (by omega) (by decide)⟩ (mM_ast ok 12 rfl) ?_
  rw [ea, va_up_ne (k := 11) (j := 12) _ _ (by decide), va_up_ne (k := 10) (j := 12) _ _ (by decide), va_up_ne (k := 9) (j := 12) _ _ (by decide), va_up_ne (k := 8) (j := 12) _ _ (by decide), va_up_ne (k := 7) (j := 12) _ _ (by decide)]
  refine ev_aload_n d_M_node_62 rfl ?_
  refine ev_get d_M_node_63 f_8_19 (mM_obj ok) rfl ?_
  refine ev_iload_n d_M_node_66 rfl ?_
  refine ev_dup2 d_M_node_67 ⟨rfl, rfl⟩ ?_
  refine ev_iald d_M_node_68 (mM_arr ok 6 rfl) ⟨rfl, vp_in_nI (N := 8) hc (by decide)⟩ rfl ?_
  rw [va_up_ne (k := 12) (j := 6) _ _ (by decide), va_up_ne (k := 11) (j := 6) _ _ (by decide), va_up_ne (k := 10) (j := 6) _ _ (by decide), va_up_ne (k := 9) (j := 6) _ _ (by decide), va_up_ne (k := 8) (j := 6) _ _ (by decide), va_up_ne (k := 7) (j := 6) _ _ (by decide), ec, h6]
  refine ev_iconst (v := 1) d_M_node_69 rfl ?_
  refine ev_iadd d_M_node_70 ?_
  refine ev_iast d_M_node_71 (mM_arr ok 6 rfl) ⟨rfl, vp_in_nI (N := 8) hc (by decide)⟩ (mM_ast ok 6 rfl) ?_
  rw [va_up_ne (k := 12) (j := 6) _ _ (by decide), va_up_ne (k := 11) (j := 6) _ _ (by decide), va_up_ne (k := 10) (j := 6) _ _ (by decide), va_up_ne (k := 9) (j := 6) _ _ (by decide), va_up_ne (k := 8) (j := 6) _ _ (by decide), va_up_ne (k := 7) (j := 6) _ _ (by decide), ec]
  refine ev_aload_n d_M_node_72 rfl ?_
  refine ev_get d_M_node_73 f_8_19 (mM_obj ok) rfl ?_
  refine ev_iload_n d_M_node_76 rfl ?_
  refine ev_iald d_M_node_77 (mM_arr ok 6 rfl) ⟨rfl, vp_in_nI (N := 8) hc (by decide)⟩ rfl ?_
  rw [va_up_self, ec, show upd (av 6) c (nI n + 1) c = nI n + 1 from by simp [upd]]
  refine ev_iconst (v := 1) d_M_node_78 rfl ?_
  refine ev_isub d_M_node_79 ?_
  exact xEv.to (ev_iret d_M_node_80 rfl) (by rw [show nI n + 1 - 1 = nI n from by rw [← nI_succ]; exact nI_pred n, nod, nI_succ])
set_option maxRecDepth 20000 in
theorem c_M_begin {d : Nat} {B : xMm} {ad : Nat → Nat} {ix : Nat → Option Nat} {iv : Nat → Int32} {av : Nat → Nat → Int32} {ns : Nat × Nat} (ok : mOk ad ix) (pa : Int32) (c n : Nat) (hc : c < 8) (hn : n + 1 < 160) (h6 : av 6 c = nI n)  : xCl (d + 1) k_M_begin [.ref (ad 0), .int (nI c), .int pa] (mM B ad ix iv av, ns) (.inl (some (.int (nI (n + 1)))), (mM B ad ix iv (nod (nod av c n 2 pa) c (n + 1) 1 (nI n)), ns)) := by
  show xEv _ k_M_begin 0 [some (.ref (ad 0)), some (.int (nI c)), some (.int pa), none] [] _ _
  refine ev_aload_n d_M_begin_0 rfl ?_
  refine ev_iload_n d_M_begin_1 rfl ?_
  refine ev_iconst (v := 2) d_M_begin_2 rfl ?_
  refine ev_iload_n d_M_begin_3 rfl ?_
  refine ev_v3r d_M_begin_4 q_8_127 rfl (mM_obj ok) ⟨rfl, Nat.le_of_ble_eq_true rfl, Nat.le_of_ble_eq_true rfl⟩ (c_M_node ok _ _ c n hc (by omega) h6) ?_
  refine ev_istore_n (lo1 := [some (.ref (ad 0)), some (.int (nI c)), some (.int pa), some (.int (nI n))]) d_M_begin_7 (Nat.le_of_ble_eq_true rfl) rfl ?_
  refine ev_aload_n d_M_begin_8 rfl ?_
  refine ev_iload_n d_M_begin_9 rfl ?_
  refine ev_iconst (v := 1) d_M_begin_10 rfl ?_
  refine ev_iload_n d_M_begin_11 rfl ?_
  refine ev_v3r d_M_begin_12 q_8_127 rfl (mM_obj ok) ⟨rfl, Nat.le_of_ble_eq_true rfl, Nat.le_of_ble_eq_true rfl⟩ (c_M_node ok _ _ c (n + 1) hc (by omega) (by rw [nod_6]; simp [upd])) ?_
  exact ev_iret d_M_begin_15 rfl
set_option maxRecDepth 20000 in
theorem b_not {d : Nat} {B : xMm} {ad : Nat → Nat} {ix : Nat → Option Nat} {iv : Nat → Int32} {av : Nat → Nat → Int32} {ns : Nat × Nat} (ok : mOk ad ix) {X : xO × xS} (c pn i : Nat) (hc : c < 8) (hpn : pn ≤ 80) (hp : iv 1 = nI pn) (hi : i < pn) (pa no lf : Int32) (o6 o7 o8 : Option Value) (s : Int32) (hs : av 2 i = s) (h : s = 33) (hend : ∀ (o6 o7 o8 : Option Value), xEv (d + 2) k_M_build 39 [some (.ref (ad 0)), some (.int (nI c)), some (.int pa), some (.int (no + 1)), some (.int lf), some (.int (nI (i + 1))), o6, o7, o8] [] (mM B ad ix iv (av), ns) X) : xEv (d + 2) k_M_build 39 [some (.ref (ad 0)), some (.int (nI c)), some (.int pa), some (.int no), some (.int lf), some (.int (nI i)), o6, o7, o8] [] (mM B ad ix iv av, ns) X := by
  have ec : (nI c).toNatClampNeg = c := nI_clamp (by omega)
  refine ev_iload d_M_build_39 rfl ?_
  refine ev_aload_n d_M_build_41 rfl ?_
  refine ev_get d_M_build_42 f_8_109 (mM_obj ok) rfl ?_
  refine ev_icmp_ge (t := 342) d_M_build_45 (by decide) (fun c_45 => absurd c_45 (by rw [hp]; exact nI_ge (by omega) (by omega))) (fun _ => ?_)
  refine ev_aload_n d_M_build_48 rfl ?_
  refine ev_get d_M_build_49 f_8_7 (mM_obj ok) rfl ?_
  refine ev_iload d_M_build_52 rfl ?_
  refine ev_iald d_M_build_54 (mM_arr ok 2 rfl) ⟨rfl, vp_in_nI (N := 80) (by omega) (by decide)⟩ rfl ?_
  rw [nI_clamp (show i < 2 ^ 31 by omega), hs]
  refine ev_istore (lo1 := [some (.ref (ad 0)), some (.int (nI c)), some (.int pa), some (.int no), some (.int lf), some (.int (nI i)), some (.int s), o7, o8]) d_M_build_55 (Nat.le_of_ble_eq_true rfl) rfl ?_
  refine ev_sipush (v := 160) d_M_build_57 rfl ?_
  refine ev_iload_n d_M_build_60 rfl ?_
  refine ev_imul d_M_build_61 ?_
  rw [show (160 : Int32) = nI 160 from rfl, pk_mul]
  refine ev_istore (lo1 := [some (.ref (ad 0)), some (.int (nI c)), some (.int pa), some (.int no), some (.int lf), some (.int (nI i)), some (.int s), some (.int (nI (160 * c))), o8]) d_M_build_62 (Nat.le_of_ble_eq_true rfl) rfl ?_
  refine ev_iload d_M_build_64 rfl ?_
  refine ev_bipush (v := 33) d_M_build_66 rfl ?_
  refine ev_icmp_ne (t := 77) d_M_build_68 (by decide) (fun c_68 => absurd (by grind) c_68) (fun _ => ?_)
  obtain ⟨x_3, ex_3⟩ : ∃ z : Int32, z = no + 1 := ⟨_, rfl⟩
  refine ev_iinc (v := x_3) (lo1 := [some (.ref (ad 0)), some (.int (nI c)), some (.int pa), some (.int x_3), some (.int lf), some (.int (nI i)), some (.int s), some (.int (nI (160 * c))), o8]) d_M_build_71 rfl (by rw [ex_3]; rfl) rfl ?_
  refine ev_goto (t := 336) d_M_build_74 (by decide) ?_
  obtain ⟨x_4, ex_4⟩ : ∃ z : Int32, z = (nI i) + 1 := ⟨_, rfl⟩
  refine ev_iinc (v := x_4) (lo1 := [some (.ref (ad 0)), some (.int (nI c)), some (.int pa), some (.int x_3), some (.int lf), some (.int x_4), some (.int s), some (.int (nI (160 * c))), o8]) d_M_build_336 rfl (by rw [ex_4]; rfl) rfl ?_
  refine ev_goto (t := 39) d_M_build_339 (by decide) ?_
  rw [show x_4 = nI (i + 1) from by rw [ex_4, nI_succ]]
  rw [show x_3 = no + 1 from by rw [ex_3]]
  exact hend _ _ _
set_option maxRecDepth 20000 in
theorem b_par {d : Nat} {B : xMm} {ad : Nat → Nat} {ix : Nat → Option Nat} {iv : Nat → Int32} {av : Nat → Nat → Int32} {ns : Nat × Nat} (ok : mOk ad ix) {X : xO × xS} (c pn i : Nat) (hc : c < 8) (hpn : pn ≤ 80) (hp : iv 1 = nI pn) (hi : i < pn) (pa no lf : Int32) (o6 o7 o8 : Option Value) (s : Int32) (hs : av 2 i = s) (h : s = 40) (n : Nat) (hn : n + 1 < 160) (h6 : av 6 c = nI n) (hend : ∀ (o6 o7 o8 : Option Value), xEv (d + 2) k_M_build 39 [some (.ref (ad 0)), some (.int (nI c)), some (.int (nI (n + 1))), some (.int 0), some (.int lf), some (.int (nI (i + 1))), o6, o7, o8] [] (mM B ad ix iv (va_up (nod (nod av c n 2 pa) c (n + 1) 1 (nI n)) 9 (upd (nod (nod av c n 2 pa) c (n + 1) 1 (nI n) 9) (160 * c + n) no)), ns) X) : xEv (d + 2) k_M_build 39 [some (.ref (ad 0)), some (.int (nI c)), some (.int pa), some (.int no), some (.int lf), some (.int (nI i)), o6, o7, o8] [] (mM B ad ix iv av, ns) X := by
  have ec : (nI c).toNatClampNeg = c := nI_clamp (by omega)
  refine ev_iload d_M_build_39 rfl ?_
  refine ev_aload_n d_M_build_41 rfl ?_
  refine ev_get d_M_build_42 f_8_109 (mM_obj ok) rfl ?_
  refine ev_icmp_ge (t := 342) d_M_build_45 (by decide) (fun c_45 => absurd c_45 (by rw [hp]; exact nI_ge (by omega) (by omega))) (fun _ => ?_)
  refine ev_aload_n d_M_build_48 rfl ?_
  refine ev_get d_M_build_49 f_8_7 (mM_obj ok) rfl ?_
  refine ev_iload d_M_build_52 rfl ?_
  refine ev_iald d_M_build_54 (mM_arr ok 2 rfl) ⟨rfl, vp_in_nI (N := 80) (by omega) (by decide)⟩ rfl ?_
  rw [nI_clamp (show i < 2 ^ 31 by omega), hs]
  refine ev_istore (lo1 := [some (.ref (ad 0)), some (.int (nI c)), some (.int pa), some (.int no), some (.int lf), some (.int (nI i)), some (.int s), o7, o8]) d_M_build_55 (Nat.le_of_ble_eq_true rfl) rfl ?_
  refine ev_sipush (v := 160) d_M_build_57 rfl ?_
  refine ev_iload_n d_M_build_60 rfl ?_
  refine ev_imul d_M_build_61 ?_
  rw [show (160 : Int32) = nI 160 from rfl, pk_mul]
  refine ev_istore (lo1 := [some (.ref (ad 0)), some (.int (nI c)), some (.int pa), some (.int no), some (.int lf), some (.int (nI i)), some (.int s), some (.int (nI (160 * c))), o8]) d_M_build_62 (Nat.le_of_ble_eq_true rfl) rfl ?_
  refine ev_iload d_M_build_64 rfl ?_
  refine ev_bipush (v := 33) d_M_build_66 rfl ?_
  refine ev_icmp_ne (t := 77) d_M_build_68 (by decide) (fun _ => ?_) (fun c_68 => absurd c_68 (by grind))
  refine ev_iload d_M_build_77 rfl ?_
  refine ev_bipush (v := 40) d_M_build_79 rfl ?_
  refine ev_icmp_ne (t := 115) d_M_build_81 (by decide) (fun c_81 => absurd (by grind) c_81) (fun _ => ?_)
  refine ev_aload_n d_M_build_84 rfl ?_
  refine ev_get d_M_build_85 f_8_19 (mM_obj ok) rfl ?_
  refine ev_iload_n d_M_build_88 rfl ?_
  refine ev_iald d_M_build_89 (mM_arr ok 6 rfl) ⟨rfl, vp_in_nI (N := 8) hc (by decide)⟩ rfl ?_
  rw [ec, h6]
  refine ev_istore (lo1 := [some (.ref (ad 0)), some (.int (nI c)), some (.int pa), some (.int no), some (.int lf), some (.int (nI i)), some (.int s), some (.int (nI (160 * c))), some (.int (nI n))]) d_M_build_90 (Nat.le_of_ble_eq_true rfl) rfl ?_
  refine ev_aload_n d_M_build_92 rfl ?_
  refine ev_iload_n d_M_build_93 rfl ?_
  refine ev_iload_n d_M_build_94 rfl ?_
  refine ev_v2r d_M_build_95 q_8_131 rfl (mM_obj ok) ⟨rfl, Nat.le_of_ble_eq_true rfl, Nat.le_of_ble_eq_true rfl⟩ (c_M_begin ok _ c n hc hn h6) ?_
  refine ev_istore_n (lo1 := [some (.ref (ad 0)), some (.int (nI c)), some (.int (nI (n + 1))), some (.int no), some (.int lf), some (.int (nI i)), some (.int s), some (.int (nI (160 * c))), some (.int (nI n))]) d_M_build_98 (Nat.le_of_ble_eq_true rfl) rfl ?_
  refine ev_aload_n d_M_build_99 rfl ?_
  refine ev_get d_M_build_100 f_8_28 (mM_obj ok) rfl ?_
  refine ev_iload d_M_build_103 rfl ?_
  refine ev_iload d_M_build_105 rfl ?_
  refine ev_iadd d_M_build_107 ?_
  rw [nI_add]
  refine ev_iload_n d_M_build_108 rfl ?_
  refine ev_iast d_M_build_109 (mM_arr ok 9 rfl) ⟨rfl, vp_in_nI (N := 1280) (by omega) (by decide)⟩ (mM_ast ok 9 rfl) ?_
  rw [nI_clamp (show 160 * c + n < 2 ^ 31 by omega)]
  refine ev_iconst (v := 0) d_M_build_110 rfl ?_
  refine ev_istore_n (lo1 := [some (.ref (ad 0)), some (.int (nI c)), some (.int (nI (n + 1))), some (.int 0), some (.int lf), some (.int (nI i)), some (.int s), some (.int (nI (160 * c))), some (.int (nI n))]) d_M_build_111 (Nat.le_of_ble_eq_true rfl) rfl ?_
  refine ev_goto (t := 336) d_M_build_112 (by decide) ?_
  obtain ⟨x_5, ex_5⟩ : ∃ z : Int32, z = (nI i) + 1 := ⟨_, rfl⟩
  refine ev_iinc (v := x_5) (lo1 := [some (.ref (ad 0)), some (.int (nI c)), some (.int (nI (n + 1))), some (.int 0), some (.int lf), some (.int x_5), some (.int s), some (.int (nI (160 * c))), some (.int (nI n))]) d_M_build_336 rfl (by rw [ex_5]; rfl) rfl ?_
  refine ev_goto (t := 39) d_M_build_339 (by decide) ?_
  rw [show x_5 = nI (i + 1) from by rw [ex_5, nI_succ]]
  exact hend _ _ _
set_option maxRecDepth 20000 in
theorem b_nam {d : Nat} {B : xMm} {ad : Nat → Nat} {ix : Nat → Option Nat} {iv : Nat → Int32} {av : Nat → Nat → Int32} {ns : Nat × Nat} (ok : mOk ad ix) {X : xO × xS} (c pn i : Nat) (hc : c < 8) (hpn : pn ≤ 80) (hp : iv 1 = nI pn) (hi : i < pn) (pa no lf : Int32) (o6 o7 o8 : Option Value) (s : Int32) (hs : av 2 i = s) (h : ((97 ≤ s ∧ s ≤ 104) ∨ s = 121 ∨ s = 122)) (n : Nat) (hn : n < 160) (h6 : av 6 c = nI n) (hend : ∀ (o6 o7 o8 : Option Value), xEv (d + 2) k_M_build 39 [some (.ref (ad 0)), some (.int (nI c)), some (.int pa), some (.int 0), some (.int (nI n)), some (.int (nI (i + 1))), o6, o7, o8] [] (mM B ad ix iv (va_up (va_up (nod av c n 0 pa) 10 (upd (nod av c n 0 pa 10) (160 * c + n) s)) 9 (upd (nod av c n 0 pa 9) (160 * c + n) no)), ns) X) : xEv (d + 2) k_M_build 39 [some (.ref (ad 0)), some (.int (nI c)), some (.int pa), some (.int no), some (.int lf), some (.int (nI i)), o6, o7, o8] [] (mM B ad ix iv av, ns) X := by
  have ec : (nI c).toNatClampNeg = c := nI_clamp (by omega)
  refine ev_iload d_M_build_39 rfl ?_
  refine ev_aload_n d_M_build_41 rfl ?_
  refine ev_get d_M_build_42 f_8_109 (mM_obj ok) rfl ?_
  refine ev_icmp_ge (t := 342) d_M_build_45 (by decide) (fun c_45 => absurd c_45 (by rw [hp]; exact nI_ge (by omega) (by omega))) (fun _ => ?_)
  refine ev_aload_n d_M_build_48 rfl ?_
  refine ev_get d_M_build_49 f_8_7 (mM_obj ok) rfl ?_
  refine ev_iload d_M_build_52 rfl ?_
  refine ev_iald d_M_build_54 (mM_arr ok 2 rfl) ⟨rfl, vp_in_nI (N := 80) (by omega) (by decide)⟩ rfl ?_
  rw [nI_clamp (show i < 2 ^ 31 by omega), hs]
  refine ev_istore (lo1 := [some (.ref (ad 0)), some (.int (nI c)), some (.int pa), some (.int no), some (.int lf), some (.int (nI i)), some (.int s), o7, o8]) d_M_build_55 (Nat.le_of_ble_eq_true rfl) rfl ?_
  refine ev_sipush (v := 160) d_M_build_57 rfl ?_
  refine ev_iload_n d_M_build_60 rfl ?_
  refine ev_imul d_M_build_61 ?_
  rw [show (160 : Int32) = nI 160 from rfl, pk_mul]
  refine ev_istore (lo1 := [some (.ref (ad 0)), some (.int (nI c)), some (.int pa), some (.int no), some (.int lf), some (.int (nI i)), some (.int s), some (.int (nI (160 * c))), o8]) d_M_build_62 (Nat.le_of_ble_eq_true rfl) rfl ?_
  refine ev_iload d_M_build_64 rfl ?_
  refine ev_bipush (v := 33) d_M_build_66 rfl ?_
  refine ev_icmp_ne (t := 77) d_M_build_68 (by decide) (fun _ => ?_) (fun c_68 => absurd c_68 (by grind))
  refine ev_iload d_M_build_77 rfl ?_
  refine ev_bipush (v := 40) d_M_build_79 rfl ?_
  refine ev_icmp_ne (t := 115) d_M_build_81 (by decide) (fun _ => ?_) (fun c_81 => absurd c_81 (by grind))
  refine ev_iload d_M_build_115 rfl ?_
  refine ev_s1r d_M_build_117 q_8_120 rfl ⟨rfl, Nat.le_of_ble_eq_true rfl, Nat.le_of_ble_eq_true rfl⟩ (c_M_isName _) ?_
  refine ev_if_eq (t := 160) d_M_build_120 (by decide) (fun c_120 => absurd c_120 (by rw [xbi_t h]; decide)) (fun _ => ?_)
  refine ev_aload_n d_M_build_123 rfl ?_
  refine ev_iload_n d_M_build_124 rfl ?_
  refine ev_iconst (v := 0) d_M_build_125 rfl ?_
  refine ev_iload_n d_M_build_126 rfl ?_
  refine ev_v3r d_M_build_127 q_8_127 rfl (mM_obj ok) ⟨rfl, Nat.le_of_ble_eq_true rfl, Nat.le_of_ble_eq_true rfl⟩ (c_M_node ok _ _ c n hc hn h6) ?_
  refine ev_istore (lo1 := [some (.ref (ad 0)), some (.int (nI c)), some (.int pa), some (.int no), some (.int (nI n)), some (.int (nI i)), some (.int s), some (.int (nI (160 * c))), o8]) d_M_build_130 (Nat.le_of_ble_eq_true rfl) rfl ?_
  refine ev_aload_n d_M_build_132 rfl ?_
  refine ev_get d_M_build_133 f_8_31 (mM_obj ok) rfl ?_
  refine ev_iload d_M_build_136 rfl ?_
  refine ev_iload d_M_build_138 rfl ?_
  refine ev_iadd d_M_build_140 ?_
  rw [nI_add]
  refine ev_iload d_M_build_141 rfl ?_
  refine ev_iast d_M_build_143 (mM_arr ok 10 rfl) ⟨rfl, vp_in_nI (N := 1280) (by omega) (by decide)⟩ (mM_ast ok 10 rfl) ?_
  rw [nI_clamp (show 160 * c + n < 2 ^ 31 by omega)]
  refine ev_aload_n d_M_build_144 rfl ?_
  refine ev_get d_M_build_145 f_8_28 (mM_obj ok) rfl ?_
  refine ev_iload d_M_build_148 rfl ?_
  refine ev_iload d_M_build_150 rfl ?_
  refine ev_iadd d_M_build_152 ?_
  rw [nI_add]
  refine ev_iload_n d_M_build_153 rfl ?_
  refine ev_iast d_M_build_154 (mM_arr ok 9 rfl) ⟨rfl, vp_in_nI (N := 1280) (by omega) (by decide)⟩ (mM_ast ok 9 rfl) ?_
  rw [nI_clamp (show 160 * c + n < 2 ^ 31 by omega), va_up_ne (k := 10) (j := 9) _ _ (by decide)]
  refine ev_iconst (v := 0) d_M_build_155 rfl ?_
  refine ev_istore_n (lo1 := [some (.ref (ad 0)), some (.int (nI c)), some (.int pa), some (.int 0), some (.int (nI n)), some (.int (nI i)), some (.int s), some (.int (nI (160 * c))), o8]) d_M_build_156 (Nat.le_of_ble_eq_true rfl) rfl ?_
  refine ev_goto (t := 336) d_M_build_157 (by decide) ?_
  obtain ⟨x_4, ex_4⟩ : ∃ z : Int32, z = (nI i) + 1 := ⟨_, rfl⟩
  refine ev_iinc (v := x_4) (lo1 := [some (.ref (ad 0)), some (.int (nI c)), some (.int pa), some (.int 0), some (.int (nI n)), some (.int x_4), some (.int s), some (.int (nI (160 * c))), o8]) d_M_build_336 rfl (by rw [ex_4]; rfl) rfl ?_
  refine ev_goto (t := 39) d_M_build_339 (by decide) ?_
  rw [show x_4 = nI (i + 1) from by rw [ex_4, nI_succ]]
  exact hend _ _ _
set_option maxRecDepth 20000 in
theorem b_sgn {d : Nat} {B : xMm} {ad : Nat → Nat} {ix : Nat → Option Nat} {iv : Nat → Int32} {av : Nat → Nat → Int32} {ns : Nat × Nat} (ok : mOk ad ix) {X : xO × xS} (c pn i : Nat) (hc : c < 8) (hpn : pn ≤ 80) (hp : iv 1 = nI pn) (hi : i < pn) (pa no lf : Int32) (o6 o7 o8 : Option Value) (s : Int32) (hs : av 2 i = s) (h : s = 60 ∨ s = 61 ∨ s = 62) (q : Nat) (hq : q < 160) (hlf : lf = nI q) (hend : ∀ (o6 o7 o8 : Option Value), xEv (d + 2) k_M_build 39 [some (.ref (ad 0)), some (.int (nI c)), some (.int pa), some (.int no), some (.int lf), some (.int (nI (i + 1))), o6, o7, o8] [] (mM B ad ix iv (va_up av 11 (upd (av 11) (160 * c + q) s)), ns) X) : xEv (d + 2) k_M_build 39 [some (.ref (ad 0)), some (.int (nI c)), some (.int pa), some (.int no), some (.int lf), some (.int (nI i)), o6, o7, o8] [] (mM B ad ix iv av, ns) X := by
  have ec : (nI c).toNatClampNeg = c := nI_clamp (by omega)
  refine ev_iload d_M_build_39 rfl ?_
  refine ev_aload_n d_M_build_41 rfl ?_
  refine ev_get d_M_build_42 f_8_109 (mM_obj ok) rfl ?_
  refine ev_icmp_ge (t := 342) d_M_build_45 (by decide) (fun c_45 => absurd c_45 (by rw [hp]; exact nI_ge (by omega) (by omega))) (fun _ => ?_)
  refine ev_aload_n d_M_build_48 rfl ?_
  refine ev_get d_M_build_49 f_8_7 (mM_obj ok) rfl ?_
  refine ev_iload d_M_build_52 rfl ?_
  refine ev_iald d_M_build_54 (mM_arr ok 2 rfl) ⟨rfl, vp_in_nI (N := 80) (by omega) (by decide)⟩ rfl ?_
  rw [nI_clamp (show i < 2 ^ 31 by omega), hs]
  refine ev_istore (lo1 := [some (.ref (ad 0)), some (.int (nI c)), some (.int pa), some (.int no), some (.int lf), some (.int (nI i)), some (.int s), o7, o8]) d_M_build_55 (Nat.le_of_ble_eq_true rfl) rfl ?_
  refine ev_sipush (v := 160) d_M_build_57 rfl ?_
  refine ev_iload_n d_M_build_60 rfl ?_
  refine ev_imul d_M_build_61 ?_
  rw [show (160 : Int32) = nI 160 from rfl, pk_mul]
  refine ev_istore (lo1 := [some (.ref (ad 0)), some (.int (nI c)), some (.int pa), some (.int no), some (.int lf), some (.int (nI i)), some (.int s), some (.int (nI (160 * c))), o8]) d_M_build_62 (Nat.le_of_ble_eq_true rfl) rfl ?_
  refine ev_iload d_M_build_64 rfl ?_
  refine ev_bipush (v := 33) d_M_build_66 rfl ?_
  refine ev_icmp_ne (t := 77) d_M_build_68 (by decide) (fun _ => ?_) (fun c_68 => absurd c_68 (by grind))
  refine ev_iload d_M_build_77 rfl ?_
  refine ev_bipush (v := 40) d_M_build_79 rfl ?_
  refine ev_icmp_ne (t := 115) d_M_build_81 (by decide) (fun _ => ?_) (fun c_81 => absurd c_81 (by grind))
  refine ev_iload d_M_build_115 rfl ?_
  refine ev_s1r d_M_build_117 q_8_120 rfl ⟨rfl, Nat.le_of_ble_eq_true rfl, Nat.le_of_ble_eq_true rfl⟩ (c_M_isName _) ?_
  refine ev_if_eq (t := 160) d_M_build_120 (by decide) (fun _ => ?_) (fun c_120 => absurd (xbi_f (by grind)) c_120)
  refine ev_iload d_M_build_160 rfl ?_
  refine ev_bipush (v := 60) d_M_build_162 rfl ?_
  refine ev_icmp_eq (t := 181) d_M_build_164 (by decide) (fun c_164_3 => ?_) (fun c_164_3 => ?_)
  · refine ev_aload_n d_M_build_181 rfl ?_
    refine ev_get d_M_build_182 f_8_34 (mM_obj ok) rfl ?_
    refine ev_iload d_M_build_185 rfl ?_
    refine ev_iload d_M_build_187 rfl ?_
    refine ev_iadd d_M_build_189 ?_
    rw [show nI (160 * c) + lf = nI (160 * c + q) from by rw [hlf, nI_add]]
    refine ev_iload d_M_build_190 rfl ?_
    refine ev_iast d_M_build_192 (mM_arr ok 11 rfl) ⟨rfl, vp_in_nI (N := 1280) (by omega) (by decide)⟩ (mM_ast ok 11 rfl) ?_
    rw [nI_clamp (show 160 * c + q < 2 ^ 31 by omega)]
    refine ev_goto (t := 336) d_M_build_193 (by decide) ?_
    obtain ⟨x_4, ex_4⟩ : ∃ z : Int32, z = (nI i) + 1 := ⟨_, rfl⟩
    refine ev_iinc (v := x_4) (lo1 := [some (.ref (ad 0)), some (.int (nI c)), some (.int pa), some (.int no), some (.int lf), some (.int x_4), some (.int s), some (.int (nI (160 * c))), o8]) d_M_build_336 rfl (by rw [ex_4]; rfl) rfl ?_
    refine ev_goto (t := 39) d_M_build_339 (by decide) ?_
    rw [show x_4 = nI (i + 1) from by rw [ex_4, nI_succ]]
    exact hend _ _ _
  · refine ev_iload d_M_build_167 rfl ?_
    refine ev_bipush (v := 61) d_M_build_169 rfl ?_
    refine ev_icmp_eq (t := 181) d_M_build_171 (by decide) (fun c_171_5 => ?_) (fun c_171_5 => ?_)
    · refine ev_aload_n d_M_build_181 rfl ?_
      refine ev_get d_M_build_182 f_8_34 (mM_obj ok) rfl ?_
      refine ev_iload d_M_build_185 rfl ?_
      refine ev_iload d_M_build_187 rfl ?_
      refine ev_iadd d_M_build_189 ?_
      rw [show nI (160 * c) + lf = nI (160 * c + q) from by rw [hlf, nI_add]]
      refine ev_iload d_M_build_190 rfl ?_
      refine ev_iast d_M_build_192 (mM_arr ok 11 rfl) ⟨rfl, vp_in_nI (N := 1280) (by omega) (by decide)⟩ (mM_ast ok 11 rfl) ?_
      rw [nI_clamp (show 160 * c + q < 2 ^ 31 by omega)]
      refine ev_goto (t := 336) d_M_build_193 (by decide) ?_
      obtain ⟨x_6, ex_6⟩ : ∃ z : Int32, z = (nI i) + 1 := ⟨_, rfl⟩
      refine ev_iinc (v := x_6) (lo1 := [some (.ref (ad 0)), some (.int (nI c)), some (.int pa), some (.int no), some (.int lf), some (.int x_6), some (.int s), some (.int (nI (160 * c))), o8]) d_M_build_336 rfl (by rw [ex_6]; rfl) rfl ?_
      refine ev_goto (t := 39) d_M_build_339 (by decide) ?_
      rw [show x_6 = nI (i + 1) from by rw [ex_6, nI_succ]]
      exact hend _ _ _
    · refine ev_iload d_M_build_174 rfl ?_
      refine ev_bipush (v := 62) d_M_build_176 rfl ?_
      refine ev_icmp_ne (t := 196) d_M_build_178 (by decide) (fun c_178 => absurd (by grind) c_178) (fun _ => ?_)
      refine ev_aload_n d_M_build_181 rfl ?_
      refine ev_get d_M_build_182 f_8_34 (mM_obj ok) rfl ?_
      refine ev_iload d_M_build_185 rfl ?_
      refine ev_iload d_M_build_187 rfl ?_
      refine ev_iadd d_M_build_189 ?_
      rw [show nI (160 * c) + lf = nI (160 * c + q) from by rw [hlf, nI_add]]
      refine ev_iload d_M_build_190 rfl ?_
      refine ev_iast d_M_build_192 (mM_arr ok 11 rfl) ⟨rfl, vp_in_nI (N := 1280) (by omega) (by decide)⟩ (mM_ast ok 11 rfl) ?_
      rw [nI_clamp (show 160 * c + q < 2 ^ 31 by omega)]
      refine ev_goto (t := 336) d_M_build_193 (by decide) ?_
      obtain ⟨x_7, ex_7⟩ : ∃ z : Int32, z = (nI i) + 1 := ⟨_, rfl⟩
      refine ev_iinc (v := x_7) (lo1 := [some (.ref (ad 0)), some (.int (nI c)), some (.int pa), some (.int no), some (.int lf), some (.int x_7), some (.int s), some (.int (nI (160 * c))), o8]) d_M_build_336 rfl (by rw [ex_7]; rfl) rfl ?_
      refine ev_goto (t := 39) d_M_build_339 (by decide) ?_
      rw [show x_7 = nI (i + 1) from by rw [ex_7, nI_succ]]
      exact hend _ _ _
set_option maxRecDepth 20000 in
theorem b_dig {d : Nat} {B : xMm} {ad : Nat → Nat} {ix : Nat → Option Nat} {iv : Nat → Int32} {av : Nat → Nat → Int32} {ns : Nat × Nat} (ok : mOk ad ix) {X : xO × xS} (c pn i : Nat) (hc : c < 8) (hpn : pn ≤ 80) (hp : iv 1 = nI pn) (hi : i < pn) (pa no lf : Int32) (o6 o7 o8 : Option Value) (s : Int32) (hs : av 2 i = s) (h : 48 ≤ s ∧ s ≤ 57) (q : Nat) (hq : q < 160) (hlf : lf = nI q) (hend : ∀ (o6 o7 o8 : Option Value), xEv (d + 2) k_M_build 39 [some (.ref (ad 0)), some (.int (nI c)), some (.int pa), some (.int no), some (.int lf), some (.int (nI (i + 1))), o6, o7, o8] [] (mM B ad ix iv (va_up av 12 (upd (av 12) (160 * c + q) (10 * av 12 (160 * c + q) + s - 48))), ns) X) : xEv (d + 2) k_M_build 39 [some (.ref (ad 0)), some (.int (nI c)), some (.int pa), some (.int no), some (.int lf), some (.int (nI i)), o6, o7, o8] [] (mM B ad ix iv av, ns) X := by
  have ec : (nI c).toNatClampNeg = c := nI_clamp (by omega)
  refine ev_iload d_M_build_39 rfl ?_
  refine ev_aload_n d_M_build_41 rfl ?_
  refine ev_get d_M_build_42 f_8_109 (mM_obj ok) rfl ?_
  refine ev_icmp_ge (t := 342) d_M_build_45 (by decide) (fun c_45 => absurd c_45 (by rw [hp]; exact nI_ge (by omega) (by omega))) (fun _ => ?_)
  refine ev_aload_n d_M_build_48 rfl ?_
  refine ev_get d_M_build_49 f_8_7 (mM_obj ok) rfl ?_
  refine ev_iload d_M_build_52 rfl ?_
  refine ev_iald d_M_build_54 (mM_arr ok 2 rfl) ⟨rfl, vp_in_nI (N := 80) (by omega) (by decide)⟩ rfl ?_
  rw [nI_clamp (show i < 2 ^ 31 by omega), hs]
  refine ev_istore (lo1 := [some (.ref (ad 0)), some (.int (nI c)), some (.int pa), some (.int no), some (.int lf), some (.int (nI i)), some (.int s), o7, o8]) d_M_build_55 (Nat.le_of_ble_eq_true rfl) rfl ?_
  refine ev_sipush (v := 160) d_M_build_57 rfl ?_
  refine ev_iload_n d_M_build_60 rfl ?_
  refine ev_imul d_M_build_61 ?_
  rw [show (160 : Int32) = nI 160 from rfl, pk_mul]
  refine ev_istore (lo1 := [some (.ref (ad 0)), some (.int (nI c)), some (.int pa), some (.int no), some (.int lf), some (.int (nI i)), some (.int s), some (.int (nI (160 * c))), o8]) d_M_build_62 (Nat.le_of_ble_eq_true rfl) rfl ?_
  refine ev_iload d_M_build_64 rfl ?_
  refine ev_bipush (v := 33) d_M_build_66 rfl ?_
  refine ev_icmp_ne (t := 77) d_M_build_68 (by decide) (fun _ => ?_) (fun c_68 => absurd c_68 (by grind))
  refine ev_iload d_M_build_77 rfl ?_
  refine ev_bipush (v := 40) d_M_build_79 rfl ?_
  refine ev_icmp_ne (t := 115) d_M_build_81 (by decide) (fun _ => ?_) (fun c_81 => absurd c_81 (by grind))
  refine ev_iload d_M_build_115 rfl ?_
  refine ev_s1r d_M_build_117 q_8_120 rfl ⟨rfl, Nat.le_of_ble_eq_true rfl, Nat.le_of_ble_eq_true rfl⟩ (c_M_isName _) ?_
  refine ev_if_eq (t := 160) d_M_build_120 (by decide) (fun _ => ?_) (fun c_120 => absurd (xbi_f (by grind)) c_120)
  refine ev_iload d_M_build_160 rfl ?_
  refine ev_bipush (v := 60) d_M_build_162 rfl ?_
  refine ev_icmp_eq (t := 181) d_M_build_164 (by decide) (fun c_164 => absurd c_164 (by grind)) (fun _ => ?_)
  refine ev_iload d_M_build_167 rfl ?_
  refine ev_bipush (v := 61) d_M_build_169 rfl ?_
  refine ev_icmp_eq (t := 181) d_M_build_171 (by decide) (fun c_171 => absurd c_171 (by grind)) (fun _ => ?_)
  refine ev_iload d_M_build_174 rfl ?_
  refine ev_bipush (v := 62) d_M_build_176 rfl ?_
  refine ev_icmp_ne (t := 196) d_M_build_178 (by decide) (fun _ => ?_) (fun c_178 => absurd c_178 (by grind))
  refine ev_iload d_M_build_196 rfl ?_
  refine ev_s1r d_M_build_198 q_8_124 rfl ⟨rfl, Nat.le_of_ble_eq_true rfl, Nat.le_of_ble_eq_true rfl⟩ (c_M_isDigit _) ?_
  refine ev_if_eq (t := 236) d_M_build_201 (by decide) (fun c_201 => absurd c_201 (by rw [xbi_t h]; decide)) (fun _ => ?_)
  refine ev_aload_n d_M_build_204 rfl ?_
  refine ev_get d_M_build_205 f_8_37 (mM_obj ok) rfl ?_
  refine ev_iload d_M_build_208 rfl ?_
  refine ev_iload d_M_build_210 rfl ?_
  refine ev_iadd d_M_build_212 ?_
  rw [show nI (160 * c) + lf = nI (160 * c + q) from by rw [hlf, nI_add]]
  refine ev_bipush (v := 10) d_M_build_213 rfl ?_
  refine ev_aload_n d_M_build_215 rfl ?_
  refine ev_get d_M_build_216 f_8_37 (mM_obj ok) rfl ?_
  refine ev_iload d_M_build_219 rfl ?_
  refine ev_iload d_M_build_221 rfl ?_
  refine ev_iadd d_M_build_223 ?_
  rw [show nI (160 * c) + lf = nI (160 * c + q) from by rw [hlf, nI_add]]
  refine ev_iald d_M_build_224 (mM_arr ok 12 rfl) ⟨rfl, vp_in_nI (N := 1280) (by omega) (by decide)⟩ rfl ?_
  rw [nI_clamp (show 160 * c + q < 2 ^ 31 by omega)]
  refine ev_imul d_M_build_225 ?_
  refine ev_iload d_M_build_226 rfl ?_
  refine ev_iadd d_M_build_228 ?_
  refine ev_bipush (v := 48) d_M_build_229 rfl ?_
  refine ev_isub d_M_build_231 ?_
  refine ev_iast d_M_build_232 (mM_arr ok 12 rfl) ⟨rfl, vp_in_nI (N := 1280) (by omega) (by decide)⟩ (mM_ast ok 12 rfl) ?_
  rw [nI_clamp (show 160 * c + q < 2 ^ 31 by omega)]
  refine ev_goto (t := 336) d_M_build_233 (by decide) ?_
  obtain ⟨x_3, ex_3⟩ : ∃ z : Int32, z = (nI i) + 1 := ⟨_, rfl⟩
  refine ev_iinc (v := x_3) (lo1 := [some (.ref (ad 0)), some (.int (nI c)), some (.int pa), some (.int no), some (.int lf), some (.int x_3), some (.int s), some (.int (nI (160 * c))), o8]) d_M_build_336 rfl (by rw [ex_3]; rfl) rfl ?_
  refine ev_goto (t := 39) d_M_build_339 (by decide) ?_
  rw [show x_3 = nI (i + 1) from by rw [ex_3, nI_succ]]
  exact hend _ _ _
set_option maxRecDepth 20000 in
theorem b_bar {d : Nat} {B : xMm} {ad : Nat → Nat} {ix : Nat → Option Nat} {iv : Nat → Int32} {av : Nat → Nat → Int32} {ns : Nat × Nat} (ok : mOk ad ix) {X : xO × xS} (c pn i : Nat) (hc : c < 8) (hpn : pn ≤ 80) (hp : iv 1 = nI pn) (hi : i < pn) (pa no lf : Int32) (o6 o7 o8 : Option Value) (s : Int32) (hs : av 2 i = s) (h : s = 124) (n : Nat) (hn : n < 160) (h6 : av 6 c = nI n) (p : Nat) (hp1 : p < 160) (hpa : pa = nI p) (hend : ∀ (o6 o7 o8 : Option Value), xEv (d + 2) k_M_build 39 [some (.ref (ad 0)), some (.int (nI c)), some (.int (nI n)), some (.int no), some (.int lf), some (.int (nI (i + 1))), o6, o7, o8] [] (mM B ad ix iv (nod av c n 1 (av 8 (160 * c + p))), ns) X) : xEv (d + 2) k_M_build 39 [some (.ref (ad 0)), some (.int (nI c)), some (.int pa), some (.int no), some (.int lf), some (.int (nI i)), o6, o7, o8] [] (mM B ad ix iv av, ns) X := by
  have ec : (nI c).toNatClampNeg = c := nI_clamp (by omega)
  refine ev_iload d_M_build_39 rfl ?_
  refine ev_aload_n d_M_build_41 rfl ?_
  refine ev_get d_M_build_42 f_8_109 (mM_obj ok) rfl ?_
  refine ev_icmp_ge (t := 342) d_M_build_45 (by decide) (fun c_45 => absurd c_45 (by rw [hp]; exact nI_ge (by omega) (by omega))) (fun _ => ?_)
  refine ev_aload_n d_M_build_48 rfl ?_
  refine ev_get d_M_build_49 f_8_7 (mM_obj ok) rfl ?_
  refine ev_iload d_M_build_52 rfl ?_
  refine ev_iald d_M_build_54 (mM_arr ok 2 rfl) ⟨rfl, vp_in_nI (N := 80) (by omega) (by decide)⟩ rfl ?_
  rw [nI_clamp (show i < 2 ^ 31 by omega), hs]
  refine ev_istore (lo1 := [some (.ref (ad 0)), some (.int (nI c)), some (.int pa), some (.int no), some (.int lf), some (.int (nI i)), some (.int s), o7, o8]) d_M_build_55 (Nat.le_of_ble_eq_true rfl) rfl ?_
  refine ev_sipush (v := 160) d_M_build_57 rfl ?_
  refine ev_iload_n d_M_build_60 rfl ?_
  refine ev_imul d_M_build_61 ?_
  rw [show (160 : Int32) = nI 160 from rfl, pk_mul]
  refine ev_istore (lo1 := [some (.ref (ad 0)), some (.int (nI c)), some (.int pa), some (.int no), some (.int lf), some (.int (nI i)), some (.int s), some (.int (nI (160 * c))), o8]) d_M_build_62 (Nat.le_of_ble_eq_true rfl) rfl ?_
  refine ev_iload d_M_build_64 rfl ?_
  refine ev_bipush (v := 33) d_M_build_66 rfl ?_
  refine ev_icmp_ne (t := 77) d_M_build_68 (by decide) (fun _ => ?_) (fun c_68 => absurd c_68 (by grind))
  refine ev_iload d_M_build_77 rfl ?_
  refine ev_bipush (v := 40) d_M_build_79 rfl ?_
  refine ev_icmp_ne (t := 115) d_M_build_81 (by decide) (fun _ => ?_) (fun c_81 => absurd c_81 (by grind))
  refine ev_iload d_M_build_115 rfl ?_
  refine ev_s1r d_M_build_117 q_8_120 rfl ⟨rfl, Nat.le_of_ble_eq_true rfl, Nat.le_of_ble_eq_true rfl⟩ (c_M_isName _) ?_
  refine ev_if_eq (t := 160) d_M_build_120 (by decide) (fun _ => ?_) (fun c_120 => absurd (xbi_f (by grind)) c_120)
  refine ev_iload d_M_build_160 rfl ?_
  refine ev_bipush (v := 60) d_M_build_162 rfl ?_
  refine ev_icmp_eq (t := 181) d_M_build_164 (by decide) (fun c_164 => absurd c_164 (by grind)) (fun _ => ?_)
  refine ev_iload d_M_build_167 rfl ?_
  refine ev_bipush (v := 61) d_M_build_169 rfl ?_
  refine ev_icmp_eq (t := 181) d_M_build_171 (by decide) (fun c_171 => absurd c_171 (by grind)) (fun _ => ?_)
  refine ev_iload d_M_build_174 rfl ?_
  refine ev_bipush (v := 62) d_M_build_176 rfl ?_
  refine ev_icmp_ne (t := 196) d_M_build_178 (by decide) (fun _ => ?_) (fun c_178 => absurd c_178 (by grind))
  refine ev_iload d_M_build_196 rfl ?_
  refine ev_s1r d_M_build_198 q_8_124 rfl ⟨rfl, Nat.le_of_ble_eq_true rfl, Nat.le_of_ble_eq_true rfl⟩ (c_M_isDigit _) ?_
  refine ev_if_eq (t := 236) d_M_build_201 (by decide) (fun _ => ?_) (fun c_201 => absurd (xbi_f (by grind)) c_201)
  refine ev_iload d_M_build_236 rfl ?_
  refine ev_bipush (v := 124) d_M_build_238 rfl ?_
  refine ev_icmp_ne (t := 262) d_M_build_240 (by decide) (fun c_240 => absurd (by grind) c_240) (fun _ => ?_)
  refine ev_aload_n d_M_build_243 rfl ?_
  refine ev_iload_n d_M_build_244 rfl ?_
  refine ev_iconst (v := 1) d_M_build_245 rfl ?_
  refine ev_aload_n d_M_build_246 rfl ?_
  refine ev_get d_M_build_247 f_8_25 (mM_obj ok) rfl ?_
  refine ev_iload d_M_build_250 rfl ?_
  refine ev_iload_n d_M_build_252 rfl ?_
  refine ev_iadd d_M_build_253 ?_
  rw [hpa, nI_add]
  refine ev_iald d_M_build_254 (mM_arr ok 8 rfl) ⟨rfl, vp_in_nI (N := 1280) (by omega) (by decide)⟩ rfl ?_
  rw [nI_clamp (show 160 * c + p < 2 ^ 31 by omega)]
  refine ev_v3r d_M_build_255 q_8_127 rfl (mM_obj ok) ⟨rfl, Nat.le_of_ble_eq_true rfl, Nat.le_of_ble_eq_true rfl⟩ (c_M_node ok _ _ c n hc hn h6) ?_
  refine ev_istore_n (lo1 := [some (.ref (ad 0)), some (.int (nI c)), some (.int (nI n)), some (.int no), some (.int lf), some (.int (nI i)), some (.int s), some (.int (nI (160 * c))), o8]) d_M_build_258 (Nat.le_of_ble_eq_true rfl) rfl ?_
  refine ev_goto (t := 336) d_M_build_259 (by decide) ?_
  obtain ⟨x_4, ex_4⟩ : ∃ z : Int32, z = (nI i) + 1 := ⟨_, rfl⟩
  refine ev_iinc (v := x_4) (lo1 := [some (.ref (ad 0)), some (.int (nI c)), some (.int (nI n)), some (.int no), some (.int lf), some (.int x_4), some (.int s), some (.int (nI (160 * c))), o8]) d_M_build_336 rfl (by rw [ex_4]; rfl) rfl ?_
  refine ev_goto (t := 39) d_M_build_339 (by decide) ?_
  rw [show x_4 = nI (i + 1) from by rw [ex_4, nI_succ]]
  exact hend _ _ _
set_option maxRecDepth 20000 in
theorem b_cls {d : Nat} {B : xMm} {ad : Nat → Nat} {ix : Nat → Option Nat} {iv : Nat → Int32} {av : Nat → Nat → Int32} {ns : Nat × Nat} (ok : mOk ad ix) {X : xO × xS} (c pn i : Nat) (hc : c < 8) (hpn : pn ≤ 80) (hp : iv 1 = nI pn) (hi : i < pn) (pa no lf : Int32) (o6 o7 o8 : Option Value) (s : Int32) (hs : av 2 i = s) (h : s = 41) (p : Nat) (hp1 : p < 160) (hpa : pa = nI p) (q : Nat) (hq : q < 160) (h8 : av 8 (160 * c + p) = nI q) (r : Int32) (h8q : av 8 (160 * c + q) = r) (hend : ∀ (o6 o7 o8 : Option Value), xEv (d + 2) k_M_build 39 [some (.ref (ad 0)), some (.int (nI c)), some (.int r), some (.int no), some (.int lf), some (.int (nI (i + 1))), o6, o7, o8] [] (mM B ad ix iv (av), ns) X) : xEv (d + 2) k_M_build 39 [some (.ref (ad 0)), some (.int (nI c)), some (.int pa), some (.int no), some (.int lf), some (.int (nI i)), o6, o7, o8] [] (mM B ad ix iv av, ns) X := by
  have ec : (nI c).toNatClampNeg = c := nI_clamp (by omega)
  refine ev_iload d_M_build_39 rfl ?_
  refine ev_aload_n d_M_build_41 rfl ?_
  refine ev_get d_M_build_42 f_8_109 (mM_obj ok) rfl ?_
  refine ev_icmp_ge (t := 342) d_M_build_45 (by decide) (fun c_45 => absurd c_45 (by rw [hp]; exact nI_ge (by omega) (by omega))) (fun _ => ?_)
  refine ev_aload_n d_M_build_48 rfl ?_
  refine ev_get d_M_build_49 f_8_7 (mM_obj ok) rfl ?_
  refine ev_iload d_M_build_52 rfl ?_
  refine ev_iald d_M_build_54 (mM_arr ok 2 rfl) ⟨rfl, vp_in_nI (N := 80) (by omega) (by decide)⟩ rfl ?_
  rw [nI_clamp (show i < 2 ^ 31 by omega), hs]
  refine ev_istore (lo1 := [some (.ref (ad 0)), some (.int (nI c)), some (.int pa), some (.int no), some (.int lf), some (.int (nI i)), some (.int s), o7, o8]) d_M_build_55 (Nat.le_of_ble_eq_true rfl) rfl ?_
  refine ev_sipush (v := 160) d_M_build_57 rfl ?_
  refine ev_iload_n d_M_build_60 rfl ?_
  refine ev_imul d_M_build_61 ?_
  rw [show (160 : Int32) = nI 160 from rfl, pk_mul]
  refine ev_istore (lo1 := [some (.ref (ad 0)), some (.int (nI c)), some (.int pa), some (.int no), some (.int lf), some (.int (nI i)), some (.int s), some (.int (nI (160 * c))), o8]) d_M_build_62 (Nat.le_of_ble_eq_true rfl) rfl ?_
  refine ev_iload d_M_build_64 rfl ?_
  refine ev_bipush (v := 33) d_M_build_66 rfl ?_
  refine ev_icmp_ne (t := 77) d_M_build_68 (by decide) (fun _ => ?_) (fun c_68 => absurd c_68 (by grind))
  refine ev_iload d_M_build_77 rfl ?_
  refine ev_bipush (v := 40) d_M_build_79 rfl ?_
  refine ev_icmp_ne (t := 115) d_M_build_81 (by decide) (fun _ => ?_) (fun c_81 => absurd c_81 (by grind))
  refine ev_iload d_M_build_115 rfl ?_
  refine ev_s1r d_M_build_117 q_8_120 rfl ⟨rfl, Nat.le_of_ble_eq_true rfl, Nat.le_of_ble_eq_true rfl⟩ (c_M_isName _) ?_
  refine ev_if_eq (t := 160) d_M_build_120 (by decide) (fun _ => ?_) (fun c_120 => absurd (xbi_f (by grind)) c_120)
  refine ev_iload d_M_build_160 rfl ?_
  refine ev_bipush (v := 60) d_M_build_162 rfl ?_
  refine ev_icmp_eq (t := 181) d_M_build_164 (by decide) (fun c_164 => absurd c_164 (by grind)) (fun _ => ?_)
  refine ev_iload d_M_build_167 rfl ?_
  refine ev_bipush (v := 61) d_M_build_169 rfl ?_
  refine ev_icmp_eq (t := 181) d_M_build_171 (by decide) (fun c_171 => absurd c_171 (by grind)) (fun _ => ?_)
  refine ev_iload d_M_build_174 rfl ?_
  refine ev_bipush (v := 62) d_M_build_176 rfl ?_
  refine ev_icmp_ne (t := 196) d_M_build_178 (by decide) (fun _ => ?_) (fun c_178 => absurd c_178 (by grind))
  refine ev_iload d_M_build_196 rfl ?_
  refine ev_s1r d_M_build_198 q_8_124 rfl ⟨rfl, Nat.le_of_ble_eq_true rfl, Nat.le_of_ble_eq_true rfl⟩ (c_M_isDigit _) ?_
  refine ev_if_eq (t := 236) d_M_build_201 (by decide) (fun _ => ?_) (fun c_201 => absurd (xbi_f (by grind)) c_201)
  refine ev_iload d_M_build_236 rfl ?_
  refine ev_bipush (v := 124) d_M_build_238 rfl ?_
  refine ev_icmp_ne (t := 262) d_M_build_240 (by decide) (fun _ => ?_) (fun c_240 => absurd c_240 (by grind))
  refine ev_iload d_M_build_262 rfl ?_
  refine ev_bipush (v := 41) d_M_build_264 rfl ?_
  refine ev_icmp_ne (t := 290) d_M_build_266 (by decide) (fun c_266 => absurd (by grind) c_266) (fun _ => ?_)
  refine ev_aload_n d_M_build_269 rfl ?_
  refine ev_get d_M_build_270 f_8_25 (mM_obj ok) rfl ?_
  refine ev_iload d_M_build_273 rfl ?_
  refine ev_aload_n d_M_build_275 rfl ?_
  refine ev_get d_M_build_276 f_8_25 (mM_obj ok) rfl ?_
  refine ev_iload d_M_build_279 rfl ?_
  refine ev_iload_n d_M_build_281 rfl ?_
  refine ev_iadd d_M_build_282 ?_
  rw [hpa, nI_add]
  refine ev_iald d_M_build_283 (mM_arr ok 8 rfl) ⟨rfl, vp_in_nI (N := 1280) (by omega) (by decide)⟩ rfl ?_
  rw [nI_clamp (show 160 * c + p < 2 ^ 31 by omega), h8]
  refine ev_iadd d_M_build_284 ?_
  rw [nI_add]
  refine ev_iald d_M_build_285 (mM_arr ok 8 rfl) ⟨rfl, vp_in_nI (N := 1280) (by omega) (by decide)⟩ rfl ?_
  rw [nI_clamp (show 160 * c + q < 2 ^ 31 by omega), h8q]
  refine ev_istore_n (lo1 := [some (.ref (ad 0)), some (.int (nI c)), some (.int r), some (.int no), some (.int lf), some (.int (nI i)), some (.int s), some (.int (nI (160 * c))), o8]) d_M_build_286 (Nat.le_of_ble_eq_true rfl) rfl ?_
  refine ev_goto (t := 336) d_M_build_287 (by decide) ?_
  obtain ⟨x_4, ex_4⟩ : ∃ z : Int32, z = (nI i) + 1 := ⟨_, rfl⟩
  refine ev_iinc (v := x_4) (lo1 := [some (.ref (ad 0)), some (.int (nI c)), some (.int r), some (.int no), some (.int lf), some (.int x_4), some (.int s), some (.int (nI (160 * c))), o8]) d_M_build_336 rfl (by rw [ex_4]; rfl) rfl ?_
  refine ev_goto (t := 39) d_M_build_339 (by decide) ?_
  rw [show x_4 = nI (i + 1) from by rw [ex_4, nI_succ]]
  exact hend _ _ _
set_option maxRecDepth 20000 in
theorem b_amp {d : Nat} {B : xMm} {ad : Nat → Nat} {ix : Nat → Option Nat} {iv : Nat → Int32} {av : Nat → Nat → Int32} {ns : Nat × Nat} (ok : mOk ad ix) {X : xO × xS} (c pn i : Nat) (hc : c < 8) (hpn : pn ≤ 80) (hp : iv 1 = nI pn) (hi : i < pn) (pa no lf : Int32) (o6 o7 o8 : Option Value) (s : Int32) (hs : av 2 i = s) (h : s = 38) (hend : ∀ (o6 o7 o8 : Option Value), xEv (d + 2) k_M_build 39 [some (.ref (ad 0)), some (.int (nI c)), some (.int pa), some (.int no), some (.int lf), some (.int (nI (i + 1))), o6, o7, o8] [] (mM B ad ix iv (av), ns) X) : xEv (d + 2) k_M_build 39 [some (.ref (ad 0)), some (.int (nI c)), some (.int pa), some (.int no), some (.int lf), some (.int (nI i)), o6, o7, o8] [] (mM B ad ix iv av, ns) X := by
  have ec : (nI c).toNatClampNeg = c := nI_clamp (by omega)
  refine ev_iload d_M_build_39 rfl ?_
  refine ev_aload_n d_M_build_41 rfl ?_
  refine ev_get d_M_build_42 f_8_109 (mM_obj ok) rfl ?_
  refine ev_icmp_ge (t := 342) d_M_build_45 (by decide) (fun c_45 => absurd c_45 (by rw [hp]; exact nI_ge (by omega) (by omega))) (fun _ => ?_)
  refine ev_aload_n d_M_build_48 rfl ?_
  refine ev_get d_M_build_49 f_8_7 (mM_obj ok) rfl ?_
  refine ev_iload d_M_build_52 rfl ?_
  refine ev_iald d_M_build_54 (mM_arr ok 2 rfl) ⟨rfl, vp_in_nI (N := 80) (by omega) (by decide)⟩ rfl ?_
  rw [nI_clamp (show i < 2 ^ 31 by omega), hs]
  refine ev_istore (lo1 := [some (.ref (ad 0)), some (.int (nI c)), some (.int pa), some (.int no), some (.int lf), some (.int (nI i)), some (.int s), o7, o8]) d_M_build_55 (Nat.le_of_ble_eq_true rfl) rfl ?_
  refine ev_sipush (v := 160) d_M_build_57 rfl ?_
  refine ev_iload_n d_M_build_60 rfl ?_
  refine ev_imul d_M_build_61 ?_
  rw [show (160 : Int32) = nI 160 from rfl, pk_mul]
  refine ev_istore (lo1 := [some (.ref (ad 0)), some (.int (nI c)), some (.int pa), some (.int no), some (.int lf), some (.int (nI i)), some (.int s), some (.int (nI (160 * c))), o8]) d_M_build_62 (Nat.le_of_ble_eq_true rfl) rfl ?_
  refine ev_iload d_M_build_64 rfl ?_
  refine ev_bipush (v := 33) d_M_build_66 rfl ?_
  refine ev_icmp_ne (t := 77) d_M_build_68 (by decide) (fun _ => ?_) (fun c_68 => absurd c_68 (by grind))
  refine ev_iload d_M_build_77 rfl ?_
  refine ev_bipush (v := 40) d_M_build_79 rfl ?_
  refine ev_icmp_ne (t := 115) d_M_build_81 (by decide) (fun _ => ?_) (fun c_81 => absurd c_81 (by grind))
  refine ev_iload d_M_build_115 rfl ?_
  refine ev_s1r d_M_build_117 q_8_120 rfl ⟨rfl, Nat.le_of_ble_eq_true rfl, Nat.le_of_ble_eq_true rfl⟩ (c_M_isName _) ?_
  refine ev_if_eq (t := 160) d_M_build_120 (by decide) (fun _ => ?_) (fun c_120 => absurd (xbi_f (by grind)) c_120)
  refine ev_iload d_M_build_160 rfl ?_
  refine ev_bipush (v := 60) d_M_build_162 rfl ?_
  refine ev_icmp_eq (t := 181) d_M_build_164 (by decide) (fun c_164 => absurd c_164 (by grind)) (fun _ => ?_)
  refine ev_iload d_M_build_167 rfl ?_
  refine ev_bipush (v := 61) d_M_build_169 rfl ?_
  refine ev_icmp_eq (t := 181) d_M_build_171 (by decide) (fun c_171 => absurd c_171 (by grind)) (fun _ => ?_)
  refine ev_iload d_M_build_174 rfl ?_
  refine ev_bipush (v := 62) d_M_build_176 rfl ?_
  refine ev_icmp_ne (t := 196) d_M_build_178 (by decide) (fun _ => ?_) (fun c_178 => absurd c_178 (by grind))
  refine ev_iload d_M_build_196 rfl ?_
  refine ev_s1r d_M_build_198 q_8_124 rfl ⟨rfl, Nat.le_of_ble_eq_true rfl, Nat.le_of_ble_eq_true rfl⟩ (c_M_isDigit _) ?_
  refine ev_if_eq (t := 236) d_M_build_201 (by decide) (fun _ => ?_) (fun c_201 => absurd (xbi_f (by grind)) c_201)
  refine ev_iload d_M_build_236 rfl ?_
  refine ev_bipush (v := 124) d_M_build_238 rfl ?_
  refine ev_icmp_ne (t := 262) d_M_build_240 (by decide) (fun _ => ?_) (fun c_240 => absurd c_240 (by grind))
  refine ev_iload d_M_build_262 rfl ?_
  refine ev_bipush (v := 41) d_M_build_264 rfl ?_
  refine ev_icmp_ne (t := 290) d_M_build_266 (by decide) (fun _ => ?_) (fun c_266 => absurd c_266 (by grind))
  refine ev_iload d_M_build_290 rfl ?_
  refine ev_bipush (v := 59) d_M_build_292 rfl ?_
  refine ev_icmp_ne (t := 336) d_M_build_294 (by decide) (fun _ => ?_) (fun c_294 => absurd c_294 (by grind))
  obtain ⟨x_3, ex_3⟩ : ∃ z : Int32, z = (nI i) + 1 := ⟨_, rfl⟩
  refine ev_iinc (v := x_3) (lo1 := [some (.ref (ad 0)), some (.int (nI c)), some (.int pa), some (.int no), some (.int lf), some (.int x_3), some (.int s), some (.int (nI (160 * c))), o8]) d_M_build_336 rfl (by rw [ex_3]; rfl) rfl ?_
  refine ev_goto (t := 39) d_M_build_339 (by decide) ?_
  rw [show x_3 = nI (i + 1) from by rw [ex_3, nI_succ]]
  exact hend _ _ _
set_option maxRecDepth 20000 in
theorem b_end {d : Nat} {B : xMm} {ad : Nat → Nat} {ix : Nat → Option Nat} {iv : Nat → Int32} {av : Nat → Nat → Int32} {ns : Nat × Nat} (ok : mOk ad ix) {X : xO × xS} (c pn i : Nat) (hc : c < 8) (hpn : pn ≤ 80) (hp : iv 1 = nI pn) (hi : i < pn) (pa no lf : Int32) (o6 o7 o8 : Option Value) (s : Int32) (hs : av 2 i = s) (h : s = 59) (n : Nat) (hn : n + 1 < 160) (h6 : av 6 c = nI n) (mn : Nat) (hmn : mn < 6) (h4 : av 4 c = nI mn) (hend : ∀ (o6 o7 o8 : Option Value), xEv (d + 2) k_M_build 39 [some (.ref (ad 0)), some (.int (nI c)), some (.int (nI (n + 1))), some (.int no), some (.int lf), some (.int (nI (i + 1))), o6, o7, o8] [] (mM B ad ix iv (nod (nod (va_up (va_up av 5 (upd (av 5) (6 * c + mn) (nI n))) 4 (upd (av 4) c (nI (mn + 1)))) c n 2 (-1)) c (n + 1) 1 (nI n)), ns) X) : xEv (d + 2) k_M_build 39 [some (.ref (ad 0)), some (.int (nI c)), some (.int pa), some (.int no), some (.int lf), some (.int (nI i)), o6, o7, o8] [] (mM B ad ix iv av, ns) X := by
  have ec : (nI c).toNatClampNeg = c := nI_clamp (by omega)
  refine ev_iload d_M_build_39 rfl ?_
  refine ev_aload_n d_M_build_41 rfl ?_
  refine ev_get d_M_build_42 f_8_109 (mM_obj ok) rfl ?_
  refine ev_icmp_ge (t := 342) d_M_build_45 (by decide) (fun c_45 => absurd c_45 (by rw [hp]; exact nI_ge (by omega) (by omega))) (fun _ => ?_)
  refine ev_aload_n d_M_build_48 rfl ?_
  refine ev_get d_M_build_49 f_8_7 (mM_obj ok) rfl ?_
  refine ev_iload d_M_build_52 rfl ?_
  refine ev_iald d_M_build_54 (mM_arr ok 2 rfl) ⟨rfl, vp_in_nI (N := 80) (by omega) (by decide)⟩ rfl ?_
  rw [nI_clamp (show i < 2 ^ 31 by omega), hs]
  refine ev_istore (lo1 := [some (.ref (ad 0)), some (.int (nI c)), some (.int pa), some (.int no), some (.int lf), some (.int (nI i)), some (.int s), o7, o8]) d_M_build_55 (Nat.le_of_ble_eq_true rfl) rfl ?_
  refine ev_sipush (v := 160) d_M_build_57 rfl ?_
  refine ev_iload_n d_M_build_60 rfl ?_
  refine ev_imul d_M_build_61 ?_
  rw [show (160 : Int32) = nI 160 from rfl, pk_mul]
  refine ev_istore (lo1 := [some (.ref (ad 0)), some (.int (nI c)), some (.int pa), some (.int no), some (.int lf), some (.int (nI i)), some (.int s), some (.int (nI (160 * c))), o8]) d_M_build_62 (Nat.le_of_ble_eq_true rfl) rfl ?_
  refine ev_iload d_M_build_64 rfl ?_
  refine ev_bipush (v := 33) d_M_build_66 rfl ?_
  refine ev_icmp_ne (t := 77) d_M_build_68 (by decide) (fun _ => ?_) (fun c_68 => absurd c_68 (by grind))
  refine ev_iload d_M_build_77 rfl ?_
  refine ev_bipush (v := 40) d_M_build_79 rfl ?_
  refine ev_icmp_ne (t := 115) d_M_build_81 (by decide) (fun _ => ?_) (fun c_81 => absurd c_81 (by grind))
  refine ev_iload d_M_build_115 rfl ?_
  refine ev_s1r d_M_build_117 q_8_120 rfl ⟨rfl, Nat.le_of_ble_eq_true rfl, Nat.le_of_ble_eq_true rfl⟩ (c_M_isName _) ?_
  refine ev_if_eq (t := 160) d_M_build_120 (by decide) (fun _ => ?_) (fun c_120 => absurd (xbi_f (by grind)) c_120)
  refine ev_iload d_M_build_160 rfl ?_
  refine ev_bipush (v := 60) d_M_build_162 rfl ?_
  refine ev_icmp_eq (t := 181) d_M_build_164 (by decide) (fun c_164 => absurd c_164 (by grind)) (fun _ => ?_)
  refine ev_iload d_M_build_167 rfl ?_
  refine ev_bipush (v := 61) d_M_build_169 rfl ?_
  refine ev_icmp_eq (t := 181) d_M_build_171 (by decide) (fun c_171 => absurd c_171 (by grind)) (fun _ => ?_)
  refine ev_iload d_M_build_174 rfl ?_
  refine ev_bipush (v := 62) d_M_build_176 rfl ?_
  refine ev_icmp_ne (t := 196) d_M_build_178 (by decide) (fun _ => ?_) (fun c_178 => absurd c_178 (by grind))
  refine ev_iload d_M_build_196 rfl ?_
  refine ev_s1r d_M_build_198 q_8_124 rfl ⟨rfl, Nat.le_of_ble_eq_true rfl, Nat.le_of_ble_eq_true rfl⟩ (c_M_isDigit _) ?_
  refine ev_if_eq (t := 236) d_M_build_201 (by decide) (fun _ => ?_) (fun c_201 => absurd (xbi_f (by grind)) c_201)
  refine ev_iload d_M_build_236 rfl ?_
  refine ev_bipush (v := 124) d_M_build_238 rfl ?_
  refine ev_icmp_ne (t := 262) d_M_build_240 (by decide) (fun _ => ?_) (fun c_240 => absurd c_240 (by grind))
  refine ev_iload d_M_build_262 rfl ?_
  refine ev_bipush (v := 41) d_M_build_264 rfl ?_
  refine ev_icmp_ne (t := 290) d_M_build_266 (by decide) (fun _ => ?_) (fun c_266 => absurd c_266 (by grind))
  refine ev_iload d_M_build_290 rfl ?_
  refine ev_bipush (v := 59) d_M_build_292 rfl ?_
  refine ev_icmp_ne (t := 336) d_M_build_294 (by decide) (fun c_294 => absurd (by grind) c_294) (fun _ => ?_)
  refine ev_aload_n d_M_build_297 rfl ?_
  refine ev_get d_M_build_298 f_8_16 (mM_obj ok) rfl ?_
  refine ev_bipush (v := 6) d_M_build_301 rfl ?_
  refine ev_iload_n d_M_build_303 rfl ?_
  refine ev_imul d_M_build_304 ?_
  refine ev_aload_n d_M_build_305 rfl ?_
  refine ev_get d_M_build_306 f_8_13 (mM_obj ok) rfl ?_
  refine ev_iload_n d_M_build_309 rfl ?_
  refine ev_iald d_M_build_310 (mM_arr ok 4 rfl) ⟨rfl, vp_in_nI (N := 8) hc (by decide)⟩ rfl ?_
  rw [ec, h4]
  refine ev_iadd d_M_build_311 ?_
  rw [nI6]
  refine ev_aload_n d_M_build_312 rfl ?_
  refine ev_get d_M_build_313 f_8_19 (mM_obj ok) rfl ?_
  refine ev_iload_n d_M_build_316 rfl ?_
  refine ev_iald d_M_build_317 (mM_arr ok 6 rfl) ⟨rfl, vp_in_nI (N := 8) hc (by decide)⟩ rfl ?_
  rw [ec, h6]
  refine ev_iast d_M_build_318 (mM_arr ok 5 rfl) ⟨rfl, vp_in_nI (N := 48) (by omega) (by decide)⟩ (mM_ast ok 5 rfl) ?_
  rw [nI_clamp (show 6 * c + mn < 2 ^ 31 by omega)]
  refine ev_aload_n d_M_build_319 rfl ?_
  refine ev_get d_M_build_320 f_8_13 (mM_obj ok) rfl ?_
  refine ev_iload_n d_M_build_323 rfl ?_
  refine ev_dup2 d_M_build_324 ⟨rfl, rfl⟩ ?_
  refine ev_iald d_M_build_325 (mM_arr ok 4 rfl) ⟨rfl, vp_in_nI (N := 8) hc (by decide)⟩ rfl ?_
  rw [va_up_ne (k := 5) (j := 4) _ _ (by decide), ec, h4]
  refine ev_iconst (v := 1) d_M_build_326 rfl ?_
  refine ev_iadd d_M_build_327 ?_
  rw [← nI_succ]
  refine ev_iast d_M_build_328 (mM_arr ok 4 rfl) ⟨rfl, vp_in_nI (N := 8) hc (by decide)⟩ (mM_ast ok 4 rfl) ?_
  rw [va_up_ne (k := 5) (j := 4) _ _ (by decide), ec]
  refine ev_aload_n d_M_build_329 rfl ?_
  refine ev_iload_n d_M_build_330 rfl ?_
  refine ev_iconst (v := (-1)) d_M_build_331 rfl ?_
  refine ev_v2r d_M_build_332 q_8_131 rfl (mM_obj ok) ⟨rfl, Nat.le_of_ble_eq_true rfl, Nat.le_of_ble_eq_true rfl⟩ (c_M_begin ok _ c n hc hn (by rw [va_up_ne (k := 4) (j := 6) _ _ (by decide), va_up_ne (k := 5) (j := 6) _ _ (by decide)]; exact h6)) ?_
  refine ev_istore_n (lo1 := [some (.ref (ad 0)), some (.int (nI c)), some (.int (nI (n + 1))), some (.int no), some (.int lf), some (.int (nI i)), some (.int s), some (.int (nI (160 * c))), o8]) d_M_build_335 (Nat.le_of_ble_eq_true rfl) rfl ?_
  obtain ⟨x_4, ex_4⟩ : ∃ z : Int32, z = (nI i) + 1 := ⟨_, rfl⟩
  refine ev_iinc (v := x_4) (lo1 := [some (.ref (ad 0)), some (.int (nI c)), some (.int (nI (n + 1))), some (.int no), some (.int lf), some (.int x_4), some (.int s), some (.int (nI (160 * c))), o8]) d_M_build_336 rfl (by rw [ex_4]; rfl) rfl ?_
  refine ev_goto (t := 39) d_M_build_339 (by decide) ?_
  rw [show x_4 = nI (i + 1) from by rw [ex_4, nI_succ]]
  exact hend _ _ _
set_option maxRecDepth 20000 in
theorem b_fin {d : Nat} {B : xMm} {ad : Nat → Nat} {ix : Nat → Option Nat} {iv : Nat → Int32} {av : Nat → Nat → Int32} {ns : Nat × Nat} (ok : mOk ad ix) (c pn : Nat) (hpn : pn ≤ 80) (hp : iv 1 = nI pn) (pa no lf : Int32) (o6 o7 o8 : Option Value) : xEv (d + 2) k_M_build 39 [some (.ref (ad 0)), some (.int (nI c)), some (.int pa), some (.int no), some (.int lf), some (.int (nI pn)), o6, o7, o8] [] (mM B ad ix iv av, ns) (.inl none, (mM B ad ix iv av, ns)) := by
  refine ev_iload d_M_build_39 rfl ?_
  refine ev_aload_n d_M_build_41 rfl ?_
  refine ev_get d_M_build_42 f_8_109 (mM_obj ok) rfl ?_
  refine ev_icmp_ge (t := 342) d_M_build_45 (by decide) (fun _ => ?_) (fun c_45 => absurd (by rw [hp]; exact nI_le (by omega) (by omega)) c_45)
  exact ev_ret d_M_build_342 rfl
set_option maxRecDepth 20000 in
theorem b_beg {d : Nat} {B : xMm} {ad : Nat → Nat} {ix : Nat → Option Nat} {iv : Nat → Int32} {av : Nat → Nat → Int32} {ns : Nat × Nat} (ok : mOk ad ix) {X : xO × xS} (c : Nat) (hc : c < 8) (hend : xEv (d + 2) k_M_build 39 [some (.ref (ad 0)), some (.int (nI c)), some (.int (nI 1)), some (.int 0), some (.int (-1)), some (.int 0), none, none, none] [] (mM B ad ix iv (va_up (nod (nod (va_up (va_up av 6 (upd (av 6) c 0)) 4 (upd (av 4) c 1)) c 0 2 (-1)) c 1 1 (nI 0)) 5 (upd (av 5) (6 * c) 0)), ns) X) : xCl (d + 2) k_M_build [.ref (ad 0), .int (nI c)] (mM B ad ix iv av, ns) X := by
  have ec : (nI c).toNatClampNeg = c := nI_clamp (by omega)
  show xEv _ k_M_build 0 [some (.ref (ad 0)), some (.int (nI c)), none, none, none, none, none, none, none] [] _ _
  refine ev_aload_n d_M_build_0 rfl ?_
  refine ev_get d_M_build_1 f_8_19 (mM_obj ok) rfl ?_
  refine ev_iload_n d_M_build_4 rfl ?_
  refine ev_iconst (v := 0) d_M_build_5 rfl ?_
  refine ev_iast d_M_build_6 (mM_arr ok 6 rfl) ⟨rfl, vp_in_nI (N := 8) hc (by decide)⟩ (mM_ast ok 6 rfl) ?_
  rw [ec]
  refine ev_aload_n d_M_build_7 rfl ?_
  refine ev_get d_M_build_8 f_8_13 (mM_obj ok) rfl ?_
  refine ev_iload_n d_M_build_11 rfl ?_
  refine ev_iconst (v := 1) d_M_build_12 rfl ?_
  refine ev_iast d_M_build_13 (mM_arr ok 4 rfl) ⟨rfl, vp_in_nI (N := 8) hc (by decide)⟩ (mM_ast ok 4 rfl) ?_
  rw [ec, va_up_ne (k := 6) (j := 4) _ _ (by decide)]
  refine ev_aload_n d_M_build_14 rfl ?_
  refine ev_iload_n d_M_build_15 rfl ?_
  refine ev_iconst (v := (-1)) d_M_build_16 rfl ?_
  refine ev_v2r d_M_build_17 q_8_131 rfl (mM_obj ok) ⟨rfl, Nat.le_of_ble_eq_true rfl, Nat.le_of_ble_eq_true rfl⟩ (c_M_begin ok _ c 0 hc (by decide) (by rw [va_up_ne (k := 4) (j := 6) _ _ (by decide), va_up_self]; simp [upd]; rfl)) ?_
  refine ev_istore_n (lo1 := [some (.ref (ad 0)), some (.int (nI c)), some (.int (nI 1)), none, none, none, none, none, none]) d_M_build_20 (Nat.le_of_ble_eq_true rfl) rfl ?_
  refine ev_aload_n d_M_build_21 rfl ?_
  refine ev_get d_M_build_22 f_8_16 (mM_obj ok) rfl ?_
  refine ev_bipush (v := 6) d_M_build_25 rfl ?_
  refine ev_iload_n d_M_build_27 rfl ?_
  refine ev_imul d_M_build_28 ?_
  rw [show (6 : Int32) = nI 6 from rfl, pk_mul]
  refine ev_iconst (v := 0) d_M_build_29 rfl ?_
  refine ev_iast d_M_build_30 (mM_arr ok 5 rfl) ⟨rfl, vp_in_nI (N := 48) (by omega) (by decide)⟩ (mM_ast ok 5 rfl) ?_
  rw [nI_clamp (show 6 * c < 2 ^ 31 by omega), nod_ne (k := 5) (by omega), nod_ne (k := 5) (by omega), va_up_ne (k := 4) (j := 5) _ _ (by decide), va_up_ne (k := 6) (j := 5) _ _ (by decide)]
  refine ev_iconst (v := 0) d_M_build_31 rfl ?_
  refine ev_istore_n (lo1 := [some (.ref (ad 0)), some (.int (nI c)), some (.int (nI 1)), some (.int 0), none, none, none, none, none]) d_M_build_32 (Nat.le_of_ble_eq_true rfl) rfl ?_
  refine ev_iconst (v := (-1)) d_M_build_33 rfl ?_
  refine ev_istore (lo1 := [some (.ref (ad 0)), some (.int (nI c)), some (.int (nI 1)), some (.int 0), some (.int (-1)), none, none, none, none]) d_M_build_34 (Nat.le_of_ble_eq_true rfl) rfl ?_
  refine ev_iconst (v := 0) d_M_build_36 rfl ?_
  refine ev_istore (lo1 := [some (.ref (ad 0)), some (.int (nI c)), some (.int (nI 1)), some (.int 0), some (.int (-1)), some (.int 0), none, none, none]) d_M_build_37 (Nat.le_of_ble_eq_true rfl) rfl ?_
  exact hend
set_option maxRecDepth 20000 in
theorem c_M_read_no {d : Nat} {B : xMm} {ad : Nat → Nat} {ix : Nat → Option Nat} {iv : Nat → Int32} {av : Nat → Nat → Int32} {ns : Nat × Nat} (ok : mOk ad ix) (h : ¬ iv 3 < 8) : xCl (d + 3) k_M_read [.ref (ad 0)] (mM B ad ix iv av, ns) (.inl (some (.int 0)), (mM B ad ix (upd iv 0 1) (av), ns)) := by
  show xEv _ k_M_read 0 [some (.ref (ad 0)), none] [] _ _
  refine ev_aload_n d_M_read_0 rfl ?_
  refine ev_cutv (E := 15) (V := xbi (iv 3 < 8)) ?_ (fun hk_1 => ?_)
  · refine ev_iconst (v := 1) d_M_read_15 rfl ?_
    refine ev_iconst (v := 1) d_M_read_16 rfl ?_
    refine ev_v3r d_M_read_17 q_8_116 rfl (mM_obj ok) ⟨rfl, Nat.le_of_ble_eq_true rfl, Nat.le_of_ble_eq_true rfl⟩ (c_M_goes ok _ _ _) ?_
    refine ev_if_ne (t := 25) d_M_read_20 (by decide) (fun c_20 => absurd (xbi_f (by rw [xbi_f h]; decide)) c_20) (fun _ => ?_)
    refine ev_iconst (v := 0) d_M_read_23 rfl ?_
    exact xEv.to (ev_iret d_M_read_24 rfl) (by grind [upd, va_up, xbi, mgo])
  · refine ev_aload_n d_M_read_1 rfl ?_
    refine ev_get d_M_read_2 f_8_135 (mM_obj ok) rfl ?_
    refine ev_bipush (v := 8) d_M_read_5 rfl ?_
    refine ev_icmp_ge (t := 14) d_M_read_7 (by decide) (fun c_7_2 => ?_) (fun c_7_2 => ?_)
    · refine ev_iconst (v := 0) d_M_read_14 rfl ?_
      exact hk_1 _ (by rw [xbi_f (by grind)])
    · refine ev_iconst (v := 1) d_M_read_10 rfl ?_
      refine ev_goto (t := 15) d_M_read_11 (by decide) ?_
      exact hk_1 _ (by rw [xbi_t (by grind)])
set_option maxRecDepth 20000 in
theorem c_M_read_bad {d : Nat} {B : xMm} {ad : Nat → Nat} {ix : Nat → Option Nat} {iv : Nat → Int32} {av : Nat → Nat → Int32} {ns : Nat × Nat} (ok : mOk ad ix) (pn : Nat) (hpn : pn ≤ 80) (hp : iv 1 = nI pn) (h : iv 3 < 8) (hf : ¬ mFa av pn pn 0 (0, 0, 0, 1, 0) = -1) : xCl (d + 3) k_M_read [.ref (ad 0)] (mM B ad ix iv av, ns) (.inl (some (.int (-1 - mFa av pn pn 0 (0, 0, 0, 1, 0)))), (mM B ad ix (upd (upd iv 0 0) 1 0) (av), ns)) := by
  show xEv _ k_M_read 0 [some (.ref (ad 0)), none] [] _ _
  refine ev_aload_n d_M_read_0 rfl ?_
  refine ev_cutv (E := 15) (V := xbi (iv 3 < 8)) ?_ (fun hk_1 => ?_)
  · refine ev_iconst (v := 1) d_M_read_15 rfl ?_
    refine ev_iconst (v := 1) d_M_read_16 rfl ?_
    refine ev_v3r d_M_read_17 q_8_116 rfl (mM_obj ok) ⟨rfl, Nat.le_of_ble_eq_true rfl, Nat.le_of_ble_eq_true rfl⟩ (c_M_goes ok _ _ _) ?_
    refine ev_if_ne (t := 25) d_M_read_20 (by decide) (fun _ => ?_) (fun c_20 => absurd c_20 (by rw [xbi_t (by rw [xbi_t h]; rfl)]; decide))
    refine ev_aload_n d_M_read_25 rfl ?_
    rw [show mgo (xbi (iv 3 < 8)) 1 1 = 0 from by rw [xbi_t h]; rfl]
    refine ev_v0r d_M_read_26 q_8_138 rfl (mM_obj ok) ⟨rfl, Nat.le_of_ble_eq_true rfl, Nat.le_of_ble_eq_true rfl⟩ (c_M_fault ok pn hpn (by simp [upd, hp])) ?_
    refine ev_top (fun x_2 ex_2 => ?_)
    refine ev_istore_n (lo1 := [some (.ref (ad 0)), some (.int x_2)]) d_M_read_29 (Nat.le_of_ble_eq_true rfl) rfl ?_
    refine ev_iload_n d_M_read_30 rfl ?_
    refine ev_iconst (v := (-1)) d_M_read_31 rfl ?_
    refine ev_icmp_ne (t := 53) d_M_read_32 (by decide) (fun _ => ?_) (fun c_32 => absurd (by grind) hf)
    refine ev_aload_n d_M_read_53 rfl ?_
    refine ev_iconst (v := 0) d_M_read_54 rfl ?_
    refine ev_put d_M_read_55 f_8_109 (mM_obj ok) ⟨Nat.le_of_ble_eq_true rfl, xfit_i rfl, Or.inl rfl⟩ (mM_put ok rfl) ?_
    refine ev_iload_n d_M_read_58 rfl ?_
    refine ev_iconst (v := (-1)) d_M_read_59 rfl ?_
    refine ev_icmp_ne (t := 72) d_M_read_60 (by decide) (fun _ => ?_) (fun c_60 => absurd (by grind) hf)
    refine ev_iconst (v := (-1)) d_M_read_72 rfl ?_
    refine ev_iload_n d_M_read_73 rfl ?_
    refine ev_isub d_M_read_74 ?_
    exact xEv.to (ev_iret d_M_read_75 rfl) (by grind)
  · refine ev_aload_n d_M_read_1 rfl ?_
    refine ev_get d_M_read_2 f_8_135 (mM_obj ok) rfl ?_
    refine ev_bipush (v := 8) d_M_read_5 rfl ?_
    refine ev_icmp_ge (t := 14) d_M_read_7 (by decide) (fun c_7_3 => ?_) (fun c_7_3 => ?_)
    · refine ev_iconst (v := 0) d_M_read_14 rfl ?_
      exact hk_1 _ (by rw [xbi_f (by grind)])
    · refine ev_iconst (v := 1) d_M_read_10 rfl ?_
      refine ev_goto (t := 15) d_M_read_11 (by decide) ?_
      exact hk_1 _ (by rw [xbi_t (by grind)])
set_option maxRecDepth 20000 in
theorem c_M_read_ok {d : Nat} {B : xMm} {ad : Nat → Nat} {ix : Nat → Option Nat} {iv : Nat → Int32} {av : Nat → Nat → Int32} {ns : Nat × Nat} (ok : mOk ad ix) (pn cn : Nat) (hpn : pn ≤ 80) (hp : iv 1 = nI pn) (hc : cn < 8) (hcn : iv 3 = nI cn) (hf : mFa av pn pn 0 (0, 0, 0, 1, 0) = -1) (av' : Nat → Nat → Int32) (hb : xCl (d + 2) k_M_build [.ref (ad 0), .int (nI cn)] (mM B ad ix (upd iv 0 0) av, ns) (.inl none, (mM B ad ix (upd iv 0 0) av', ns))) : xCl (d + 3) k_M_read [.ref (ad 0)] (mM B ad ix iv av, ns) (.inl (some (.int (nI cn))), (mM B ad ix (upd (upd (upd iv 0 0) 3 (nI (cn + 1))) 1 0) (av'), ns)) := by
  have h : iv 3 < 8 := by rw [hcn]; exact nI_lt hc (by decide)
  have es : nI (cn + 1) = nI cn + 1 := nI_succ cn
  have ep : nI cn + 1 - 1 = nI cn := by rw [← es]; exact nI_pred cn
  show xEv _ k_M_read 0 [some (.ref (ad 0)), none] [] _ _
  refine ev_aload_n d_M_read_0 rfl ?_
  refine ev_cutv (E := 15) (V := xbi (iv 3 < 8)) ?_ (fun hk_1 => ?_)
  · refine ev_iconst (v := 1) d_M_read_15 rfl ?_
    refine ev_iconst (v := 1) d_M_read_16 rfl ?_
    refine ev_v3r d_M_read_17 q_8_116 rfl (mM_obj ok) ⟨rfl, Nat.le_of_ble_eq_true rfl, Nat.le_of_ble_eq_true rfl⟩ (c_M_goes ok _ _ _) ?_
    refine ev_if_ne (t := 25) d_M_read_20 (by decide) (fun _ => ?_) (fun c_20 => absurd c_20 (by rw [xbi_t (by rw [xbi_t h]; rfl)]; decide))
    refine ev_aload_n d_M_read_25 rfl ?_
    rw [show mgo (xbi (iv 3 < 8)) 1 1 = 0 from by rw [xbi_t h]; rfl]
    refine ev_v0r d_M_read_26 q_8_138 rfl (mM_obj ok) ⟨rfl, Nat.le_of_ble_eq_true rfl, Nat.le_of_ble_eq_true rfl⟩ (c_M_fault ok pn hpn (by simp [upd, hp])) ?_
    refine ev_top (fun x_2 ex_2 => ?_)
    refine ev_istore_n (lo1 := [some (.ref (ad 0)), some (.int x_2)]) d_M_read_29 (Nat.le_of_ble_eq_true rfl) rfl ?_
    refine ev_iload_n d_M_read_30 rfl ?_
    refine ev_iconst (v := (-1)) d_M_read_31 rfl ?_
    refine ev_icmp_ne (t := 53) d_M_read_32 (by decide) (fun c_32 => absurd (by grind) c_32) (fun _ => ?_)
    refine ev_aload_n d_M_read_35 rfl ?_
    refine ev_aload_n d_M_read_36 rfl ?_
    refine ev_get d_M_read_37 f_8_135 (mM_obj ok) rfl ?_
    rw [show upd iv 0 0 3 = nI cn from by simp [upd, hcn]]
    refine ev_v1o d_M_read_40 q_8_142 rfl (mM_obj ok) ⟨rfl, Nat.le_of_ble_eq_true rfl, Nat.le_of_ble_eq_true rfl⟩ hb ?_
    refine ev_aload_n d_M_read_43 rfl ?_
    refine ev_dup d_M_read_44 rfl ?_
    refine ev_get d_M_read_45 f_8_135 (mM_obj ok) rfl ?_
    refine ev_iconst (v := 1) d_M_read_48 rfl ?_
    refine ev_iadd d_M_read_49 ?_
    refine ev_put d_M_read_50 f_8_135 (mM_obj ok) ⟨Nat.le_of_ble_eq_true rfl, xfit_i rfl, Or.inl rfl⟩ (mM_put ok rfl) ?_
    refine ev_aload_n d_M_read_53 rfl ?_
    refine ev_iconst (v := 0) d_M_read_54 rfl ?_
    refine ev_put d_M_read_55 f_8_109 (mM_obj ok) ⟨Nat.le_of_ble_eq_true rfl, xfit_i rfl, Or.inl rfl⟩ (mM_put ok rfl) ?_
    refine ev_iload_n d_M_read_58 rfl ?_
    refine ev_iconst (v := (-1)) d_M_read_59 rfl ?_
    refine ev_icmp_ne (t := 72) d_M_read_60 (by decide) (fun c_60 => absurd (by grind) c_60) (fun _ => ?_)
    refine ev_aload_n d_M_read_63 rfl ?_
    refine ev_get d_M_read_64 f_8_135 (mM_obj ok) rfl ?_
    refine ev_iconst (v := 1) d_M_read_67 rfl ?_
    refine ev_isub d_M_read_68 ?_
    refine ev_goto (t := 75) d_M_read_69 (by decide) ?_
    exact xEv.to (ev_iret d_M_read_75 rfl) (by clear hb hf; simp [upd, hcn, es, ep])
  · refine ev_aload_n d_M_read_1 rfl ?_
    refine ev_get d_M_read_2 f_8_135 (mM_obj ok) rfl ?_
    refine ev_bipush (v := 8) d_M_read_5 rfl ?_
    refine ev_icmp_ge (t := 14) d_M_read_7 (by decide) (fun c_7_3 => ?_) (fun c_7_3 => ?_)
    · refine ev_iconst (v := 0) d_M_read_14 rfl ?_
      exact hk_1 _ (by rw [xbi_f (by grind)])
    · refine ev_iconst (v := 1) d_M_read_10 rfl ?_
      refine ev_goto (t := 15) d_M_read_11 (by decide) ?_
      exact hk_1 _ (by rw [xbi_t (by grind)])
