/-! the reference: pairs that clash -/
/-- the k-th hit of P among i, i + 1, .. (n of them ahead) -/
def fk (P : Nat → Bool) (k : Int32) : Nat → Nat → Int32 → Option Nat × Int32
  | 0, _, n => (none, n)
  | m + 1, i, n => if P i then (if n = k then (some i, n) else fk P k m (i + 1) (n + 1)) else fk P k m (i + 1) n
def clk (P : Nat → Nat → Bool) (k : Int32) (e : Nat → Nat) : Nat → Nat → Int32 → Option (Nat × Nat)
  | 0, _, _ => none
  | m + 1, r, n => match fk (P r) k (e r) (r + 1) n with
    | (some q, _) => some (r, q)
    | (none, n1) => clk P k e m (r + 1) n1
def ovr (av : Nat → Nat → Int32) (r : Nat) (t f u : Int32) : Bool := decide (t = av 34 r ∧ f ≤ av 36 r ∧ av 35 r ≤ u)
def mPair (av : Nat → Nat → Int32) (rq ln r q : Nat) : Bool := if q < rq then ovr av r (av 34 q) (av 35 q) (av 36 q) else if 100 ≤ q ∧ q < 100 + ln then ovr av r (av 25 (q - 100)) (av 26 (q - 100)) (av 27 (q - 100)) else false
set_option maxRecDepth 20000 in
theorem c_M_isPair_r {d : Nat} {B : xMm} {ad : Nat → Nat} {ix : Nat → Option Nat} {iv : Nat → Int32} {av : Nat → Nat → Int32} {ns : Nat × Nat} (ok : mOk ad ix) (r q rq ln : Nat) (hr : r < 30) (hq : q < 120) (hrq : rq ≤ 30) (hln : ln ≤ 20) (h33 : iv 33 = nI rq) (h23 : iv 23 = nI ln) (hc : q < rq) : xCl d k_M_isPair [.ref (ad 0), .int (nI r), .int (nI q)] (mM B ad ix iv av, ns) (.inl (some (.int (xb (mPair av rq ln r q)))), (mM B ad ix iv av, ns)) := by
  have er : (nI r).toNatClampNeg = r := nI_clamp (by omega)
  have eq : (nI q).toNatClampNeg = q := nI_clamp (by omega)
  have hP : mPair av rq ln r q = ovr av r (av 34 q) (av 35 q) (av 36 q) := if_pos hc
  show xEv _ k_M_isPair 0 [some (.ref (ad 0)), some (.int (nI r)), some (.int (nI q)), none, none, none, none, none, none] [] _ _
  refine ev_iload_n d_M_isPair_0 rfl ?_
  refine ev_aload_n d_M_isPair_1 rfl ?_
  refine ev_get d_M_isPair_2 f_8_196 (mM_obj ok) rfl ?_
  refine ev_icmp_ge (t := 12) d_M_isPair_5 (by decide) (fun c_5 => absurd c_5 (by rw [h33]; exact nI_ge hc (by omega))) (fun _ => ?_)
  refine ev_iconst (v := 1) d_M_isPair_8 rfl ?_
  refine ev_goto (t := 13) d_M_isPair_9 (by decide) ?_
  refine ev_istore_n (lo1 := [some (.ref (ad 0)), some (.int (nI r)), some (.int (nI q)), some (.int 1), none, none, none, none, none]) d_M_isPair_13 (Nat.le_of_ble_eq_true rfl) rfl ?_
  refine ev_iload_n d_M_isPair_14 rfl ?_
  refine ev_if_ne (t := 35) d_M_isPair_15 (by decide) (fun _ => ?_) (fun c_15 => absurd c_15 (by decide))
  refine ev_iconst (v := 1) d_M_isPair_35 rfl ?_
  refine ev_goto (t := 40) d_M_isPair_36 (by decide) ?_
  refine ev_istore (lo1 := [some (.ref (ad 0)), some (.int (nI r)), some (.int (nI q)), some (.int 1), some (.int 1), none, none, none, none]) d_M_isPair_40 (Nat.le_of_ble_eq_true rfl) rfl ?_
  refine ev_iload d_M_isPair_42 rfl ?_
  refine ev_if_ne (t := 51) d_M_isPair_44 (by decide) (fun _ => ?_) (fun c_44 => absurd c_44 (by decide))
  refine ev_iload_n d_M_isPair_51 rfl ?_
  refine ev_if_eq (t := 59) d_M_isPair_52 (by decide) (fun c_52 => absurd c_52 (by decide)) (fun _ => ?_)
  refine ev_iload_n d_M_isPair_55 rfl ?_
  refine ev_goto (t := 63) d_M_isPair_56 (by decide) ?_
  refine ev_istore (lo1 := [some (.ref (ad 0)), some (.int (nI r)), some (.int (nI q)), some (.int 1), some (.int 1), some (.int (nI q)), none, none, none]) d_M_isPair_63 (Nat.le_of_ble_eq_true rfl) rfl ?_
  refine ev_iload_n d_M_isPair_65 rfl ?_
  refine ev_if_eq (t := 79) d_M_isPair_66 (by decide) (fun c_66 => absurd c_66 (by decide)) (fun _ => ?_)
  refine ev_aload_n d_M_isPair_69 rfl ?_
  refine ev_get d_M_isPair_70 f_8_92 (mM_obj ok) rfl ?_
  refine ev_iload d_M_isPair_73 rfl ?_
  refine ev_iald d_M_isPair_75 (mM_arr ok 34 rfl) ⟨rfl, vp_in_nI (N := 30) (by omega) (by decide)⟩ rfl ?_
  refine ev_goto (t := 86) d_M_isPair_76 (by decide) ?_
  refine ev_top (fun x_1 ex_1 => ?_)
  refine ev_istore (lo1 := [some (.ref (ad 0)), some (.int (nI r)), some (.int (nI q)), some (.int 1), some (.int 1), some (.int (nI q)), some (.int x_1), none, none]) d_M_isPair_86 (Nat.le_of_ble_eq_true rfl) rfl ?_
  refine ev_iload_n d_M_isPair_88 rfl ?_
  refine ev_if_eq (t := 102) d_M_isPair_89 (by decide) (fun c_89 => absurd c_89 (by decide)) (fun _ => ?_)
  refine ev_aload_n d_M_isPair_92 rfl ?_
  refine ev_get d_M_isPair_93 f_8_95 (mM_obj ok) rfl ?_
  refine ev_iload d_M_isPair_96 rfl ?_
  refine ev_iald d_M_isPair_98 (mM_arr ok 35 rfl) ⟨rfl, vp_in_nI (N := 30) (by omega) (by decide)⟩ rfl ?_
  refine ev_goto (t := 109) d_M_isPair_99 (by decide) ?_
  refine ev_top (fun x_2 ex_2 => ?_)
  refine ev_istore (lo1 := [some (.ref (ad 0)), some (.int (nI r)), some (.int (nI q)), some (.int 1), some (.int 1), some (.int (nI q)), some (.int x_1), some (.int x_2), none]) d_M_isPair_109 (Nat.le_of_ble_eq_true rfl) rfl ?_
  refine ev_iload_n d_M_isPair_111 rfl ?_
  refine ev_if_eq (t := 125) d_M_isPair_112 (by decide) (fun c_112 => absurd c_112 (by decide)) (fun _ => ?_)
  refine ev_aload_n d_M_isPair_115 rfl ?_
  refine ev_get d_M_isPair_116 f_8_98 (mM_obj ok) rfl ?_
  refine ev_iload d_M_isPair_119 rfl ?_
  refine ev_iald d_M_isPair_121 (mM_arr ok 36 rfl) ⟨rfl, vp_in_nI (N := 30) (by omega) (by decide)⟩ rfl ?_
  refine ev_goto (t := 132) d_M_isPair_122 (by decide) ?_
  refine ev_top (fun x_3 ex_3 => ?_)
  refine ev_istore (lo1 := [some (.ref (ad 0)), some (.int (nI r)), some (.int (nI q)), some (.int 1), some (.int 1), some (.int (nI q)), some (.int x_1), some (.int x_2), some (.int x_3)]) d_M_isPair_132 (Nat.le_of_ble_eq_true rfl) rfl ?_
  refine ev_iload d_M_isPair_134 rfl ?_
  refine ev_if_eq (t := 176) d_M_isPair_136 (by decide) (fun c_136 => absurd c_136 (by decide)) (fun _ => ?_)
  refine ev_iload d_M_isPair_139 rfl ?_
  refine ev_aload_n d_M_isPair_141 rfl ?_
  refine ev_get d_M_isPair_142 f_8_92 (mM_obj ok) rfl ?_
  refine ev_iload_n d_M_isPair_145 rfl ?_
  refine ev_iald d_M_isPair_146 (mM_arr ok 34 rfl) ⟨rfl, vp_in_nI (N := 30) hr (by decide)⟩ rfl ?_
  refine ev_icmp_ne (t := 176) d_M_isPair_147 (by decide) (fun c_147_4 => ?_) (fun c_147_4 => ?_)
  · refine ev_iconst (v := 0) d_M_isPair_176 rfl ?_
    exact xEv.to (ev_zret d_M_isPair_177 rfl (Or.inl rfl)) (by rw [xb_f (by rw [hP]; simp only [ovr, decide_eq_true_eq, decide_eq_false_iff_not]; grind)])
  · refine ev_iload d_M_isPair_150 rfl ?_
    refine ev_aload_n d_M_isPair_152 rfl ?_
    refine ev_get d_M_isPair_153 f_8_98 (mM_obj ok) rfl ?_
    refine ev_iload_n d_M_isPair_156 rfl ?_
    refine ev_iald d_M_isPair_157 (mM_arr ok 36 rfl) ⟨rfl, vp_in_nI (N := 30) hr (by decide)⟩ rfl ?_
    refine ev_icmp_gt (t := 176) d_M_isPair_158 (by decide) (fun c_158_5 => ?_) (fun c_158_5 => ?_)
    · refine ev_iconst (v := 0) d_M_isPair_176 rfl ?_
      exact xEv.to (ev_zret d_M_isPair_177 rfl (Or.inl rfl)) (by rw [xb_f (by rw [hP]; simp only [ovr, decide_eq_true_eq, decide_eq_false_iff_not]; grind)])
    · refine ev_aload_n d_M_isPair_161 rfl ?_
      refine ev_get d_M_isPair_162 f_8_95 (mM_obj ok) rfl ?_
      refine ev_iload_n d_M_isPair_165 rfl ?_
      refine ev_iald d_M_isPair_166 (mM_arr ok 35 rfl) ⟨rfl, vp_in_nI (N := 30) hr (by decide)⟩ rfl ?_
      refine ev_iload d_M_isPair_167 rfl ?_
      refine ev_icmp_gt (t := 176) d_M_isPair_169 (by decide) (fun c_169_6 => ?_) (fun c_169_6 => ?_)
      · refine ev_iconst (v := 0) d_M_isPair_176 rfl ?_
        exact xEv.to (ev_zret d_M_isPair_177 rfl (Or.inl rfl)) (by rw [xb_f (by rw [hP]; simp only [ovr, decide_eq_true_eq, decide_eq_false_iff_not]; grind)])
      · refine ev_iconst (v := 1) d_M_isPair_172 rfl ?_
        refine ev_goto (t := 177) d_M_isPair_173 (by decide) ?_
        exact xEv.to (ev_zret d_M_isPair_177 rfl (Or.inr rfl)) (by rw [xb_t (by rw [hP]; simp only [ovr, decide_eq_true_eq, decide_eq_false_iff_not]; grind)])
set_option maxRecDepth 20000 in
theorem c_M_isPair_l {d : Nat} {B : xMm} {ad : Nat → Nat} {ix : Nat → Option Nat} {iv : Nat → Int32} {av : Nat → Nat → Int32} {ns : Nat × Nat} (ok : mOk ad ix) (r q rq ln : Nat) (hr : r < 30) (hq : q < 120) (hrq : rq ≤ 30) (hln : ln ≤ 20) (h33 : iv 33 = nI rq) (h23 : iv 23 = nI ln) (hc1 : ¬ q < rq) (hc2 : 100 ≤ q ∧ q < 100 + ln) : xCl d k_M_isPair [.ref (ad 0), .int (nI r), .int (nI q)] (mM B ad ix iv av, ns) (.inl (some (.int (xb (mPair av rq ln r q)))), (mM B ad ix iv av, ns)) := by
  have er : (nI r).toNatClampNeg = r := nI_clamp (by omega)
  have eq : (nI q).toNatClampNeg = q := nI_clamp (by omega)
  have ek : (nI (q - 100)).toNatClampNeg = q - 100 := nI_clamp (by omega)
  have hP : mPair av rq ln r q = ovr av r (av 25 (q - 100)) (av 26 (q - 100)) (av 27 (q - 100)) := by rw [mPair, if_neg hc1, if_pos hc2]
  show xEv _ k_M_isPair 0 [some (.ref (ad 0)), some (.int (nI r)), some (.int (nI q)), none, none, none, none, none, none] [] _ _
  refine ev_iload_n d_M_isPair_0 rfl ?_
  refine ev_aload_n d_M_isPair_1 rfl ?_
  refine ev_get d_M_isPair_2 f_8_196 (mM_obj ok) rfl ?_
  refine ev_icmp_ge (t := 12) d_M_isPair_5 (by decide) (fun _ => ?_) (fun c_5 => absurd (by rw [h33]; exact nI_le (by omega) (by omega)) c_5)
  refine ev_iconst (v := 0) d_M_isPair_12 rfl ?_
  refine ev_istore_n (lo1 := [some (.ref (ad 0)), some (.int (nI r)), some (.int (nI q)), some (.int 0), none, none, none, none, none]) d_M_isPair_13 (Nat.le_of_ble_eq_true rfl) rfl ?_
  refine ev_iload_n d_M_isPair_14 rfl ?_
  refine ev_if_ne (t := 35) d_M_isPair_15 (by decide) (fun c_15 => absurd rfl c_15) (fun _ => ?_)
  refine ev_iload_n d_M_isPair_18 rfl ?_
  refine ev_bipush (v := 100) d_M_isPair_19 rfl ?_
  refine ev_icmp_lt (t := 39) d_M_isPair_21 (by decide) (fun c_21 => absurd c_21 (nI_nlt (b := 100) (by omega) (by omega))) (fun _ => ?_)
  refine ev_iload_n d_M_isPair_24 rfl ?_
  refine ev_bipush (v := 100) d_M_isPair_25 rfl ?_
  refine ev_aload_n d_M_isPair_27 rfl ?_
  refine ev_get d_M_isPair_28 f_8_105 (mM_obj ok) rfl ?_
  refine ev_iadd d_M_isPair_31 ?_
  rw [h23, show (100 : Int32) = nI 100 from rfl, nI_add]
  refine ev_icmp_ge (t := 39) d_M_isPair_32 (by decide) (fun c_32 => absurd c_32 (nI_ge (by omega) (by omega))) (fun _ => ?_)
  refine ev_iconst (v := 1) d_M_isPair_35 rfl ?_
  refine ev_goto (t := 40) d_M_isPair_36 (by decide) ?_
  refine ev_istore (lo1 := [some (.ref (ad 0)), some (.int (nI r)), some (.int (nI q)), some (.int 0), some (.int 1), none, none, none, none]) d_M_isPair_40 (Nat.le_of_ble_eq_true rfl) rfl ?_
  refine ev_iload d_M_isPair_42 rfl ?_
  refine ev_if_ne (t := 51) d_M_isPair_44 (by decide) (fun _ => ?_) (fun c_44 => absurd c_44 (by decide))
  refine ev_iload_n d_M_isPair_51 rfl ?_
  refine ev_if_eq (t := 59) d_M_isPair_52 (by decide) (fun _ => ?_) (fun c_52 => absurd rfl c_52)
  refine ev_iload_n d_M_isPair_59 rfl ?_
  refine ev_bipush (v := 100) d_M_isPair_60 rfl ?_
  refine ev_isub d_M_isPair_62 ?_
  rw [show (100 : Int32) = nI 100 from rfl, pk_sub hc2.1]
  refine ev_istore (lo1 := [some (.ref (ad 0)), some (.int (nI r)), some (.int (nI q)), some (.int 0), some (.int 1), some (.int (nI (q - 100))), none, none, none]) d_M_isPair_63 (Nat.le_of_ble_eq_true rfl) rfl ?_
  refine ev_iload_n d_M_isPair_65 rfl ?_
  refine ev_if_eq (t := 79) d_M_isPair_66 (by decide) (fun _ => ?_) (fun c_66 => absurd rfl c_66)
  refine ev_aload_n d_M_isPair_79 rfl ?_
  refine ev_get d_M_isPair_80 f_8_67 (mM_obj ok) rfl ?_
  refine ev_iload d_M_isPair_83 rfl ?_
  refine ev_iald d_M_isPair_85 (mM_arr ok 25 rfl) ⟨rfl, vp_in_nI (N := 20) (by omega) (by decide)⟩ rfl ?_
  rw [ek]
  refine ev_top (fun x_1 ex_1 => ?_)
  refine ev_istore (lo1 := [some (.ref (ad 0)), some (.int (nI r)), some (.int (nI q)), some (.int 0), some (.int 1), some (.int (nI (q - 100))), some (.int x_1), none, none]) d_M_isPair_86 (Nat.le_of_ble_eq_true rfl) rfl ?_
  refine ev_iload_n d_M_isPair_88 rfl ?_
  refine ev_if_eq (t := 102) d_M_isPair_89 (by decide) (fun _ => ?_) (fun c_89 => absurd rfl c_89)
  refine ev_aload_n d_M_isPair_102 rfl ?_
  refine ev_get d_M_isPair_103 f_8_70 (mM_obj ok) rfl ?_
  refine ev_iload d_M_isPair_106 rfl ?_
  refine ev_iald d_M_isPair_108 (mM_arr ok 26 rfl) ⟨rfl, vp_in_nI (N := 20) (by omega) (by decide)⟩ rfl ?_
  rw [ek]
  refine ev_top (fun x_2 ex_2 => ?_)
  refine ev_istore (lo1 := [some (.ref (ad 0)), some (.int (nI r)), some (.int (nI q)), some (.int 0), some (.int 1), some (.int (nI (q - 100))), some (.int x_1), some (.int x_2), none]) d_M_isPair_109 (Nat.le_of_ble_eq_true rfl) rfl ?_
  refine ev_iload_n d_M_isPair_111 rfl ?_
  refine ev_if_eq (t := 125) d_M_isPair_112 (by decide) (fun _ => ?_) (fun c_112 => absurd rfl c_112)
  refine ev_aload_n d_M_isPair_125 rfl ?_
  refine ev_get d_M_isPair_126 f_8_73 (mM_obj ok) rfl ?_
  refine ev_iload d_M_isPair_129 rfl ?_
  refine ev_iald d_M_isPair_131 (mM_arr ok 27 rfl) ⟨rfl, vp_in_nI (N := 20) (by omega) (by decide)⟩ rfl ?_
  rw [ek]
  refine ev_top (fun x_3 ex_3 => ?_)
  refine ev_istore (lo1 := [some (.ref (ad 0)), some (.int (nI r)), some (.int (nI q)), some (.int 0), some (.int 1), some (.int (nI (q - 100))), some (.int x_1), some (.int x_2), some (.int x_3)]) d_M_isPair_132 (Nat.le_of_ble_eq_true rfl) rfl ?_
  refine ev_iload d_M_isPair_134 rfl ?_
  refine ev_if_eq (t := 176) d_M_isPair_136 (by decide) (fun c_136 => absurd c_136 (by decide)) (fun _ => ?_)
  refine ev_iload d_M_isPair_139 rfl ?_
  refine ev_aload_n d_M_isPair_141 rfl ?_
  refine ev_get d_M_isPair_142 f_8_92 (mM_obj ok) rfl ?_
  refine ev_iload_n d_M_isPair_145 rfl ?_
  refine ev_iald d_M_isPair_146 (mM_arr ok 34 rfl) ⟨rfl, vp_in_nI (N := 30) hr (by decide)⟩ rfl ?_
  refine ev_icmp_ne (t := 176) d_M_isPair_147 (by decide) (fun c_147_4 => ?_) (fun c_147_4 => ?_)
  · refine ev_iconst (v := 0) d_M_isPair_176 rfl ?_
    exact xEv.to (ev_zret d_M_isPair_177 rfl (Or.inl rfl)) (by rw [xb_f (by rw [hP]; simp only [ovr, decide_eq_true_eq, decide_eq_false_iff_not]; grind)])
  · refine ev_iload d_M_isPair_150 rfl ?_
    refine ev_aload_n d_M_isPair_152 rfl ?_
    refine ev_get d_M_isPair_153 f_8_98 (mM_obj ok) rfl ?_
    refine ev_iload_n d_M_isPair_156 rfl ?_
    refine ev_iald d_M_isPair_157 (mM_arr ok 36 rfl) ⟨rfl, vp_in_nI (N := 30) hr (by decide)⟩ rfl ?_
    refine ev_icmp_gt (t := 176) d_M_isPair_158 (by decide) (fun c_158_5 => ?_) (fun c_158_5 => ?_)
    · refine ev_iconst (v := 0) d_M_isPair_176 rfl ?_
      exact xEv.to (ev_zret d_M_isPair_177 rfl (Or.inl rfl)) (by rw [xb_f (by rw [hP]; simp only [ovr, decide_eq_true_eq, decide_eq_false_iff_not]; grind)])
    · refine ev_aload_n d_M_isPair_161 rfl ?_
      refine ev_get d_M_isPair_162 f_8_95 (mM_obj ok) rfl ?_
      refine ev_iload_n d_M_isPair_165 rfl ?_
      refine ev_iald d_M_isPair_166 (mM_arr ok 35 rfl) ⟨rfl, vp_in_nI (N := 30) hr (by decide)⟩ rfl ?_
      refine ev_iload d_M_isPair_167 rfl ?_
      refine ev_icmp_gt (t := 176) d_M_isPair_169 (by decide) (fun c_169_6 => ?_) (fun c_169_6 => ?_)
      · refine ev_iconst (v := 0) d_M_isPair_176 rfl ?_
        exact xEv.to (ev_zret d_M_isPair_177 rfl (Or.inl rfl)) (by rw [xb_f (by rw [hP]; simp only [ovr, decide_eq_true_eq, decide_eq_false_iff_not]; grind)])
      · refine ev_iconst (v := 1) d_M_isPair_172 rfl ?_
        refine ev_goto (t := 177) d_M_isPair_173 (by decide) ?_
        exact xEv.to (ev_zret d_M_isPair_177 rfl (Or.inr rfl)) (by rw [xb_t (by rw [hP]; simp only [ovr, decide_eq_true_eq, decide_eq_false_iff_not]; grind)])
set_option maxRecDepth 20000 in
theorem c_M_isPair_n {d : Nat} {B : xMm} {ad : Nat → Nat} {ix : Nat → Option Nat} {iv : Nat → Int32} {av : Nat → Nat → Int32} {ns : Nat × Nat} (ok : mOk ad ix) (r q rq ln : Nat) (hr : r < 30) (hq : q < 120) (hrq : rq ≤ 30) (hln : ln ≤ 20) (h33 : iv 33 = nI rq) (h23 : iv 23 = nI ln) (hc1 : ¬ q < rq) (hc2 : ¬ (100 ≤ q ∧ q < 100 + ln)) : xCl d k_M_isPair [.ref (ad 0), .int (nI r), .int (nI q)] (mM B ad ix iv av, ns) (.inl (some (.int (xb (mPair av rq ln r q)))), (mM B ad ix iv av, ns)) := by
  have er : (nI r).toNatClampNeg = r := nI_clamp (by omega)
  have eq : (nI q).toNatClampNeg = q := nI_clamp (by omega)
  have hP : mPair av rq ln r q = false := by rw [mPair, if_neg hc1, if_neg hc2]
  show xEv _ k_M_isPair 0 [some (.ref (ad 0)), some (.int (nI r)), some (.int (nI q)), none, none, none, none, none, none] [] _ _
  refine ev_iload_n d_M_isPair_0 rfl ?_
  refine ev_aload_n d_M_isPair_1 rfl ?_
  refine ev_get d_M_isPair_2 f_8_196 (mM_obj ok) rfl ?_
  refine ev_icmp_ge (t := 12) d_M_isPair_5 (by decide) (fun _ => ?_) (fun c_5 => absurd (by rw [h33]; exact nI_le (by omega) (by omega)) c_5)
  refine ev_iconst (v := 0) d_M_isPair_12 rfl ?_
  refine ev_istore_n (lo1 := [some (.ref (ad 0)), some (.int (nI r)), some (.int (nI q)), some (.int 0), none, none, none, none, none]) d_M_isPair_13 (Nat.le_of_ble_eq_true rfl) rfl ?_
  refine ev_iload_n d_M_isPair_14 rfl ?_
  refine ev_if_ne (t := 35) d_M_isPair_15 (by decide) (fun c_15 => absurd rfl c_15) (fun _ => ?_)
  refine ev_iload_n d_M_isPair_18 rfl ?_
  refine ev_bipush (v := 100) d_M_isPair_19 rfl ?_
  refine ev_icmp_lt (t := 39) d_M_isPair_21 (by decide) (fun c_21_1 => ?_) (fun c_21_1 => ?_)
  · refine ev_iconst (v := 0) d_M_isPair_39 rfl ?_
    refine ev_istore (lo1 := [some (.ref (ad 0)), some (.int (nI r)), some (.int (nI q)), some (.int 0), some (.int 0), none, none, none, none]) d_M_isPair_40 (Nat.le_of_ble_eq_true rfl) rfl ?_
    refine ev_iload d_M_isPair_42 rfl ?_
    refine ev_if_ne (t := 51) d_M_isPair_44 (by decide) (fun c_44 => absurd rfl c_44) (fun _ => ?_)
    refine ev_iconst (v := 0) d_M_isPair_47 rfl ?_
    refine ev_goto (t := 63) d_M_isPair_48 (by decide) ?_
    refine ev_istore (lo1 := [some (.ref (ad 0)), some (.int (nI r)), some (.int (nI q)), some (.int 0), some (.int 0), some (.int 0), none, none, none]) d_M_isPair_63 (Nat.le_of_ble_eq_true rfl) rfl ?_
    refine ev_iload_n d_M_isPair_65 rfl ?_
    refine ev_if_eq (t := 79) d_M_isPair_66 (by decide) (fun _ => ?_) (fun c_66 => absurd rfl c_66)
    refine ev_aload_n d_M_isPair_79 rfl ?_
    refine ev_get d_M_isPair_80 f_8_67 (mM_obj ok) rfl ?_
    refine ev_iload d_M_isPair_83 rfl ?_
    refine ev_iald d_M_isPair_85 (mM_arr ok 25 rfl) ⟨rfl, vp_in_nI (n := 0) (N := 20) (by decide) (by decide)⟩ rfl ?_
    refine ev_top (fun x_2 ex_2 => ?_)
    refine ev_istore (lo1 := [some (.ref (ad 0)), some (.int (nI r)), some (.int (nI q)), some (.int 0), some (.int 0), some (.int 0), some (.int x_2), none, none]) d_M_isPair_86 (Nat.le_of_ble_eq_true rfl) rfl ?_
    refine ev_iload_n d_M_isPair_88 rfl ?_
    refine ev_if_eq (t := 102) d_M_isPair_89 (by decide) (fun _ => ?_) (fun c_89 => absurd rfl c_89)
    refine ev_aload_n d_M_isPair_102 rfl ?_
    refine ev_get d_M_isPair_103 f_8_70 (mM_obj ok) rfl ?_
    refine ev_iload d_M_isPair_106 rfl ?_
    refine ev_iald d_M_isPair_108 (mM_arr ok 26 rfl) ⟨rfl, vp_in_nI (n := 0) (N := 20) (by decide) (by decide)⟩ rfl ?_
    refine ev_top (fun x_3 ex_3 => ?_)
    refine ev_istore (lo1 := [some (.ref (ad 0)), some (.int (nI r)), some (.int (nI q)), some (.int 0), some (.int 0), some (.int 0), some (.int x_2), some (.int x_3), none]) d_M_isPair_109 (Nat.le_of_ble_eq_true rfl) rfl ?_
    refine ev_iload_n d_M_isPair_111 rfl ?_
    refine ev_if_eq (t := 125) d_M_isPair_112 (by decide) (fun _ => ?_) (fun c_112 => absurd rfl c_112)
    refine ev_aload_n d_M_isPair_125 rfl ?_
    refine ev_get d_M_isPair_126 f_8_73 (mM_obj ok) rfl ?_
    refine ev_iload d_M_isPair_129 rfl ?_
    refine ev_iald d_M_isPair_131 (mM_arr ok 27 rfl) ⟨rfl, vp_in_nI (n := 0) (N := 20) (by decide) (by decide)⟩ rfl ?_
    refine ev_top (fun x_4 ex_4 => ?_)
    refine ev_istore (lo1 := [some (.ref (ad 0)), some (.int (nI r)), some (.int (nI q)), some (.int 0), some (.int 0), some (.int 0), some (.int x_2), some (.int x_3), some (.int x_4)]) d_M_isPair_132 (Nat.le_of_ble_eq_true rfl) rfl ?_
    refine ev_iload d_M_isPair_134 rfl ?_
    refine ev_if_eq (t := 176) d_M_isPair_136 (by decide) (fun _ => ?_) (fun c_136 => absurd rfl c_136)
    refine ev_iconst (v := 0) d_M_isPair_176 rfl ?_
    exact xEv.to (ev_zret d_M_isPair_177 rfl (Or.inl rfl)) (by rw [xb_f hP])
  · refine ev_iload_n d_M_isPair_24 rfl ?_
    refine ev_bipush (v := 100) d_M_isPair_25 rfl ?_
    refine ev_aload_n d_M_isPair_27 rfl ?_
    refine ev_get d_M_isPair_28 f_8_105 (mM_obj ok) rfl ?_
    refine ev_iadd d_M_isPair_31 ?_
    rw [h23, show (100 : Int32) = nI 100 from rfl, nI_add]
    refine ev_icmp_ge (t := 39) d_M_isPair_32 (by decide) (fun _ => ?_) (fun c_32 => absurd (nI_le (by have := nI_ltI (a := q) (b := 100) (by omega) (by decide); have h9 : ¬ q < 100 := fun e => absurd (this.mpr e) (by assumption); omega) (by omega)) c_32)
    refine ev_iconst (v := 0) d_M_isPair_39 rfl ?_
    refine ev_istore (lo1 := [some (.ref (ad 0)), some (.int (nI r)), some (.int (nI q)), some (.int 0), some (.int 0), none, none, none, none]) d_M_isPair_40 (Nat.le_of_ble_eq_true rfl) rfl ?_
    refine ev_iload d_M_isPair_42 rfl ?_
    refine ev_if_ne (t := 51) d_M_isPair_44 (by decide) (fun c_44 => absurd rfl c_44) (fun _ => ?_)
    refine ev_iconst (v := 0) d_M_isPair_47 rfl ?_
    refine ev_goto (t := 63) d_M_isPair_48 (by decide) ?_
    refine ev_istore (lo1 := [some (.ref (ad 0)), some (.int (nI r)), some (.int (nI q)), some (.int 0), some (.int 0), some (.int 0), none, none, none]) d_M_isPair_63 (Nat.le_of_ble_eq_true rfl) rfl ?_
    refine ev_iload_n d_M_isPair_65 rfl ?_
    refine ev_if_eq (t := 79) d_M_isPair_66 (by decide) (fun _ => ?_) (fun c_66 => absurd rfl c_66)
    refine ev_aload_n d_M_isPair_79 rfl ?_
    refine ev_get d_M_isPair_80 f_8_67 (mM_obj ok) rfl ?_
    refine ev_iload d_M_isPair_83 rfl ?_
    refine ev_iald d_M_isPair_85 (mM_arr ok 25 rfl) ⟨rfl, vp_in_nI (n := 0) (N := 20) (by decide) (by decide)⟩ rfl ?_
    refine ev_top (fun x_5 ex_5 => ?_)
    refine ev_istore (lo1 := [some (.ref (ad 0)), some (.int (nI r)), some (.int (nI q)), some (.int 0), some (.int 0), some (.int 0), some (.int x_5), none, none]) d_M_isPair_86 (Nat.le_of_ble_eq_true rfl) rfl ?_
    refine ev_iload_n d_M_isPair_88 rfl ?_
    refine ev_if_eq (t := 102) d_M_isPair_89 (by decide) (fun _ => ?_) (fun c_89 => absurd rfl c_89)
    refine ev_aload_n d_M_isPair_102 rfl ?_
    refine ev_get d_M_isPair_103 f_8_70 (mM_obj ok) rfl ?_
    refine ev_iload d_M_isPair_106 rfl ?_
    refine ev_iald d_M_isPair_108 (mM_arr ok 26 rfl) ⟨rfl, vp_in_nI (n := 0) (N := 20) (by decide) (by decide)⟩ rfl ?_
    refine ev_top (fun x_6 ex_6 => ?_)
    refine ev_istore (lo1 := [some (.ref (ad 0)), some (.int (nI r)), some (.int (nI q)), some (.int 0), some (.int 0), some (.int 0), some (.int x_5), some (.int x_6), none]) d_M_isPair_109 (Nat.le_of_ble_eq_true rfl) rfl ?_
    refine ev_iload_n d_M_isPair_111 rfl ?_
    refine ev_if_eq (t := 125) d_M_isPair_112 (by decide) (fun _ => ?_) (fun c_112 => absurd rfl c_112)
    refine ev_aload_n d_M_isPair_125 rfl ?_
    refine ev_get d_M_isPair_126 f_8_73 (mM_obj ok) rfl ?_
    refine ev_iload d_M_isPair_129 rfl ?_
    refine ev_iald d_M_isPair_131 (mM_arr ok 27 rfl) ⟨rfl, vp_in_nI (n := 0) (N := 20) (by decide) (by decide)⟩ rfl ?_
    refine ev_top (fun x_7 ex_7 => ?_)
    refine ev_istore (lo1 := [some (.ref (ad 0)), some (.int (nI r)), some (.int (nI q)), some (.int 0), some (.int 0), some (.int 0), some (.int x_5), some (.int x_6), some (.int x_7)]) d_M_isPair_132 (Nat.le_of_ble_eq_true rfl) rfl ?_
    refine ev_iload d_M_isPair_134 rfl ?_
    refine ev_if_eq (t := 176) d_M_isPair_136 (by decide) (fun _ => ?_) (fun c_136 => absurd rfl c_136)
    refine ev_iconst (v := 0) d_M_isPair_176 rfl ?_
    exact xEv.to (ev_zret d_M_isPair_177 rfl (Or.inl rfl)) (by rw [xb_f hP])
theorem c_M_isPair {d : Nat} {B : xMm} {ad : Nat → Nat} {ix : Nat → Option Nat} {iv : Nat → Int32} {av : Nat → Nat → Int32} {ns : Nat × Nat} (ok : mOk ad ix) (r q rq ln : Nat) (hr : r < 30) (hq : q < 120) (hrq : rq ≤ 30) (hln : ln ≤ 20) (h33 : iv 33 = nI rq) (h23 : iv 23 = nI ln) : xCl d k_M_isPair [.ref (ad 0), .int (nI r), .int (nI q)] (mM B ad ix iv av, ns) (.inl (some (.int (xb (mPair av rq ln r q)))), (mM B ad ix iv av, ns)) := by
  by_cases hc : q < rq
  · exact c_M_isPair_r ok r q rq ln hr hq hrq hln h33 h23 hc
  · by_cases hc2 : 100 ≤ q ∧ q < 100 + ln
    · exact c_M_isPair_l ok r q rq ln hr hq hrq hln h33 h23 hc hc2
    · exact c_M_isPair_n ok r q rq ln hr hq hrq hln h33 h23 hc hc2
set_option maxRecDepth 20000 in
theorem l_M_clash1 {d : Nat} {B : xMm} {ad : Nat → Nat} {ix : Nat → Option Nat} {iv : Nat → Int32} {av : Nat → Nat → Int32} {ns : Nat × Nat} (ok : mOk ad ix) {X : xO × xS} (k w : Int32) (rq ln : Nat) (hrq : rq ≤ 30) (hln : ln ≤ 20) (h33 : iv 33 = nI rq) (h23 : iv 23 = nI ln) (r : Nat) (hr : r < 30) : ∀ (m q : Nat) (n : Int32), q + m = 120 → (∀ a b, fk (mPair av rq ln r) k m q n = (some a, b) → (.inl (some (.int (if w = 0 then nI r else nI a))), (mM B ad ix iv av, ns)) = X) → (∀ n1 (x : Int32), fk (mPair av rq ln r) k m q n = (none, n1) → xEv (d + 1) k_M_clash 93 [some (.ref (ad 0)), some (.int k), some (.int w), some (.int n1), some (.int (nI r)), some (.int x)] [] (mM B ad ix iv av, ns) X) → xEv (d + 1) k_M_clash 49 [some (.ref (ad 0)), some (.int k), some (.int w), some (.int n), some (.int (nI r)), some (.int (nI q))] [] (mM B ad ix iv av, ns) X := by
  intro m
  induction m with
  | zero =>
    intro q n hq hfnd hend
    refine ev_iload d_M_clash_49 rfl ?_
    refine ev_bipush (v := 120) d_M_clash_51 rfl ?_
    refine ev_icmp_ge (t := 93) d_M_clash_53 (by decide) (fun _ => ?_) (fun c_53 => absurd (nI_le (a := 120) (b := q) (by omega) (by omega)) c_53)
    exact hend _ _ (by rw [fk])
  | succ m ih =>
    intro q n hq hfnd hend
    refine ev_iload d_M_clash_49 rfl ?_
    refine ev_bipush (v := 120) d_M_clash_51 rfl ?_
    refine ev_icmp_ge (t := 93) d_M_clash_53 (by decide) (fun c_53 => absurd c_53 (nI_ge (a := q) (b := 120) (by omega) (by decide))) (fun _ => ?_)
    refine ev_aload_n d_M_clash_56 rfl ?_
    refine ev_iload d_M_clash_57 rfl ?_
    refine ev_iload d_M_clash_59 rfl ?_
    refine ev_v2r d_M_clash_61 q_8_199 rfl (mM_obj ok) ⟨rfl, Nat.le_of_ble_eq_true rfl, Nat.le_of_ble_eq_true rfl⟩ (c_M_isPair ok r q rq ln hr (by omega) hrq hln h33 h23) ?_
    refine ev_if_eq (t := 87) d_M_clash_64 (by decide) (fun c_64_1 => ?_) (fun c_64_1 => ?_)
    · obtain ⟨x_2, ex_2⟩ : ∃ z : Int32, z = (nI q) + 1 := ⟨_, rfl⟩
      refine ev_iinc (v := x_2) (lo1 := [some (.ref (ad 0)), some (.int k), some (.int w), some (.int n), some (.int (nI r)), some (.int x_2)]) d_M_clash_87 rfl (by rw [ex_2]; rfl) rfl ?_
      refine ev_goto (t := 49) d_M_clash_90 (by decide) ?_
      rw [show x_2 = nI (q + 1) from by rw [ex_2, nI_succ]]
      exact ih (q + 1) n (by omega) (fun a b hh => hfnd a b (by rw [fk]; grind [xb])) (fun a b hh => hend a b (by rw [fk]; grind [xb]))
    · refine ev_iload_n d_M_clash_67 rfl ?_
      refine ev_iload_n d_M_clash_68 rfl ?_
      refine ev_icmp_ne (t := 84) d_M_clash_69 (by decide) (fun c_69_3 => ?_) (fun c_69_3 => ?_)
      · obtain ⟨x_4, ex_4⟩ : ∃ z : Int32, z = n + 1 := ⟨_, rfl⟩
        refine ev_iinc (v := x_4) (lo1 := [some (.ref (ad 0)), some (.int k), some (.int w), some (.int x_4), some (.int (nI r)), some (.int (nI q))]) d_M_clash_84 rfl (by rw [ex_4]; rfl) rfl ?_
        obtain ⟨x_5, ex_5⟩ : ∃ z : Int32, z = (nI q) + 1 := ⟨_, rfl⟩
        refine ev_iinc (v := x_5) (lo1 := [some (.ref (ad 0)), some (.int k), some (.int w), some (.int x_4), some (.int (nI r)), some (.int x_5)]) d_M_clash_87 rfl (by rw [ex_5]; rfl) rfl ?_
        refine ev_goto (t := 49) d_M_clash_90 (by decide) ?_
        rw [show x_5 = nI (q + 1) from by rw [ex_5, nI_succ]]
        exact ih (q + 1) x_4 (by omega) (fun a b hh => hfnd a b (by rw [fk]; grind [xb])) (fun a b hh => hend a b (by rw [fk]; grind [xb]))
      · refine ev_iload_n d_M_clash_72 rfl ?_
        refine ev_if_ne (t := 81) d_M_clash_73 (by decide) (fun c_73_6 => ?_) (fun c_73_6 => ?_)
        · refine ev_iload d_M_clash_81 rfl ?_
          have h9 := hfnd q n (by rw [fk]; grind [xb])
          exact xEv.to (ev_iret d_M_clash_83 rfl) (by rw [← h9]; grind)
        · refine ev_iload d_M_clash_76 rfl ?_
          refine ev_goto (t := 83) d_M_clash_78 (by decide) ?_
          have h9 := hfnd q n (by rw [fk]; grind [xb])
          exact xEv.to (ev_iret d_M_clash_83 rfl) (by rw [← h9]; grind)
def clR (w : Int32) (o : Option (Nat × Nat)) : Int32 := match o with | some (a, b) => if w = 0 then nI a else nI b | none => -1
set_option maxRecDepth 20000 in
theorem l_M_clash2 {d : Nat} {B : xMm} {ad : Nat → Nat} {ix : Nat → Option Nat} {iv : Nat → Int32} {av : Nat → Nat → Int32} {ns : Nat × Nat} (ok : mOk ad ix) (k w : Int32) (rq ln : Nat) (hrq : rq ≤ 30) (hln : ln ≤ 20) (h33 : iv 33 = nI rq) (h23 : iv 23 = nI ln)  : ∀ (m r : Nat) (n : Int32) (o5 : Option Value), r + m = rq → xEv (d + 1) k_M_clash 34 [some (.ref (ad 0)), some (.int k), some (.int w), some (.int n), some (.int (nI r)), o5] [] (mM B ad ix iv av, ns) (.inl (some (.int (clR w (clk (mPair av rq ln) k (fun r => 119 - r) m r n)))), (mM B ad ix iv av, ns)) := by
  intro m
  induction m with
  | zero =>
    intro r n o5 hr
    refine ev_iload d_M_clash_34 rfl ?_
    refine ev_aload_n d_M_clash_36 rfl ?_
    refine ev_get d_M_clash_37 f_8_196 (mM_obj ok) rfl ?_
    refine ev_icmp_ge (t := 99) d_M_clash_40 (by decide) (fun _ => ?_) (fun c_40 => absurd (by rw [h33]; exact nI_le (by omega) (by omega)) c_40)
    refine ev_iconst (v := (-1)) d_M_clash_99 rfl ?_
    exact xEv.to (ev_iret d_M_clash_100 rfl) rfl
  | succ m ih =>
    intro r n o5 hr
    refine ev_iload d_M_clash_34 rfl ?_
    refine ev_aload_n d_M_clash_36 rfl ?_
    refine ev_get d_M_clash_37 f_8_196 (mM_obj ok) rfl ?_
    refine ev_icmp_ge (t := 99) d_M_clash_40 (by decide) (fun c_40 => absurd c_40 (by rw [h33]; exact nI_ge (by omega) (by omega))) (fun _ => ?_)
    refine ev_iload d_M_clash_43 rfl ?_
    refine ev_iconst (v := 1) d_M_clash_45 rfl ?_
    refine ev_iadd d_M_clash_46 ?_
    refine ev_top (fun x_1 ex_1 => ?_)
    refine ev_istore (lo1 := [some (.ref (ad 0)), some (.int k), some (.int w), some (.int n), some (.int (nI r)), some (.int x_1)]) d_M_clash_47 (Nat.le_of_ble_eq_true rfl) rfl ?_
    rw [show x_1 = nI (r + 1) from by rw [ex_1, nI_succ]]
    refine l_M_clash1 ok k w rq ln hrq hln h33 h23 r (by omega) (119 - r) (r + 1) n (by omega) (fun a b hh => by simp only [clk, hh, clR]) (fun n1 x hh => ?_)
    obtain ⟨x_1, ex_1⟩ : ∃ z : Int32, z = (nI r) + 1 := ⟨_, rfl⟩
    refine ev_iinc (v := x_1) (lo1 := [some (.ref (ad 0)), some (.int k), some (.int w), some (.int n1), some (.int x_1), some (.int x)]) d_M_clash_93 rfl (by rw [ex_1]; rfl) rfl ?_
    refine ev_goto (t := 34) d_M_clash_96 (by decide) ?_
    rw [show x_1 = nI (r + 1) from by rw [ex_1, nI_succ]]
    exact xEv.to (ih (r + 1) n1 _ (by omega)) (by simp only [clk, hh])
set_option maxRecDepth 20000 in
theorem c_M_clash_no {d : Nat} {B : xMm} {ad : Nat → Nat} {ix : Nat → Option Nat} {iv : Nat → Int32} {av : Nat → Nat → Int32} {ns : Nat × Nat} (ok : mOk ad ix) (k w : Int32) (h : ¬ (0 ≤ k ∧ (w = 0 ∨ w = 1))) : xCl (d + 1) k_M_clash [.ref (ad 0), .int k, .int w] (mM B ad ix iv av, ns) (.inl (some (.int 0)), (mM B ad ix (upd iv 0 1) (av), ns)) := by
  show xEv _ k_M_clash 0 [some (.ref (ad 0)), some (.int k), some (.int w), none, none, none] [] _ _
  refine ev_aload_n d_M_clash_0 rfl ?_
  refine ev_cutv (E := 19) (V := 0) ?_ (fun hk_1 => ?_)
  · refine ev_iconst (v := 1) d_M_clash_19 rfl ?_
    refine ev_iconst (v := 1) d_M_clash_20 rfl ?_
    refine ev_v3r d_M_clash_21 q_8_116 rfl (mM_obj ok) ⟨rfl, Nat.le_of_ble_eq_true rfl, Nat.le_of_ble_eq_true rfl⟩ (c_M_goes ok _ _ _) ?_
    refine ev_if_ne (t := 29) d_M_clash_24 (by decide) (fun c_24 => absurd (by decide) c_24) (fun _ => ?_)
    refine ev_iconst (v := 0) d_M_clash_27 rfl ?_
    exact xEv.to (ev_iret d_M_clash_28 rfl) (by grind [upd, va_up, xbi, mgo])
  · refine ev_iload_n d_M_clash_1 rfl ?_
    refine ev_if_lt (t := 18) d_M_clash_2 (by decide) (fun c_2_2 => ?_) (fun c_2_2 => ?_)
    · refine ev_iconst (v := 0) d_M_clash_18 rfl ?_
      exact hk_1 _ (by grind)
    · refine ev_iload_n d_M_clash_5 rfl ?_
      refine ev_if_eq (t := 14) d_M_clash_6 (by decide) (fun c_6_3 => ?_) (fun c_6_3 => ?_)
      · refine ev_iconst (v := 1) d_M_clash_14 rfl ?_
        refine ev_goto (t := 19) d_M_clash_15 (by decide) ?_
        exact hk_1 _ (by grind)
      · refine ev_iload_n d_M_clash_9 rfl ?_
        refine ev_iconst (v := 1) d_M_clash_10 rfl ?_
        refine ev_icmp_ne (t := 18) d_M_clash_11 (by decide) (fun c_11_4 => ?_) (fun c_11_4 => ?_)
        · refine ev_iconst (v := 0) d_M_clash_18 rfl ?_
          exact hk_1 _ (by grind)
        · refine ev_iconst (v := 1) d_M_clash_14 rfl ?_
          refine ev_goto (t := 19) d_M_clash_15 (by decide) ?_
          exact hk_1 _ (by grind)
set_option maxRecDepth 20000 in
theorem c_M_clash_ok {d : Nat} {B : xMm} {ad : Nat → Nat} {ix : Nat → Option Nat} {iv : Nat → Int32} {av : Nat → Nat → Int32} {ns : Nat × Nat} (ok : mOk ad ix) (k w : Int32) (rq ln : Nat) (hrq : rq ≤ 30) (hln : ln ≤ 20) (h33 : iv 33 = nI rq) (h23 : iv 23 = nI ln) (h : 0 ≤ k ∧ (w = 0 ∨ w = 1)) : xCl (d + 1) k_M_clash [.ref (ad 0), .int k, .int w] (mM B ad ix iv av, ns) (.inl (some (.int (clR w (clk (mPair av rq ln) k (fun r => 119 - r) rq 0 0)))), (mM B ad ix (upd iv 0 0) av, ns)) := by
  show xEv _ k_M_clash 0 [some (.ref (ad 0)), some (.int k), some (.int w), none, none, none] [] _ _
  refine ev_aload_n d_M_clash_0 rfl ?_
  refine ev_cutv (E := 19) (V := 1) ?_ (fun hk_1 => ?_)
  · refine ev_iconst (v := 1) d_M_clash_19 rfl ?_
    refine ev_iconst (v := 1) d_M_clash_20 rfl ?_
    refine ev_v3r d_M_clash_21 q_8_116 rfl (mM_obj ok) ⟨rfl, Nat.le_of_ble_eq_true rfl, Nat.le_of_ble_eq_true rfl⟩ (c_M_goes ok _ _ _) ?_
    refine ev_if_ne (t := 29) d_M_clash_24 (by decide) (fun _ => ?_) (fun c_24 => absurd c_24 (by decide))
    refine ev_iconst (v := 0) d_M_clash_29 rfl ?_
    refine ev_istore_n (lo1 := [some (.ref (ad 0)), some (.int k), some (.int w), some (.int 0), none, none]) d_M_clash_30 (Nat.le_of_ble_eq_true rfl) rfl ?_
    refine ev_iconst (v := 0) d_M_clash_31 rfl ?_
    refine ev_istore (lo1 := [some (.ref (ad 0)), some (.int k), some (.int w), some (.int 0), some (.int 0), none]) d_M_clash_32 (Nat.le_of_ble_eq_true rfl) rfl ?_
    exact l_M_clash2 (iv := upd iv 0 0) ok k w rq ln hrq hln (by simp [upd, h33]) (by simp [upd, h23]) rq 0 0 none (by omega)
  · refine ev_iload_n d_M_clash_1 rfl ?_
    refine ev_if_lt (t := 18) d_M_clash_2 (by decide) (fun c_2_2 => ?_) (fun c_2_2 => ?_)
    · refine ev_iconst (v := 0) d_M_clash_18 rfl ?_
      exact hk_1 _ (by grind)
    · refine ev_iload_n d_M_clash_5 rfl ?_
      refine ev_if_eq (t := 14) d_M_clash_6 (by decide) (fun c_6_3 => ?_) (fun c_6_3 => ?_)
      · refine ev_iconst (v := 1) d_M_clash_14 rfl ?_
        refine ev_goto (t := 19) d_M_clash_15 (by decide) ?_
        exact hk_1 _ (by grind)
      · refine ev_iload_n d_M_clash_9 rfl ?_
        refine ev_iconst (v := 1) d_M_clash_10 rfl ?_
        refine ev_icmp_ne (t := 18) d_M_clash_11 (by decide) (fun c_11_4 => ?_) (fun c_11_4 => ?_)
        · refine ev_iconst (v := 0) d_M_clash_18 rfl ?_
          exact hk_1 _ (by grind)
        · refine ev_iconst (v := 1) d_M_clash_14 rfl ?_
          refine ev_goto (t := 19) d_M_clash_15 (by decide) ?_
          exact hk_1 _ (by grind)
