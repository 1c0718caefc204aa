/-! the reference: the truths of all nodes, from the last to the first -/
def fnd (av : Nat → Nat → Int32) (c k : Nat) (T : Nat → Int32) (z : Int32) : Nat → Nat → Int32
  | 0, _ => z
  | n + 1, j => if av 8 (160 * c + j) = nI k ∧ T j ≠ z then T j else fnd av c k T z n (j + 1)
def tB (av : Nat → Nat → Int32) (c N : Nat) (E : Int32 → Option Int32) (T : Nat → Int32) (k : Nat) : Int32 :=
  if av 7 (160 * c + k) = 0 then lfS (E (av 10 (160 * c + k))) (av 11 (160 * c + k)) (av 12 (160 * c + k)) else fnd av c k T (if av 7 (160 * c + k) = 1 then 1 else 0) (N - 1 - k) (k + 1)
def tV (av : Nat → Nat → Int32) (c N : Nat) (E : Int32 → Option Int32) (T : Nat → Int32) (k : Nat) : Int32 :=
  if tB av c N E T k ≠ 2 ∧ av 9 (160 * c + k) - av 9 (160 * c + k) / 2 * 2 = 1 then 1 - tB av c N E T k else tB av c N E T k
theorem fnd_upd (av : Nat → Nat → Int32) (c k : Nat) (T : Nat → Int32) (z x : Int32) (p : Nat) : ∀ n j, p < j → fnd av c k (upd T p x) z n j = fnd av c k T z n j
  | 0, _, _ => rfl
  | n + 1, j, h => by
    have h1 : upd T p x j = T j := by simp [upd]; omega
    simp only [fnd, h1, fnd_upd av c k T z x p n (j + 1) (by omega)]
theorem tV_upd (av : Nat → Nat → Int32) (c N : Nat) (E : Int32 → Option Int32) (T : Nat → Int32) (x : Int32) {p k : Nat} (h : p ≤ k) : tV av c N E (upd T p x) k = tV av c N E T k := by
  have : tB av c N E (upd T p x) k = tB av c N E T k := by
    unfold tB
    rw [fnd_upd _ _ _ _ _ _ _ _ _ (by omega)]
  unfold tV
  rw [this]
theorem mVal_13 (av : Nat → Nat → Int32) (T : Nat → Int32) (k : Nat) (h : Int32) : ∀ n i v, mVal (va_up av 13 T) k h n i v = mVal av k h n i v
  | 0, _, _ => rfl
  | n + 1, i, v => by
    simp only [mVal, mVal_13 av T k h n, va_up_ne (k := 13) (j := 19) _ _ (by decide), va_up_ne (k := 13) (j := 20) _ _ (by decide)]
theorem mE_13 (av : Nat → Nat → Int32) (T : Nat → Int32) (l : Nat) (h nm : Int32) : mE (va_up av 13 T) l h nm = mE av l h nm := by
  have h1 : ∀ q n, mValue (va_up av 13 T) q h n = mValue av q h n := by
    intro q n
    unfold mValue
    rw [mVal_13]
    rfl
  unfold mE
  rw [h1]
  rfl
set_option maxRecDepth 20000 in
theorem l_M_work1 {d : Nat} {B : xMm} {ad : Nat → Nat} {ix : Nat → Option Nat} {iv : Nat → Int32} {av : Nat → Nat → Int32} {ns : Nat × Nat} (ok : mOk ad ix) {X : xO × xS} (l c N : Nat) (h : Int32) (hl : l < 20) (hc : c < 8) (hN : N ≤ 160) (h24 : av 24 l = nI c) (h6 : av 6 c = nI N) (T : Nat → Int32) (k : Nat) (hk : k < N) (x5 z R : Int32) (hend : ∀ x7 x8 : Int32, xEv (d + 3) k_M_work 157 [some (.ref (ad 0)), some (.int (nI l)), some (.int h), some (.int (nI c)), some (.int (nI k)), some (.int x5), some (.int R), some (.int x7), some (.int x8)] [] (mM B ad ix iv (va_up av 13 T), ns) X) : ∀ (n j : Nat), j + n = N → fnd av c k T z n j = R → xEv (d + 3) k_M_work 93 [some (.ref (ad 0)), some (.int (nI l)), some (.int h), some (.int (nI c)), some (.int (nI k)), some (.int x5), some (.int z), some (.int 0), some (.int (nI j))] [] (mM B ad ix iv (va_up av 13 T), ns) X := by
  have ec : (nI c).toNatClampNeg = c := nI_clamp (by omega)
  intro n
  induction n with
  | zero =>
    intro j hj hR
    have hR : z = R := hR
    refine ev_iload d_M_work_93 rfl ?_
    refine ev_aload_n d_M_work_95 rfl ?_
    refine ev_get d_M_work_96 f_8_19 (mM_obj ok) rfl ?_
    refine ev_iload_n d_M_work_99 rfl ?_
    refine ev_iald d_M_work_100 (mM_arr ok 6 rfl) ⟨rfl, vp_in_nI (N := 8) hc (by decide)⟩ rfl ?_
    rw [va_up_ne (k := 13) (j := 6) _ _ (by decide), ec, h6]
    refine ev_icmp_ge (t := 157) d_M_work_101 (by decide) (fun _ => ?_) (fun c_101 => absurd (nI_le (by omega) (by omega)) c_101)
    exact hR ▸ hend _ _
  | succ n ih =>
    intro j hj hR
    refine ev_iload d_M_work_93 rfl ?_
    refine ev_aload_n d_M_work_95 rfl ?_
    refine ev_get d_M_work_96 f_8_19 (mM_obj ok) rfl ?_
    refine ev_iload_n d_M_work_99 rfl ?_
    refine ev_iald d_M_work_100 (mM_arr ok 6 rfl) ⟨rfl, vp_in_nI (N := 8) hc (by decide)⟩ rfl ?_
    rw [va_up_ne (k := 13) (j := 6) _ _ (by decide), ec, h6]
    refine ev_icmp_ge (t := 157) d_M_work_101 (by decide) (fun c_101 => absurd c_101 (nI_ge (by omega) (by omega))) (fun _ => ?_)
    refine ev_iload d_M_work_104 rfl ?_
    refine ev_if_ne (t := 157) d_M_work_106 (by decide) (fun c_106 => absurd rfl c_106) (fun _ => ?_)
    refine ev_aload_n d_M_work_109 rfl ?_
    refine ev_get d_M_work_110 f_8_25 (mM_obj ok) rfl ?_
    refine ev_sipush (v := 160) d_M_work_113 rfl ?_
    refine ev_iload_n d_M_work_116 rfl ?_
    refine ev_imul d_M_work_117 ?_
    refine ev_iload d_M_work_118 rfl ?_
    refine ev_iadd d_M_work_120 ?_
    rw [nI160]
    refine ev_iald d_M_work_121 (mM_arr ok 8 rfl) ⟨rfl, vp_in_nI (N := 1280) (by omega) (by decide)⟩ rfl ?_
    rw [va_up_ne (k := 13) (j := 8) _ _ (by decide), nI_clamp (show 160 * c + j < 2 ^ 31 by omega)]
    refine ev_iload d_M_work_122 rfl ?_
    refine ev_icmp_ne (t := 151) d_M_work_124 (by decide) (fun c_124_1 => ?_) (fun c_124_1 => ?_)
    · obtain ⟨x_2, ex_2⟩ : ∃ z : Int32, z = (nI j) + 1 := ⟨_, rfl⟩
      refine ev_iinc (v := x_2) (lo1 := [some (.ref (ad 0)), some (.int (nI l)), some (.int h), some (.int (nI c)), some (.int (nI k)), some (.int x5), some (.int z), some (.int 0), some (.int x_2)]) d_M_work_151 rfl (by rw [ex_2]; rfl) rfl ?_
      refine ev_goto (t := 93) d_M_work_154 (by decide) ?_
      rw [show x_2 = nI (j + 1) from by rw [ex_2, nI_succ]]
      exact ih (j + 1) (by omega) (by rw [← hR, fnd, if_neg (by rintro ⟨g1, g2⟩; grind)])
    · refine ev_aload_n d_M_work_127 rfl ?_
      refine ev_get d_M_work_128 f_8_40 (mM_obj ok) rfl ?_
      refine ev_iload d_M_work_131 rfl ?_
      refine ev_iald d_M_work_133 (mM_arr ok 13 rfl) ⟨rfl, vp_in_nI (N := 160) (by omega) (by decide)⟩ rfl ?_
      rw [va_up_self, nI_clamp (show j < 2 ^ 31 by omega)]
      refine ev_iload d_M_work_134 rfl ?_
      refine ev_icmp_eq (t := 151) d_M_work_136 (by decide) (fun c_136_3 => ?_) (fun c_136_3 => ?_)
      · obtain ⟨x_4, ex_4⟩ : ∃ z : Int32, z = (nI j) + 1 := ⟨_, rfl⟩
        refine ev_iinc (v := x_4) (lo1 := [some (.ref (ad 0)), some (.int (nI l)), some (.int h), some (.int (nI c)), some (.int (nI k)), some (.int x5), some (.int z), some (.int 0), some (.int x_4)]) d_M_work_151 rfl (by rw [ex_4]; rfl) rfl ?_
        refine ev_goto (t := 93) d_M_work_154 (by decide) ?_
        rw [show x_4 = nI (j + 1) from by rw [ex_4, nI_succ]]
        exact ih (j + 1) (by omega) (by rw [← hR, fnd, if_neg (by rintro ⟨g1, g2⟩; grind)])
      · refine ev_aload_n d_M_work_139 rfl ?_
        refine ev_get d_M_work_140 f_8_40 (mM_obj ok) rfl ?_
        refine ev_iload d_M_work_143 rfl ?_
        refine ev_iald d_M_work_145 (mM_arr ok 13 rfl) ⟨rfl, vp_in_nI (N := 160) (by omega) (by decide)⟩ rfl ?_
        rw [va_up_self, nI_clamp (show j < 2 ^ 31 by omega)]
        refine ev_top (fun x_5 ex_5 => ?_)
        refine ev_istore (lo1 := [some (.ref (ad 0)), some (.int (nI l)), some (.int h), some (.int (nI c)), some (.int (nI k)), some (.int x5), some (.int x_5), some (.int 0), some (.int (nI j))]) d_M_work_146 (Nat.le_of_ble_eq_true rfl) rfl ?_
        refine ev_iconst (v := 1) d_M_work_148 rfl ?_
        refine ev_istore (lo1 := [some (.ref (ad 0)), some (.int (nI l)), some (.int h), some (.int (nI c)), some (.int (nI k)), some (.int x5), some (.int x_5), some (.int 1), some (.int (nI j))]) d_M_work_149 (Nat.le_of_ble_eq_true rfl) rfl ?_
        obtain ⟨x_6, ex_6⟩ : ∃ z : Int32, z = (nI j) + 1 := ⟨_, rfl⟩
        refine ev_iinc (v := x_6) (lo1 := [some (.ref (ad 0)), some (.int (nI l)), some (.int h), some (.int (nI c)), some (.int (nI k)), some (.int x5), some (.int x_5), some (.int 1), some (.int x_6)]) d_M_work_151 rfl (by rw [ex_6]; rfl) rfl ?_
        refine ev_goto (t := 93) d_M_work_154 (by decide) ?_
        rw [show x_5 = R from by rw [← hR, fnd, if_pos ⟨by assumption, by grind⟩]; grind]
        refine ev_iload d_M_work_93 rfl ?_
        refine ev_aload_n d_M_work_95 rfl ?_
        refine ev_get d_M_work_96 f_8_19 (mM_obj ok) rfl ?_
        refine ev_iload_n d_M_work_99 rfl ?_
        refine ev_iald d_M_work_100 (mM_arr ok 6 rfl) ⟨rfl, vp_in_nI (N := 8) hc (by decide)⟩ rfl ?_
        rw [va_up_ne (k := 13) (j := 6) _ _ (by decide), ec, h6]
        refine ev_icmp_ge (t := 157) d_M_work_101 (by decide) (fun c_101_1 => ?_) (fun c_101_1 => ?_)
        · exact hend _ _
        · refine ev_iload d_M_work_104 rfl ?_
          refine ev_if_ne (t := 157) d_M_work_106 (by decide) (fun _ => ?_) (fun c_106 => absurd c_106 (by decide))
          exact hend _ _
set_option maxRecDepth 20000 in
theorem l_M_workT {d : Nat} {B : xMm} {ad : Nat → Nat} {ix : Nat → Option Nat} {iv : Nat → Int32} {av : Nat → Nat → Int32} {ns : Nat × Nat} (ok : mOk ad ix) {X : xO × xS} (l c N : Nat) (h : Int32) (hl : l < 20) (hc : c < 8) (hN : N ≤ 160) (h24 : av 24 l = nI c) (h6 : av 6 c = nI N) (T : Nat → Int32) (k : Nat) (hk : k < N) (R : Int32) (hnext : ∀ x : Int32, x = nI k + (-1) → ∀ o5 o6 o7 o8 : Option Value, xEv (d + 3) k_M_work 17 [some (.ref (ad 0)), some (.int (nI l)), some (.int h), some (.int (nI c)), some (.int x), o5, o6, o7, o8] [] (mM B ad ix iv (va_up av 13 (upd T k (if R ≠ 2 ∧ av 9 (160 * c + k) - av 9 (160 * c + k) / 2 * 2 = 1 then 1 - R else R))), ns) X) : ∀ x7 x8 : Int32, xEv (d + 3) k_M_work 157 [some (.ref (ad 0)), some (.int (nI l)), some (.int h), some (.int (nI c)), some (.int (nI k)), some (.int (nI (160 * c + k))), some (.int R), some (.int x7), some (.int x8)] [] (mM B ad ix iv (va_up av 13 T), ns) X := by
  have ek : (nI k).toNatClampNeg = k := nI_clamp (by omega)
  have ea : (nI (160 * c + k)).toNatClampNeg = 160 * c + k := nI_clamp (by omega)
  intro x7 x8
  refine ev_aload_n d_M_work_157 rfl ?_
  refine ev_get d_M_work_158 f_8_40 (mM_obj ok) rfl ?_
  refine ev_iload d_M_work_161 rfl ?_
  refine ev_cutv (E := 191) (V := if R ≠ 2 ∧ av 9 (160 * c + k) - av 9 (160 * c + k) / 2 * 2 = 1 then 1 - R else R) ?_ (fun hk_1 => ?_)
  · refine ev_iast d_M_work_191 (mM_arr ok 13 rfl) ⟨rfl, vp_in_nI (N := 160) (by omega) (by decide)⟩ (mM_ast ok 13 rfl) ?_
    obtain ⟨x_2, ex_2⟩ : ∃ z : Int32, z = (nI k) + (-1) := ⟨_, rfl⟩
    refine ev_iinc (v := x_2) (lo1 := [some (.ref (ad 0)), some (.int (nI l)), some (.int h), some (.int (nI c)), some (.int x_2), some (.int (nI (160 * c + k))), some (.int R), some (.int x7), some (.int x8)]) d_M_work_192 rfl (by rw [ex_2]; rfl) rfl ?_
    refine ev_goto (t := 17) d_M_work_195 (by decide) ?_
    rw [va_up_up, va_up_self, ek]
    exact hnext x_2 ex_2 _ _ _ _
  · refine ev_iload d_M_work_163 rfl ?_
    refine ev_iconst (v := 2) d_M_work_165 rfl ?_
    refine ev_icmp_eq (t := 189) d_M_work_166 (by decide) (fun c_166_3 => ?_) (fun c_166_3 => ?_)
    · refine ev_iload d_M_work_189 rfl ?_
      exact hk_1 _ (by grind)
    · refine ev_aload_n d_M_work_169 rfl ?_
      refine ev_get d_M_work_170 f_8_28 (mM_obj ok) rfl ?_
      refine ev_iload d_M_work_173 rfl ?_
      refine ev_iald d_M_work_175 (mM_arr ok 9 rfl) ⟨rfl, vp_in_nI (N := 1280) (by omega) (by decide)⟩ rfl ?_
      rw [va_up_ne (k := 13) (j := 9) _ _ (by decide), ea]
      refine ev_iconst (v := 2) d_M_work_176 rfl ?_
      refine ev_irem d_M_work_177 (by decide) ?_
      refine ev_iconst (v := 1) d_M_work_178 rfl ?_
      refine ev_icmp_ne (t := 189) d_M_work_179 (by decide) (fun c_179_4 => ?_) (fun c_179_4 => ?_)
      · refine ev_iload d_M_work_189 rfl ?_
        exact hk_1 _ (by grind)
      · refine ev_iconst (v := 1) d_M_work_182 rfl ?_
        refine ev_iload d_M_work_183 rfl ?_
        refine ev_isub d_M_work_185 ?_
        refine ev_goto (t := 191) d_M_work_186 (by decide) ?_
        exact hk_1 _ (by grind)
set_option maxRecDepth 20000 in
theorem l_M_work2 {d : Nat} {B : xMm} {ad : Nat → Nat} {ix : Nat → Option Nat} {iv : Nat → Int32} {av : Nat → Nat → Int32} {ns : Nat × Nat} (ok : mOk ad ix) {X : xO × xS} (l c N : Nat) (h : Int32) (hl : l < 20) (hc : c < 8) (hN : N ≤ 160) (h24 : av 24 l = nI c) (h6 : av 6 c = nI N) (hrows : ∀ q, q < 8 → ∃ rn, rn ≤ 60 ∧ av 18 q = nI rn) (hnm : ∀ k, k < N → av 7 (160 * c + k) = 0 → mNm (av 10 (160 * c + k))) (T : Nat → Int32) (k : Nat) (hk : k < N) (hnext : ∀ x : Int32, x = nI k + (-1) → ∀ o5 o6 o7 o8 : Option Value, xEv (d + 3) k_M_work 17 [some (.ref (ad 0)), some (.int (nI l)), some (.int h), some (.int (nI c)), some (.int x), o5, o6, o7, o8] [] (mM B ad ix iv (va_up av 13 (upd T k (tV av c N (mE av l h) T k))), ns) X) : ∀ o5 o6 o7 o8 : Option Value, xEv (d + 3) k_M_work 17 [some (.ref (ad 0)), some (.int (nI l)), some (.int h), some (.int (nI c)), some (.int (nI k)), o5, o6, o7, o8] [] (mM B ad ix iv (va_up av 13 T), ns) X := by
  have ec : (nI c).toNatClampNeg = c := nI_clamp (by omega)
  have ek : (nI k).toNatClampNeg = k := nI_clamp (by omega)
  have ea : (nI (160 * c + k)).toNatClampNeg = 160 * c + k := nI_clamp (by omega)
  intro o5 o6 o7 o8
  have htail := l_M_workT ok l c N h hl hc hN h24 h6 T k hk (tB av c N (mE av l h) T k) hnext
  refine ev_iload d_M_work_17 rfl ?_
  refine ev_if_lt (t := 198) d_M_work_19 (by decide) (fun c_19 => absurd c_19 (nI_pos (by omega))) (fun _ => ?_)
  refine ev_sipush (v := 160) d_M_work_22 rfl ?_
  refine ev_iload_n d_M_work_25 rfl ?_
  refine ev_imul d_M_work_26 ?_
  refine ev_iload d_M_work_27 rfl ?_
  refine ev_iadd d_M_work_29 ?_
  rw [nI160]
  refine ev_istore (lo1 := [some (.ref (ad 0)), some (.int (nI l)), some (.int h), some (.int (nI c)), some (.int (nI k)), some (.int (nI (160 * c + k))), o6, o7, o8]) d_M_work_30 (Nat.le_of_ble_eq_true rfl) rfl ?_
  refine ev_cutv (E := 48) (V := if av 7 (160 * c + k) = 1 then 1 else 0) ?_ (fun hk_2 => ?_)
  · refine ev_top (fun x_3 ex_3 => ?_)
    refine ev_istore (lo1 := [some (.ref (ad 0)), some (.int (nI l)), some (.int h), some (.int (nI c)), some (.int (nI k)), some (.int (nI (160 * c + k))), some (.int x_3), o7, o8]) d_M_work_48 (Nat.le_of_ble_eq_true rfl) rfl ?_
    refine ev_aload_n d_M_work_50 rfl ?_
    refine ev_get d_M_work_51 f_8_22 (mM_obj ok) rfl ?_
    refine ev_iload d_M_work_54 rfl ?_
    refine ev_iald d_M_work_56 (mM_arr ok 7 rfl) ⟨rfl, vp_in_nI (N := 1280) (by omega) (by decide)⟩ rfl ?_
    rw [va_up_ne (k := 13) (j := 7) _ _ (by decide), ea]
    refine ev_if_ne (t := 70) d_M_work_57 (by decide) (fun c_57_4 => ?_) (fun c_57_4 => ?_)
    · refine ev_aload_n d_M_work_70 rfl ?_
      refine ev_get d_M_work_71 f_8_22 (mM_obj ok) rfl ?_
      refine ev_iload d_M_work_74 rfl ?_
      refine ev_iald d_M_work_76 (mM_arr ok 7 rfl) ⟨rfl, vp_in_nI (N := 1280) (by omega) (by decide)⟩ rfl ?_
      rw [va_up_ne (k := 13) (j := 7) _ _ (by decide), ea]
      refine ev_if_ne (t := 84) d_M_work_77 (by decide) (fun _ => ?_) (fun c_77 => absurd c_77 c_57_4)
      refine ev_iconst (v := 0) d_M_work_84 rfl ?_
      refine ev_istore (lo1 := [some (.ref (ad 0)), some (.int (nI l)), some (.int h), some (.int (nI c)), some (.int (nI k)), some (.int (nI (160 * c + k))), some (.int x_3), some (.int 0), o8]) d_M_work_85 (Nat.le_of_ble_eq_true rfl) rfl ?_
      refine ev_iload d_M_work_87 rfl ?_
      refine ev_iconst (v := 1) d_M_work_89 rfl ?_
      refine ev_iadd d_M_work_90 ?_
      refine ev_top (fun x_5 ex_5 => ?_)
      refine ev_istore (lo1 := [some (.ref (ad 0)), some (.int (nI l)), some (.int h), some (.int (nI c)), some (.int (nI k)), some (.int (nI (160 * c + k))), some (.int x_3), some (.int 0), some (.int x_5)]) d_M_work_91 (Nat.le_of_ble_eq_true rfl) rfl ?_
      rw [show x_5 = nI (k + 1) from by rw [ex_5, nI_succ]]
      exact l_M_work1 ok l c N h hl hc hN h24 h6 T k hk _ _ _ htail (N - 1 - k) (k + 1) (by omega) (by rw [tB, if_neg (by assumption), ex_3])
    · refine ev_aload_n d_M_work_60 rfl ?_
      refine ev_iload_n d_M_work_61 rfl ?_
      refine ev_iload d_M_work_62 rfl ?_
      refine ev_iload_n d_M_work_64 rfl ?_
      refine ev_v3r d_M_work_65 q_8_190 rfl (mM_obj ok) ⟨rfl, Nat.le_of_ble_eq_true rfl, Nat.le_of_ble_eq_true rfl⟩ (c_M_leaf ok l (160 * c + k) h hl (by omega) (by intro q hq; exact hrows q hq) (hnm k hk (by assumption))) ?_
      rw [mE_13, va_up_ne (k := 13) (j := 10) _ _ (by decide), va_up_ne (k := 13) (j := 11) _ _ (by decide), va_up_ne (k := 13) (j := 12) _ _ (by decide)]
      refine ev_top (fun x_6 ex_6 => ?_)
      refine ev_istore (lo1 := [some (.ref (ad 0)), some (.int (nI l)), some (.int h), some (.int (nI c)), some (.int (nI k)), some (.int (nI (160 * c + k))), some (.int x_6), o7, o8]) d_M_work_68 (Nat.le_of_ble_eq_true rfl) rfl ?_
      refine ev_aload_n d_M_work_70 rfl ?_
      refine ev_get d_M_work_71 f_8_22 (mM_obj ok) rfl ?_
      refine ev_iload d_M_work_74 rfl ?_
      refine ev_iald d_M_work_76 (mM_arr ok 7 rfl) ⟨rfl, vp_in_nI (N := 1280) (by omega) (by decide)⟩ rfl ?_
      rw [va_up_ne (k := 13) (j := 7) _ _ (by decide), ea]
      refine ev_if_ne (t := 84) d_M_work_77 (by decide) (fun c_77 => absurd c_57_4 c_77) (fun _ => ?_)
      refine ev_iconst (v := 1) d_M_work_80 rfl ?_
      refine ev_goto (t := 85) d_M_work_81 (by decide) ?_
      refine ev_istore (lo1 := [some (.ref (ad 0)), some (.int (nI l)), some (.int h), some (.int (nI c)), some (.int (nI k)), some (.int (nI (160 * c + k))), some (.int x_6), some (.int 1), o8]) d_M_work_85 (Nat.le_of_ble_eq_true rfl) rfl ?_
      refine ev_iload d_M_work_87 rfl ?_
      refine ev_iconst (v := 1) d_M_work_89 rfl ?_
      refine ev_iadd d_M_work_90 ?_
      refine ev_top (fun x_7 ex_7 => ?_)
      refine ev_istore (lo1 := [some (.ref (ad 0)), some (.int (nI l)), some (.int h), some (.int (nI c)), some (.int (nI k)), some (.int (nI (160 * c + k))), some (.int x_6), some (.int 1), some (.int x_7)]) d_M_work_91 (Nat.le_of_ble_eq_true rfl) rfl ?_
      rw [show x_6 = tB av c N (mE av l h) T k from by rw [ex_6, tB, if_pos (by assumption)]]
      refine ev_iload d_M_work_93 rfl ?_
      refine ev_aload_n d_M_work_95 rfl ?_
      refine ev_get d_M_work_96 f_8_19 (mM_obj ok) rfl ?_
      refine ev_iload_n d_M_work_99 rfl ?_
      refine ev_iald d_M_work_100 (mM_arr ok 6 rfl) ⟨rfl, vp_in_nI (N := 8) hc (by decide)⟩ rfl ?_
      rw [va_up_ne (k := 13) (j := 6) _ _ (by decide), ec, h6]
      refine ev_icmp_ge (t := 157) d_M_work_101 (by decide) (fun c_101_1 => ?_) (fun c_101_1 => ?_)
      · exact htail _ _
      · refine ev_iload d_M_work_104 rfl ?_
        refine ev_if_ne (t := 157) d_M_work_106 (by decide) (fun _ => ?_) (fun c_106 => absurd c_106 (by decide))
        exact htail _ _
  · refine ev_aload_n d_M_work_32 rfl ?_
    refine ev_get d_M_work_33 f_8_22 (mM_obj ok) rfl ?_
    refine ev_iload d_M_work_36 rfl ?_
    refine ev_iald d_M_work_38 (mM_arr ok 7 rfl) ⟨rfl, vp_in_nI (N := 1280) (by omega) (by decide)⟩ rfl ?_
    rw [va_up_ne (k := 13) (j := 7) _ _ (by decide), ea]
    refine ev_iconst (v := 1) d_M_work_39 rfl ?_
    refine ev_icmp_ne (t := 47) d_M_work_40 (by decide) (fun c_40_8 => ?_) (fun c_40_8 => ?_)
    · refine ev_iconst (v := 0) d_M_work_47 rfl ?_
      exact hk_2 _ (by grind)
    · refine ev_iconst (v := 1) d_M_work_43 rfl ?_
      refine ev_goto (t := 48) d_M_work_44 (by decide) ?_
      exact hk_2 _ (by grind)
def tF (av : Nat → Nat → Int32) (c N : Nat) (E : Int32 → Option Int32) : Nat → (Nat → Int32) → (Nat → Int32)
  | 0, T => T
  | n + 1, T => tF av c N E n (upd T n (tV av c N E T n))
theorem tF_ok (av : Nat → Nat → Int32) (c N : Nat) (E : Int32 → Option Int32) : ∀ n T, n ≤ N → (∀ k, n ≤ k → k < N → T k = tV av c N E T k) → ∀ k, k < N → tF av c N E n T k = tV av c N E (tF av c N E n T) k
  | 0, T, _, hT, k, hk => hT k (by omega) hk
  | n + 1, T, hn, hT, k, hk => tF_ok av c N E n _ (by omega) (fun k h1 h2 => by
      rw [tV_upd _ _ _ _ _ _ h1]
      by_cases h9 : k = n
      · rw [h9]
        simp [upd]
      · rw [show upd T n (tV av c N E T n) k = T k from by simp [upd, h9]]
        exact hT k (by omega) h2) k hk
set_option maxRecDepth 20000 in
theorem l_M_work3 {d : Nat} {B : xMm} {ad : Nat → Nat} {ix : Nat → Option Nat} {iv : Nat → Int32} {av : Nat → Nat → Int32} {ns : Nat × Nat} (ok : mOk ad ix) (l c N : Nat) (h : Int32) (hl : l < 20) (hc : c < 8) (hN : N ≤ 160) (h24 : av 24 l = nI c) (h6 : av 6 c = nI N) (hrows : ∀ q, q < 8 → ∃ rn, rn ≤ 60 ∧ av 18 q = nI rn) (hnm : ∀ k, k < N → av 7 (160 * c + k) = 0 → mNm (av 10 (160 * c + k)))  : ∀ (n : Nat) (T : Nat → Int32), n ≤ N → ∀ o5 o6 o7 o8 : Option Value, xEv (d + 3) k_M_work 17 [some (.ref (ad 0)), some (.int (nI l)), some (.int h), some (.int (nI c)), some (.int (nI n - 1)), o5, o6, o7, o8] [] (mM B ad ix iv (va_up av 13 T), ns) (.inl none, (mM B ad ix iv (va_up av 13 (tF av c N (mE av l h) n T)), ns)) := by
  intro n
  induction n with
  | zero =>
    intro T hn o5 o6 o7 o8
    refine ev_iload d_M_work_17 rfl ?_
    refine ev_if_lt (t := 198) d_M_work_19 (by decide) (fun _ => ?_) (fun c_19 => absurd (by decide) c_19)
    exact xEv.to (ev_ret d_M_work_198 rfl) rfl
  | succ n ih =>
    intro T hn o5 o6 o7 o8
    rw [nI_pred]
    refine l_M_work2 ok l c N h hl hc hN h24 h6 hrows hnm T n (by omega) (fun x hx p5 p6 p7 p8 => ?_) _ _ _ _
    rw [show x = nI n - 1 from by rw [hx]; grind]
    exact ih _ (by omega) _ _ _ _
set_option maxRecDepth 20000 in
theorem c_M_work {d : Nat} {B : xMm} {ad : Nat → Nat} {ix : Nat → Option Nat} {iv : Nat → Int32} {av : Nat → Nat → Int32} {ns : Nat × Nat} (ok : mOk ad ix) (l c N : Nat) (h : Int32) (hl : l < 20) (hc : c < 8) (hN : N ≤ 160) (h24 : av 24 l = nI c) (h6 : av 6 c = nI N) (hrows : ∀ q, q < 8 → ∃ rn, rn ≤ 60 ∧ av 18 q = nI rn) (hnm : ∀ k, k < N → av 7 (160 * c + k) = 0 → mNm (av 10 (160 * c + k)))  : xCl (d + 3) k_M_work [.ref (ad 0), .int (nI l), .int h] (mM B ad ix iv av, ns) (.inl none, (mM B ad ix iv (va_up av 13 (tF av c N (mE av l h) N (av 13))), ns)) := by
  have ec : (nI c).toNatClampNeg = c := nI_clamp (by omega)
  have el : (nI l).toNatClampNeg = l := nI_clamp (by omega)
  show xEv _ k_M_work 0 [some (.ref (ad 0)), some (.int (nI l)), some (.int h), none, none, none, none, none, none] [] _ _
  refine ev_aload_n d_M_work_0 rfl ?_
  refine ev_get d_M_work_1 f_8_64 (mM_obj ok) rfl ?_
  refine ev_iload_n d_M_work_4 rfl ?_
  refine ev_iald d_M_work_5 (mM_arr ok 24 rfl) ⟨rfl, vp_in_nI (N := 20) hl (by decide)⟩ rfl ?_
  rw [el, h24]
  refine ev_istore_n (lo1 := [some (.ref (ad 0)), some (.int (nI l)), some (.int h), some (.int (nI c)), none, none, none, none, none]) d_M_work_6 (Nat.le_of_ble_eq_true rfl) rfl ?_
  refine ev_aload_n d_M_work_7 rfl ?_
  refine ev_get d_M_work_8 f_8_19 (mM_obj ok) rfl ?_
  refine ev_iload_n d_M_work_11 rfl ?_
  refine ev_iald d_M_work_12 (mM_arr ok 6 rfl) ⟨rfl, vp_in_nI (N := 8) hc (by decide)⟩ rfl ?_
  rw [ec, h6]
  refine ev_iconst (v := 1) d_M_work_13 rfl ?_
  refine ev_isub d_M_work_14 ?_
  refine ev_istore (lo1 := [some (.ref (ad 0)), some (.int (nI l)), some (.int h), some (.int (nI c)), some (.int (nI N - 1)), none, none, none, none]) d_M_work_15 (Nat.le_of_ble_eq_true rfl) rfl ?_
  have e13 : av = va_up av 13 (av 13) := by funext k; simp [va_up]; intro h; rw [h]
  rw [show (mM B ad ix iv av, ns) = (mM B ad ix iv (va_up av 13 (av 13)), ns) by rw [← e13]]
  exact l_M_work3 ok l c N h hl hc hN h24 h6 hrows hnm N (av 13) (by omega) _ _ _ _
