/-! the reference: unfolding, and the written text of a contract -/
set_option maxRecDepth 20000 in
theorem c_M_unfold_2 {d : Nat} {B : xMm} {ad : Nat → Nat} {ix : Nat → Option Nat} {iv : Nat → Int32} {av : Nat → Nat → Int32} {ns : Nat × Nat} (ok : mOk ad ix) (c N k : Nat) (hc : c < 8) (hN : N ≤ 160) (h6 : av 6 c = nI N) (hk : k < N) (g : Nat → Int32) (P w : List Int32) (hn : 1 < nch av c k (N - 1 - k)) (hP : P.length + 1 + (mU av c k (N - 1 - k)).length ≤ 400) (hw : w.length < 400) : xCl (d + 1) k_M_unfold [.ref (ad 0), .int (nI c), .int (nI k)] (mM B ad ix (wI (upd iv 15 (nI (P).length)) (w)) (wA (va_up av 14 (wrF g (P))) (w)), ns) (.inl none, (mM B ad ix (wI (upd iv 15 (nI (P ++ [-41] ++ mU av c k (N - 1 - k)).length)) (w ++ [40])) (wA (va_up av 14 (wrF g (P ++ [-41] ++ mU av c k (N - 1 - k)))) (w ++ [40])), ns)) := by
  have ec : (nI c).toNatClampNeg = c := nI_clamp (by omega)
  have hnl := nch_le av c k (N - 1 - k)
  show xEv _ k_M_unfold 0 [some (.ref (ad 0)), some (.int (nI c)), some (.int (nI k)), none, none, none] [] _ _
  refine ev_aload_n d_M_unfold_0 rfl ?_
  refine ev_iload_n d_M_unfold_1 rfl ?_
  refine ev_iload_n d_M_unfold_2 rfl ?_
  refine ev_v2r d_M_unfold_3 q_8_155 rfl (mM_obj ok) ⟨rfl, Nat.le_of_ble_eq_true rfl, Nat.le_of_ble_eq_true rfl⟩ (c_M_children ok c N k hc hN h6 hk g _ w) ?_
  refine ev_istore_n (lo1 := [some (.ref (ad 0)), some (.int (nI c)), some (.int (nI k)), some (.int (nI (nch av c k (N - 1 - k)))), none, none]) d_M_unfold_6 (Nat.le_of_ble_eq_true rfl) rfl ?_
  refine ev_iload_n d_M_unfold_7 rfl ?_
  refine ev_istore (lo1 := [some (.ref (ad 0)), some (.int (nI c)), some (.int (nI k)), some (.int (nI (nch av c k (N - 1 - k)))), some (.int (nI (nch av c k (N - 1 - k)))), none]) d_M_unfold_8 (Nat.le_of_ble_eq_true rfl) rfl ?_
  refine ev_iload_n d_M_unfold_10 rfl ?_
  refine ev_iconst (v := 1) d_M_unfold_11 rfl ?_
  refine ev_icmp_le (t := 36) d_M_unfold_12 (by decide) (fun c_12 => absurd c_12 (nI_ge (a := 1) hn (by omega))) (fun _ => ?_)
  refine ev_aload_n d_M_unfold_15 rfl ?_
  refine ev_get d_M_unfold_16 f_8_43 (mM_obj ok) rfl ?_
  refine ev_aload_n d_M_unfold_19 rfl ?_
  refine ev_get d_M_unfold_20 f_8_158 (mM_obj ok) rfl ?_
  rw [s_15]
  refine ev_bipush (v := (-41)) d_M_unfold_23 rfl ?_
  refine ev_iast d_M_unfold_25 (mM_arr ok 14 rfl) ⟨rfl, vp_in_nI (N := 400) (by omega) (by decide)⟩ (mM_ast ok 14 rfl) ?_
  rw [s_14, nI_clamp (show P.length < 2 ^ 31 by omega)]
  refine ev_aload_n d_M_unfold_26 rfl ?_
  refine ev_dup d_M_unfold_27 rfl ?_
  refine ev_get d_M_unfold_28 f_8_158 (mM_obj ok) rfl ?_
  rw [s_15]
  refine ev_iconst (v := 1) d_M_unfold_31 rfl ?_
  refine ev_iadd d_M_unfold_32 ?_
  refine ev_put d_M_unfold_33 f_8_158 (mM_obj ok) ⟨Nat.le_of_ble_eq_true rfl, xfit_i rfl, Or.inl rfl⟩ (mM_put ok rfl) ?_
  rw [s_push]
  refine ev_aload_n d_M_unfold_36 rfl ?_
  refine ev_get d_M_unfold_37 f_8_19 (mM_obj ok) rfl ?_
  refine ev_iload_n d_M_unfold_40 rfl ?_
  refine ev_iald d_M_unfold_41 (mM_arr ok 6 rfl) ⟨rfl, vp_in_nI (N := 8) hc (by decide)⟩ rfl ?_
  rw [s_ne (k := 6) (by decide) (by decide), ec, h6]
  refine ev_iconst (v := 1) d_M_unfold_42 rfl ?_
  refine ev_isub d_M_unfold_43 ?_
  rw [show nI N - 1 = nI (k + (N - 1 - k)) from by rw [show N = k + (N - 1 - k) + 1 by omega, nI_pred]; congr 1; omega]
  refine ev_istore (lo1 := [some (.ref (ad 0)), some (.int (nI c)), some (.int (nI k)), some (.int (nI (nch av c k (N - 1 - k)))), some (.int (nI (nch av c k (N - 1 - k)))), some (.int (nI (k + (N - 1 - k))))]) d_M_unfold_44 (Nat.le_of_ble_eq_true rfl) rfl ?_
  refine l_M_unfold ok c N k hc hN h6 hk g w _ (N - 1 - k) (by omega) _ (by simp; omega) (fun x4 x5 Q hQ => ?_)
  refine ev_iload_n d_M_unfold_146 rfl ?_
  refine ev_iconst (v := 1) d_M_unfold_147 rfl ?_
  refine ev_icmp_le (t := 157) d_M_unfold_148 (by decide) (fun c_148 => absurd c_148 (nI_ge (a := 1) hn (by omega))) (fun _ => ?_)
  refine ev_aload_n d_M_unfold_151 rfl ?_
  refine ev_bipush (v := 40) d_M_unfold_152 rfl ?_
  refine ev_v1o d_M_unfold_154 q_8_152 rfl (mM_obj ok) ⟨rfl, Nat.le_of_ble_eq_true rfl, Nat.le_of_ble_eq_true rfl⟩ (c_M_putw ok _ _ hw) ?_
  rw [hQ]
  exact ev_ret d_M_unfold_157 rfl
set_option maxRecDepth 20000 in
theorem c_M_unfold_1 {d : Nat} {B : xMm} {ad : Nat → Nat} {ix : Nat → Option Nat} {iv : Nat → Int32} {av : Nat → Nat → Int32} {ns : Nat × Nat} (ok : mOk ad ix) (c N k : Nat) (hc : c < 8) (hN : N ≤ 160) (h6 : av 6 c = nI N) (hk : k < N) (g : Nat → Int32) (P w : List Int32) (hn : ¬ 1 < nch av c k (N - 1 - k)) (hP : P.length + (mU av c k (N - 1 - k)).length ≤ 400) : xCl (d + 1) k_M_unfold [.ref (ad 0), .int (nI c), .int (nI k)] (mM B ad ix (wI (upd iv 15 (nI (P).length)) (w)) (wA (va_up av 14 (wrF g (P))) (w)), ns) (.inl none, (mM B ad ix (wI (upd iv 15 (nI (P ++ mU av c k (N - 1 - k)).length)) (w)) (wA (va_up av 14 (wrF g (P ++ mU av c k (N - 1 - k)))) (w)), ns)) := by
  have ec : (nI c).toNatClampNeg = c := nI_clamp (by omega)
  have hnl := nch_le av c k (N - 1 - k)
  show xEv _ k_M_unfold 0 [some (.ref (ad 0)), some (.int (nI c)), some (.int (nI k)), none, none, none] [] _ _
  refine ev_aload_n d_M_unfold_0 rfl ?_
  refine ev_iload_n d_M_unfold_1 rfl ?_
  refine ev_iload_n d_M_unfold_2 rfl ?_
  refine ev_v2r d_M_unfold_3 q_8_155 rfl (mM_obj ok) ⟨rfl, Nat.le_of_ble_eq_true rfl, Nat.le_of_ble_eq_true rfl⟩ (c_M_children ok c N k hc hN h6 hk g _ w) ?_
  refine ev_istore_n (lo1 := [some (.ref (ad 0)), some (.int (nI c)), some (.int (nI k)), some (.int (nI (nch av c k (N - 1 - k)))), none, none]) d_M_unfold_6 (Nat.le_of_ble_eq_true rfl) rfl ?_
  refine ev_iload_n d_M_unfold_7 rfl ?_
  refine ev_istore (lo1 := [some (.ref (ad 0)), some (.int (nI c)), some (.int (nI k)), some (.int (nI (nch av c k (N - 1 - k)))), some (.int (nI (nch av c k (N - 1 - k)))), none]) d_M_unfold_8 (Nat.le_of_ble_eq_true rfl) rfl ?_
  refine ev_iload_n d_M_unfold_10 rfl ?_
  refine ev_iconst (v := 1) d_M_unfold_11 rfl ?_
  refine ev_icmp_le (t := 36) d_M_unfold_12 (by decide) (fun _ => ?_) (fun c_12 => absurd (nI_le (b := 1) (by omega) (by decide)) c_12)
  refine ev_aload_n d_M_unfold_36 rfl ?_
  refine ev_get d_M_unfold_37 f_8_19 (mM_obj ok) rfl ?_
  refine ev_iload_n d_M_unfold_40 rfl ?_
  refine ev_iald d_M_unfold_41 (mM_arr ok 6 rfl) ⟨rfl, vp_in_nI (N := 8) hc (by decide)⟩ rfl ?_
  rw [s_ne (k := 6) (by decide) (by decide), ec, h6]
  refine ev_iconst (v := 1) d_M_unfold_42 rfl ?_
  refine ev_isub d_M_unfold_43 ?_
  rw [show nI N - 1 = nI (k + (N - 1 - k)) from by rw [show N = k + (N - 1 - k) + 1 by omega, nI_pred]; congr 1; omega]
  refine ev_istore (lo1 := [some (.ref (ad 0)), some (.int (nI c)), some (.int (nI k)), some (.int (nI (nch av c k (N - 1 - k)))), some (.int (nI (nch av c k (N - 1 - k)))), some (.int (nI (k + (N - 1 - k))))]) d_M_unfold_44 (Nat.le_of_ble_eq_true rfl) rfl ?_
  refine l_M_unfold ok c N k hc hN h6 hk g w _ (N - 1 - k) (by omega) _ hP (fun x4 x5 Q hQ => ?_)
  refine ev_iload_n d_M_unfold_146 rfl ?_
  refine ev_iconst (v := 1) d_M_unfold_147 rfl ?_
  refine ev_icmp_le (t := 157) d_M_unfold_148 (by decide) (fun _ => ?_) (fun c_148 => absurd (nI_le (b := 1) (by omega) (by decide)) c_148)
  rw [hQ]
  exact ev_ret d_M_unfold_157 rfl
set_option maxRecDepth 20000 in
theorem l_M_write_b {d : Nat} {B : xMm} {ad : Nat → Nat} {ix : Nat → Option Nat} {iv : Nat → Int32} {av : Nat → Nat → Int32} {ns : Nat × Nat} (ok : mOk ad ix) {X : xO × xS} (t c k : Nat) (hc : c < 8) (hk : k < 160) (g : Nat → Int32) (P W1 : List Int32) (tu : Nat) (ht3 : tu < 1000) (htu : av 9 (160 * c + k) = nI tu) (hW1 : W1.length ≤ 400) (hend : ∀ x : Int32, xEv (d + 2) k_M_write 114 [some (.ref (ad 0)), some (.int (nI c)), some (.int (nI t)), some (.int (nI k)), some (.int (nI (160 * c + k))), some (.int x)] [] (mM B ad ix (wI (upd iv 15 (nI (P).length)) (W1)) (wA (va_up av 14 (wrF g (P))) (W1)), ns) X) : ∀ (m i : Nat) (w : List Int32), i + m = tu → w ++ List.replicate m 33 = W1 → xEv (d + 2) k_M_write 86 [some (.ref (ad 0)), some (.int (nI c)), some (.int (nI t)), some (.int (nI k)), some (.int (nI (160 * c + k))), some (.int (nI i))] [] (mM B ad ix (wI (upd iv 15 (nI (P).length)) (w)) (wA (va_up av 14 (wrF g (P))) (w)), ns) X := by
  have ea : (nI (160 * c + k)).toNatClampNeg = 160 * c + k := nI_clamp (by omega)
  intro m
  induction m with
  | zero =>
    intro i w hi hW
    refine ev_iload_n d_M_write_86 rfl ?_
    refine ev_if_lt (t := 114) d_M_write_87 (by decide) (fun c_87 => absurd c_87 (nI_pos (by omega))) (fun _ => ?_)
    refine ev_iload d_M_write_90 rfl ?_
    refine ev_aload_n d_M_write_92 rfl ?_
    refine ev_get d_M_write_93 f_8_28 (mM_obj ok) rfl ?_
    refine ev_iload d_M_write_96 rfl ?_
    refine ev_iald d_M_write_98 (mM_arr ok 9 rfl) ⟨rfl, vp_in_nI (N := 1280) (by omega) (by decide)⟩ rfl ?_
    rw [s_ne (k := 9) (by decide) (by decide), ea, htu]
    refine ev_icmp_ge (t := 114) d_M_write_99 (by decide) (fun _ => ?_) (fun c_99 => absurd (nI_le (by omega) (by omega)) c_99)
    rw [List.replicate_zero, List.append_nil] at hW
    subst hW
    exact hend _
  | succ m ih =>
    intro i w hi hW
    refine ev_iload_n d_M_write_86 rfl ?_
    refine ev_if_lt (t := 114) d_M_write_87 (by decide) (fun c_87 => absurd c_87 (nI_pos (by omega))) (fun _ => ?_)
    refine ev_iload d_M_write_90 rfl ?_
    refine ev_aload_n d_M_write_92 rfl ?_
    refine ev_get d_M_write_93 f_8_28 (mM_obj ok) rfl ?_
    refine ev_iload d_M_write_96 rfl ?_
    refine ev_iald d_M_write_98 (mM_arr ok 9 rfl) ⟨rfl, vp_in_nI (N := 1280) (by omega) (by decide)⟩ rfl ?_
    rw [s_ne (k := 9) (by decide) (by decide), ea, htu]
    refine ev_icmp_ge (t := 114) d_M_write_99 (by decide) (fun c_99 => absurd c_99 (nI_ge (by omega) (by omega))) (fun _ => ?_)
    refine ev_aload_n d_M_write_102 rfl ?_
    refine ev_bipush (v := 33) d_M_write_103 rfl ?_
    refine ev_v1o d_M_write_105 q_8_152 rfl (mM_obj ok) ⟨rfl, Nat.le_of_ble_eq_true rfl, Nat.le_of_ble_eq_true rfl⟩ (c_M_putw ok _ _ (by rw [← hW] at hW1; simp at hW1; omega)) ?_
    obtain ⟨x_1, ex_1⟩ : ∃ z : Int32, z = (nI i) + 1 := ⟨_, rfl⟩
    refine ev_iinc (v := x_1) (lo1 := [some (.ref (ad 0)), some (.int (nI c)), some (.int (nI t)), some (.int (nI k)), some (.int (nI (160 * c + k))), some (.int x_1)]) d_M_write_108 rfl (by rw [ex_1]; rfl) rfl ?_
    refine ev_goto (t := 86) d_M_write_111 (by decide) ?_
    rw [show x_1 = nI (i + 1) from by rw [ex_1, nI_succ]]
    exact ih (i + 1) _ (by omega) (by rw [← hW, List.replicate_succ]; simp)
set_option maxRecDepth 20000 in
theorem l_M_write_n {d : Nat} {B : xMm} {ad : Nat → Nat} {ix : Nat → Option Nat} {iv : Nat → Int32} {av : Nat → Nat → Int32} {ns : Nat × Nat} (ok : mOk ad ix) {X : xO × xS} (t c : Nat) (hc : c < 8) (P w : List Int32) (s y : Int32) (hneg : ¬ 0 ≤ y) (hlt : y < 0) (hs0 : 0 - y = s) (hP : P.length < 400) (hw : w.length < 400) (g : Nat → Int32) (hend : ∀ (o3 o4 o5 : Option Value), xEv (d + 2) k_M_write 39 [some (.ref (ad 0)), some (.int (nI c)), some (.int (nI t)), o3, o4, o5] [] (mM B ad ix (wI (upd iv 15 (nI (P).length)) (w ++ [s])) (wA (va_up av 14 (wrF (wrF g (P ++ [y])) (P))) (w ++ [s])), ns) X) : ∀ (o3 o4 o5 : Option Value), xEv (d + 2) k_M_write 39 [some (.ref (ad 0)), some (.int (nI c)), some (.int (nI t)), o3, o4, o5] [] (mM B ad ix (wI (upd iv 15 (nI (P ++ [y]).length)) (w)) (wA (va_up av 14 (wrF g (P ++ [y]))) (w)), ns) X := by
  intro o3 o4 o5
  refine ev_aload_n d_M_write_39 rfl ?_
  refine ev_get d_M_write_40 f_8_158 (mM_obj ok) rfl ?_
  rw [s_15]
  refine ev_if_le (t := 183) d_M_write_43 (by decide) (fun c_43 => absurd c_43 (nI_nle (by simp) (by simp; omega))) (fun _ => ?_)
  refine ev_aload_n d_M_write_46 rfl ?_
  refine ev_dup d_M_write_47 rfl ?_
  refine ev_get d_M_write_48 f_8_158 (mM_obj ok) rfl ?_
  rw [s_15]
  refine ev_iconst (v := 1) d_M_write_51 rfl ?_
  refine ev_isub d_M_write_52 ?_
  refine ev_put d_M_write_53 f_8_158 (mM_obj ok) ⟨Nat.le_of_ble_eq_true rfl, xfit_i rfl, Or.inl rfl⟩ (mM_put ok rfl) ?_
  rw [s_pop]
  refine ev_aload_n d_M_write_56 rfl ?_
  refine ev_get d_M_write_57 f_8_43 (mM_obj ok) rfl ?_
  refine ev_aload_n d_M_write_60 rfl ?_
  refine ev_get d_M_write_61 f_8_158 (mM_obj ok) rfl ?_
  rw [s_15]
  refine ev_iald d_M_write_64 (mM_arr ok 14 rfl) ⟨rfl, vp_in_nI (N := 400) (by omega) (by decide)⟩ rfl ?_
  rw [s_14, nI_clamp (show P.length < 2 ^ 31 by omega), s_top]
  refine ev_top (fun x_1 ex_1 => ?_)
  refine ev_istore_n (lo1 := [some (.ref (ad 0)), some (.int (nI c)), some (.int (nI t)), some (.int x_1), o4, o5]) d_M_write_65 (Nat.le_of_ble_eq_true rfl) rfl ?_
  refine ev_sipush (v := 160) d_M_write_66 rfl ?_
  refine ev_iload_n d_M_write_69 rfl ?_
  refine ev_imul d_M_write_70 ?_
  refine ev_iload_n d_M_write_71 rfl ?_
  refine ev_if_ge (t := 79) d_M_write_72 (by decide) (fun c_72 => absurd c_72 (by rw [ex_1]; exact hneg)) (fun _ => ?_)
  refine ev_iconst (v := 0) d_M_write_75 rfl ?_
  refine ev_goto (t := 80) d_M_write_76 (by decide) ?_
  refine ev_iadd d_M_write_80 ?_
  refine ev_top (fun x_2 ex_2 => ?_)
  refine ev_istore (lo1 := [some (.ref (ad 0)), some (.int (nI c)), some (.int (nI t)), some (.int x_1), some (.int x_2), o5]) d_M_write_81 (Nat.le_of_ble_eq_true rfl) rfl ?_
  refine ev_iconst (v := 0) d_M_write_83 rfl ?_
  refine ev_istore (lo1 := [some (.ref (ad 0)), some (.int (nI c)), some (.int (nI t)), some (.int x_1), some (.int x_2), some (.int 0)]) d_M_write_84 (Nat.le_of_ble_eq_true rfl) rfl ?_
  refine ev_iload_n d_M_write_86 rfl ?_
  refine ev_if_lt (t := 114) d_M_write_87 (by decide) (fun _ => ?_) (fun c_87 => absurd (by rw [ex_1]; exact hlt) c_87)
  refine ev_iload_n d_M_write_114 rfl ?_
  refine ev_if_ge (t := 128) d_M_write_115 (by decide) (fun c_115 => absurd c_115 (by rw [ex_1]; exact hneg)) (fun _ => ?_)
  refine ev_aload_n d_M_write_118 rfl ?_
  refine ev_iconst (v := 0) d_M_write_119 rfl ?_
  refine ev_iload_n d_M_write_120 rfl ?_
  refine ev_isub d_M_write_121 ?_
  rw [show 0 - x_1 = s from by rw [ex_1]; exact hs0]
  refine ev_v1o d_M_write_122 q_8_152 rfl (mM_obj ok) ⟨rfl, Nat.le_of_ble_eq_true rfl, Nat.le_of_ble_eq_true rfl⟩ (c_M_putw ok _ _ hw) ?_
  refine ev_goto (t := 180) d_M_write_125 (by decide) ?_
  refine ev_goto (t := 39) d_M_write_180 (by decide) ?_
  exact hend _ _ _
set_option maxRecDepth 20000 in
theorem l_M_write_k {d : Nat} {B : xMm} {ad : Nat → Nat} {ix : Nat → Option Nat} {iv : Nat → Int32} {av : Nat → Nat → Int32} {ns : Nat × Nat} (ok : mOk ad ix) {X : xO × xS} (t c k : Nat) (hc : c < 8) (hk : k < 160) (P w : List Int32) (hP : P.length < 400) (g : Nat → Int32) (hend : xEv (d + 2) k_M_write 86 [some (.ref (ad 0)), some (.int (nI c)), some (.int (nI t)), some (.int (nI k)), some (.int (nI (160 * c + k))), some (.int (nI 0))] [] (mM B ad ix (wI (upd iv 15 (nI (P).length)) (w)) (wA (va_up av 14 (wrF (wrF g (P ++ [nI k])) (P))) (w)), ns) X) : ∀ (o3 o4 o5 : Option Value), xEv (d + 2) k_M_write 39 [some (.ref (ad 0)), some (.int (nI c)), some (.int (nI t)), o3, o4, o5] [] (mM B ad ix (wI (upd iv 15 (nI (P ++ [nI k]).length)) (w)) (wA (va_up av 14 (wrF g (P ++ [nI k]))) (w)), ns) X := by
  intro o3 o4 o5
  refine ev_aload_n d_M_write_39 rfl ?_
  refine ev_get d_M_write_40 f_8_158 (mM_obj ok) rfl ?_
  rw [s_15]
  refine ev_if_le (t := 183) d_M_write_43 (by decide) (fun c_43 => absurd c_43 (nI_nle (by simp) (by simp; omega))) (fun _ => ?_)
  refine ev_aload_n d_M_write_46 rfl ?_
  refine ev_dup d_M_write_47 rfl ?_
  refine ev_get d_M_write_48 f_8_158 (mM_obj ok) rfl ?_
  rw [s_15]
  refine ev_iconst (v := 1) d_M_write_51 rfl ?_
  refine ev_isub d_M_write_52 ?_
  refine ev_put d_M_write_53 f_8_158 (mM_obj ok) ⟨Nat.le_of_ble_eq_true rfl, xfit_i rfl, Or.inl rfl⟩ (mM_put ok rfl) ?_
  rw [s_pop]
  refine ev_aload_n d_M_write_56 rfl ?_
  refine ev_get d_M_write_57 f_8_43 (mM_obj ok) rfl ?_
  refine ev_aload_n d_M_write_60 rfl ?_
  refine ev_get d_M_write_61 f_8_158 (mM_obj ok) rfl ?_
  rw [s_15]
  refine ev_iald d_M_write_64 (mM_arr ok 14 rfl) ⟨rfl, vp_in_nI (N := 400) (by omega) (by decide)⟩ rfl ?_
  rw [s_14, nI_clamp (show P.length < 2 ^ 31 by omega), s_top]
  refine ev_istore_n (lo1 := [some (.ref (ad 0)), some (.int (nI c)), some (.int (nI t)), some (.int (nI k)), o4, o5]) d_M_write_65 (Nat.le_of_ble_eq_true rfl) rfl ?_
  refine ev_sipush (v := 160) d_M_write_66 rfl ?_
  refine ev_iload_n d_M_write_69 rfl ?_
  refine ev_imul d_M_write_70 ?_
  refine ev_iload_n d_M_write_71 rfl ?_
  refine ev_if_ge (t := 79) d_M_write_72 (by decide) (fun _ => ?_) (fun c_72 => absurd (by exact nI_pos' (by omega)) c_72)
  refine ev_iload_n d_M_write_79 rfl ?_
  refine ev_iadd d_M_write_80 ?_
  rw [nI160]
  refine ev_istore (lo1 := [some (.ref (ad 0)), some (.int (nI c)), some (.int (nI t)), some (.int (nI k)), some (.int (nI (160 * c + k))), o5]) d_M_write_81 (Nat.le_of_ble_eq_true rfl) rfl ?_
  refine ev_iconst (v := 0) d_M_write_83 rfl ?_
  refine ev_istore (lo1 := [some (.ref (ad 0)), some (.int (nI c)), some (.int (nI t)), some (.int (nI k)), some (.int (nI (160 * c + k))), some (.int 0)]) d_M_write_84 (Nat.le_of_ble_eq_true rfl) rfl ?_
  exact hend
