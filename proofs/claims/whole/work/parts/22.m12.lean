/-! the reference: children of a node, and what unfolding it lays on the pile -/
def nch (av : Nat → Nat → Int32) (c k : Nat) : Nat → Nat
  | 0 => 0
  | i + 1 => nch av c k i + (if av 8 (160 * c + (k + 1 + i)) = nI k then 1 else 0)
theorem nch_le (av : Nat → Nat → Int32) (c k : Nat) : ∀ i, nch av c k i ≤ i
  | 0 => Nat.le_refl _
  | i + 1 => by
    have := nch_le av c k i
    unfold nch
    split <;> omega
def jn (av : Nat → Nat → Int32) (c k : Nat) : Int32 := if av 7 (160 * c + k) = 2 then 124 else 38
def mU (av : Nat → Nat → Int32) (c k : Nat) : Nat → List Int32
  | 0 => []
  | i + 1 => if av 8 (160 * c + (k + 1 + i)) = nI k then [nI (k + 1 + i)] ++ (if 0 < nch av c k i then [0 - jn av c k] else []) ++ mU av c k i else mU av c k i
def mX (av : Nat → Nat → Int32) (c k : Nat) (W : Nat → List Int32) : Nat → List Int32
  | 0 => []
  | i + 1 => if av 8 (160 * c + (k + 1 + i)) = nI k then mX av c k W i ++ (if 0 < nch av c k i then [jn av c k] else []) ++ W (k + 1 + i) else mX av c k W i
def mW (av : Nat → Nat → Int32) (c N : Nat) : Nat → Nat → List Int32
  | 0, _ => []
  | f + 1, k => List.replicate (av 9 (160 * c + k)).toNatClampNeg 33 ++ (if av 7 (160 * c + k) = 0 then [av 10 (160 * c + k), av 11 (160 * c + k)] ++ dg (av 12 (160 * c + k)).toNatClampNeg else if 1 < nch av c k (N - 1 - k) then [40] ++ mX av c k (mW av c N f) (N - 1 - k) ++ [41] else mX av c k (mW av c N f) (N - 1 - k))
theorem s_15 (iv : Nat → Int32) (x : Int32) (w : List Int32) : wI (upd iv 15 x) w 15 = x := by rw [wI_ne (by decide)]; simp [upd]
theorem s_14 (av : Nat → Nat → Int32) (f : Nat → Int32) (w : List Int32) : wA (va_up av 14 f) w 14 = f := by rw [wA_ne (by decide), va_up_self]
theorem s_ne {av : Nat → Nat → Int32} {f : Nat → Int32} {w : List Int32} {k : Nat} (h1 : k ≠ 14) (h2 : k ≠ 16) : wA (va_up av 14 f) w k = av k := by rw [wA_ne h2, va_up_ne _ _ h1]
theorem s_push (B : xMm) (ad : Nat → Nat) (ix : Nat → Option Nat) (iv : Nat → Int32) (av : Nat → Nat → Int32) (g : Nat → Int32) (P w : List Int32) (x : Int32) : mM B ad ix (upd (wI (upd iv 15 (nI P.length)) w) 15 (nI P.length + 1)) (va_up (wA (va_up av 14 (wrF g P)) w) 14 (upd (wrF g P) P.length x)) = mM B ad ix (wI (upd iv 15 (nI (P ++ [x]).length)) w) (wA (va_up av 14 (wrF g (P ++ [x]))) w) := by
  rw [wrF_put]
  have e1 : upd (wI (upd iv 15 (nI P.length)) w) 15 (nI P.length + 1) = wI (upd iv 15 (nI (P ++ [x]).length)) w := by
    funext k
    simp [wI, upd, nI_succ]
    grind
  have e2 : va_up (wA (va_up av 14 (wrF g P)) w) 14 (wrF g (P ++ [x])) = wA (va_up av 14 (wrF g (P ++ [x]))) w := by
    funext k
    simp [wA, va_up]
    grind
  rw [e1, e2]
theorem s_pop (B : xMm) (ad : Nat → Nat) (ix : Nat → Option Nat) (iv : Nat → Int32) (av : Nat → Nat → Int32) (g : Nat → Int32) (P w : List Int32) (x : Int32) : mM B ad ix (upd (wI (upd iv 15 (nI (P ++ [x]).length)) w) 15 (nI (P ++ [x]).length - 1)) (wA (va_up av 14 (wrF g (P ++ [x]))) w) = mM B ad ix (wI (upd iv 15 (nI P.length)) w) (wA (va_up av 14 (wrF (wrF g (P ++ [x])) P)) w) := by
  rw [← wrF_base]
  have e1 : upd (wI (upd iv 15 (nI (P ++ [x]).length)) w) 15 (nI (P ++ [x]).length - 1) = wI (upd iv 15 (nI P.length)) w := by
    funext k
    have : nI (P ++ [x]).length - 1 = nI P.length := by rw [List.length_append]; exact nI_pred _
    rw [this]
    simp [wI, upd]
    grind
  rw [e1]
theorem s_top (g : Nat → Int32) (P : List Int32) (x : Int32) : wrF (wrF g (P ++ [x])) P P.length = x := by simp [wrF]
theorem mU_len (av : Nat → Nat → Int32) (c k : Nat) (W : Nat → List Int32) (hW : ∀ j, k < j → 1 ≤ (W j).length) : ∀ i, (mU av c k i).length ≤ (mX av c k W i).length
  | 0 => Nat.le_refl _
  | i + 1 => by
    have := mU_len av c k W hW i
    have h2 := hW (k + 1 + i) (by omega)
    unfold mU mX
    split
    · split <;> simp <;> omega
    · exact this
set_option maxRecDepth 20000 in
theorem l_M_children {d : Nat} {B : xMm} {ad : Nat → Nat} {ix : Nat → Option Nat} {iv : Nat → Int32} {av : Nat → Nat → Int32} {ns : Nat × Nat} (ok : mOk ad ix) (c N k : Nat) (hc : c < 8) (hN : N ≤ 160) (h6 : av 6 c = nI N) (hk : k < N) (g : Nat → Int32) (P w : List Int32) : ∀ (m i : Nat), k + 1 + i + m = N → xEv d k_M_children 7 [some (.ref (ad 0)), some (.int (nI c)), some (.int (nI k)), some (.int (nI (nch av c k i))), some (.int (nI (k + 1 + i)))] [] (mM B ad ix (wI (upd iv 15 (nI (P).length)) (w)) (wA (va_up av 14 (wrF g (P))) (w)), ns) (.inl (some (.int (nI (nch av c k (N - 1 - k))))), (mM B ad ix (wI (upd iv 15 (nI (P).length)) (w)) (wA (va_up av 14 (wrF g (P))) (w)), ns)) := by
  have ec : (nI c).toNatClampNeg = c := nI_clamp (by omega)
  intro m
  induction m with
  | zero =>
    intro i hi
    refine ev_iload d_M_children_7 rfl ?_
    refine ev_aload_n d_M_children_9 rfl ?_
    refine ev_get d_M_children_10 f_8_19 (mM_obj ok) rfl ?_
    refine ev_iload_n d_M_children_13 rfl ?_
    refine ev_iald d_M_children_14 (mM_arr ok 6 rfl) ⟨rfl, vp_in_nI (N := 8) hc (by decide)⟩ rfl ?_
    rw [s_ne (k := 6) (by decide) (by decide), ec, h6]
    refine ev_icmp_ge (t := 49) d_M_children_15 (by decide) (fun _ => ?_) (fun c_15 => absurd (nI_le (by omega) (by omega)) c_15)
    refine ev_iload_n d_M_children_49 rfl ?_
    exact xEv.to (ev_iret d_M_children_50 rfl) (by rw [show i = N - 1 - k by omega])
  | succ m ih =>
    intro i hi
    refine ev_iload d_M_children_7 rfl ?_
    refine ev_aload_n d_M_children_9 rfl ?_
    refine ev_get d_M_children_10 f_8_19 (mM_obj ok) rfl ?_
    refine ev_iload_n d_M_children_13 rfl ?_
    refine ev_iald d_M_children_14 (mM_arr ok 6 rfl) ⟨rfl, vp_in_nI (N := 8) hc (by decide)⟩ rfl ?_
    rw [s_ne (k := 6) (by decide) (by decide), ec, h6]
    refine ev_icmp_ge (t := 49) d_M_children_15 (by decide) (fun c_15 => absurd c_15 (nI_ge (by omega) (by omega))) (fun _ => ?_)
    refine ev_cutv (E := 42) (V := nI (nch av c k (i + 1))) ?_ (fun hk_1 => ?_)
    · refine ev_top (fun x_2 ex_2 => ?_)
      refine ev_istore_n (lo1 := [some (.ref (ad 0)), some (.int (nI c)), some (.int (nI k)), some (.int x_2), some (.int (nI (k + 1 + i)))]) d_M_children_42 (Nat.le_of_ble_eq_true rfl) rfl ?_
      obtain ⟨x_3, ex_3⟩ : ∃ z : Int32, z = (nI (k + 1 + i)) + 1 := ⟨_, rfl⟩
      refine ev_iinc (v := x_3) (lo1 := [some (.ref (ad 0)), some (.int (nI c)), some (.int (nI k)), some (.int x_2), some (.int x_3)]) d_M_children_43 rfl (by rw [ex_3]; rfl) rfl ?_
      refine ev_goto (t := 7) d_M_children_46 (by decide) ?_
      rw [show x_3 = nI (k + 1 + (i + 1)) from by rw [ex_3, ← Nat.add_assoc, nI_succ], show x_2 = nI (nch av c k (i + 1)) from by rw [ex_2]]
      exact ih (i + 1) (by omega)
    · refine ev_aload_n d_M_children_18 rfl ?_
      refine ev_get d_M_children_19 f_8_25 (mM_obj ok) rfl ?_
      refine ev_sipush (v := 160) d_M_children_22 rfl ?_
      refine ev_iload_n d_M_children_25 rfl ?_
      refine ev_imul d_M_children_26 ?_
      refine ev_iload d_M_children_27 rfl ?_
      refine ev_iadd d_M_children_29 ?_
      rw [nI160]
      refine ev_iald d_M_children_30 (mM_arr ok 8 rfl) ⟨rfl, vp_in_nI (N := 1280) (by omega) (by decide)⟩ rfl ?_
      rw [s_ne (k := 8) (by decide) (by decide), nI_clamp (show 160 * c + (k + 1 + i) < 2 ^ 31 by omega)]
      refine ev_iload_n d_M_children_31 rfl ?_
      refine ev_icmp_ne (t := 41) d_M_children_32 (by decide) (fun c_32_4 => ?_) (fun c_32_4 => ?_)
      · refine ev_iload_n d_M_children_41 rfl ?_
        exact hk_1 _ (by first | (rw [show nch av c k (i + 1) = nch av c k i + 1 from by rw [nch, if_pos (by assumption)], nI_succ]) | (rw [show nch av c k (i + 1) = nch av c k i from by rw [nch, if_neg (by assumption), Nat.add_zero]]))
      · refine ev_iload_n d_M_children_35 rfl ?_
        refine ev_iconst (v := 1) d_M_children_36 rfl ?_
        refine ev_iadd d_M_children_37 ?_
        refine ev_goto (t := 42) d_M_children_38 (by decide) ?_
        exact hk_1 _ (by first | (rw [show nch av c k (i + 1) = nch av c k i + 1 from by rw [nch, if_pos (by assumption)], nI_succ]) | (rw [show nch av c k (i + 1) = nch av c k i from by rw [nch, if_neg (by assumption), Nat.add_zero]]))
set_option maxRecDepth 20000 in
theorem c_M_children {d : Nat} {B : xMm} {ad : Nat → Nat} {ix : Nat → Option Nat} {iv : Nat → Int32} {av : Nat → Nat → Int32} {ns : Nat × Nat} (ok : mOk ad ix) (c N k : Nat) (hc : c < 8) (hN : N ≤ 160) (h6 : av 6 c = nI N) (hk : k < N) (g : Nat → Int32) (P w : List Int32) : xCl d k_M_children [.ref (ad 0), .int (nI c), .int (nI k)] (mM B ad ix (wI (upd iv 15 (nI (P).length)) (w)) (wA (va_up av 14 (wrF g (P))) (w)), ns) (.inl (some (.int (nI (nch av c k (N - 1 - k))))), (mM B ad ix (wI (upd iv 15 (nI (P).length)) (w)) (wA (va_up av 14 (wrF g (P))) (w)), ns)) := by
  show xEv _ k_M_children 0 [some (.ref (ad 0)), some (.int (nI c)), some (.int (nI k)), none, none] [] _ _
  refine ev_iconst (v := 0) d_M_children_0 rfl ?_
  refine ev_istore_n (lo1 := [some (.ref (ad 0)), some (.int (nI c)), some (.int (nI k)), some (.int (nI (nch av c k 0))), none]) d_M_children_1 (Nat.le_of_ble_eq_true rfl) rfl ?_
  refine ev_iload_n d_M_children_2 rfl ?_
  refine ev_iconst (v := 1) d_M_children_3 rfl ?_
  refine ev_iadd d_M_children_4 ?_
  rw [show nI k + 1 = nI (k + 1 + 0) from (nI_succ k).symm]
  refine ev_istore (lo1 := [some (.ref (ad 0)), some (.int (nI c)), some (.int (nI k)), some (.int (nI (nch av c k 0))), some (.int (nI (k + 1 + 0)))]) d_M_children_5 (Nat.le_of_ble_eq_true rfl) rfl ?_
  exact l_M_children ok c N k hc hN h6 hk g P w (N - 1 - k) 0 (by omega)
set_option maxRecDepth 20000 in
theorem l_M_unfold {d : Nat} {B : xMm} {ad : Nat → Nat} {ix : Nat → Option Nat} {iv : Nat → Int32} {av : Nat → Nat → Int32} {ns : Nat × Nat} (ok : mOk ad ix) {X : xO × xS} (c N k : Nat) (hc : c < 8) (hN : N ≤ 160) (h6 : av 6 c = nI N) (hk : k < N) (g : Nat → Int32) (w : List Int32) (n : Int32) : ∀ (i : Nat), k + i < N → ∀ (P : List Int32), P.length + (mU av c k i).length ≤ 400 → (∀ (x4 x5 : Int32) (Q : List Int32), Q = P ++ mU av c k i → xEv (d + 1) k_M_unfold 146 [some (.ref (ad 0)), some (.int (nI c)), some (.int (nI k)), some (.int n), some (.int x4), some (.int x5)] [] (mM B ad ix (wI (upd iv 15 (nI (Q).length)) (w)) (wA (va_up av 14 (wrF g (Q))) (w)), ns) X) → xEv (d + 1) k_M_unfold 46 [some (.ref (ad 0)), some (.int (nI c)), some (.int (nI k)), some (.int n), some (.int (nI (nch av c k i))), some (.int (nI (k + i)))] [] (mM B ad ix (wI (upd iv 15 (nI (P).length)) (w)) (wA (va_up av 14 (wrF g (P))) (w)), ns) X := by
  intro i
  induction i with
  | zero =>
    intro hi P hP hend
    refine ev_iload d_M_unfold_46 rfl ?_
    refine ev_iload_n d_M_unfold_48 rfl ?_
    refine ev_icmp_le (t := 146) d_M_unfold_49 (by decide) (fun _ => ?_) (fun c_49 => absurd (by simp) c_49)
    exact hend _ _ P (by simp [mU])
  | succ i ih0 =>
    intro hi P hP hend
    have ih := ih0 (by omega)
    have hnl := nch_le av c k i
    rw [show k + (i + 1) = k + 1 + i by omega]
    by_cases hch : av 8 (160 * c + (k + 1 + i)) = nI k
    · have hn1 : nch av c k (i + 1) = nch av c k i + 1 := by rw [nch, if_pos hch]
      by_cases h0 : 0 < nch av c k i
      · have hPl : P.length + 2 ≤ 400 := by rw [mU, if_pos hch, if_pos h0] at hP; simp at hP; omega
        refine ev_iload d_M_unfold_46 rfl ?_
        refine ev_iload_n d_M_unfold_48 rfl ?_
        refine ev_icmp_le (t := 146) d_M_unfold_49 (by decide) (fun c_49 => absurd c_49 (nI_ge (by omega) (by omega))) (fun _ => ?_)
        refine ev_aload_n d_M_unfold_52 rfl ?_
        refine ev_get d_M_unfold_53 f_8_25 (mM_obj ok) rfl ?_
        refine ev_sipush (v := 160) d_M_unfold_56 rfl ?_
        refine ev_iload_n d_M_unfold_59 rfl ?_
        refine ev_imul d_M_unfold_60 ?_
        refine ev_iload d_M_unfold_61 rfl ?_
        refine ev_iadd d_M_unfold_63 ?_
        rw [nI160]
        refine ev_iald d_M_unfold_64 (mM_arr ok 8 rfl) ⟨rfl, vp_in_nI (N := 1280) (by omega) (by decide)⟩ rfl ?_
        rw [s_ne (k := 8) (by decide) (by decide), nI_clamp (show 160 * c + (k + 1 + i) < 2 ^ 31 by omega)]
        refine ev_iload_n d_M_unfold_65 rfl ?_
        refine ev_icmp_ne (t := 140) d_M_unfold_66 (by decide) (fun c_66 => absurd hch c_66) (fun _ => ?_)
        refine ev_aload_n d_M_unfold_69 rfl ?_
        refine ev_get d_M_unfold_70 f_8_43 (mM_obj ok) rfl ?_
        refine ev_aload_n d_M_unfold_73 rfl ?_
        refine ev_get d_M_unfold_74 f_8_158 (mM_obj ok) rfl ?_
        rw [s_15]
        refine ev_iload d_M_unfold_77 rfl ?_
        refine ev_iast d_M_unfold_79 (mM_arr ok 14 rfl) ⟨rfl, vp_in_nI (N := 400) (by omega) (by decide)⟩ (mM_ast ok 14 rfl) ?_
        rw [s_14, nI_clamp (show P.length < 2 ^ 31 by omega)]
        refine ev_aload_n d_M_unfold_80 rfl ?_
        refine ev_dup d_M_unfold_81 rfl ?_
        refine ev_get d_M_unfold_82 f_8_158 (mM_obj ok) rfl ?_
        rw [s_15]
        refine ev_iconst (v := 1) d_M_unfold_85 rfl ?_
        refine ev_iadd d_M_unfold_86 ?_
        refine ev_put d_M_unfold_87 f_8_158 (mM_obj ok) ⟨Nat.le_of_ble_eq_true rfl, xfit_i rfl, Or.inl rfl⟩ (mM_put ok rfl) ?_
        rw [s_push]
        obtain ⟨x_1, ex_1⟩ : ∃ z : Int32, z = (nI (nch av c k (i + 1))) + (-1) := ⟨_, rfl⟩
        refine ev_iinc (v := x_1) (lo1 := [some (.ref (ad 0)), some (.int (nI c)), some (.int (nI k)), some (.int n), some (.int x_1), some (.int (nI (k + 1 + i)))]) d_M_unfold_90 rfl (by rw [ex_1]; rfl) rfl ?_
        refine ev_iload d_M_unfold_93 rfl ?_
        refine ev_if_le (t := 140) d_M_unfold_95 (by decide) (fun c_95 => absurd c_95 (by rw [show x_1 = nI (nch av c k i) from by rw [ex_1, hn1, nI_succ]; grind]; exact nI_nle h0 (by omega))) (fun _ => ?_)
        refine ev_aload_n d_M_unfold_98 rfl ?_
        refine ev_get d_M_unfold_99 f_8_43 (mM_obj ok) rfl ?_
        refine ev_aload_n d_M_unfold_102 rfl ?_
        refine ev_get d_M_unfold_103 f_8_158 (mM_obj ok) rfl ?_
        rw [s_15]
        refine ev_cutv (E := 129) (V := 0 - jn av c k) ?_ (fun hk_2 => ?_)
        · refine ev_iast d_M_unfold_129 (mM_arr ok 14 rfl) ⟨rfl, vp_in_nI (N := 400) (by simp; omega) (by decide)⟩ (mM_ast ok 14 rfl) ?_
          rw [s_14, nI_clamp (show (P ++ [nI (k + 1 + i)]).length < 2 ^ 31 by simp; omega)]
          refine ev_aload_n d_M_unfold_130 rfl ?_
          refine ev_dup d_M_unfold_131 rfl ?_
          refine ev_get d_M_unfold_132 f_8_158 (mM_obj ok) rfl ?_
          rw [s_15]
          refine ev_iconst (v := 1) d_M_unfold_135 rfl ?_
          refine ev_iadd d_M_unfold_136 ?_
          refine ev_put d_M_unfold_137 f_8_158 (mM_obj ok) ⟨Nat.le_of_ble_eq_true rfl, xfit_i rfl, Or.inl rfl⟩ (mM_put ok rfl) ?_
          rw [s_push]
          obtain ⟨x_3, ex_3⟩ : ∃ z : Int32, z = (nI (k + 1 + i)) + (-1) := ⟨_, rfl⟩
          refine ev_iinc (v := x_3) (lo1 := [some (.ref (ad 0)), some (.int (nI c)), some (.int (nI k)), some (.int n), some (.int x_1), some (.int x_3)]) d_M_unfold_140 rfl (by rw [ex_3]; rfl) rfl ?_
          refine ev_goto (t := 46) d_M_unfold_143 (by decide) ?_
          rw [show x_3 = nI (k + i) from by rw [ex_3, show k + 1 + i = k + i + 1 by omega, nI_succ]; grind]
          rw [show x_1 = nI (nch av c k i) from by rw [ex_1, hn1, nI_succ]; grind]
          exact ih _ (by simp; rw [mU, if_pos hch, if_pos h0] at hP; simp at hP; omega) (fun x1 x2 Q hQ => hend x1 x2 Q (by rw [hQ, mU, if_pos hch, if_pos h0]; simp))
        · refine ev_aload_n d_M_unfold_106 rfl ?_
          refine ev_get d_M_unfold_107 f_8_22 (mM_obj ok) rfl ?_
          refine ev_sipush (v := 160) d_M_unfold_110 rfl ?_
          refine ev_iload_n d_M_unfold_113 rfl ?_
          refine ev_imul d_M_unfold_114 ?_
          refine ev_iload_n d_M_unfold_115 rfl ?_
          refine ev_iadd d_M_unfold_116 ?_
          rw [nI160]
          refine ev_iald d_M_unfold_117 (mM_arr ok 7 rfl) ⟨rfl, vp_in_nI (N := 1280) (by omega) (by decide)⟩ rfl ?_
          rw [s_ne (k := 7) (by decide) (by decide), nI_clamp (show 160 * c + k < 2 ^ 31 by omega)]
          refine ev_iconst (v := 2) d_M_unfold_118 rfl ?_
          refine ev_icmp_ne (t := 127) d_M_unfold_119 (by decide) (fun c_119_4 => ?_) (fun c_119_4 => ?_)
          · refine ev_bipush (v := (-38)) d_M_unfold_127 rfl ?_
            exact hk_2 _ (by rw [jn]; grind)
          · refine ev_bipush (v := (-124)) d_M_unfold_122 rfl ?_
            refine ev_goto (t := 129) d_M_unfold_124 (by decide) ?_
            exact hk_2 _ (by rw [jn]; grind)
      · have hPl : P.length + 1 ≤ 400 := by rw [mU, if_pos hch, if_neg h0] at hP; simp at hP; omega
        refine ev_iload d_M_unfold_46 rfl ?_
        refine ev_iload_n d_M_unfold_48 rfl ?_
        refine ev_icmp_le (t := 146) d_M_unfold_49 (by decide) (fun c_49 => absurd c_49 (nI_ge (by omega) (by omega))) (fun _ => ?_)
        refine ev_aload_n d_M_unfold_52 rfl ?_
        refine ev_get d_M_unfold_53 f_8_25 (mM_obj ok) rfl ?_
        refine ev_sipush (v := 160) d_M_unfold_56 rfl ?_
        refine ev_iload_n d_M_unfold_59 rfl ?_
        refine ev_imul d_M_unfold_60 ?_
        refine ev_iload d_M_unfold_61 rfl ?_
        refine ev_iadd d_M_unfold_63 ?_
        rw [nI160]
        refine ev_iald d_M_unfold_64 (mM_arr ok 8 rfl) ⟨rfl, vp_in_nI (N := 1280) (by omega) (by decide)⟩ rfl ?_
        rw [s_ne (k := 8) (by decide) (by decide), nI_clamp (show 160 * c + (k + 1 + i) < 2 ^ 31 by omega)]
        refine ev_iload_n d_M_unfold_65 rfl ?_
        refine ev_icmp_ne (t := 140) d_M_unfold_66 (by decide) (fun c_66 => absurd hch c_66) (fun _ => ?_)
        refine ev_aload_n d_M_unfold_69 rfl ?_
        refine ev_get d_M_unfold_70 f_8_43 (mM_obj ok) rfl ?_
        refine ev_aload_n d_M_unfold_73 rfl ?_
        refine ev_get d_M_unfold_74 f_8_158 (mM_obj ok) rfl ?_
        rw [s_15]
        refine ev_iload d_M_unfold_77 rfl ?_
        refine ev_iast d_M_unfold_79 (mM_arr ok 14 rfl) ⟨rfl, vp_in_nI (N := 400) (by omega) (by decide)⟩ (mM_ast ok 14 rfl) ?_
        rw [s_14, nI_clamp (show P.length < 2 ^ 31 by omega)]
        refine ev_aload_n d_M_unfold_80 rfl ?_
        refine ev_dup d_M_unfold_81 rfl ?_
        refine ev_get d_M_unfold_82 f_8_158 (mM_obj ok) rfl ?_
        rw [s_15]
        refine ev_iconst (v := 1) d_M_unfold_85 rfl ?_
        refine ev_iadd d_M_unfold_86 ?_
        refine ev_put d_M_unfold_87 f_8_158 (mM_obj ok) ⟨Nat.le_of_ble_eq_true rfl, xfit_i rfl, Or.inl rfl⟩ (mM_put ok rfl) ?_
        rw [s_push]
        obtain ⟨x_1, ex_1⟩ : ∃ z : Int32, z = (nI (nch av c k (i + 1))) + (-1) := ⟨_, rfl⟩
        refine ev_iinc (v := x_1) (lo1 := [some (.ref (ad 0)), some (.int (nI c)), some (.int (nI k)), some (.int n), some (.int x_1), some (.int (nI (k + 1 + i)))]) d_M_unfold_90 rfl (by rw [ex_1]; rfl) rfl ?_
        refine ev_iload d_M_unfold_93 rfl ?_
        refine ev_if_le (t := 140) d_M_unfold_95 (by decide) (fun _ => ?_) (fun c_95 => absurd (by rw [show x_1 = nI (nch av c k i) from by rw [ex_1, hn1, nI_succ]; grind, show nch av c k i = 0 by omega]; decide) c_95)
        obtain ⟨x_2, ex_2⟩ : ∃ z : Int32, z = (nI (k + 1 + i)) + (-1) := ⟨_, rfl⟩
        refine ev_iinc (v := x_2) (lo1 := [some (.ref (ad 0)), some (.int (nI c)), some (.int (nI k)), some (.int n), some (.int x_1), some (.int x_2)]) d_M_unfold_140 rfl (by rw [ex_2]; rfl) rfl ?_
        refine ev_goto (t := 46) d_M_unfold_143 (by decide) ?_
        rw [show x_2 = nI (k + i) from by rw [ex_2, show k + 1 + i = k + i + 1 by omega, nI_succ]; grind]
        rw [show x_1 = nI (nch av c k i) from by rw [ex_1, hn1, nI_succ]; grind]
        exact ih _ (by simp; rw [mU, if_pos hch, if_neg h0] at hP; simp at hP; omega) (fun x1 x2 Q hQ => hend x1 x2 Q (by rw [hQ, mU, if_pos hch, if_neg h0]; simp))
    · have hn0 : nch av c k (i + 1) = nch av c k i := by rw [nch, if_neg hch, Nat.add_zero]
      refine ev_iload d_M_unfold_46 rfl ?_
      refine ev_iload_n d_M_unfold_48 rfl ?_
      refine ev_icmp_le (t := 146) d_M_unfold_49 (by decide) (fun c_49 => absurd c_49 (nI_ge (by omega) (by omega))) (fun _ => ?_)
      refine ev_aload_n d_M_unfold_52 rfl ?_
      refine ev_get d_M_unfold_53 f_8_25 (mM_obj ok) rfl ?_
      refine ev_sipush (v := 160) d_M_unfold_56 rfl ?_
      refine ev_iload_n d_M_unfold_59 rfl ?_
      refine ev_imul d_M_unfold_60 ?_
      refine ev_iload d_M_unfold_61 rfl ?_
      refine ev_iadd d_M_unfold_63 ?_
      rw [nI160]
      refine ev_iald d_M_unfold_64 (mM_arr ok 8 rfl) ⟨rfl, vp_in_nI (N := 1280) (by omega) (by decide)⟩ rfl ?_
      rw [s_ne (k := 8) (by decide) (by decide), nI_clamp (show 160 * c + (k + 1 + i) < 2 ^ 31 by omega)]
      refine ev_iload_n d_M_unfold_65 rfl ?_
      refine ev_icmp_ne (t := 140) d_M_unfold_66 (by decide) (fun _ => ?_) (fun c_66 => absurd c_66 hch)
      obtain ⟨x_1, ex_1⟩ : ∃ z : Int32, z = (nI (k + 1 + i)) + (-1) := ⟨_, rfl⟩
      refine ev_iinc (v := x_1) (lo1 := [some (.ref (ad 0)), some (.int (nI c)), some (.int (nI k)), some (.int n), some (.int (nI (nch av c k (i + 1)))), some (.int x_1)]) d_M_unfold_140 rfl (by rw [ex_1]; rfl) rfl ?_
      refine ev_goto (t := 46) d_M_unfold_143 (by decide) ?_
      rw [show x_1 = nI (k + i) from by rw [ex_1, show k + 1 + i = k + i + 1 by omega, nI_succ]; grind, hn0]
      exact ih _ (by rw [mU, if_neg hch] at hP; exact hP) (fun x1 x2 Q hQ => hend x1 x2 Q (by rw [hQ, mU, if_neg hch]))
