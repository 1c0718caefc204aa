/-! the reference's loops over loans, rows -/
def anyF (P : Nat → Bool) : Nat → Nat → Bool
  | 0, _ => false
  | n + 1, i => P i || anyF P n (i + 1)
def xb (b : Bool) : Int32 := if b then 1 else 0
theorem xb_t {b : Bool} (h : b = true) : xb b = 1 := by rw [h]; rfl
theorem xb_f {b : Bool} (h : b = false) : xb b = 0 := by rw [h]; rfl
theorem xb_01 (b : Bool) : xb b = 0 ∨ xb b = 1 := by cases b <;> simp [xb]
def mOut (av : Nat → Nat → Int32) (t f u b : Int32) (l : Nat) : Bool := decide (¬ nI l = b ∧ av 25 l = t ∧ av 26 l ≤ u ∧ f ≤ av 27 l)
set_option maxRecDepth 20000 in
theorem l_M_isOut {d : Nat} {B : xMm} {ad : Nat → Nat} {ix : Nat → Option Nat} {iv : Nat → Int32} {av : Nat → Nat → Int32} {ns : Nat × Nat} (ok : mOk ad ix) (t f u b : Int32) (ln : Nat) (hln : ln ≤ 20) (hi : iv 23 = nI ln) : ∀ n i : Nat, i + n = ln → xEv d k_M_isOut 3 [some (.ref (ad 0)), some (.int t), some (.int f), some (.int u), some (.int b), some (.int (nI i))] [] (mM B ad ix iv av, ns) (.inl (some (.int (xb (anyF (mOut av t f u b) n i)))), (mM B ad ix iv av, ns)) := by
  intro n
  induction n with
  | zero =>
    intro i hi0
    refine ev_iload d_M_isOut_3 rfl ?_
    refine ev_aload_n d_M_isOut_5 rfl ?_
    refine ev_get d_M_isOut_6 f_8_105 (mM_obj ok) rfl ?_
    refine ev_icmp_ge (t := 60) d_M_isOut_9 (by decide) (fun _ => ?_) (fun c_9 => absurd (by rw [hi, show i = ln by omega]; exact nI_le (Nat.le_refl _) (by omega)) c_9)
    refine ev_iconst (v := 0) d_M_isOut_60 rfl ?_
    exact xEv.to (ev_zret d_M_isOut_61 rfl (Or.inl rfl)) rfl
  | succ n ih =>
    intro i hi0
    have ei : (nI i).toNatClampNeg = i := nI_clamp (by omega)
    refine ev_iload d_M_isOut_3 rfl ?_
    refine ev_aload_n d_M_isOut_5 rfl ?_
    refine ev_get d_M_isOut_6 f_8_105 (mM_obj ok) rfl ?_
    refine ev_icmp_ge (t := 60) d_M_isOut_9 (by decide) (fun c_9 => absurd c_9 (by rw [hi]; exact nI_ge (by omega) (by omega))) (fun _ => ?_)
    refine ev_iload d_M_isOut_12 rfl ?_
    refine ev_iload d_M_isOut_14 rfl ?_
    refine ev_icmp_eq (t := 54) d_M_isOut_16 (by decide) (fun c_16_1 => ?_) (fun c_16_1 => ?_)
    · obtain ⟨x_2, ex_2⟩ : ∃ z : Int32, z = (nI i) + 1 := ⟨_, rfl⟩
      refine ev_iinc (v := x_2) (lo1 := [some (.ref (ad 0)), some (.int t), some (.int f), some (.int u), some (.int b), some (.int x_2)]) d_M_isOut_54 rfl (by rw [ex_2]; rfl) rfl ?_
      refine ev_goto (t := 3) d_M_isOut_57 (by decide) ?_
      rw [show x_2 = nI (i + 1) from by rw [ex_2, nI_succ]]
      exact xEv.to (ih (i + 1) (by omega)) (by grind [anyF, mOut])
    · refine ev_aload_n d_M_isOut_19 rfl ?_
      refine ev_get d_M_isOut_20 f_8_67 (mM_obj ok) rfl ?_
      refine ev_iload d_M_isOut_23 rfl ?_
      refine ev_iald d_M_isOut_25 (mM_arr ok 25 rfl) ⟨rfl, vp_in_nI (N := 20) (by omega) (by decide)⟩ rfl ?_
      refine ev_iload_n d_M_isOut_26 rfl ?_
      refine ev_icmp_ne (t := 54) d_M_isOut_27 (by decide) (fun c_27_3 => ?_) (fun c_27_3 => ?_)
      · obtain ⟨x_4, ex_4⟩ : ∃ z : Int32, z = (nI i) + 1 := ⟨_, rfl⟩
        refine ev_iinc (v := x_4) (lo1 := [some (.ref (ad 0)), some (.int t), some (.int f), some (.int u), some (.int b), some (.int x_4)]) d_M_isOut_54 rfl (by rw [ex_4]; rfl) rfl ?_
        refine ev_goto (t := 3) d_M_isOut_57 (by decide) ?_
        rw [show x_4 = nI (i + 1) from by rw [ex_4, nI_succ]]
        exact xEv.to (ih (i + 1) (by omega)) (by grind [anyF, mOut])
      · refine ev_aload_n d_M_isOut_30 rfl ?_
        refine ev_get d_M_isOut_31 f_8_70 (mM_obj ok) rfl ?_
        refine ev_iload d_M_isOut_34 rfl ?_
        refine ev_iald d_M_isOut_36 (mM_arr ok 26 rfl) ⟨rfl, vp_in_nI (N := 20) (by omega) (by decide)⟩ rfl ?_
        refine ev_iload_n d_M_isOut_37 rfl ?_
        refine ev_icmp_gt (t := 54) d_M_isOut_38 (by decide) (fun c_38_5 => ?_) (fun c_38_5 => ?_)
        · obtain ⟨x_6, ex_6⟩ : ∃ z : Int32, z = (nI i) + 1 := ⟨_, rfl⟩
          refine ev_iinc (v := x_6) (lo1 := [some (.ref (ad 0)), some (.int t), some (.int f), some (.int u), some (.int b), some (.int x_6)]) d_M_isOut_54 rfl (by rw [ex_6]; rfl) rfl ?_
          refine ev_goto (t := 3) d_M_isOut_57 (by decide) ?_
          rw [show x_6 = nI (i + 1) from by rw [ex_6, nI_succ]]
          exact xEv.to (ih (i + 1) (by omega)) (by grind [anyF, mOut])
        · refine ev_iload_n d_M_isOut_41 rfl ?_
          refine ev_aload_n d_M_isOut_42 rfl ?_
          refine ev_get d_M_isOut_43 f_8_73 (mM_obj ok) rfl ?_
          refine ev_iload d_M_isOut_46 rfl ?_
          refine ev_iald d_M_isOut_48 (mM_arr ok 27 rfl) ⟨rfl, vp_in_nI (N := 20) (by omega) (by decide)⟩ rfl ?_
          refine ev_icmp_gt (t := 54) d_M_isOut_49 (by decide) (fun c_49_7 => ?_) (fun c_49_7 => ?_)
          · obtain ⟨x_8, ex_8⟩ : ∃ z : Int32, z = (nI i) + 1 := ⟨_, rfl⟩
            refine ev_iinc (v := x_8) (lo1 := [some (.ref (ad 0)), some (.int t), some (.int f), some (.int u), some (.int b), some (.int x_8)]) d_M_isOut_54 rfl (by rw [ex_8]; rfl) rfl ?_
            refine ev_goto (t := 3) d_M_isOut_57 (by decide) ?_
            rw [show x_8 = nI (i + 1) from by rw [ex_8, nI_succ]]
            exact xEv.to (ih (i + 1) (by omega)) (by grind [anyF, mOut])
          · refine ev_iconst (v := 1) d_M_isOut_52 rfl ?_
            exact xEv.to (ev_zret d_M_isOut_53 rfl (Or.inr rfl)) (by grind [anyF, mOut, xb])
set_option maxRecDepth 20000 in
theorem c_M_isOut {d : Nat} {B : xMm} {ad : Nat → Nat} {ix : Nat → Option Nat} {iv : Nat → Int32} {av : Nat → Nat → Int32} {ns : Nat × Nat} (ok : mOk ad ix) (t f u b : Int32) (ln : Nat) (hln : ln ≤ 20) (hi : iv 23 = nI ln) : xCl d k_M_isOut [.ref (ad 0), .int t, .int f, .int u, .int b] (mM B ad ix iv av, ns) (.inl (some (.int (xb (anyF (mOut av t f u b) ln 0)))), (mM B ad ix iv av, ns)) := by
  show xEv _ k_M_isOut 0 [some (.ref (ad 0)), some (.int t), some (.int f), some (.int u), some (.int b), none] [] _ _
  refine ev_iconst (v := 0) d_M_isOut_0 rfl ?_
  refine ev_istore (lo1 := [some (.ref (ad 0)), some (.int t), some (.int f), some (.int u), some (.int b), some (.int 0)]) d_M_isOut_1 (Nat.le_of_ble_eq_true rfl) rfl ?_
  exact l_M_isOut ok t f u b ln hln hi ln 0 (by omega)
/-- the value of the last of the rows i .. that is not above the hour, v before them -/
def mVal (av : Nat → Nat → Int32) (k : Nat) (h : Int32) : Nat → Nat → Int32 → Int32
  | 0, _, v => v
  | n + 1, i, v => mVal av k h n (i + 1) (if av 19 (60 * k + i) ≤ h then av 20 (60 * k + i) else v)
def mValue (av : Nat → Nat → Int32) (k : Nat) (h : Int32) (n : Nat) : Int32 := if av 22 k ≠ -1 ∧ av 21 k ≤ h ∧ h ≤ av 22 k then -1 else mVal av k h n 0 (-1)
theorem nI60 (k i : Nat) : 60 * nI k + nI i = nI (60 * k + i) := by rw [show (60 : Int32) = nI 60 from rfl, pk_mul, nI_add]
theorem nI60z (k : Nat) : 60 * nI k = nI (60 * k) := by rw [show (60 : Int32) = nI 60 from rfl, pk_mul]
set_option maxRecDepth 20000 in
theorem l_M_valueAt {d : Nat} {B : xMm} {ad : Nat → Nat} {ix : Nat → Option Nat} {iv : Nat → Int32} {av : Nat → Nat → Int32} {ns : Nat × Nat} (ok : mOk ad ix) {r : xO × xS} (k : Nat) (h : Int32) (rn : Nat) (hk : k < 8) (hrn : rn ≤ 60) (hr : av 18 k = nI rn) (V : Int32) (hend : ∀ x : Int32, xEv (d + 1) k_M_valueAt 53 [some (.ref (ad 0)), some (.int (nI k)), some (.int h), some (.int V), some (.int x)] [] (mM B ad ix iv av, ns) r) : ∀ (n i : Nat) (v : Int32), i + n = rn → mVal av k h n i v = V → xEv (d + 1) k_M_valueAt 8 [some (.ref (ad 0)), some (.int (nI k)), some (.int h), some (.int v), some (.int (nI (60 * k + i)))] [] (mM B ad ix iv av, ns) r := by
  have ek : (nI k).toNatClampNeg = k := nI_clamp (by omega)
  intro n
  induction n with
  | zero =>
    intro i v hi0 hV
    have hV : v = V := hV
    subst hV
    refine ev_iload d_M_valueAt_8 rfl ?_
    refine ev_bipush (v := 60) d_M_valueAt_10 rfl ?_
    refine ev_iload_n d_M_valueAt_12 rfl ?_
    refine ev_imul d_M_valueAt_13 ?_
    refine ev_aload_n d_M_valueAt_14 rfl ?_
    refine ev_get d_M_valueAt_15 f_8_49 (mM_obj ok) rfl ?_
    refine ev_iload_n d_M_valueAt_18 rfl ?_
    refine ev_iald d_M_valueAt_19 (mM_arr ok 18 rfl) ⟨rfl, vp_in_nI hk (by decide)⟩ rfl ?_
    refine ev_iadd d_M_valueAt_20 ?_
    refine ev_icmp_ge (t := 53) d_M_valueAt_21 (by decide) (fun _ => ?_) (fun c_21 => absurd (by rw [ek, hr, nI60, show i = rn by omega]; exact nI_le (Nat.le_refl _) (by omega)) c_21)
    exact hend _
  | succ n ih =>
    intro i v hi0 hV
    have ei : (nI (60 * k + i)).toNatClampNeg = 60 * k + i := nI_clamp (by omega)
    refine ev_iload d_M_valueAt_8 rfl ?_
    refine ev_bipush (v := 60) d_M_valueAt_10 rfl ?_
    refine ev_iload_n d_M_valueAt_12 rfl ?_
    refine ev_imul d_M_valueAt_13 ?_
    refine ev_aload_n d_M_valueAt_14 rfl ?_
    refine ev_get d_M_valueAt_15 f_8_49 (mM_obj ok) rfl ?_
    refine ev_iload_n d_M_valueAt_18 rfl ?_
    refine ev_iald d_M_valueAt_19 (mM_arr ok 18 rfl) ⟨rfl, vp_in_nI hk (by decide)⟩ rfl ?_
    refine ev_iadd d_M_valueAt_20 ?_
    refine ev_icmp_ge (t := 53) d_M_valueAt_21 (by decide) (fun c_21 => absurd c_21 (by rw [ek, hr, nI60]; exact nI_ge (by omega) (by omega))) (fun _ => ?_)
    refine ev_cutv (E := 46) (V := if av 19 (60 * k + i) ≤ h then av 20 (60 * k + i) else v) ?_ (fun hk_1 => ?_)
    · refine ev_top (fun x_2 ex_2 => ?_)
      refine ev_istore_n (lo1 := [some (.ref (ad 0)), some (.int (nI k)), some (.int h), some (.int x_2), some (.int (nI (60 * k + i)))]) d_M_valueAt_46 (Nat.le_of_ble_eq_true rfl) rfl ?_
      obtain ⟨x_3, ex_3⟩ : ∃ z : Int32, z = (nI (60 * k + i)) + 1 := ⟨_, rfl⟩
      refine ev_iinc (v := x_3) (lo1 := [some (.ref (ad 0)), some (.int (nI k)), some (.int h), some (.int x_2), some (.int x_3)]) d_M_valueAt_47 rfl (by rw [ex_3]; rfl) rfl ?_
      refine ev_goto (t := 8) d_M_valueAt_50 (by decide) ?_
      rw [show x_3 = nI (60 * k + (i + 1)) from by rw [ex_3, ← Nat.add_assoc, nI_succ]]
      exact ih (i + 1) _ (by omega) (by rw [← hV]; grind [mVal])
    · refine ev_aload_n d_M_valueAt_24 rfl ?_
      refine ev_get d_M_valueAt_25 f_8_52 (mM_obj ok) rfl ?_
      refine ev_iload d_M_valueAt_28 rfl ?_
      refine ev_iald d_M_valueAt_30 (mM_arr ok 19 rfl) ⟨rfl, vp_in_nI (N := 480) (by omega) (by decide)⟩ rfl ?_
      refine ev_iload_n d_M_valueAt_31 rfl ?_
      refine ev_icmp_gt (t := 45) d_M_valueAt_32 (by decide) (fun c_32_4 => ?_) (fun c_32_4 => ?_)
      · refine ev_iload_n d_M_valueAt_45 rfl ?_
        exact hk_1 _ (by grind)
      · refine ev_aload_n d_M_valueAt_35 rfl ?_
        refine ev_get d_M_valueAt_36 f_8_55 (mM_obj ok) rfl ?_
        refine ev_iload d_M_valueAt_39 rfl ?_
        refine ev_iald d_M_valueAt_41 (mM_arr ok 20 rfl) ⟨rfl, vp_in_nI (N := 480) (by omega) (by decide)⟩ rfl ?_
        refine ev_goto (t := 46) d_M_valueAt_42 (by decide) ?_
        exact hk_1 _ (by grind)
set_option maxRecDepth 20000 in
theorem c_M_valueAt {d : Nat} {B : xMm} {ad : Nat → Nat} {ix : Nat → Option Nat} {iv : Nat → Int32} {av : Nat → Nat → Int32} {ns : Nat × Nat} (ok : mOk ad ix) (k : Nat) (h : Int32) (rn : Nat) (hk : k < 8) (hrn : rn ≤ 60) (hr : av 18 k = nI rn) : xCl (d + 1) k_M_valueAt [.ref (ad 0), .int (nI k), .int h] (mM B ad ix iv av, ns) (.inl (some (.int (mValue av k h rn))), (mM B ad ix iv av, ns)) := by
  have ek : (nI k).toNatClampNeg = k := nI_clamp (by omega)
  show xEv _ k_M_valueAt 0 [some (.ref (ad 0)), some (.int (nI k)), some (.int h), none, none] [] _ _
  refine ev_iconst (v := (-1)) d_M_valueAt_0 rfl ?_
  refine ev_istore_n (lo1 := [some (.ref (ad 0)), some (.int (nI k)), some (.int h), some (.int (-1)), none]) d_M_valueAt_1 (Nat.le_of_ble_eq_true rfl) rfl ?_
  refine ev_bipush (v := 60) d_M_valueAt_2 rfl ?_
  refine ev_iload_n d_M_valueAt_4 rfl ?_
  refine ev_imul d_M_valueAt_5 ?_
  refine ev_top (fun x_1 ex_1 => ?_)
  refine ev_istore (lo1 := [some (.ref (ad 0)), some (.int (nI k)), some (.int h), some (.int (-1)), some (.int x_1)]) d_M_valueAt_6 (Nat.le_of_ble_eq_true rfl) rfl ?_
  rw [show x_1 = nI (60 * k + 0) from by rw [ex_1, nI60z, Nat.add_zero]]
  refine l_M_valueAt ok k h rn hk hrn hr _ (fun x => ?_) rn 0 (-1) (by omega) rfl
  refine ev_aload_n d_M_valueAt_53 rfl ?_
  refine ev_get d_M_valueAt_54 f_8_61 (mM_obj ok) rfl ?_
  refine ev_iload_n d_M_valueAt_57 rfl ?_
  refine ev_iald d_M_valueAt_58 (mM_arr ok 22 rfl) ⟨rfl, vp_in_nI hk (by decide)⟩ rfl ?_
  refine ev_iconst (v := (-1)) d_M_valueAt_59 rfl ?_
  refine ev_icmp_eq (t := 86) d_M_valueAt_60 (by decide) (fun c_60_1 => ?_) (fun c_60_1 => ?_)
  · refine ev_iload_n d_M_valueAt_86 rfl ?_
    exact xEv.to (ev_iret d_M_valueAt_87 rfl) (by grind [mVal, mValue, xbi])
  · refine ev_iload_n d_M_valueAt_63 rfl ?_
    refine ev_aload_n d_M_valueAt_64 rfl ?_
    refine ev_get d_M_valueAt_65 f_8_58 (mM_obj ok) rfl ?_
    refine ev_iload_n d_M_valueAt_68 rfl ?_
    refine ev_iald d_M_valueAt_69 (mM_arr ok 21 rfl) ⟨rfl, vp_in_nI hk (by decide)⟩ rfl ?_
    refine ev_aload_n d_M_valueAt_70 rfl ?_
    refine ev_get d_M_valueAt_71 f_8_61 (mM_obj ok) rfl ?_
    refine ev_iload_n d_M_valueAt_74 rfl ?_
    refine ev_iald d_M_valueAt_75 (mM_arr ok 22 rfl) ⟨rfl, vp_in_nI hk (by decide)⟩ rfl ?_
    refine ev_s3r d_M_valueAt_76 q_8_112 rfl ⟨rfl, Nat.le_of_ble_eq_true rfl, Nat.le_of_ble_eq_true rfl⟩ (c_M_within _ _ _) ?_
    refine ev_if_eq (t := 86) d_M_valueAt_79 (by decide) (fun c_79_2 => ?_) (fun c_79_2 => ?_)
    · refine ev_iload_n d_M_valueAt_86 rfl ?_
      exact xEv.to (ev_iret d_M_valueAt_87 rfl) (by grind [mVal, mValue, xbi])
    · refine ev_iconst (v := (-1)) d_M_valueAt_82 rfl ?_
      refine ev_goto (t := 87) d_M_valueAt_83 (by decide) ?_
      exact xEv.to (ev_iret d_M_valueAt_87 rfl) (by grind [mVal, mValue, xbi])
def mSum (av : Nat → Nat → Int32) : Nat → Nat → Int32 → Int32
  | 0, _, s => s
  | n + 1, i, s => mSum av n (i + 1) (s + av 18 i)
set_option maxRecDepth 20000 in
theorem l_M_count {d : Nat} {B : xMm} {ad : Nat → Nat} {ix : Nat → Option Nat} {iv : Nat → Int32} {av : Nat → Nat → Int32} {ns : Nat × Nat} (ok : mOk ad ix) {r : xO × xS} (w V : Int32) (hend : ∀ x : Int32, xEv d k_M_count 42 [some (.ref (ad 0)), some (.int w), some (.int V), some (.int x)] [] (mM B ad ix iv av, ns) r) : ∀ (n i : Nat) (s : Int32), i + n = 8 → mSum av n i s = V → xEv d k_M_count 21 [some (.ref (ad 0)), some (.int w), some (.int s), some (.int (nI i))] [] (mM B ad ix iv av, ns) r := by
  intro n
  induction n with
  | zero =>
    intro i s hi0 hV
    have hV : s = V := hV
    subst hV
    refine ev_iload_n d_M_count_21 rfl ?_
    refine ev_bipush (v := 8) d_M_count_22 rfl ?_
    refine ev_icmp_ge (t := 42) d_M_count_24 (by decide) (fun _ => ?_) (fun c_24 => absurd (nI_le (a := 8) (b := i) (by omega) (by omega)) c_24)
    exact hend _
  | succ n ih =>
    intro i s hi0 hV
    have ei : (nI i).toNatClampNeg = i := nI_clamp (by omega)
    refine ev_iload_n d_M_count_21 rfl ?_
    refine ev_bipush (v := 8) d_M_count_22 rfl ?_
    refine ev_icmp_ge (t := 42) d_M_count_24 (by decide) (fun c_24 => absurd c_24 (nI_ge (a := i) (b := 8) (by omega) (by decide))) (fun _ => ?_)
    refine ev_iload_n d_M_count_27 rfl ?_
    refine ev_aload_n d_M_count_28 rfl ?_
    refine ev_get d_M_count_29 f_8_49 (mM_obj ok) rfl ?_
    refine ev_iload_n d_M_count_32 rfl ?_
    refine ev_iald d_M_count_33 (mM_arr ok 18 rfl) ⟨rfl, vp_in_nI (N := 8) (by omega) (by decide)⟩ rfl ?_
    refine ev_iadd d_M_count_34 ?_
    refine ev_top (fun x_1 ex_1 => ?_)
    refine ev_istore_n (lo1 := [some (.ref (ad 0)), some (.int w), some (.int x_1), some (.int (nI i))]) d_M_count_35 (Nat.le_of_ble_eq_true rfl) rfl ?_
    obtain ⟨x_2, ex_2⟩ : ∃ z : Int32, z = (nI i) + 1 := ⟨_, rfl⟩
    refine ev_iinc (v := x_2) (lo1 := [some (.ref (ad 0)), some (.int w), some (.int x_1), some (.int x_2)]) d_M_count_36 rfl (by rw [ex_2]; rfl) rfl ?_
    refine ev_goto (t := 21) d_M_count_39 (by decide) ?_
    rw [show x_2 = nI (i + 1) from by rw [ex_2, nI_succ]]
    exact ih (i + 1) _ (by omega) (by rw [← hV]; grind [mSum])
set_option maxRecDepth 20000 in
theorem c_M_count_no {d : Nat} {B : xMm} {ad : Nat → Nat} {ix : Nat → Option Nat} {iv : Nat → Int32} {av : Nat → Nat → Int32} {ns : Nat × Nat} (ok : mOk ad ix) (w : Int32) (h : mgo (xbi (0 ≤ w ∧ w ≤ 4)) 1 1 ≠ 0) : xCl (d + 1) k_M_count [.ref (ad 0), .int w] (mM B ad ix iv av, ns) (.inl (some (.int 0)), (mM B ad ix (upd iv 0 (mgo (xbi (0 ≤ w ∧ w ≤ 4)) 1 1)) av, ns)) := by
  show xEv _ k_M_count 0 [some (.ref (ad 0)), some (.int w), none, none] [] _ _
  refine ev_aload_n d_M_count_0 rfl ?_
  refine ev_iload_n d_M_count_1 rfl ?_
  refine ev_iconst (v := 0) d_M_count_2 rfl ?_
  refine ev_iconst (v := 4) d_M_count_3 rfl ?_
  refine ev_s3r d_M_count_4 q_8_112 rfl ⟨rfl, Nat.le_of_ble_eq_true rfl, Nat.le_of_ble_eq_true rfl⟩ (c_M_within _ _ _) ?_
  refine ev_iconst (v := 1) d_M_count_7 rfl ?_
  refine ev_iconst (v := 1) d_M_count_8 rfl ?_
  refine ev_v3r d_M_count_9 q_8_116 rfl (mM_obj ok) ⟨rfl, Nat.le_of_ble_eq_true rfl, Nat.le_of_ble_eq_true rfl⟩ (c_M_goes ok _ _ _) ?_
  refine ev_if_ne (t := 17) d_M_count_12 (by decide) (fun c_12 => absurd (xbi_f h) c_12) (fun _ => ?_)
  refine ev_iconst (v := 0) d_M_count_15 rfl ?_
  exact xEv.to (ev_iret d_M_count_16 rfl) (by grind [upd])
set_option maxRecDepth 20000 in
theorem c_M_count_ok {d : Nat} {B : xMm} {ad : Nat → Nat} {ix : Nat → Option Nat} {iv : Nat → Int32} {av : Nat → Nat → Int32} {ns : Nat × Nat} (ok : mOk ad ix) (w : Int32) (h : mgo (xbi (0 ≤ w ∧ w ≤ 4)) 1 1 = 0) : xCl (d + 1) k_M_count [.ref (ad 0), .int w] (mM B ad ix iv av, ns) (.inl (some (.int (if w = 0 then iv 1 else if w = 1 then iv 3 else if w = 2 then iv 23 else if w = 3 then iv 33 else mSum av 8 0 0))), (mM B ad ix (upd iv 0 0) av, ns)) := by
  show xEv _ k_M_count 0 [some (.ref (ad 0)), some (.int w), none, none] [] _ _
  refine ev_aload_n d_M_count_0 rfl ?_
  refine ev_iload_n d_M_count_1 rfl ?_
  refine ev_iconst (v := 0) d_M_count_2 rfl ?_
  refine ev_iconst (v := 4) d_M_count_3 rfl ?_
  refine ev_s3r d_M_count_4 q_8_112 rfl ⟨rfl, Nat.le_of_ble_eq_true rfl, Nat.le_of_ble_eq_true rfl⟩ (c_M_within _ _ _) ?_
  refine ev_iconst (v := 1) d_M_count_7 rfl ?_
  refine ev_iconst (v := 1) d_M_count_8 rfl ?_
  refine ev_v3r d_M_count_9 q_8_116 rfl (mM_obj ok) ⟨rfl, Nat.le_of_ble_eq_true rfl, Nat.le_of_ble_eq_true rfl⟩ (c_M_goes ok _ _ _) ?_
  refine ev_if_ne (t := 17) d_M_count_12 (by decide) (fun _ => ?_) (fun c_12 => absurd c_12 (by rw [h]; decide))
  refine ev_iconst (v := 0) d_M_count_17 rfl ?_
  refine ev_istore_n (lo1 := [some (.ref (ad 0)), some (.int w), some (.int 0), none]) d_M_count_18 (Nat.le_of_ble_eq_true rfl) rfl ?_
  refine ev_iconst (v := 0) d_M_count_19 rfl ?_
  refine ev_istore_n (lo1 := [some (.ref (ad 0)), some (.int w), some (.int 0), some (.int 0)]) d_M_count_20 (Nat.le_of_ble_eq_true rfl) rfl ?_
  refine l_M_count ok w _ (fun x => ?_) 8 0 0 rfl rfl
  refine ev_iload_n d_M_count_42 rfl ?_
  refine ev_if_ne (t := 53) d_M_count_43 (by decide) (fun c_43_1 => ?_) (fun c_43_1 => ?_)
  · refine ev_iload_n d_M_count_53 rfl ?_
    refine ev_iconst (v := 1) d_M_count_54 rfl ?_
    refine ev_icmp_ne (t := 65) d_M_count_55 (by decide) (fun c_55_2 => ?_) (fun c_55_2 => ?_)
    · refine ev_iload_n d_M_count_65 rfl ?_
      refine ev_iconst (v := 2) d_M_count_66 rfl ?_
      refine ev_icmp_ne (t := 77) d_M_count_67 (by decide) (fun c_67_3 => ?_) (fun c_67_3 => ?_)
      · refine ev_iload_n d_M_count_77 rfl ?_
        refine ev_iconst (v := 3) d_M_count_78 rfl ?_
        refine ev_icmp_ne (t := 89) d_M_count_79 (by decide) (fun c_79_4 => ?_) (fun c_79_4 => ?_)
        · refine ev_iload_n d_M_count_89 rfl ?_
          exact xEv.to (ev_iret d_M_count_90 rfl) (by grind [upd, mgo, xbi])
        · refine ev_aload_n d_M_count_82 rfl ?_
          refine ev_get d_M_count_83 f_8_196 (mM_obj ok) rfl ?_
          refine ev_goto (t := 90) d_M_count_86 (by decide) ?_
          exact xEv.to (ev_iret d_M_count_90 rfl) (by grind [upd, mgo, xbi])
      · refine ev_aload_n d_M_count_70 rfl ?_
        refine ev_get d_M_count_71 f_8_105 (mM_obj ok) rfl ?_
        refine ev_goto (t := 90) d_M_count_74 (by decide) ?_
        exact xEv.to (ev_iret d_M_count_90 rfl) (by grind [upd, mgo, xbi])
    · refine ev_aload_n d_M_count_58 rfl ?_
      refine ev_get d_M_count_59 f_8_135 (mM_obj ok) rfl ?_
      refine ev_goto (t := 90) d_M_count_62 (by decide) ?_
      exact xEv.to (ev_iret d_M_count_90 rfl) (by grind [upd, mgo, xbi])
  · refine ev_aload_n d_M_count_46 rfl ?_
    refine ev_get d_M_count_47 f_8_109 (mM_obj ok) rfl ?_
    refine ev_goto (t := 90) d_M_count_50 (by decide) ?_
    exact xEv.to (ev_iret d_M_count_90 rfl) (by grind [upd, mgo, xbi])
