/-! the reference: where a text is wrong -/
def isNm (s : Int32) : Prop := (97 ≤ s ∧ s ≤ 104) ∨ s = 121 ∨ s = 122
def isDg (s : Int32) : Prop := 48 ≤ s ∧ s ≤ 57
abbrev fQ : Type := Int32 × Int32 × Int32 × Int32 × Int32
def fsg (q : fQ) (s : Int32) : Option fQ := match q with
  | (a, n, p, t, g) =>
    if a = 0 then
      if s = 33 ∧ n < 3 then some (0, n + 1, p, t, g) else if s = 40 ∧ p < 5 then some (0, 0, p + 1, t, g) else if ((97 ≤ s ∧ s ≤ 104) ∨ s = 121 ∨ s = 122) then some (1, 0, p, t, g) else none
    else if a = 1 then (if s = 60 ∨ s = 61 ∨ s = 62 then some (2, n, p, t, g) else none)
    else if a = 2 then (if 48 ≤ s ∧ s ≤ 57 then some (3, n, p, t, 1) else none)
    else if a = 3 ∧ 48 ≤ s ∧ s ≤ 57 then (if g + 1 < 7 then some (3, n, p, t, g + 1) else none)
    else if s = 41 ∧ 0 < p then some (4, n, p - 1, t, g) else if s = 59 ∧ p = 0 ∧ t < 6 then some (0, n, p, t + 1, g) else if s = 38 ∨ s = 124 then some (0, n, p, t, g) else none
def mFa (av : Nat → Nat → Int32) (pn : Nat) : Nat → Nat → fQ → Int32
  | 0, _, q => if 2 < q.1 ∧ q.2.2.1 = 0 then -1 else nI pn
  | m + 1, i, q => match fsg q (av 2 i) with
    | none => nI i
    | some q1 => mFa av pn m (i + 1) q1
set_option maxRecDepth 20000 in
theorem l_M_fault_0 {d : Nat} {B : xMm} {ad : Nat → Nat} {ix : Nat → Option Nat} {iv : Nat → Int32} {av : Nat → Nat → Int32} {ns : Nat × Nat} (ok : mOk ad ix) (pn : Nat) (hpn : pn ≤ 80) (hp : iv 1 = nI pn) (m : Nat) (ih : ∀ (i : Nat) (a n p t g : Int32) (o7 o8 o9 o10 : Option Value), i + m = pn → xEv (d + 1) k_M_fault 15 [some (.ref (ad 0)), some (.int a), some (.int n), some (.int p), some (.int t), some (.int g), some (.int (nI i)), o7, o8, o9, o10] [] (mM B ad ix iv av, ns) (.inl (some (.int (mFa av pn m i (a, n, p, t, g)))), (mM B ad ix iv av, ns))) (i : Nat) (hi : i + (m + 1) = pn) (a n p t g : Int32) (o7 o8 o9 o10 : Option Value) (h0 : a = 0) : xEv (d + 1) k_M_fault 15 [some (.ref (ad 0)), some (.int a), some (.int n), some (.int p), some (.int t), some (.int g), some (.int (nI i)), o7, o8, o9, o10] [] (mM B ad ix iv av, ns) (.inl (some (.int (mFa av pn (m + 1) i (a, n, p, t, g)))), (mM B ad ix iv av, ns)) := by
  refine ev_iload d_M_fault_15 rfl ?_
  refine ev_aload_n d_M_fault_17 rfl ?_
  refine ev_get d_M_fault_18 f_8_109 (mM_obj ok) rfl ?_
  refine ev_icmp_ge (t := 372) d_M_fault_21 (by decide) (fun c_21 => absurd c_21 (by rw [hp]; exact nI_ge (by omega) (by omega))) (fun _ => ?_)
  refine ev_aload_n d_M_fault_24 rfl ?_
  refine ev_get d_M_fault_25 f_8_7 (mM_obj ok) rfl ?_
  refine ev_iload d_M_fault_28 rfl ?_
  refine ev_iald d_M_fault_30 (mM_arr ok 2 rfl) ⟨rfl, vp_in_nI (N := 80) (by omega) (by decide)⟩ rfl ?_
  rw [nI_clamp (show i < 2 ^ 31 by omega)]
  refine ev_top (fun x_1 ex_1 => ?_)
  refine ev_istore (lo1 := [some (.ref (ad 0)), some (.int a), some (.int n), some (.int p), some (.int t), some (.int g), some (.int (nI i)), some (.int x_1), o8, o9, o10]) d_M_fault_31 (Nat.le_of_ble_eq_true rfl) rfl ?_
  refine ev_iconst (v := 0) d_M_fault_33 rfl ?_
  refine ev_istore (lo1 := [some (.ref (ad 0)), some (.int a), some (.int n), some (.int p), some (.int t), some (.int g), some (.int (nI i)), some (.int x_1), some (.int 0), o9, o10]) d_M_fault_34 (Nat.le_of_ble_eq_true rfl) rfl ?_
  refine ev_iload_n d_M_fault_36 rfl ?_
  refine ev_if_ne (t := 146) d_M_fault_37 (by decide) (fun c_37 => absurd h0 c_37) (fun _ => ?_)
  refine ev_cutv (E := 57) (V := xbi (x_1 = 33 ∧ n < 3)) ?_ (fun hk_2 => ?_)
  · refine ev_top (fun x_3 ex_3 => ?_)
    refine ev_istore (lo1 := [some (.ref (ad 0)), some (.int a), some (.int n), some (.int p), some (.int t), some (.int g), some (.int (nI i)), some (.int x_1), some (.int 0), some (.int x_3), o10]) d_M_fault_57 (Nat.le_of_ble_eq_true rfl) rfl ?_
    refine ev_cutv (E := 76) (V := xbi (x_1 = 40 ∧ p < 5)) ?_ (fun hk_4 => ?_)
    · refine ev_top (fun x_5 ex_5 => ?_)
      refine ev_istore (lo1 := [some (.ref (ad 0)), some (.int a), some (.int n), some (.int p), some (.int t), some (.int g), some (.int (nI i)), some (.int x_1), some (.int 0), some (.int x_3), some (.int x_5)]) d_M_fault_76 (Nat.le_of_ble_eq_true rfl) rfl ?_
      refine ev_cutv (E := 101) (V := xbi ((x_1 = 33 ∧ n < 3) ∨ (x_1 = 40 ∧ p < 5) ∨ ((97 ≤ x_1 ∧ x_1 ≤ 104) ∨ x_1 = 121 ∨ x_1 = 122))) ?_ (fun hk_6 => ?_)
      · refine ev_top (fun x_7 ex_7 => ?_)
        refine ev_istore (lo1 := [some (.ref (ad 0)), some (.int a), some (.int n), some (.int p), some (.int t), some (.int g), some (.int (nI i)), some (.int x_1), some (.int x_7), some (.int x_3), some (.int x_5)]) d_M_fault_101 (Nat.le_of_ble_eq_true rfl) rfl ?_
        refine ev_cutv (E := 115) (V := if x_1 = 33 ∧ n < 3 then n + 1 else 0) ?_ (fun hk_8 => ?_)
        · refine ev_top (fun x_9 ex_9 => ?_)
          refine ev_istore_n (lo1 := [some (.ref (ad 0)), some (.int a), some (.int x_9), some (.int p), some (.int t), some (.int g), some (.int (nI i)), some (.int x_1), some (.int x_7), some (.int x_3), some (.int x_5)]) d_M_fault_115 (Nat.le_of_ble_eq_true rfl) rfl ?_
          refine ev_cutv (E := 128) (V := if x_1 = 40 ∧ p < 5 then p + 1 else p) ?_ (fun hk_10 => ?_)
          · refine ev_top (fun x_11 ex_11 => ?_)
            refine ev_istore_n (lo1 := [some (.ref (ad 0)), some (.int a), some (.int x_9), some (.int x_11), some (.int t), some (.int g), some (.int (nI i)), some (.int x_1), some (.int x_7), some (.int x_3), some (.int x_5)]) d_M_fault_128 (Nat.le_of_ble_eq_true rfl) rfl ?_
            refine ev_cutv (E := 142) (V := xbi ((97 ≤ x_1 ∧ x_1 ≤ 104) ∨ x_1 = 121 ∨ x_1 = 122)) ?_ (fun hk_12 => ?_)
            · refine ev_top (fun x_13 ex_13 => ?_)
              refine ev_istore_n (lo1 := [some (.ref (ad 0)), some (.int x_13), some (.int x_9), some (.int x_11), some (.int t), some (.int g), some (.int (nI i)), some (.int x_1), some (.int x_7), some (.int x_3), some (.int x_5)]) d_M_fault_142 (Nat.le_of_ble_eq_true rfl) rfl ?_
              refine ev_goto (t := 358) d_M_fault_143 (by decide) ?_
              refine ev_iload d_M_fault_358 rfl ?_
              refine ev_if_ne (t := 366) d_M_fault_360 (by decide) (fun c_360_14 => ?_) (fun c_360_14 => ?_)
              · obtain ⟨x_15, ex_15⟩ : ∃ z : Int32, z = (nI i) + 1 := ⟨_, rfl⟩
                refine ev_iinc (v := x_15) (lo1 := [some (.ref (ad 0)), some (.int x_13), some (.int x_9), some (.int x_11), some (.int t), some (.int g), some (.int x_15), some (.int x_1), some (.int x_7), some (.int x_3), some (.int x_5)]) d_M_fault_366 rfl (by rw [ex_15]; rfl) rfl ?_
                refine ev_goto (t := 15) d_M_fault_369 (by decide) ?_
                rw [show x_15 = nI (i + 1) from by rw [ex_15, nI_succ]]
                refine xEv.to (ih (i + 1) x_13 x_9 x_11 t g _ _ _ _ (by omega)) ?_
                rw [mFa, show fsg (a, n, p, t, g) (av 2 i) = some (x_13, x_9, x_11, t, g) from by simp only [fsg]; grind [xbi]]
              · refine ev_iload d_M_fault_363 rfl ?_
                refine xEv.to (ev_iret d_M_fault_365 rfl) ?_
                rw [mFa, show fsg (a, n, p, t, g) (av 2 i) = none from by simp only [fsg]; grind [xbi]]
            · refine ev_iload d_M_fault_129 rfl ?_
              refine ev_s1r d_M_fault_131 q_8_120 rfl ⟨rfl, Nat.le_of_ble_eq_true rfl, Nat.le_of_ble_eq_true rfl⟩ (c_M_isName _) ?_
              refine ev_if_eq (t := 141) d_M_fault_134 (by decide) (fun c_134_16 => ?_) (fun c_134_16 => ?_)
              · refine ev_iconst (v := 0) d_M_fault_141 rfl ?_
                exact hk_12 _ (by grind [xbi])
              · refine ev_iconst (v := 1) d_M_fault_137 rfl ?_
                refine ev_goto (t := 142) d_M_fault_138 (by decide) ?_
                exact hk_12 _ (by grind [xbi])
          · refine ev_iload d_M_fault_116 rfl ?_
            refine ev_if_eq (t := 127) d_M_fault_118 (by decide) (fun c_118_17 => ?_) (fun c_118_17 => ?_)
            · refine ev_iload_n d_M_fault_127 rfl ?_
              exact hk_10 _ (by grind [xbi])
            · refine ev_iload_n d_M_fault_121 rfl ?_
              refine ev_iconst (v := 1) d_M_fault_122 rfl ?_
              refine ev_iadd d_M_fault_123 ?_
              refine ev_goto (t := 128) d_M_fault_124 (by decide) ?_
              exact hk_10 _ (by grind [xbi])
        · refine ev_iload d_M_fault_103 rfl ?_
          refine ev_if_eq (t := 114) d_M_fault_105 (by decide) (fun c_105_18 => ?_) (fun c_105_18 => ?_)
          · refine ev_iconst (v := 0) d_M_fault_114 rfl ?_
            exact hk_8 _ (by grind [xbi])
          · refine ev_iload_n d_M_fault_108 rfl ?_
            refine ev_iconst (v := 1) d_M_fault_109 rfl ?_
            refine ev_iadd d_M_fault_110 ?_
            refine ev_goto (t := 115) d_M_fault_111 (by decide) ?_
            exact hk_8 _ (by grind [xbi])
      · refine ev_iload d_M_fault_78 rfl ?_
        refine ev_if_ne (t := 96) d_M_fault_80 (by decide) (fun c_80_19 => ?_) (fun c_80_19 => ?_)
        · refine ev_iconst (v := 1) d_M_fault_96 rfl ?_
          refine ev_goto (t := 101) d_M_fault_97 (by decide) ?_
          exact hk_6 _ (by grind [xbi])
        · refine ev_iload d_M_fault_83 rfl ?_
          refine ev_if_ne (t := 96) d_M_fault_85 (by decide) (fun c_85_20 => ?_) (fun c_85_20 => ?_)
          · refine ev_iconst (v := 1) d_M_fault_96 rfl ?_
            refine ev_goto (t := 101) d_M_fault_97 (by decide) ?_
            exact hk_6 _ (by grind [xbi])
          · refine ev_iload d_M_fault_88 rfl ?_
            refine ev_s1r d_M_fault_90 q_8_120 rfl ⟨rfl, Nat.le_of_ble_eq_true rfl, Nat.le_of_ble_eq_true rfl⟩ (c_M_isName _) ?_
            refine ev_if_eq (t := 100) d_M_fault_93 (by decide) (fun c_93_21 => ?_) (fun c_93_21 => ?_)
            · refine ev_iconst (v := 0) d_M_fault_100 rfl ?_
              exact hk_6 _ (by grind [xbi])
            · refine ev_iconst (v := 1) d_M_fault_96 rfl ?_
              refine ev_goto (t := 101) d_M_fault_97 (by decide) ?_
              exact hk_6 _ (by grind [xbi])
    · refine ev_iload d_M_fault_59 rfl ?_
      refine ev_bipush (v := 40) d_M_fault_61 rfl ?_
      refine ev_icmp_ne (t := 75) d_M_fault_63 (by decide) (fun c_63_22 => ?_) (fun c_63_22 => ?_)
      · refine ev_iconst (v := 0) d_M_fault_75 rfl ?_
        exact hk_4 _ (by rw [xbi_f (by grind)])
      · refine ev_iload_n d_M_fault_66 rfl ?_
        refine ev_iconst (v := 5) d_M_fault_67 rfl ?_
        refine ev_icmp_ge (t := 75) d_M_fault_68 (by decide) (fun c_68_23 => ?_) (fun c_68_23 => ?_)
        · refine ev_iconst (v := 0) d_M_fault_75 rfl ?_
          exact hk_4 _ (by rw [xbi_f (by grind)])
        · refine ev_iconst (v := 1) d_M_fault_71 rfl ?_
          refine ev_goto (t := 76) d_M_fault_72 (by decide) ?_
          exact hk_4 _ (by rw [xbi_t (by grind)])
  · refine ev_iload d_M_fault_40 rfl ?_
    refine ev_bipush (v := 33) d_M_fault_42 rfl ?_
    refine ev_icmp_ne (t := 56) d_M_fault_44 (by decide) (fun c_44_24 => ?_) (fun c_44_24 => ?_)
    · refine ev_iconst (v := 0) d_M_fault_56 rfl ?_
      exact hk_2 _ (by rw [xbi_f (by grind)])
    · refine ev_iload_n d_M_fault_47 rfl ?_
      refine ev_iconst (v := 3) d_M_fault_48 rfl ?_
      refine ev_icmp_ge (t := 56) d_M_fault_49 (by decide) (fun c_49_25 => ?_) (fun c_49_25 => ?_)
      · refine ev_iconst (v := 0) d_M_fault_56 rfl ?_
        exact hk_2 _ (by rw [xbi_f (by grind)])
      · refine ev_iconst (v := 1) d_M_fault_52 rfl ?_
        refine ev_goto (t := 57) d_M_fault_53 (by decide) ?_
        exact hk_2 _ (by rw [xbi_t (by grind)])
set_option maxRecDepth 20000 in
theorem l_M_fault_1 {d : Nat} {B : xMm} {ad : Nat → Nat} {ix : Nat → Option Nat} {iv : Nat → Int32} {av : Nat → Nat → Int32} {ns : Nat × Nat} (ok : mOk ad ix) (pn : Nat) (hpn : pn ≤ 80) (hp : iv 1 = nI pn) (m : Nat) (ih : ∀ (i : Nat) (a n p t g : Int32) (o7 o8 o9 o10 : Option Value), i + m = pn → xEv (d + 1) k_M_fault 15 [some (.ref (ad 0)), some (.int a), some (.int n), some (.int p), some (.int t), some (.int g), some (.int (nI i)), o7, o8, o9, o10] [] (mM B ad ix iv av, ns) (.inl (some (.int (mFa av pn m i (a, n, p, t, g)))), (mM B ad ix iv av, ns))) (i : Nat) (hi : i + (m + 1) = pn) (a n p t g : Int32) (o7 o8 o9 o10 : Option Value) (h0 : ¬ a = 0) (h1 : a = 1) : xEv (d + 1) k_M_fault 15 [some (.ref (ad 0)), some (.int a), some (.int n), some (.int p), some (.int t), some (.int g), some (.int (nI i)), o7, o8, o9, o10] [] (mM B ad ix iv av, ns) (.inl (some (.int (mFa av pn (m + 1) i (a, n, p, t, g)))), (mM B ad ix iv av, ns)) := by
  refine ev_iload d_M_fault_15 rfl ?_
  refine ev_aload_n d_M_fault_17 rfl ?_
  refine ev_get d_M_fault_18 f_8_109 (mM_obj ok) rfl ?_
  refine ev_icmp_ge (t := 372) d_M_fault_21 (by decide) (fun c_21 => absurd c_21 (by rw [hp]; exact nI_ge (by omega) (by omega))) (fun _ => ?_)
  refine ev_aload_n d_M_fault_24 rfl ?_
  refine ev_get d_M_fault_25 f_8_7 (mM_obj ok) rfl ?_
  refine ev_iload d_M_fault_28 rfl ?_
  refine ev_iald d_M_fault_30 (mM_arr ok 2 rfl) ⟨rfl, vp_in_nI (N := 80) (by omega) (by decide)⟩ rfl ?_
  rw [nI_clamp (show i < 2 ^ 31 by omega)]
  refine ev_top (fun x_1 ex_1 => ?_)
  refine ev_istore (lo1 := [some (.ref (ad 0)), some (.int a), some (.int n), some (.int p), some (.int t), some (.int g), some (.int (nI i)), some (.int x_1), o8, o9, o10]) d_M_fault_31 (Nat.le_of_ble_eq_true rfl) rfl ?_
  refine ev_iconst (v := 0) d_M_fault_33 rfl ?_
  refine ev_istore (lo1 := [some (.ref (ad 0)), some (.int a), some (.int n), some (.int p), some (.int t), some (.int g), some (.int (nI i)), some (.int x_1), some (.int 0), o9, o10]) d_M_fault_34 (Nat.le_of_ble_eq_true rfl) rfl ?_
  refine ev_iload_n d_M_fault_36 rfl ?_
  refine ev_if_ne (t := 146) d_M_fault_37 (by decide) (fun _ => ?_) (fun c_37 => absurd (by assumption) h0)
  refine ev_iload_n d_M_fault_146 rfl ?_
  refine ev_iconst (v := 1) d_M_fault_147 rfl ?_
  refine ev_icmp_ne (t := 184) d_M_fault_148 (by decide) (fun c_148 => absurd h1 c_148) (fun _ => ?_)
  refine ev_cutv (E := 177) (V := xbi (x_1 = 60 ∨ x_1 = 61 ∨ x_1 = 62)) ?_ (fun hk_2 => ?_)
  · refine ev_top (fun x_3 ex_3 => ?_)
    refine ev_istore (lo1 := [some (.ref (ad 0)), some (.int a), some (.int n), some (.int p), some (.int t), some (.int g), some (.int (nI i)), some (.int x_1), some (.int x_3), o9, o10]) d_M_fault_177 (Nat.le_of_ble_eq_true rfl) rfl ?_
    refine ev_iconst (v := 2) d_M_fault_179 rfl ?_
    refine ev_istore_n (lo1 := [some (.ref (ad 0)), some (.int 2), some (.int n), some (.int p), some (.int t), some (.int g), some (.int (nI i)), some (.int x_1), some (.int x_3), o9, o10]) d_M_fault_180 (Nat.le_of_ble_eq_true rfl) rfl ?_
    refine ev_goto (t := 358) d_M_fault_181 (by decide) ?_
    refine ev_iload d_M_fault_358 rfl ?_
    refine ev_if_ne (t := 366) d_M_fault_360 (by decide) (fun c_360_4 => ?_) (fun c_360_4 => ?_)
    · obtain ⟨x_5, ex_5⟩ : ∃ z : Int32, z = (nI i) + 1 := ⟨_, rfl⟩
      refine ev_iinc (v := x_5) (lo1 := [some (.ref (ad 0)), some (.int 2), some (.int n), some (.int p), some (.int t), some (.int g), some (.int x_5), some (.int x_1), some (.int x_3), o9, o10]) d_M_fault_366 rfl (by rw [ex_5]; rfl) rfl ?_
      refine ev_goto (t := 15) d_M_fault_369 (by decide) ?_
      rw [show x_5 = nI (i + 1) from by rw [ex_5, nI_succ]]
      refine xEv.to (ih (i + 1) 2 n p t g _ _ _ _ (by omega)) ?_
      rw [mFa, show fsg (a, n, p, t, g) (av 2 i) = some (2, n, p, t, g) from by simp only [fsg]; grind [xbi]]
    · refine ev_iload d_M_fault_363 rfl ?_
      refine xEv.to (ev_iret d_M_fault_365 rfl) ?_
      rw [mFa, show fsg (a, n, p, t, g) (av 2 i) = none from by simp only [fsg]; grind [xbi]]
  · refine ev_iload d_M_fault_151 rfl ?_
    refine ev_bipush (v := 60) d_M_fault_153 rfl ?_
    refine ev_icmp_eq (t := 172) d_M_fault_155 (by decide) (fun c_155_6 => ?_) (fun c_155_6 => ?_)
    · refine ev_iconst (v := 1) d_M_fault_172 rfl ?_
      refine ev_goto (t := 177) d_M_fault_173 (by decide) ?_
      exact hk_2 _ (by grind [xbi])
    · refine ev_iload d_M_fault_158 rfl ?_
      refine ev_bipush (v := 61) d_M_fault_160 rfl ?_
      refine ev_icmp_eq (t := 172) d_M_fault_162 (by decide) (fun c_162_7 => ?_) (fun c_162_7 => ?_)
      · refine ev_iconst (v := 1) d_M_fault_172 rfl ?_
        refine ev_goto (t := 177) d_M_fault_173 (by decide) ?_
        exact hk_2 _ (by grind [xbi])
      · refine ev_iload d_M_fault_165 rfl ?_
        refine ev_bipush (v := 62) d_M_fault_167 rfl ?_
        refine ev_icmp_ne (t := 176) d_M_fault_169 (by decide) (fun c_169_8 => ?_) (fun c_169_8 => ?_)
        · refine ev_iconst (v := 0) d_M_fault_176 rfl ?_
          exact hk_2 _ (by grind [xbi])
        · refine ev_iconst (v := 1) d_M_fault_172 rfl ?_
          refine ev_goto (t := 177) d_M_fault_173 (by decide) ?_
          exact hk_2 _ (by grind [xbi])
set_option maxRecDepth 20000 in
theorem l_M_fault_2 {d : Nat} {B : xMm} {ad : Nat → Nat} {ix : Nat → Option Nat} {iv : Nat → Int32} {av : Nat → Nat → Int32} {ns : Nat × Nat} (ok : mOk ad ix) (pn : Nat) (hpn : pn ≤ 80) (hp : iv 1 = nI pn) (m : Nat) (ih : ∀ (i : Nat) (a n p t g : Int32) (o7 o8 o9 o10 : Option Value), i + m = pn → xEv (d + 1) k_M_fault 15 [some (.ref (ad 0)), some (.int a), some (.int n), some (.int p), some (.int t), some (.int g), some (.int (nI i)), o7, o8, o9, o10] [] (mM B ad ix iv av, ns) (.inl (some (.int (mFa av pn m i (a, n, p, t, g)))), (mM B ad ix iv av, ns))) (i : Nat) (hi : i + (m + 1) = pn) (a n p t g : Int32) (o7 o8 o9 o10 : Option Value) (h0 : ¬ a = 0) (h1 : ¬ a = 1) (h2 : a = 2) : xEv (d + 1) k_M_fault 15 [some (.ref (ad 0)), some (.int a), some (.int n), some (.int p), some (.int t), some (.int g), some (.int (nI i)), o7, o8, o9, o10] [] (mM B ad ix iv av, ns) (.inl (some (.int (mFa av pn (m + 1) i (a, n, p, t, g)))), (mM B ad ix iv av, ns)) := by
  refine ev_iload d_M_fault_15 rfl ?_
  refine ev_aload_n d_M_fault_17 rfl ?_
  refine ev_get d_M_fault_18 f_8_109 (mM_obj ok) rfl ?_
  refine ev_icmp_ge (t := 372) d_M_fault_21 (by decide) (fun c_21 => absurd c_21 (by rw [hp]; exact nI_ge (by omega) (by omega))) (fun _ => ?_)
  refine ev_aload_n d_M_fault_24 rfl ?_
  refine ev_get d_M_fault_25 f_8_7 (mM_obj ok) rfl ?_
  refine ev_iload d_M_fault_28 rfl ?_
  refine ev_iald d_M_fault_30 (mM_arr ok 2 rfl) ⟨rfl, vp_in_nI (N := 80) (by omega) (by decide)⟩ rfl ?_
  rw [nI_clamp (show i < 2 ^ 31 by omega)]
  refine ev_top (fun x_1 ex_1 => ?_)
  refine ev_istore (lo1 := [some (.ref (ad 0)), some (.int a), some (.int n), some (.int p), some (.int t), some (.int g), some (.int (nI i)), some (.int x_1), o8, o9, o10]) d_M_fault_31 (Nat.le_of_ble_eq_true rfl) rfl ?_
  refine ev_iconst (v := 0) d_M_fault_33 rfl ?_
  refine ev_istore (lo1 := [some (.ref (ad 0)), some (.int a), some (.int n), some (.int p), some (.int t), some (.int g), some (.int (nI i)), some (.int x_1), some (.int 0), o9, o10]) d_M_fault_34 (Nat.le_of_ble_eq_true rfl) rfl ?_
  refine ev_iload_n d_M_fault_36 rfl ?_
  refine ev_if_ne (t := 146) d_M_fault_37 (by decide) (fun _ => ?_) (fun c_37 => absurd (by assumption) h0)
  refine ev_iload_n d_M_fault_146 rfl ?_
  refine ev_iconst (v := 1) d_M_fault_147 rfl ?_
  refine ev_icmp_ne (t := 184) d_M_fault_148 (by decide) (fun _ => ?_) (fun c_148 => absurd (by assumption) h1)
  refine ev_iload_n d_M_fault_184 rfl ?_
  refine ev_iconst (v := 2) d_M_fault_185 rfl ?_
  refine ev_icmp_eq (t := 202) d_M_fault_186 (by decide) (fun _ => ?_) (fun c_186 => absurd h2 c_186)
  refine ev_iload_n d_M_fault_202 rfl ?_
  refine ev_iconst (v := 2) d_M_fault_203 rfl ?_
  refine ev_icmp_ne (t := 211) d_M_fault_204 (by decide) (fun c_204 => absurd h2 c_204) (fun _ => ?_)
  refine ev_iconst (v := 1) d_M_fault_207 rfl ?_
  refine ev_goto (t := 215) d_M_fault_208 (by decide) ?_
  refine ev_istore (lo1 := [some (.ref (ad 0)), some (.int a), some (.int n), some (.int p), some (.int t), some (.int 1), some (.int (nI i)), some (.int x_1), some (.int 0), o9, o10]) d_M_fault_215 (Nat.le_of_ble_eq_true rfl) rfl ?_
  refine ev_cutv (E := 237) (V := xbi (48 ≤ x_1 ∧ x_1 ≤ 57)) ?_ (fun hk_2 => ?_)
  · refine ev_top (fun x_3 ex_3 => ?_)
    refine ev_istore (lo1 := [some (.ref (ad 0)), some (.int a), some (.int n), some (.int p), some (.int t), some (.int 1), some (.int (nI i)), some (.int x_1), some (.int x_3), o9, o10]) d_M_fault_237 (Nat.le_of_ble_eq_true rfl) rfl ?_
    refine ev_iconst (v := 3) d_M_fault_239 rfl ?_
    refine ev_istore_n (lo1 := [some (.ref (ad 0)), some (.int 3), some (.int n), some (.int p), some (.int t), some (.int 1), some (.int (nI i)), some (.int x_1), some (.int x_3), o9, o10]) d_M_fault_240 (Nat.le_of_ble_eq_true rfl) rfl ?_
    refine ev_goto (t := 358) d_M_fault_241 (by decide) ?_
    refine ev_iload d_M_fault_358 rfl ?_
    refine ev_if_ne (t := 366) d_M_fault_360 (by decide) (fun c_360_4 => ?_) (fun c_360_4 => ?_)
    · obtain ⟨x_5, ex_5⟩ : ∃ z : Int32, z = (nI i) + 1 := ⟨_, rfl⟩
      refine ev_iinc (v := x_5) (lo1 := [some (.ref (ad 0)), some (.int 3), some (.int n), some (.int p), some (.int t), some (.int 1), some (.int x_5), some (.int x_1), some (.int x_3), o9, o10]) d_M_fault_366 rfl (by rw [ex_5]; rfl) rfl ?_
      refine ev_goto (t := 15) d_M_fault_369 (by decide) ?_
      rw [show x_5 = nI (i + 1) from by rw [ex_5, nI_succ]]
      refine xEv.to (ih (i + 1) 3 n p t 1 _ _ _ _ (by omega)) ?_
      rw [mFa, show fsg (a, n, p, t, g) (av 2 i) = some (3, n, p, t, 1) from by simp only [fsg]; grind [xbi]]
    · refine ev_iload d_M_fault_363 rfl ?_
      refine xEv.to (ev_iret d_M_fault_365 rfl) ?_
      rw [mFa, show fsg (a, n, p, t, g) (av 2 i) = none from by simp only [fsg]; grind [xbi]]
  · refine ev_iload d_M_fault_217 rfl ?_
    refine ev_s1r d_M_fault_219 q_8_124 rfl ⟨rfl, Nat.le_of_ble_eq_true rfl, Nat.le_of_ble_eq_true rfl⟩ (c_M_isDigit _) ?_
    refine ev_if_eq (t := 236) d_M_fault_222 (by decide) (fun c_222_6 => ?_) (fun c_222_6 => ?_)
    · refine ev_iconst (v := 0) d_M_fault_236 rfl ?_
      exact hk_2 _ (by grind [xbi])
    · refine ev_iload d_M_fault_225 rfl ?_
      refine ev_bipush (v := 7) d_M_fault_227 rfl ?_
      refine ev_icmp_ge (t := 236) d_M_fault_229 (by decide) (fun c_229_7 => ?_) (fun c_229_7 => ?_)
      · refine ev_iconst (v := 0) d_M_fault_236 rfl ?_
        exact hk_2 _ (by grind [xbi])
      · refine ev_iconst (v := 1) d_M_fault_232 rfl ?_
        refine ev_goto (t := 237) d_M_fault_233 (by decide) ?_
        exact hk_2 _ (by grind [xbi])
set_option maxRecDepth 20000 in
theorem l_M_fault_3 {d : Nat} {B : xMm} {ad : Nat → Nat} {ix : Nat → Option Nat} {iv : Nat → Int32} {av : Nat → Nat → Int32} {ns : Nat × Nat} (ok : mOk ad ix) (pn : Nat) (hpn : pn ≤ 80) (hp : iv 1 = nI pn) (m : Nat) (ih : ∀ (i : Nat) (a n p t g : Int32) (o7 o8 o9 o10 : Option Value), i + m = pn → xEv (d + 1) k_M_fault 15 [some (.ref (ad 0)), some (.int a), some (.int n), some (.int p), some (.int t), some (.int g), some (.int (nI i)), o7, o8, o9, o10] [] (mM B ad ix iv av, ns) (.inl (some (.int (mFa av pn m i (a, n, p, t, g)))), (mM B ad ix iv av, ns))) (i : Nat) (hi : i + (m + 1) = pn) (a n p t g : Int32) (o7 o8 o9 o10 : Option Value) (h0 : ¬ a = 0) (h1 : ¬ a = 1) (h2 : ¬ a = 2) (h3 : a = 3) (hd : 48 ≤ av 2 i ∧ av 2 i ≤ 57) : xEv (d + 1) k_M_fault 15 [some (.ref (ad 0)), some (.int a), some (.int n), some (.int p), some (.int t), some (.int g), some (.int (nI i)), o7, o8, o9, o10] [] (mM B ad ix iv av, ns) (.inl (some (.int (mFa av pn (m + 1) i (a, n, p, t, g)))), (mM B ad ix iv av, ns)) := by
  refine ev_iload d_M_fault_15 rfl ?_
  refine ev_aload_n d_M_fault_17 rfl ?_
  refine ev_get d_M_fault_18 f_8_109 (mM_obj ok) rfl ?_
  refine ev_icmp_ge (t := 372) d_M_fault_21 (by decide) (fun c_21 => absurd c_21 (by rw [hp]; exact nI_ge (by omega) (by omega))) (fun _ => ?_)
  refine ev_aload_n d_M_fault_24 rfl ?_
  refine ev_get d_M_fault_25 f_8_7 (mM_obj ok) rfl ?_
  refine ev_iload d_M_fault_28 rfl ?_
  refine ev_iald d_M_fault_30 (mM_arr ok 2 rfl) ⟨rfl, vp_in_nI (N := 80) (by omega) (by decide)⟩ rfl ?_
  rw [nI_clamp (show i < 2 ^ 31 by omega)]
  refine ev_top (fun x_1 ex_1 => ?_)
  refine ev_istore (lo1 := [some (.ref (ad 0)), some (.int a), some (.int n), some (.int p), some (.int t), some (.int g), some (.int (nI i)), some (.int x_1), o8, o9, o10]) d_M_fault_31 (Nat.le_of_ble_eq_true rfl) rfl ?_
  refine ev_iconst (v := 0) d_M_fault_33 rfl ?_
  refine ev_istore (lo1 := [some (.ref (ad 0)), some (.int a), some (.int n), some (.int p), some (.int t), some (.int g), some (.int (nI i)), some (.int x_1), some (.int 0), o9, o10]) d_M_fault_34 (Nat.le_of_ble_eq_true rfl) rfl ?_
  refine ev_iload_n d_M_fault_36 rfl ?_
  refine ev_if_ne (t := 146) d_M_fault_37 (by decide) (fun _ => ?_) (fun c_37 => absurd (by assumption) h0)
  refine ev_iload_n d_M_fault_146 rfl ?_
  refine ev_iconst (v := 1) d_M_fault_147 rfl ?_
  refine ev_icmp_ne (t := 184) d_M_fault_148 (by decide) (fun _ => ?_) (fun c_148 => absurd (by assumption) h1)
  refine ev_iload_n d_M_fault_184 rfl ?_
  refine ev_iconst (v := 2) d_M_fault_185 rfl ?_
  refine ev_icmp_eq (t := 202) d_M_fault_186 (by decide) (fun c_186 => absurd (by assumption) h2) (fun _ => ?_)
  refine ev_iload_n d_M_fault_189 rfl ?_
  refine ev_iconst (v := 3) d_M_fault_190 rfl ?_
  refine ev_icmp_ne (t := 244) d_M_fault_191 (by decide) (fun c_191 => absurd h3 c_191) (fun _ => ?_)
  refine ev_iload d_M_fault_194 rfl ?_
  refine ev_s1r d_M_fault_196 q_8_124 rfl ⟨rfl, Nat.le_of_ble_eq_true rfl, Nat.le_of_ble_eq_true rfl⟩ (c_M_isDigit _) ?_
  refine ev_if_eq (t := 244) d_M_fault_199 (by decide) (fun c_199 => absurd c_199 (by rw [xbi_t (by grind)]; decide)) (fun _ => ?_)
  refine ev_iload_n d_M_fault_202 rfl ?_
  refine ev_iconst (v := 2) d_M_fault_203 rfl ?_
  refine ev_icmp_ne (t := 211) d_M_fault_204 (by decide) (fun _ => ?_) (fun c_204 => absurd (by assumption) h2)
  refine ev_iload d_M_fault_211 rfl ?_
  refine ev_iconst (v := 1) d_M_fault_213 rfl ?_
  refine ev_iadd d_M_fault_214 ?_
  refine ev_top (fun x_2 ex_2 => ?_)
  refine ev_istore (lo1 := [some (.ref (ad 0)), some (.int a), some (.int n), some (.int p), some (.int t), some (.int x_2), some (.int (nI i)), some (.int x_1), some (.int 0), o9, o10]) d_M_fault_215 (Nat.le_of_ble_eq_true rfl) rfl ?_
  refine ev_cutv (E := 237) (V := xbi ((48 ≤ x_1 ∧ x_1 ≤ 57) ∧ g + 1 < 7)) ?_ (fun hk_3 => ?_)
  · refine ev_top (fun x_4 ex_4 => ?_)
    refine ev_istore (lo1 := [some (.ref (ad 0)), some (.int a), some (.int n), some (.int p), some (.int t), some (.int x_2), some (.int (nI i)), some (.int x_1), some (.int x_4), o9, o10]) d_M_fault_237 (Nat.le_of_ble_eq_true rfl) rfl ?_
    refine ev_iconst (v := 3) d_M_fault_239 rfl ?_
    refine ev_istore_n (lo1 := [some (.ref (ad 0)), some (.int 3), some (.int n), some (.int p), some (.int t), some (.int x_2), some (.int (nI i)), some (.int x_1), some (.int x_4), o9, o10]) d_M_fault_240 (Nat.le_of_ble_eq_true rfl) rfl ?_
    refine ev_goto (t := 358) d_M_fault_241 (by decide) ?_
    refine ev_iload d_M_fault_358 rfl ?_
    refine ev_if_ne (t := 366) d_M_fault_360 (by decide) (fun c_360_5 => ?_) (fun c_360_5 => ?_)
    · obtain ⟨x_6, ex_6⟩ : ∃ z : Int32, z = (nI i) + 1 := ⟨_, rfl⟩
      refine ev_iinc (v := x_6) (lo1 := [some (.ref (ad 0)), some (.int 3), some (.int n), some (.int p), some (.int t), some (.int x_2), some (.int x_6), some (.int x_1), some (.int x_4), o9, o10]) d_M_fault_366 rfl (by rw [ex_6]; rfl) rfl ?_
      refine ev_goto (t := 15) d_M_fault_369 (by decide) ?_
      rw [show x_6 = nI (i + 1) from by rw [ex_6, nI_succ]]
      refine xEv.to (ih (i + 1) 3 n p t x_2 _ _ _ _ (by omega)) ?_
      rw [mFa, show fsg (a, n, p, t, g) (av 2 i) = some (3, n, p, t, x_2) from by simp only [fsg]; grind [xbi]]
    · refine ev_iload d_M_fault_363 rfl ?_
      refine xEv.to (ev_iret d_M_fault_365 rfl) ?_
      rw [mFa, show fsg (a, n, p, t, g) (av 2 i) = none from by simp only [fsg]; grind [xbi]]
  · refine ev_iload d_M_fault_217 rfl ?_
    refine ev_s1r d_M_fault_219 q_8_124 rfl ⟨rfl, Nat.le_of_ble_eq_true rfl, Nat.le_of_ble_eq_true rfl⟩ (c_M_isDigit _) ?_
    refine ev_if_eq (t := 236) d_M_fault_222 (by decide) (fun c_222_7 => ?_) (fun c_222_7 => ?_)
    · refine ev_iconst (v := 0) d_M_fault_236 rfl ?_
      exact hk_3 _ (by grind [xbi])
    · refine ev_iload d_M_fault_225 rfl ?_
      refine ev_bipush (v := 7) d_M_fault_227 rfl ?_
      refine ev_icmp_ge (t := 236) d_M_fault_229 (by decide) (fun c_229_8 => ?_) (fun c_229_8 => ?_)
      · refine ev_iconst (v := 0) d_M_fault_236 rfl ?_
        exact hk_3 _ (by grind [xbi])
      · refine ev_iconst (v := 1) d_M_fault_232 rfl ?_
        refine ev_goto (t := 237) d_M_fault_233 (by decide) ?_
        exact hk_3 _ (by grind [xbi])
set_option maxRecDepth 20000 in
theorem l_M_fault_4 {d : Nat} {B : xMm} {ad : Nat → Nat} {ix : Nat → Option Nat} {iv : Nat → Int32} {av : Nat → Nat → Int32} {ns : Nat × Nat} (ok : mOk ad ix) (pn : Nat) (hpn : pn ≤ 80) (hp : iv 1 = nI pn) (m : Nat) (ih : ∀ (i : Nat) (a n p t g : Int32) (o7 o8 o9 o10 : Option Value), i + m = pn → xEv (d + 1) k_M_fault 15 [some (.ref (ad 0)), some (.int a), some (.int n), some (.int p), some (.int t), some (.int g), some (.int (nI i)), o7, o8, o9, o10] [] (mM B ad ix iv av, ns) (.inl (some (.int (mFa av pn m i (a, n, p, t, g)))), (mM B ad ix iv av, ns))) (i : Nat) (hi : i + (m + 1) = pn) (a n p t g : Int32) (o7 o8 o9 o10 : Option Value) (h0 : ¬ a = 0) (h1 : ¬ a = 1) (h2 : ¬ a = 2) (h3 : ¬ a = 3) : xEv (d + 1) k_M_fault 15 [some (.ref (ad 0)), some (.int a), some (.int n), some (.int p), some (.int t), some (.int g), some (.int (nI i)), o7, o8, o9, o10] [] (mM B ad ix iv av, ns) (.inl (some (.int (mFa av pn (m + 1) i (a, n, p, t, g)))), (mM B ad ix iv av, ns)) := by
  refine ev_iload d_M_fault_15 rfl ?_
  refine ev_aload_n d_M_fault_17 rfl ?_
  refine ev_get d_M_fault_18 f_8_109 (mM_obj ok) rfl ?_
  refine ev_icmp_ge (t := 372) d_M_fault_21 (by decide) (fun c_21 => absurd c_21 (by rw [hp]; exact nI_ge (by omega) (by omega))) (fun _ => ?_)
  refine ev_aload_n d_M_fault_24 rfl ?_
  refine ev_get d_M_fault_25 f_8_7 (mM_obj ok) rfl ?_
  refine ev_iload d_M_fault_28 rfl ?_
  refine ev_iald d_M_fault_30 (mM_arr ok 2 rfl) ⟨rfl, vp_in_nI (N := 80) (by omega) (by decide)⟩ rfl ?_
  rw [nI_clamp (show i < 2 ^ 31 by omega)]
  refine ev_top (fun x_1 ex_1 => ?_)
  refine ev_istore (lo1 := [some (.ref (ad 0)), some (.int a), some (.int n), some (.int p), some (.int t), some (.int g), some (.int (nI i)), some (.int x_1), o8, o9, o10]) d_M_fault_31 (Nat.le_of_ble_eq_true rfl) rfl ?_
  refine ev_iconst (v := 0) d_M_fault_33 rfl ?_
  refine ev_istore (lo1 := [some (.ref (ad 0)), some (.int a), some (.int n), some (.int p), some (.int t), some (.int g), some (.int (nI i)), some (.int x_1), some (.int 0), o9, o10]) d_M_fault_34 (Nat.le_of_ble_eq_true rfl) rfl ?_
  refine ev_iload_n d_M_fault_36 rfl ?_
  refine ev_if_ne (t := 146) d_M_fault_37 (by decide) (fun _ => ?_) (fun c_37 => absurd (by assumption) h0)
  refine ev_iload_n d_M_fault_146 rfl ?_
  refine ev_iconst (v := 1) d_M_fault_147 rfl ?_
  refine ev_icmp_ne (t := 184) d_M_fault_148 (by decide) (fun _ => ?_) (fun c_148 => absurd (by assumption) h1)
  refine ev_iload_n d_M_fault_184 rfl ?_
  refine ev_iconst (v := 2) d_M_fault_185 rfl ?_
  refine ev_icmp_eq (t := 202) d_M_fault_186 (by decide) (fun c_186 => absurd (by assumption) h2) (fun _ => ?_)
  refine ev_iload_n d_M_fault_189 rfl ?_
  refine ev_iconst (v := 3) d_M_fault_190 rfl ?_
  refine ev_icmp_ne (t := 244) d_M_fault_191 (by decide) (fun _ => ?_) (fun c_191 => absurd (by assumption) h3)
  refine ev_cutv (E := 260) (V := xbi (x_1 = 41 ∧ 0 < p)) ?_ (fun hk_2 => ?_)
  · refine ev_top (fun x_3 ex_3 => ?_)
    refine ev_istore (lo1 := [some (.ref (ad 0)), some (.int a), some (.int n), some (.int p), some (.int t), some (.int g), some (.int (nI i)), some (.int x_1), some (.int 0), some (.int x_3), o10]) d_M_fault_260 (Nat.le_of_ble_eq_true rfl) rfl ?_
    refine ev_cutv (E := 285) (V := xbi (x_1 = 59 ∧ p = 0 ∧ t < 6)) ?_ (fun hk_4 => ?_)
    · refine ev_top (fun x_5 ex_5 => ?_)
      refine ev_istore (lo1 := [some (.ref (ad 0)), some (.int a), some (.int n), some (.int p), some (.int t), some (.int g), some (.int (nI i)), some (.int x_1), some (.int 0), some (.int x_3), some (.int x_5)]) d_M_fault_285 (Nat.le_of_ble_eq_true rfl) rfl ?_
      refine ev_cutv (E := 316) (V := xbi (x_1 = 38 ∨ x_1 = 124 ∨ (x_1 = 41 ∧ 0 < p) ∨ (x_1 = 59 ∧ p = 0 ∧ t < 6))) ?_ (fun hk_6 => ?_)
      · refine ev_top (fun x_7 ex_7 => ?_)
        refine ev_istore (lo1 := [some (.ref (ad 0)), some (.int a), some (.int n), some (.int p), some (.int t), some (.int g), some (.int (nI i)), some (.int x_1), some (.int x_7), some (.int x_3), some (.int x_5)]) d_M_fault_316 (Nat.le_of_ble_eq_true rfl) rfl ?_
        refine ev_cutv (E := 330) (V := if x_1 = 41 ∧ 0 < p then p - 1 else p) ?_ (fun hk_8 => ?_)
        · refine ev_top (fun x_9 ex_9 => ?_)
          refine ev_istore_n (lo1 := [some (.ref (ad 0)), some (.int a), some (.int n), some (.int x_9), some (.int t), some (.int g), some (.int (nI i)), some (.int x_1), some (.int x_7), some (.int x_3), some (.int x_5)]) d_M_fault_330 (Nat.le_of_ble_eq_true rfl) rfl ?_
          refine ev_cutv (E := 345) (V := if x_1 = 59 ∧ p = 0 ∧ t < 6 then t + 1 else t) ?_ (fun hk_10 => ?_)
          · refine ev_top (fun x_11 ex_11 => ?_)
            refine ev_istore (lo1 := [some (.ref (ad 0)), some (.int a), some (.int n), some (.int x_9), some (.int x_11), some (.int g), some (.int (nI i)), some (.int x_1), some (.int x_7), some (.int x_3), some (.int x_5)]) d_M_fault_345 (Nat.le_of_ble_eq_true rfl) rfl ?_
            refine ev_cutv (E := 357) (V := if x_1 = 41 ∧ 0 < p then 4 else 0) ?_ (fun hk_12 => ?_)
            · refine ev_top (fun x_13 ex_13 => ?_)
              refine ev_istore_n (lo1 := [some (.ref (ad 0)), some (.int x_13), some (.int n), some (.int x_9), some (.int x_11), some (.int g), some (.int (nI i)), some (.int x_1), some (.int x_7), some (.int x_3), some (.int x_5)]) d_M_fault_357 (Nat.le_of_ble_eq_true rfl) rfl ?_
              refine ev_iload d_M_fault_358 rfl ?_
              refine ev_if_ne (t := 366) d_M_fault_360 (by decide) (fun c_360_14 => ?_) (fun c_360_14 => ?_)
              · obtain ⟨x_15, ex_15⟩ : ∃ z : Int32, z = (nI i) + 1 := ⟨_, rfl⟩
                refine ev_iinc (v := x_15) (lo1 := [some (.ref (ad 0)), some (.int x_13), some (.int n), some (.int x_9), some (.int x_11), some (.int g), some (.int x_15), some (.int x_1), some (.int x_7), some (.int x_3), some (.int x_5)]) d_M_fault_366 rfl (by rw [ex_15]; rfl) rfl ?_
                refine ev_goto (t := 15) d_M_fault_369 (by decide) ?_
                rw [show x_15 = nI (i + 1) from by rw [ex_15, nI_succ]]
                refine xEv.to (ih (i + 1) x_13 n x_9 x_11 g _ _ _ _ (by omega)) ?_
                rw [mFa, show fsg (a, n, p, t, g) (av 2 i) = some (x_13, n, x_9, x_11, g) from by simp only [fsg]; grind [xbi]]
              · refine ev_iload d_M_fault_363 rfl ?_
                refine xEv.to (ev_iret d_M_fault_365 rfl) ?_
                rw [mFa, show fsg (a, n, p, t, g) (av 2 i) = none from by simp only [fsg]; grind [xbi]]
            · refine ev_iload d_M_fault_347 rfl ?_
              refine ev_if_eq (t := 356) d_M_fault_349 (by decide) (fun c_349_16 => ?_) (fun c_349_16 => ?_)
              · refine ev_iconst (v := 0) d_M_fault_356 rfl ?_
                exact hk_12 _ (by grind [xbi])
              · refine ev_iconst (v := 4) d_M_fault_352 rfl ?_
                refine ev_goto (t := 357) d_M_fault_353 (by decide) ?_
                exact hk_12 _ (by grind [xbi])
          · refine ev_iload d_M_fault_331 rfl ?_
            refine ev_if_eq (t := 343) d_M_fault_333 (by decide) (fun c_333_17 => ?_) (fun c_333_17 => ?_)
            · refine ev_iload d_M_fault_343 rfl ?_
              exact hk_10 _ (by grind [xbi])
            · refine ev_iload d_M_fault_336 rfl ?_
              refine ev_iconst (v := 1) d_M_fault_338 rfl ?_
              refine ev_iadd d_M_fault_339 ?_
              refine ev_goto (t := 345) d_M_fault_340 (by decide) ?_
              exact hk_10 _ (by grind [xbi])
        · refine ev_iload d_M_fault_318 rfl ?_
          refine ev_if_eq (t := 329) d_M_fault_320 (by decide) (fun c_320_18 => ?_) (fun c_320_18 => ?_)
          · refine ev_iload_n d_M_fault_329 rfl ?_
            exact hk_8 _ (by grind [xbi])
          · refine ev_iload_n d_M_fault_323 rfl ?_
            refine ev_iconst (v := 1) d_M_fault_324 rfl ?_
            refine ev_isub d_M_fault_325 ?_
            refine ev_goto (t := 330) d_M_fault_326 (by decide) ?_
            exact hk_8 _ (by grind [xbi])
      · refine ev_iload d_M_fault_287 rfl ?_
        refine ev_bipush (v := 38) d_M_fault_289 rfl ?_
        refine ev_icmp_eq (t := 311) d_M_fault_291 (by decide) (fun c_291_19 => ?_) (fun c_291_19 => ?_)
        · refine ev_iconst (v := 1) d_M_fault_311 rfl ?_
          refine ev_goto (t := 316) d_M_fault_312 (by decide) ?_
          exact hk_6 _ (by grind [xbi])
        · refine ev_iload d_M_fault_294 rfl ?_
          refine ev_bipush (v := 124) d_M_fault_296 rfl ?_
          refine ev_icmp_eq (t := 311) d_M_fault_298 (by decide) (fun c_298_20 => ?_) (fun c_298_20 => ?_)
          · refine ev_iconst (v := 1) d_M_fault_311 rfl ?_
            refine ev_goto (t := 316) d_M_fault_312 (by decide) ?_
            exact hk_6 _ (by grind [xbi])
          · refine ev_iload d_M_fault_301 rfl ?_
            refine ev_if_ne (t := 311) d_M_fault_303 (by decide) (fun c_303_21 => ?_) (fun c_303_21 => ?_)
            · refine ev_iconst (v := 1) d_M_fault_311 rfl ?_
              refine ev_goto (t := 316) d_M_fault_312 (by decide) ?_
              exact hk_6 _ (by grind [xbi])
            · refine ev_iload d_M_fault_306 rfl ?_
              refine ev_if_eq (t := 315) d_M_fault_308 (by decide) (fun c_308_22 => ?_) (fun c_308_22 => ?_)
              · refine ev_iconst (v := 0) d_M_fault_315 rfl ?_
                exact hk_6 _ (by grind [xbi])
              · refine ev_iconst (v := 1) d_M_fault_311 rfl ?_
                refine ev_goto (t := 316) d_M_fault_312 (by decide) ?_
                exact hk_6 _ (by grind [xbi])
    · refine ev_iload d_M_fault_262 rfl ?_
      refine ev_bipush (v := 59) d_M_fault_264 rfl ?_
      refine ev_icmp_ne (t := 284) d_M_fault_266 (by decide) (fun c_266_23 => ?_) (fun c_266_23 => ?_)
      · refine ev_iconst (v := 0) d_M_fault_284 rfl ?_
        exact hk_4 _ (by grind [xbi])
      · refine ev_iload_n d_M_fault_269 rfl ?_
        refine ev_if_ne (t := 284) d_M_fault_270 (by decide) (fun c_270_24 => ?_) (fun c_270_24 => ?_)
        · refine ev_iconst (v := 0) d_M_fault_284 rfl ?_
          exact hk_4 _ (by grind [xbi])
        · refine ev_iload d_M_fault_273 rfl ?_
          refine ev_bipush (v := 6) d_M_fault_275 rfl ?_
          refine ev_icmp_ge (t := 284) d_M_fault_277 (by decide) (fun c_277_25 => ?_) (fun c_277_25 => ?_)
          · refine ev_iconst (v := 0) d_M_fault_284 rfl ?_
            exact hk_4 _ (by grind [xbi])
          · refine ev_iconst (v := 1) d_M_fault_280 rfl ?_
            refine ev_goto (t := 285) d_M_fault_281 (by decide) ?_
            exact hk_4 _ (by grind [xbi])
  · refine ev_iload d_M_fault_244 rfl ?_
    refine ev_bipush (v := 41) d_M_fault_246 rfl ?_
    refine ev_icmp_ne (t := 259) d_M_fault_248 (by decide) (fun c_248_26 => ?_) (fun c_248_26 => ?_)
    · refine ev_iconst (v := 0) d_M_fault_259 rfl ?_
      exact hk_2 _ (by grind [xbi])
    · refine ev_iload_n d_M_fault_251 rfl ?_
      refine ev_if_le (t := 259) d_M_fault_252 (by decide) (fun c_252_27 => ?_) (fun c_252_27 => ?_)
      · refine ev_iconst (v := 0) d_M_fault_259 rfl ?_
        exact hk_2 _ (by grind [xbi])
      · refine ev_iconst (v := 1) d_M_fault_255 rfl ?_
        refine ev_goto (t := 260) d_M_fault_256 (by decide) ?_
        exact hk_2 _ (by grind [xbi])
set_option maxRecDepth 20000 in
theorem l_M_fault_5 {d : Nat} {B : xMm} {ad : Nat → Nat} {ix : Nat → Option Nat} {iv : Nat → Int32} {av : Nat → Nat → Int32} {ns : Nat × Nat} (ok : mOk ad ix) (pn : Nat) (hpn : pn ≤ 80) (hp : iv 1 = nI pn) (m : Nat) (ih : ∀ (i : Nat) (a n p t g : Int32) (o7 o8 o9 o10 : Option Value), i + m = pn → xEv (d + 1) k_M_fault 15 [some (.ref (ad 0)), some (.int a), some (.int n), some (.int p), some (.int t), some (.int g), some (.int (nI i)), o7, o8, o9, o10] [] (mM B ad ix iv av, ns) (.inl (some (.int (mFa av pn m i (a, n, p, t, g)))), (mM B ad ix iv av, ns))) (i : Nat) (hi : i + (m + 1) = pn) (a n p t g : Int32) (o7 o8 o9 o10 : Option Value) (h0 : ¬ a = 0) (h1 : ¬ a = 1) (h2 : ¬ a = 2) (h3 : a = 3) (hd : ¬ (48 ≤ av 2 i ∧ av 2 i ≤ 57)) : xEv (d + 1) k_M_fault 15 [some (.ref (ad 0)), some (.int a), some (.int n), some (.int p), some (.int t), some (.int g), some (.int (nI i)), o7, o8, o9, o10] [] (mM B ad ix iv av, ns) (.inl (some (.int (mFa av pn (m + 1) i (a, n, p, t, g)))), (mM B ad ix iv av, ns)) := by
  refine ev_iload d_M_fault_15 rfl ?_
  refine ev_aload_n d_M_fault_17 rfl ?_
  refine ev_get d_M_fault_18 f_8_109 (mM_obj ok) rfl ?_
  refine ev_icmp_ge (t := 372) d_M_fault_21 (by decide) (fun c_21 => absurd c_21 (by rw [hp]; exact nI_ge (by omega) (by omega))) (fun _ => ?_)
  refine ev_aload_n d_M_fault_24 rfl ?_
  refine ev_get d_M_fault_25 f_8_7 (mM_obj ok) rfl ?_
  refine ev_iload d_M_fault_28 rfl ?_
  refine ev_iald d_M_fault_30 (mM_arr ok 2 rfl) ⟨rfl, vp_in_nI (N := 80) (by omega) (by decide)⟩ rfl ?_
  rw [nI_clamp (show i < 2 ^ 31 by omega)]
  refine ev_top (fun x_1 ex_1 => ?_)
  refine ev_istore (lo1 := [some (.ref (ad 0)), some (.int a), some (.int n), some (.int p), some (.int t), some (.int g), some (.int (nI i)), some (.int x_1), o8, o9, o10]) d_M_fault_31 (Nat.le_of_ble_eq_true rfl) rfl ?_
  refine ev_iconst (v := 0) d_M_fault_33 rfl ?_
  refine ev_istore (lo1 := [some (.ref (ad 0)), some (.int a), some (.int n), some (.int p), some (.int t), some (.int g), some (.int (nI i)), some (.int x_1), some (.int 0), o9, o10]) d_M_fault_34 (Nat.le_of_ble_eq_true rfl) rfl ?_
  refine ev_iload_n d_M_fault_36 rfl ?_
  refine ev_if_ne (t := 146) d_M_fault_37 (by decide) (fun _ => ?_) (fun c_37 => absurd (by assumption) h0)
  refine ev_iload_n d_M_fault_146 rfl ?_
  refine ev_iconst (v := 1) d_M_fault_147 rfl ?_
  refine ev_icmp_ne (t := 184) d_M_fault_148 (by decide) (fun _ => ?_) (fun c_148 => absurd (by assumption) h1)
  refine ev_iload_n d_M_fault_184 rfl ?_
  refine ev_iconst (v := 2) d_M_fault_185 rfl ?_
  refine ev_icmp_eq (t := 202) d_M_fault_186 (by decide) (fun c_186 => absurd (by assumption) h2) (fun _ => ?_)
  refine ev_iload_n d_M_fault_189 rfl ?_
  refine ev_iconst (v := 3) d_M_fault_190 rfl ?_
  refine ev_icmp_ne (t := 244) d_M_fault_191 (by decide) (fun c_191 => absurd h3 c_191) (fun _ => ?_)
  refine ev_iload d_M_fault_194 rfl ?_
  refine ev_s1r d_M_fault_196 q_8_124 rfl ⟨rfl, Nat.le_of_ble_eq_true rfl, Nat.le_of_ble_eq_true rfl⟩ (c_M_isDigit _) ?_
  refine ev_if_eq (t := 244) d_M_fault_199 (by decide) (fun _ => ?_) (fun c_199 => absurd (xbi_f (by grind)) c_199)
  refine ev_cutv (E := 260) (V := xbi (x_1 = 41 ∧ 0 < p)) ?_ (fun hk_2 => ?_)
  · refine ev_top (fun x_3 ex_3 => ?_)
    refine ev_istore (lo1 := [some (.ref (ad 0)), some (.int a), some (.int n), some (.int p), some (.int t), some (.int g), some (.int (nI i)), some (.int x_1), some (.int 0), some (.int x_3), o10]) d_M_fault_260 (Nat.le_of_ble_eq_true rfl) rfl ?_
    refine ev_cutv (E := 285) (V := xbi (x_1 = 59 ∧ p = 0 ∧ t < 6)) ?_ (fun hk_4 => ?_)
    · refine ev_top (fun x_5 ex_5 => ?_)
      refine ev_istore (lo1 := [some (.ref (ad 0)), some (.int a), some (.int n), some (.int p), some (.int t), some (.int g), some (.int (nI i)), some (.int x_1), some (.int 0), some (.int x_3), some (.int x_5)]) d_M_fault_285 (Nat.le_of_ble_eq_true rfl) rfl ?_
      refine ev_cutv (E := 316) (V := xbi (x_1 = 38 ∨ x_1 = 124 ∨ (x_1 = 41 ∧ 0 < p) ∨ (x_1 = 59 ∧ p = 0 ∧ t < 6))) ?_ (fun hk_6 => ?_)
      · refine ev_top (fun x_7 ex_7 => ?_)
        refine ev_istore (lo1 := [some (.ref (ad 0)), some (.int a), some (.int n), some (.int p), some (.int t), some (.int g), some (.int (nI i)), some (.int x_1), some (.int x_7), some (.int x_3), some (.int x_5)]) d_M_fault_316 (Nat.le_of_ble_eq_true rfl) rfl ?_
        refine ev_cutv (E := 330) (V := if x_1 = 41 ∧ 0 < p then p - 1 else p) ?_ (fun hk_8 => ?_)
        · refine ev_top (fun x_9 ex_9 => ?_)
          refine ev_istore_n (lo1 := [some (.ref (ad 0)), some (.int a), some (.int n), some (.int x_9), some (.int t), some (.int g), some (.int (nI i)), some (.int x_1), some (.int x_7), some (.int x_3), some (.int x_5)]) d_M_fault_330 (Nat.le_of_ble_eq_true rfl) rfl ?_
          refine ev_cutv (E := 345) (V := if x_1 = 59 ∧ p = 0 ∧ t < 6 then t + 1 else t) ?_ (fun hk_10 => ?_)
          · refine ev_top (fun x_11 ex_11 => ?_)
            refine ev_istore (lo1 := [some (.ref (ad 0)), some (.int a), some (.int n), some (.int x_9), some (.int x_11), some (.int g), some (.int (nI i)), some (.int x_1), some (.int x_7), some (.int x_3), some (.int x_5)]) d_M_fault_345 (Nat.le_of_ble_eq_true rfl) rfl ?_
            refine ev_cutv (E := 357) (V := if x_1 = 41 ∧ 0 < p then 4 else 0) ?_ (fun hk_12 => ?_)
            · refine ev_top (fun x_13 ex_13 => ?_)
              refine ev_istore_n (lo1 := [some (.ref (ad 0)), some (.int x_13), some (.int n), some (.int x_9), some (.int x_11), some (.int g), some (.int (nI i)), some (.int x_1), some (.int x_7), some (.int x_3), some (.int x_5)]) d_M_fault_357 (Nat.le_of_ble_eq_true rfl) rfl ?_
              refine ev_iload d_M_fault_358 rfl ?_
              refine ev_if_ne (t := 366) d_M_fault_360 (by decide) (fun c_360_14 => ?_) (fun c_360_14 => ?_)
              · obtain ⟨x_15, ex_15⟩ : ∃ z : Int32, z = (nI i) + 1 := ⟨_, rfl⟩
                refine ev_iinc (v := x_15) (lo1 := [some (.ref (ad 0)), some (.int x_13), some (.int n), some (.int x_9), some (.int x_11), some (.int g), some (.int x_15), some (.int x_1), some (.int x_7), some (.int x_3), some (.int x_5)]) d_M_fault_366 rfl (by rw [ex_15]; rfl) rfl ?_
                refine ev_goto (t := 15) d_M_fault_369 (by decide) ?_
                rw [show x_15 = nI (i + 1) from by rw [ex_15, nI_succ]]
                refine xEv.to (ih (i + 1) x_13 n x_9 x_11 g _ _ _ _ (by omega)) ?_
                rw [mFa, show fsg (a, n, p, t, g) (av 2 i) = some (x_13, n, x_9, x_11, g) from by simp only [fsg]; grind [xbi]]
              · refine ev_iload d_M_fault_363 rfl ?_
                refine xEv.to (ev_iret d_M_fault_365 rfl) ?_
                rw [mFa, show fsg (a, n, p, t, g) (av 2 i) = none from by simp only [fsg]; grind [xbi]]
            · refine ev_iload d_M_fault_347 rfl ?_
              refine ev_if_eq (t := 356) d_M_fault_349 (by decide) (fun c_349_16 => ?_) (fun c_349_16 => ?_)
              · refine ev_iconst (v := 0) d_M_fault_356 rfl ?_
                exact hk_12 _ (by grind [xbi])
              · refine ev_iconst (v := 4) d_M_fault_352 rfl ?_
                refine ev_goto (t := 357) d_M_fault_353 (by decide) ?_
                exact hk_12 _ (by grind [xbi])
          · refine ev_iload d_M_fault_331 rfl ?_
            refine ev_if_eq (t := 343) d_M_fault_333 (by decide) (fun c_333_17 => ?_) (fun c_333_17 => ?_)
            · refine ev_iload d_M_fault_343 rfl ?_
              exact hk_10 _ (by grind [xbi])
            · refine ev_iload d_M_fault_336 rfl ?_
              refine ev_iconst (v := 1) d_M_fault_338 rfl ?_
              refine ev_iadd d_M_fault_339 ?_
              refine ev_goto (t := 345) d_M_fault_340 (by decide) ?_
              exact hk_10 _ (by grind [xbi])
        · refine ev_iload d_M_fault_318 rfl ?_
          refine ev_if_eq (t := 329) d_M_fault_320 (by decide) (fun c_320_18 => ?_) (fun c_320_18 => ?_)
          · refine ev_iload_n d_M_fault_329 rfl ?_
            exact hk_8 _ (by grind [xbi])
          · refine ev_iload_n d_M_fault_323 rfl ?_
            refine ev_iconst (v := 1) d_M_fault_324 rfl ?_
            refine ev_isub d_M_fault_325 ?_
            refine ev_goto (t := 330) d_M_fault_326 (by decide) ?_
            exact hk_8 _ (by grind [xbi])
      · refine ev_iload d_M_fault_287 rfl ?_
        refine ev_bipush (v := 38) d_M_fault_289 rfl ?_
        refine ev_icmp_eq (t := 311) d_M_fault_291 (by decide) (fun c_291_19 => ?_) (fun c_291_19 => ?_)
        · refine ev_iconst (v := 1) d_M_fault_311 rfl ?_
          refine ev_goto (t := 316) d_M_fault_312 (by decide) ?_
          exact hk_6 _ (by grind [xbi])
        · refine ev_iload d_M_fault_294 rfl ?_
          refine ev_bipush (v := 124) d_M_fault_296 rfl ?_
          refine ev_icmp_eq (t := 311) d_M_fault_298 (by decide) (fun c_298_20 => ?_) (fun c_298_20 => ?_)
          · refine ev_iconst (v := 1) d_M_fault_311 rfl ?_
            refine ev_goto (t := 316) d_M_fault_312 (by decide) ?_
            exact hk_6 _ (by grind [xbi])
          · refine ev_iload d_M_fault_301 rfl ?_
            refine ev_if_ne (t := 311) d_M_fault_303 (by decide) (fun c_303_21 => ?_) (fun c_303_21 => ?_)
            · refine ev_iconst (v := 1) d_M_fault_311 rfl ?_
              refine ev_goto (t := 316) d_M_fault_312 (by decide) ?_
              exact hk_6 _ (by grind [xbi])
            · refine ev_iload d_M_fault_306 rfl ?_
              refine ev_if_eq (t := 315) d_M_fault_308 (by decide) (fun c_308_22 => ?_) (fun c_308_22 => ?_)
              · refine ev_iconst (v := 0) d_M_fault_315 rfl ?_
                exact hk_6 _ (by grind [xbi])
              · refine ev_iconst (v := 1) d_M_fault_311 rfl ?_
                refine ev_goto (t := 316) d_M_fault_312 (by decide) ?_
                exact hk_6 _ (by grind [xbi])
    · refine ev_iload d_M_fault_262 rfl ?_
      refine ev_bipush (v := 59) d_M_fault_264 rfl ?_
      refine ev_icmp_ne (t := 284) d_M_fault_266 (by decide) (fun c_266_23 => ?_) (fun c_266_23 => ?_)
      · refine ev_iconst (v := 0) d_M_fault_284 rfl ?_
        exact hk_4 _ (by grind [xbi])
      · refine ev_iload_n d_M_fault_269 rfl ?_
        refine ev_if_ne (t := 284) d_M_fault_270 (by decide) (fun c_270_24 => ?_) (fun c_270_24 => ?_)
        · refine ev_iconst (v := 0) d_M_fault_284 rfl ?_
          exact hk_4 _ (by grind [xbi])
        · refine ev_iload d_M_fault_273 rfl ?_
          refine ev_bipush (v := 6) d_M_fault_275 rfl ?_
          refine ev_icmp_ge (t := 284) d_M_fault_277 (by decide) (fun c_277_25 => ?_) (fun c_277_25 => ?_)
          · refine ev_iconst (v := 0) d_M_fault_284 rfl ?_
            exact hk_4 _ (by grind [xbi])
          · refine ev_iconst (v := 1) d_M_fault_280 rfl ?_
            refine ev_goto (t := 285) d_M_fault_281 (by decide) ?_
            exact hk_4 _ (by grind [xbi])
  · refine ev_iload d_M_fault_244 rfl ?_
    refine ev_bipush (v := 41) d_M_fault_246 rfl ?_
    refine ev_icmp_ne (t := 259) d_M_fault_248 (by decide) (fun c_248_26 => ?_) (fun c_248_26 => ?_)
    · refine ev_iconst (v := 0) d_M_fault_259 rfl ?_
      exact hk_2 _ (by grind [xbi])
    · refine ev_iload_n d_M_fault_251 rfl ?_
      refine ev_if_le (t := 259) d_M_fault_252 (by decide) (fun c_252_27 => ?_) (fun c_252_27 => ?_)
      · refine ev_iconst (v := 0) d_M_fault_259 rfl ?_
        exact hk_2 _ (by grind [xbi])
      · refine ev_iconst (v := 1) d_M_fault_255 rfl ?_
        refine ev_goto (t := 260) d_M_fault_256 (by decide) ?_
        exact hk_2 _ (by grind [xbi])
set_option maxRecDepth 20000 in
theorem l_M_fault {d : Nat} {B : xMm} {ad : Nat → Nat} {ix : Nat → Option Nat} {iv : Nat → Int32} {av : Nat → Nat → Int32} {ns : Nat × Nat} (ok : mOk ad ix) (pn : Nat) (hpn : pn ≤ 80) (hp : iv 1 = nI pn) : ∀ (m i : Nat) (a n p t g : Int32) (o7 o8 o9 o10 : Option Value), i + m = pn → xEv (d + 1) k_M_fault 15 [some (.ref (ad 0)), some (.int a), some (.int n), some (.int p), some (.int t), some (.int g), some (.int (nI i)), o7, o8, o9, o10] [] (mM B ad ix iv av, ns) (.inl (some (.int (mFa av pn m i (a, n, p, t, g)))), (mM B ad ix iv av, ns)) := by
  intro m
  induction m with
  | zero =>
    intro i a n p t g o7 o8 o9 o10 hi
    refine ev_iload d_M_fault_15 rfl ?_
    refine ev_aload_n d_M_fault_17 rfl ?_
    refine ev_get d_M_fault_18 f_8_109 (mM_obj ok) rfl ?_
    refine ev_icmp_ge (t := 372) d_M_fault_21 (by decide) (fun _ => ?_) (fun c_21 => absurd (by rw [hp]; exact nI_le (by omega) (by omega)) c_21)
    refine ev_iload_n d_M_fault_372 rfl ?_
    refine ev_iconst (v := 2) d_M_fault_373 rfl ?_
    refine ev_icmp_le (t := 385) d_M_fault_374 (by decide) (fun c_374_1 => ?_) (fun c_374_1 => ?_)
    · refine ev_aload_n d_M_fault_385 rfl ?_
      refine ev_get d_M_fault_386 f_8_109 (mM_obj ok) rfl ?_
      exact xEv.to (ev_iret d_M_fault_389 rfl) (by simp only [mFa]; grind)
    · refine ev_iload_n d_M_fault_377 rfl ?_
      refine ev_if_ne (t := 385) d_M_fault_378 (by decide) (fun c_378_2 => ?_) (fun c_378_2 => ?_)
      · refine ev_aload_n d_M_fault_385 rfl ?_
        refine ev_get d_M_fault_386 f_8_109 (mM_obj ok) rfl ?_
        exact xEv.to (ev_iret d_M_fault_389 rfl) (by simp only [mFa]; grind)
      · refine ev_iconst (v := (-1)) d_M_fault_381 rfl ?_
        refine ev_goto (t := 389) d_M_fault_382 (by decide) ?_
        exact xEv.to (ev_iret d_M_fault_389 rfl) (by simp only [mFa]; grind)
  | succ m ih =>
    intro i a n p t g o7 o8 o9 o10 hi
    by_cases h0 : a = 0
    · exact l_M_fault_0 ok pn hpn hp m ih i hi a n p t g o7 o8 o9 o10 h0
    · by_cases h1 : a = 1
      · exact l_M_fault_1 ok pn hpn hp m ih i hi a n p t g o7 o8 o9 o10 h0 h1
      · by_cases h2 : a = 2
        · exact l_M_fault_2 ok pn hpn hp m ih i hi a n p t g o7 o8 o9 o10 h0 h1 h2
        · by_cases h3 : a = 3
          · by_cases hd : 48 ≤ av 2 i ∧ av 2 i ≤ 57
            · exact l_M_fault_3 ok pn hpn hp m ih i hi a n p t g o7 o8 o9 o10 h0 h1 h2 h3 hd
            · exact l_M_fault_5 ok pn hpn hp m ih i hi a n p t g o7 o8 o9 o10 h0 h1 h2 h3 hd
          · exact l_M_fault_4 ok pn hpn hp m ih i hi a n p t g o7 o8 o9 o10 h0 h1 h2 h3
set_option maxRecDepth 20000 in
theorem c_M_fault {d : Nat} {B : xMm} {ad : Nat → Nat} {ix : Nat → Option Nat} {iv : Nat → Int32} {av : Nat → Nat → Int32} {ns : Nat × Nat} (ok : mOk ad ix) (pn : Nat) (hpn : pn ≤ 80) (hp : iv 1 = nI pn) : xCl (d + 1) k_M_fault [.ref (ad 0)] (mM B ad ix iv av, ns) (.inl (some (.int (mFa av pn pn 0 (0, 0, 0, 1, 0)))), (mM B ad ix iv av, ns)) := by
  show xEv _ k_M_fault 0 [some (.ref (ad 0)), none, none, none, none, none, none, none, none, none, none] [] _ _
  refine ev_iconst (v := 0) d_M_fault_0 rfl ?_
  refine ev_istore_n (lo1 := [some (.ref (ad 0)), some (.int 0), none, none, none, none, none, none, none, none, none]) d_M_fault_1 (Nat.le_of_ble_eq_true rfl) rfl ?_
  refine ev_iconst (v := 0) d_M_fault_2 rfl ?_
  refine ev_istore_n (lo1 := [some (.ref (ad 0)), some (.int 0), some (.int 0), none, none, none, none, none, none, none, none]) d_M_fault_3 (Nat.le_of_ble_eq_true rfl) rfl ?_
  refine ev_iconst (v := 0) d_M_fault_4 rfl ?_
  refine ev_istore_n (lo1 := [some (.ref (ad 0)), some (.int 0), some (.int 0), some (.int 0), none, none, none, none, none, none, none]) d_M_fault_5 (Nat.le_of_ble_eq_true rfl) rfl ?_
  refine ev_iconst (v := 1) d_M_fault_6 rfl ?_
  refine ev_istore (lo1 := [some (.ref (ad 0)), some (.int 0), some (.int 0), some (.int 0), some (.int 1), none, none, none, none, none, none]) d_M_fault_7 (Nat.le_of_ble_eq_true rfl) rfl ?_
  refine ev_iconst (v := 0) d_M_fault_9 rfl ?_
  refine ev_istore (lo1 := [some (.ref (ad 0)), some (.int 0), some (.int 0), some (.int 0), some (.int 1), some (.int 0), none, none, none, none, none]) d_M_fault_10 (Nat.le_of_ble_eq_true rfl) rfl ?_
  refine ev_iconst (v := 0) d_M_fault_12 rfl ?_
  refine ev_istore (lo1 := [some (.ref (ad 0)), some (.int 0), some (.int 0), some (.int 0), some (.int 1), some (.int 0), some (.int 0), none, none, none, none]) d_M_fault_13 (Nat.le_of_ble_eq_true rfl) rfl ?_
  exact l_M_fault ok pn hpn hp pn 0 0 0 0 1 0 none none none none (by omega)
