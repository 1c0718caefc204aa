/-! the reference: what a term is worth at an hour -/
def lfS (e : Option Int32) (sg nu : Int32) : Int32 := match e with
  | none => 2
  | some v => if sg = 60 then (if v < nu then 1 else 0) else if sg = 61 then (if v = nu then 1 else 0) else (if nu < v then 1 else 0)
def mE (av : Nat → Nat → Int32) (l : Nat) (h : Int32) (nm : Int32) : Option Int32 :=
  if nm = 121 then some (h / 24 - av 26 l) else if nm = 122 then some (if av 28 l = 0 then 0 else 1) else
  if mValue av (nm.toNatClampNeg - 97) h (av 18 (nm.toNatClampNeg - 97)).toNatClampNeg = -1 then none else some (mValue av (nm.toNatClampNeg - 97) h (av 18 (nm.toNatClampNeg - 97)).toNatClampNeg)
def mNm (nm : Int32) : Prop := nm = 121 ∨ nm = 122 ∨ ∃ q : Nat, q < 8 ∧ nm = nI (97 + q)
set_option maxRecDepth 20000 in
theorem c_M_leaf_y {d : Nat} {B : xMm} {ad : Nat → Nat} {ix : Nat → Option Nat} {iv : Nat → Int32} {av : Nat → Nat → Int32} {ns : Nat × Nat} (ok : mOk ad ix) (l a : Nat) (h : Int32) (hl : l < 20) (ha : a < 1280) (hrows : ∀ q, q < 8 → ∃ rn, rn ≤ 60 ∧ av 18 q = nI rn) (h1 : av 10 a = 121) : xCl (d + 2) k_M_leaf [.ref (ad 0), .int (nI l), .int (nI a), .int h] (mM B ad ix iv av, ns) (.inl (some (.int (lfS (mE av l h (av 10 a)) (av 11 a) (av 12 a)))), (mM B ad ix iv av, ns)) := by
  have el : (nI l).toNatClampNeg = l := nI_clamp (by omega)
  have ea : (nI a).toNatClampNeg = a := nI_clamp (by omega)
  have hR : lfS (mE av l h (av 10 a)) (av 11 a) (av 12 a) = if av 11 a = 60 then (if (h / 24 - av 26 l) < av 12 a then 1 else 0) else if av 11 a = 61 then (if (h / 24 - av 26 l) = av 12 a then 1 else 0) else (if av 12 a < (h / 24 - av 26 l) then 1 else 0) := by simp [lfS, mE, h1]
  show xEv _ k_M_leaf 0 [some (.ref (ad 0)), some (.int (nI l)), some (.int (nI a)), some (.int h), none, none, none, none, none] [] _ _
  refine ev_aload_n d_M_leaf_0 rfl ?_
  refine ev_get d_M_leaf_1 f_8_31 (mM_obj ok) rfl ?_
  refine ev_iload_n d_M_leaf_4 rfl ?_
  refine ev_iald d_M_leaf_5 (mM_arr ok 10 rfl) ⟨rfl, vp_in_nI (N := 1280) ha (by decide)⟩ rfl ?_
  rw [ea]
  refine ev_top (fun x_1 ex_1 => ?_)
  refine ev_istore (lo1 := [some (.ref (ad 0)), some (.int (nI l)), some (.int (nI a)), some (.int h), some (.int x_1), none, none, none, none]) d_M_leaf_6 (Nat.le_of_ble_eq_true rfl) rfl ?_
  refine ev_iload d_M_leaf_8 rfl ?_
  refine ev_bipush (v := 121) d_M_leaf_10 rfl ?_
  refine ev_icmp_eq (t := 22) d_M_leaf_12 (by decide) (fun _ => ?_) (fun c_12 => absurd (by grind) c_12)
  refine ev_iconst (v := 1) d_M_leaf_22 rfl ?_
  refine ev_goto (t := 27) d_M_leaf_23 (by decide) ?_
  refine ev_istore (lo1 := [some (.ref (ad 0)), some (.int (nI l)), some (.int (nI a)), some (.int h), some (.int x_1), some (.int 1), none, none, none]) d_M_leaf_27 (Nat.le_of_ble_eq_true rfl) rfl ?_
  refine ev_iload d_M_leaf_29 rfl ?_
  refine ev_bipush (v := 121) d_M_leaf_31 rfl ?_
  refine ev_icmp_ne (t := 50) d_M_leaf_33 (by decide) (fun c_33 => absurd (by grind) c_33) (fun _ => ?_)
  refine ev_iload_n d_M_leaf_36 rfl ?_
  refine ev_bipush (v := 24) d_M_leaf_37 rfl ?_
  refine ev_idiv d_M_leaf_39 (by decide) ?_
  refine ev_aload_n d_M_leaf_40 rfl ?_
  refine ev_get d_M_leaf_41 f_8_70 (mM_obj ok) rfl ?_
  refine ev_iload_n d_M_leaf_44 rfl ?_
  refine ev_iald d_M_leaf_45 (mM_arr ok 26 rfl) ⟨rfl, vp_in_nI (N := 20) hl (by decide)⟩ rfl ?_
  rw [el]
  refine ev_isub d_M_leaf_46 ?_
  refine ev_goto (t := 84) d_M_leaf_47 (by decide) ?_
  refine ev_top (fun x_2 ex_2 => ?_)
  refine ev_istore (lo1 := [some (.ref (ad 0)), some (.int (nI l)), some (.int (nI a)), some (.int h), some (.int x_1), some (.int 1), some (.int x_2), none, none]) d_M_leaf_84 (Nat.le_of_ble_eq_true rfl) rfl ?_
  refine ev_iload d_M_leaf_86 rfl ?_
  refine ev_if_ne (t := 99) d_M_leaf_88 (by decide) (fun _ => ?_) (fun c_88 => absurd c_88 (by decide))
  refine ev_aload_n d_M_leaf_99 rfl ?_
  refine ev_get d_M_leaf_100 f_8_37 (mM_obj ok) rfl ?_
  refine ev_iload_n d_M_leaf_103 rfl ?_
  refine ev_iald d_M_leaf_104 (mM_arr ok 12 rfl) ⟨rfl, vp_in_nI (N := 1280) ha (by decide)⟩ rfl ?_
  rw [ea]
  refine ev_top (fun x_3 ex_3 => ?_)
  refine ev_istore (lo1 := [some (.ref (ad 0)), some (.int (nI l)), some (.int (nI a)), some (.int h), some (.int x_1), some (.int 1), some (.int x_2), some (.int x_3), none]) d_M_leaf_105 (Nat.le_of_ble_eq_true rfl) rfl ?_
  refine ev_aload_n d_M_leaf_107 rfl ?_
  refine ev_get d_M_leaf_108 f_8_34 (mM_obj ok) rfl ?_
  refine ev_iload_n d_M_leaf_111 rfl ?_
  refine ev_iald d_M_leaf_112 (mM_arr ok 11 rfl) ⟨rfl, vp_in_nI (N := 1280) ha (by decide)⟩ rfl ?_
  rw [ea]
  refine ev_bipush (v := 60) d_M_leaf_113 rfl ?_
  refine ev_icmp_ne (t := 133) d_M_leaf_115 (by decide) (fun c_115_4 => ?_) (fun c_115_4 => ?_)
  · refine ev_aload_n d_M_leaf_133 rfl ?_
    refine ev_get d_M_leaf_134 f_8_34 (mM_obj ok) rfl ?_
    refine ev_iload_n d_M_leaf_137 rfl ?_
    refine ev_iald d_M_leaf_138 (mM_arr ok 11 rfl) ⟨rfl, vp_in_nI (N := 1280) ha (by decide)⟩ rfl ?_
    rw [ea]
    refine ev_bipush (v := 61) d_M_leaf_139 rfl ?_
    refine ev_icmp_ne (t := 159) d_M_leaf_141 (by decide) (fun c_141_5 => ?_) (fun c_141_5 => ?_)
    · refine ev_iload d_M_leaf_159 rfl ?_
      refine ev_iload d_M_leaf_161 rfl ?_
      refine ev_icmp_le (t := 170) d_M_leaf_163 (by decide) (fun c_163_6 => ?_) (fun c_163_6 => ?_)
      · refine ev_iconst (v := 0) d_M_leaf_170 rfl ?_
        refine ev_istore (lo1 := [some (.ref (ad 0)), some (.int (nI l)), some (.int (nI a)), some (.int h), some (.int x_1), some (.int 1), some (.int x_2), some (.int x_3), some (.int 0)]) d_M_leaf_171 (Nat.le_of_ble_eq_true rfl) rfl ?_
        refine ev_iload d_M_leaf_173 rfl ?_
        refine ev_if_eq (t := 182) d_M_leaf_175 (by decide) (fun c_175_7 => ?_) (fun c_175_7 => ?_)
        · refine ev_iconst (v := 0) d_M_leaf_182 rfl ?_
          exact xEv.to (ev_iret d_M_leaf_183 rfl) (by rw [hR]; grind)
        · refine ev_iconst (v := 1) d_M_leaf_178 rfl ?_
          refine ev_goto (t := 183) d_M_leaf_179 (by decide) ?_
          exact xEv.to (ev_iret d_M_leaf_183 rfl) (by rw [hR]; grind)
      · refine ev_iconst (v := 1) d_M_leaf_166 rfl ?_
        refine ev_goto (t := 171) d_M_leaf_167 (by decide) ?_
        refine ev_istore (lo1 := [some (.ref (ad 0)), some (.int (nI l)), some (.int (nI a)), some (.int h), some (.int x_1), some (.int 1), some (.int x_2), some (.int x_3), some (.int 1)]) d_M_leaf_171 (Nat.le_of_ble_eq_true rfl) rfl ?_
        refine ev_iload d_M_leaf_173 rfl ?_
        refine ev_if_eq (t := 182) d_M_leaf_175 (by decide) (fun c_175_8 => ?_) (fun c_175_8 => ?_)
        · refine ev_iconst (v := 0) d_M_leaf_182 rfl ?_
          exact xEv.to (ev_iret d_M_leaf_183 rfl) (by rw [hR]; grind)
        · refine ev_iconst (v := 1) d_M_leaf_178 rfl ?_
          refine ev_goto (t := 183) d_M_leaf_179 (by decide) ?_
          exact xEv.to (ev_iret d_M_leaf_183 rfl) (by rw [hR]; grind)
    · refine ev_iload d_M_leaf_144 rfl ?_
      refine ev_iload d_M_leaf_146 rfl ?_
      refine ev_icmp_ne (t := 155) d_M_leaf_148 (by decide) (fun c_148_9 => ?_) (fun c_148_9 => ?_)
      · refine ev_iconst (v := 0) d_M_leaf_155 rfl ?_
        refine ev_goto (t := 171) d_M_leaf_156 (by decide) ?_
        refine ev_istore (lo1 := [some (.ref (ad 0)), some (.int (nI l)), some (.int (nI a)), some (.int h), some (.int x_1), some (.int 1), some (.int x_2), some (.int x_3), some (.int 0)]) d_M_leaf_171 (Nat.le_of_ble_eq_true rfl) rfl ?_
        refine ev_iload d_M_leaf_173 rfl ?_
        refine ev_if_eq (t := 182) d_M_leaf_175 (by decide) (fun c_175_10 => ?_) (fun c_175_10 => ?_)
        · refine ev_iconst (v := 0) d_M_leaf_182 rfl ?_
          exact xEv.to (ev_iret d_M_leaf_183 rfl) (by rw [hR]; grind)
        · refine ev_iconst (v := 1) d_M_leaf_178 rfl ?_
          refine ev_goto (t := 183) d_M_leaf_179 (by decide) ?_
          exact xEv.to (ev_iret d_M_leaf_183 rfl) (by rw [hR]; grind)
      · refine ev_iconst (v := 1) d_M_leaf_151 rfl ?_
        refine ev_goto (t := 171) d_M_leaf_152 (by decide) ?_
        refine ev_istore (lo1 := [some (.ref (ad 0)), some (.int (nI l)), some (.int (nI a)), some (.int h), some (.int x_1), some (.int 1), some (.int x_2), some (.int x_3), some (.int 1)]) d_M_leaf_171 (Nat.le_of_ble_eq_true rfl) rfl ?_
        refine ev_iload d_M_leaf_173 rfl ?_
        refine ev_if_eq (t := 182) d_M_leaf_175 (by decide) (fun c_175_11 => ?_) (fun c_175_11 => ?_)
        · refine ev_iconst (v := 0) d_M_leaf_182 rfl ?_
          exact xEv.to (ev_iret d_M_leaf_183 rfl) (by rw [hR]; grind)
        · refine ev_iconst (v := 1) d_M_leaf_178 rfl ?_
          refine ev_goto (t := 183) d_M_leaf_179 (by decide) ?_
          exact xEv.to (ev_iret d_M_leaf_183 rfl) (by rw [hR]; grind)
  · refine ev_iload d_M_leaf_118 rfl ?_
    refine ev_iload d_M_leaf_120 rfl ?_
    refine ev_icmp_ge (t := 129) d_M_leaf_122 (by decide) (fun c_122_12 => ?_) (fun c_122_12 => ?_)
    · refine ev_iconst (v := 0) d_M_leaf_129 rfl ?_
      refine ev_goto (t := 171) d_M_leaf_130 (by decide) ?_
      refine ev_istore (lo1 := [some (.ref (ad 0)), some (.int (nI l)), some (.int (nI a)), some (.int h), some (.int x_1), some (.int 1), some (.int x_2), some (.int x_3), some (.int 0)]) d_M_leaf_171 (Nat.le_of_ble_eq_true rfl) rfl ?_
      refine ev_iload d_M_leaf_173 rfl ?_
      refine ev_if_eq (t := 182) d_M_leaf_175 (by decide) (fun c_175_13 => ?_) (fun c_175_13 => ?_)
      · refine ev_iconst (v := 0) d_M_leaf_182 rfl ?_
        exact xEv.to (ev_iret d_M_leaf_183 rfl) (by rw [hR]; grind)
      · refine ev_iconst (v := 1) d_M_leaf_178 rfl ?_
        refine ev_goto (t := 183) d_M_leaf_179 (by decide) ?_
        exact xEv.to (ev_iret d_M_leaf_183 rfl) (by rw [hR]; grind)
    · refine ev_iconst (v := 1) d_M_leaf_125 rfl ?_
      refine ev_goto (t := 171) d_M_leaf_126 (by decide) ?_
      refine ev_istore (lo1 := [some (.ref (ad 0)), some (.int (nI l)), some (.int (nI a)), some (.int h), some (.int x_1), some (.int 1), some (.int x_2), some (.int x_3), some (.int 1)]) d_M_leaf_171 (Nat.le_of_ble_eq_true rfl) rfl ?_
      refine ev_iload d_M_leaf_173 rfl ?_
      refine ev_if_eq (t := 182) d_M_leaf_175 (by decide) (fun c_175_14 => ?_) (fun c_175_14 => ?_)
      · refine ev_iconst (v := 0) d_M_leaf_182 rfl ?_
        exact xEv.to (ev_iret d_M_leaf_183 rfl) (by rw [hR]; grind)
      · refine ev_iconst (v := 1) d_M_leaf_178 rfl ?_
        refine ev_goto (t := 183) d_M_leaf_179 (by decide) ?_
        exact xEv.to (ev_iret d_M_leaf_183 rfl) (by rw [hR]; grind)
set_option maxRecDepth 20000 in
theorem c_M_leaf_z {d : Nat} {B : xMm} {ad : Nat → Nat} {ix : Nat → Option Nat} {iv : Nat → Int32} {av : Nat → Nat → Int32} {ns : Nat × Nat} (ok : mOk ad ix) (l a : Nat) (h : Int32) (hl : l < 20) (ha : a < 1280) (hrows : ∀ q, q < 8 → ∃ rn, rn ≤ 60 ∧ av 18 q = nI rn) (h1 : av 10 a = 122) : xCl (d + 2) k_M_leaf [.ref (ad 0), .int (nI l), .int (nI a), .int h] (mM B ad ix iv av, ns) (.inl (some (.int (lfS (mE av l h (av 10 a)) (av 11 a) (av 12 a)))), (mM B ad ix iv av, ns)) := by
  have el : (nI l).toNatClampNeg = l := nI_clamp (by omega)
  have ea : (nI a).toNatClampNeg = a := nI_clamp (by omega)
  have hR : lfS (mE av l h (av 10 a)) (av 11 a) (av 12 a) = if av 11 a = 60 then (if (if av 28 l = 0 then 0 else 1) < av 12 a then 1 else 0) else if av 11 a = 61 then (if (if av 28 l = 0 then 0 else 1) = av 12 a then 1 else 0) else (if av 12 a < (if av 28 l = 0 then 0 else 1) then 1 else 0) := by simp [lfS, mE, h1]
  show xEv _ k_M_leaf 0 [some (.ref (ad 0)), some (.int (nI l)), some (.int (nI a)), some (.int h), none, none, none, none, none] [] _ _
  refine ev_aload_n d_M_leaf_0 rfl ?_
  refine ev_get d_M_leaf_1 f_8_31 (mM_obj ok) rfl ?_
  refine ev_iload_n d_M_leaf_4 rfl ?_
  refine ev_iald d_M_leaf_5 (mM_arr ok 10 rfl) ⟨rfl, vp_in_nI (N := 1280) ha (by decide)⟩ rfl ?_
  rw [ea]
  refine ev_top (fun x_1 ex_1 => ?_)
  refine ev_istore (lo1 := [some (.ref (ad 0)), some (.int (nI l)), some (.int (nI a)), some (.int h), some (.int x_1), none, none, none, none]) d_M_leaf_6 (Nat.le_of_ble_eq_true rfl) rfl ?_
  refine ev_iload d_M_leaf_8 rfl ?_
  refine ev_bipush (v := 121) d_M_leaf_10 rfl ?_
  refine ev_icmp_eq (t := 22) d_M_leaf_12 (by decide) (fun c_12 => absurd c_12 (by grind)) (fun _ => ?_)
  refine ev_iload d_M_leaf_15 rfl ?_
  refine ev_bipush (v := 122) d_M_leaf_17 rfl ?_
  refine ev_icmp_ne (t := 26) d_M_leaf_19 (by decide) (fun c_19 => absurd (by grind) c_19) (fun _ => ?_)
  refine ev_iconst (v := 1) d_M_leaf_22 rfl ?_
  refine ev_goto (t := 27) d_M_leaf_23 (by decide) ?_
  refine ev_istore (lo1 := [some (.ref (ad 0)), some (.int (nI l)), some (.int (nI a)), some (.int h), some (.int x_1), some (.int 1), none, none, none]) d_M_leaf_27 (Nat.le_of_ble_eq_true rfl) rfl ?_
  refine ev_iload d_M_leaf_29 rfl ?_
  refine ev_bipush (v := 121) d_M_leaf_31 rfl ?_
  refine ev_icmp_ne (t := 50) d_M_leaf_33 (by decide) (fun _ => ?_) (fun c_33 => absurd c_33 (by grind))
  refine ev_iload d_M_leaf_50 rfl ?_
  refine ev_bipush (v := 122) d_M_leaf_52 rfl ?_
  refine ev_icmp_ne (t := 74) d_M_leaf_54 (by decide) (fun c_54 => absurd (by grind) c_54) (fun _ => ?_)
  refine ev_aload_n d_M_leaf_57 rfl ?_
  refine ev_get d_M_leaf_58 f_8_76 (mM_obj ok) rfl ?_
  refine ev_iload_n d_M_leaf_61 rfl ?_
  refine ev_zald d_M_leaf_62 (mM_arr ok 28 rfl) ⟨rfl, vp_in_nI (N := 20) hl (by decide)⟩ rfl ?_
  rw [el]
  refine ev_if_eq (t := 70) d_M_leaf_63 (by decide) (fun c_63_2 => ?_) (fun c_63_2 => ?_)
  · refine ev_iconst (v := 0) d_M_leaf_70 rfl ?_
    refine ev_goto (t := 84) d_M_leaf_71 (by decide) ?_
    refine ev_istore (lo1 := [some (.ref (ad 0)), some (.int (nI l)), some (.int (nI a)), some (.int h), some (.int x_1), some (.int 1), some (.int 0), none, none]) d_M_leaf_84 (Nat.le_of_ble_eq_true rfl) rfl ?_
    refine ev_iload d_M_leaf_86 rfl ?_
    refine ev_if_ne (t := 99) d_M_leaf_88 (by decide) (fun _ => ?_) (fun c_88 => absurd c_88 (by decide))
    refine ev_aload_n d_M_leaf_99 rfl ?_
    refine ev_get d_M_leaf_100 f_8_37 (mM_obj ok) rfl ?_
    refine ev_iload_n d_M_leaf_103 rfl ?_
    refine ev_iald d_M_leaf_104 (mM_arr ok 12 rfl) ⟨rfl, vp_in_nI (N := 1280) ha (by decide)⟩ rfl ?_
    rw [ea]
    refine ev_top (fun x_3 ex_3 => ?_)
    refine ev_istore (lo1 := [some (.ref (ad 0)), some (.int (nI l)), some (.int (nI a)), some (.int h), some (.int x_1), some (.int 1), some (.int 0), some (.int x_3), none]) d_M_leaf_105 (Nat.le_of_ble_eq_true rfl) rfl ?_
    refine ev_aload_n d_M_leaf_107 rfl ?_
    refine ev_get d_M_leaf_108 f_8_34 (mM_obj ok) rfl ?_
    refine ev_iload_n d_M_leaf_111 rfl ?_
    refine ev_iald d_M_leaf_112 (mM_arr ok 11 rfl) ⟨rfl, vp_in_nI (N := 1280) ha (by decide)⟩ rfl ?_
    rw [ea]
    refine ev_bipush (v := 60) d_M_leaf_113 rfl ?_
    refine ev_icmp_ne (t := 133) d_M_leaf_115 (by decide) (fun c_115_4 => ?_) (fun c_115_4 => ?_)
    · refine ev_aload_n d_M_leaf_133 rfl ?_
      refine ev_get d_M_leaf_134 f_8_34 (mM_obj ok) rfl ?_
      refine ev_iload_n d_M_leaf_137 rfl ?_
      refine ev_iald d_M_leaf_138 (mM_arr ok 11 rfl) ⟨rfl, vp_in_nI (N := 1280) ha (by decide)⟩ rfl ?_
      rw [ea]
      refine ev_bipush (v := 61) d_M_leaf_139 rfl ?_
      refine ev_icmp_ne (t := 159) d_M_leaf_141 (by decide) (fun c_141_5 => ?_) (fun c_141_5 => ?_)
      · refine ev_iload d_M_leaf_159 rfl ?_
        refine ev_iload d_M_leaf_161 rfl ?_
        refine ev_icmp_le (t := 170) d_M_leaf_163 (by decide) (fun c_163_6 => ?_) (fun c_163_6 => ?_)
        · refine ev_iconst (v := 0) d_M_leaf_170 rfl ?_
          refine ev_istore (lo1 := [some (.ref (ad 0)), some (.int (nI l)), some (.int (nI a)), some (.int h), some (.int x_1), some (.int 1), some (.int 0), some (.int x_3), some (.int 0)]) d_M_leaf_171 (Nat.le_of_ble_eq_true rfl) rfl ?_
          refine ev_iload d_M_leaf_173 rfl ?_
          refine ev_if_eq (t := 182) d_M_leaf_175 (by decide) (fun c_175_7 => ?_) (fun c_175_7 => ?_)
          · refine ev_iconst (v := 0) d_M_leaf_182 rfl ?_
            exact xEv.to (ev_iret d_M_leaf_183 rfl) (by rw [hR]; grind)
          · refine ev_iconst (v := 1) d_M_leaf_178 rfl ?_
            refine ev_goto (t := 183) d_M_leaf_179 (by decide) ?_
            exact xEv.to (ev_iret d_M_leaf_183 rfl) (by rw [hR]; grind)
        · refine ev_iconst (v := 1) d_M_leaf_166 rfl ?_
          refine ev_goto (t := 171) d_M_leaf_167 (by decide) ?_
          refine ev_istore (lo1 := [some (.ref (ad 0)), some (.int (nI l)), some (.int (nI a)), some (.int h), some (.int x_1), some (.int 1), some (.int 0), some (.int x_3), some (.int 1)]) d_M_leaf_171 (Nat.le_of_ble_eq_true rfl) rfl ?_
          refine ev_iload d_M_leaf_173 rfl ?_
          refine ev_if_eq (t := 182) d_M_leaf_175 (by decide) (fun c_175_8 => ?_) (fun c_175_8 => ?_)
          · refine ev_iconst (v := 0) d_M_leaf_182 rfl ?_
            exact xEv.to (ev_iret d_M_leaf_183 rfl) (by rw [hR]; grind)
          · refine ev_iconst (v := 1) d_M_leaf_178 rfl ?_
            refine ev_goto (t := 183) d_M_leaf_179 (by decide) ?_
            exact xEv.to (ev_iret d_M_leaf_183 rfl) (by rw [hR]; grind)
      · refine ev_iload d_M_leaf_144 rfl ?_
        refine ev_iload d_M_leaf_146 rfl ?_
        refine ev_icmp_ne (t := 155) d_M_leaf_148 (by decide) (fun c_148_9 => ?_) (fun c_148_9 => ?_)
        · refine ev_iconst (v := 0) d_M_leaf_155 rfl ?_
          refine ev_goto (t := 171) d_M_leaf_156 (by decide) ?_
          refine ev_istore (lo1 := [some (.ref (ad 0)), some (.int (nI l)), some (.int (nI a)), some (.int h), some (.int x_1), some (.int 1), some (.int 0), some (.int x_3), some (.int 0)]) d_M_leaf_171 (Nat.le_of_ble_eq_true rfl) rfl ?_
          refine ev_iload d_M_leaf_173 rfl ?_
          refine ev_if_eq (t := 182) d_M_leaf_175 (by decide) (fun c_175_10 => ?_) (fun c_175_10 => ?_)
          · refine ev_iconst (v := 0) d_M_leaf_182 rfl ?_
            exact xEv.to (ev_iret d_M_leaf_183 rfl) (by rw [hR]; grind)
          · refine ev_iconst (v := 1) d_M_leaf_178 rfl ?_
            refine ev_goto (t := 183) d_M_leaf_179 (by decide) ?_
            exact xEv.to (ev_iret d_M_leaf_183 rfl) (by rw [hR]; grind)
        · refine ev_iconst (v := 1) d_M_leaf_151 rfl ?_
          refine ev_goto (t := 171) d_M_leaf_152 (by decide) ?_
          refine ev_istore (lo1 := [some (.ref (ad 0)), some (.int (nI l)), some (.int (nI a)), some (.int h), some (.int x_1), some (.int 1), some (.int 0), some (.int x_3), some (.int 1)]) d_M_leaf_171 (Nat.le_of_ble_eq_true rfl) rfl ?_
          refine ev_iload d_M_leaf_173 rfl ?_
          refine ev_if_eq (t := 182) d_M_leaf_175 (by decide) (fun c_175_11 => ?_) (fun c_175_11 => ?_)
          · refine ev_iconst (v := 0) d_M_leaf_182 rfl ?_
            exact xEv.to (ev_iret d_M_leaf_183 rfl) (by rw [hR]; grind)
          · refine ev_iconst (v := 1) d_M_leaf_178 rfl ?_
            refine ev_goto (t := 183) d_M_leaf_179 (by decide) ?_
            exact xEv.to (ev_iret d_M_leaf_183 rfl) (by rw [hR]; grind)
    · refine ev_iload d_M_leaf_118 rfl ?_
      refine ev_iload d_M_leaf_120 rfl ?_
      refine ev_icmp_ge (t := 129) d_M_leaf_122 (by decide) (fun c_122_12 => ?_) (fun c_122_12 => ?_)
      · refine ev_iconst (v := 0) d_M_leaf_129 rfl ?_
        refine ev_goto (t := 171) d_M_leaf_130 (by decide) ?_
        refine ev_istore (lo1 := [some (.ref (ad 0)), some (.int (nI l)), some (.int (nI a)), some (.int h), some (.int x_1), some (.int 1), some (.int 0), some (.int x_3), some (.int 0)]) d_M_leaf_171 (Nat.le_of_ble_eq_true rfl) rfl ?_
        refine ev_iload d_M_leaf_173 rfl ?_
        refine ev_if_eq (t := 182) d_M_leaf_175 (by decide) (fun c_175_13 => ?_) (fun c_175_13 => ?_)
        · refine ev_iconst (v := 0) d_M_leaf_182 rfl ?_
          exact xEv.to (ev_iret d_M_leaf_183 rfl) (by rw [hR]; grind)
        · refine ev_iconst (v := 1) d_M_leaf_178 rfl ?_
          refine ev_goto (t := 183) d_M_leaf_179 (by decide) ?_
          exact xEv.to (ev_iret d_M_leaf_183 rfl) (by rw [hR]; grind)
      · refine ev_iconst (v := 1) d_M_leaf_125 rfl ?_
        refine ev_goto (t := 171) d_M_leaf_126 (by decide) ?_
        refine ev_istore (lo1 := [some (.ref (ad 0)), some (.int (nI l)), some (.int (nI a)), some (.int h), some (.int x_1), some (.int 1), some (.int 0), some (.int x_3), some (.int 1)]) d_M_leaf_171 (Nat.le_of_ble_eq_true rfl) rfl ?_
        refine ev_iload d_M_leaf_173 rfl ?_
        refine ev_if_eq (t := 182) d_M_leaf_175 (by decide) (fun c_175_14 => ?_) (fun c_175_14 => ?_)
        · refine ev_iconst (v := 0) d_M_leaf_182 rfl ?_
          exact xEv.to (ev_iret d_M_leaf_183 rfl) (by rw [hR]; grind)
        · refine ev_iconst (v := 1) d_M_leaf_178 rfl ?_
          refine ev_goto (t := 183) d_M_leaf_179 (by decide) ?_
          exact xEv.to (ev_iret d_M_leaf_183 rfl) (by rw [hR]; grind)
  · refine ev_iconst (v := 1) d_M_leaf_66 rfl ?_
    refine ev_goto (t := 84) d_M_leaf_67 (by decide) ?_
    refine ev_istore (lo1 := [some (.ref (ad 0)), some (.int (nI l)), some (.int (nI a)), some (.int h), some (.int x_1), some (.int 1), some (.int 1), none, none]) d_M_leaf_84 (Nat.le_of_ble_eq_true rfl) rfl ?_
    refine ev_iload d_M_leaf_86 rfl ?_
    refine ev_if_ne (t := 99) d_M_leaf_88 (by decide) (fun _ => ?_) (fun c_88 => absurd c_88 (by decide))
    refine ev_aload_n d_M_leaf_99 rfl ?_
    refine ev_get d_M_leaf_100 f_8_37 (mM_obj ok) rfl ?_
    refine ev_iload_n d_M_leaf_103 rfl ?_
    refine ev_iald d_M_leaf_104 (mM_arr ok 12 rfl) ⟨rfl, vp_in_nI (N := 1280) ha (by decide)⟩ rfl ?_
    rw [ea]
    refine ev_top (fun x_15 ex_15 => ?_)
    refine ev_istore (lo1 := [some (.ref (ad 0)), some (.int (nI l)), some (.int (nI a)), some (.int h), some (.int x_1), some (.int 1), some (.int 1), some (.int x_15), none]) d_M_leaf_105 (Nat.le_of_ble_eq_true rfl) rfl ?_
    refine ev_aload_n d_M_leaf_107 rfl ?_
    refine ev_get d_M_leaf_108 f_8_34 (mM_obj ok) rfl ?_
    refine ev_iload_n d_M_leaf_111 rfl ?_
    refine ev_iald d_M_leaf_112 (mM_arr ok 11 rfl) ⟨rfl, vp_in_nI (N := 1280) ha (by decide)⟩ rfl ?_
    rw [ea]
    refine ev_bipush (v := 60) d_M_leaf_113 rfl ?_
    refine ev_icmp_ne (t := 133) d_M_leaf_115 (by decide) (fun c_115_16 => ?_) (fun c_115_16 => ?_)
    · refine ev_aload_n d_M_leaf_133 rfl ?_
      refine ev_get d_M_leaf_134 f_8_34 (mM_obj ok) rfl ?_
      refine ev_iload_n d_M_leaf_137 rfl ?_
      refine ev_iald d_M_leaf_138 (mM_arr ok 11 rfl) ⟨rfl, vp_in_nI (N := 1280) ha (by decide)⟩ rfl ?_
      rw [ea]
      refine ev_bipush (v := 61) d_M_leaf_139 rfl ?_
      refine ev_icmp_ne (t := 159) d_M_leaf_141 (by decide) (fun c_141_17 => ?_) (fun c_141_17 => ?_)
      · refine ev_iload d_M_leaf_159 rfl ?_
        refine ev_iload d_M_leaf_161 rfl ?_
        refine ev_icmp_le (t := 170) d_M_leaf_163 (by decide) (fun c_163_18 => ?_) (fun c_163_18 => ?_)
        · refine ev_iconst (v := 0) d_M_leaf_170 rfl ?_
          refine ev_istore (lo1 := [some (.ref (ad 0)), some (.int (nI l)), some (.int (nI a)), some (.int h), some (.int x_1), some (.int 1), some (.int 1), some (.int x_15), some (.int 0)]) d_M_leaf_171 (Nat.le_of_ble_eq_true rfl) rfl ?_
          refine ev_iload d_M_leaf_173 rfl ?_
          refine ev_if_eq (t := 182) d_M_leaf_175 (by decide) (fun c_175_19 => ?_) (fun c_175_19 => ?_)
          · refine ev_iconst (v := 0) d_M_leaf_182 rfl ?_
            exact xEv.to (ev_iret d_M_leaf_183 rfl) (by rw [hR]; grind)
          · refine ev_iconst (v := 1) d_M_leaf_178 rfl ?_
            refine ev_goto (t := 183) d_M_leaf_179 (by decide) ?_
            exact xEv.to (ev_iret d_M_leaf_183 rfl) (by rw [hR]; grind)
        · refine ev_iconst (v := 1) d_M_leaf_166 rfl ?_
          refine ev_goto (t := 171) d_M_leaf_167 (by decide) ?_
          refine ev_istore (lo1 := [some (.ref (ad 0)), some (.int (nI l)), some (.int (nI a)), some (.int h), some (.int x_1), some (.int 1), some (.int 1), some (.int x_15), some (.int 1)]) d_M_leaf_171 (Nat.le_of_ble_eq_true rfl) rfl ?_
          refine ev_iload d_M_leaf_173 rfl ?_
          refine ev_if_eq (t := 182) d_M_leaf_175 (by decide) (fun c_175_20 => ?_) (fun c_175_20 => ?_)
          · refine ev_iconst (v := 0) d_M_leaf_182 rfl ?_
            exact xEv.to (ev_iret d_M_leaf_183 rfl) (by rw [hR]; grind)
          · refine ev_iconst (v := 1) d_M_leaf_178 rfl ?_
            refine ev_goto (t := 183) d_M_leaf_179 (by decide) ?_
            exact xEv.to (ev_iret d_M_leaf_183 rfl) (by rw [hR]; grind)
      · refine ev_iload d_M_leaf_144 rfl ?_
        refine ev_iload d_M_leaf_146 rfl ?_
        refine ev_icmp_ne (t := 155) d_M_leaf_148 (by decide) (fun c_148_21 => ?_) (fun c_148_21 => ?_)
        · refine ev_iconst (v := 0) d_M_leaf_155 rfl ?_
          refine ev_goto (t := 171) d_M_leaf_156 (by decide) ?_
          refine ev_istore (lo1 := [some (.ref (ad 0)), some (.int (nI l)), some (.int (nI a)), some (.int h), some (.int x_1), some (.int 1), some (.int 1), some (.int x_15), some (.int 0)]) d_M_leaf_171 (Nat.le_of_ble_eq_true rfl) rfl ?_
          refine ev_iload d_M_leaf_173 rfl ?_
          refine ev_if_eq (t := 182) d_M_leaf_175 (by decide) (fun c_175_22 => ?_) (fun c_175_22 => ?_)
          · refine ev_iconst (v := 0) d_M_leaf_182 rfl ?_
            exact xEv.to (ev_iret d_M_leaf_183 rfl) (by rw [hR]; grind)
          · refine ev_iconst (v := 1) d_M_leaf_178 rfl ?_
            refine ev_goto (t := 183) d_M_leaf_179 (by decide) ?_
            exact xEv.to (ev_iret d_M_leaf_183 rfl) (by rw [hR]; grind)
        · refine ev_iconst (v := 1) d_M_leaf_151 rfl ?_
          refine ev_goto (t := 171) d_M_leaf_152 (by decide) ?_
          refine ev_istore (lo1 := [some (.ref (ad 0)), some (.int (nI l)), some (.int (nI a)), some (.int h), some (.int x_1), some (.int 1), some (.int 1), some (.int x_15), some (.int 1)]) d_M_leaf_171 (Nat.le_of_ble_eq_true rfl) rfl ?_
          refine ev_iload d_M_leaf_173 rfl ?_
          refine ev_if_eq (t := 182) d_M_leaf_175 (by decide) (fun c_175_23 => ?_) (fun c_175_23 => ?_)
          · refine ev_iconst (v := 0) d_M_leaf_182 rfl ?_
            exact xEv.to (ev_iret d_M_leaf_183 rfl) (by rw [hR]; grind)
          · refine ev_iconst (v := 1) d_M_leaf_178 rfl ?_
            refine ev_goto (t := 183) d_M_leaf_179 (by decide) ?_
            exact xEv.to (ev_iret d_M_leaf_183 rfl) (by rw [hR]; grind)
    · refine ev_iload d_M_leaf_118 rfl ?_
      refine ev_iload d_M_leaf_120 rfl ?_
      refine ev_icmp_ge (t := 129) d_M_leaf_122 (by decide) (fun c_122_24 => ?_) (fun c_122_24 => ?_)
      · refine ev_iconst (v := 0) d_M_leaf_129 rfl ?_
        refine ev_goto (t := 171) d_M_leaf_130 (by decide) ?_
        refine ev_istore (lo1 := [some (.ref (ad 0)), some (.int (nI l)), some (.int (nI a)), some (.int h), some (.int x_1), some (.int 1), some (.int 1), some (.int x_15), some (.int 0)]) d_M_leaf_171 (Nat.le_of_ble_eq_true rfl) rfl ?_
        refine ev_iload d_M_leaf_173 rfl ?_
        refine ev_if_eq (t := 182) d_M_leaf_175 (by decide) (fun c_175_25 => ?_) (fun c_175_25 => ?_)
        · refine ev_iconst (v := 0) d_M_leaf_182 rfl ?_
          exact xEv.to (ev_iret d_M_leaf_183 rfl) (by rw [hR]; grind)
        · refine ev_iconst (v := 1) d_M_leaf_178 rfl ?_
          refine ev_goto (t := 183) d_M_leaf_179 (by decide) ?_
          exact xEv.to (ev_iret d_M_leaf_183 rfl) (by rw [hR]; grind)
      · refine ev_iconst (v := 1) d_M_leaf_125 rfl ?_
        refine ev_goto (t := 171) d_M_leaf_126 (by decide) ?_
        refine ev_istore (lo1 := [some (.ref (ad 0)), some (.int (nI l)), some (.int (nI a)), some (.int h), some (.int x_1), some (.int 1), some (.int 1), some (.int x_15), some (.int 1)]) d_M_leaf_171 (Nat.le_of_ble_eq_true rfl) rfl ?_
        refine ev_iload d_M_leaf_173 rfl ?_
        refine ev_if_eq (t := 182) d_M_leaf_175 (by decide) (fun c_175_26 => ?_) (fun c_175_26 => ?_)
        · refine ev_iconst (v := 0) d_M_leaf_182 rfl ?_
          exact xEv.to (ev_iret d_M_leaf_183 rfl) (by rw [hR]; grind)
        · refine ev_iconst (v := 1) d_M_leaf_178 rfl ?_
          refine ev_goto (t := 183) d_M_leaf_179 (by decide) ?_
          exact xEv.to (ev_iret d_M_leaf_183 rfl) (by rw [hR]; grind)
set_option maxRecDepth 20000 in
theorem c_M_leaf_n {d : Nat} {B : xMm} {ad : Nat → Nat} {ix : Nat → Option Nat} {iv : Nat → Int32} {av : Nat → Nat → Int32} {ns : Nat × Nat} (ok : mOk ad ix) (l a : Nat) (h : Int32) (hl : l < 20) (ha : a < 1280) (hrows : ∀ q, q < 8 → ∃ rn, rn ≤ 60 ∧ av 18 q = nI rn) (q : Nat) (hq : q < 8) (h1 : av 10 a = nI (97 + q)) : xCl (d + 2) k_M_leaf [.ref (ad 0), .int (nI l), .int (nI a), .int h] (mM B ad ix iv av, ns) (.inl (some (.int (lfS (mE av l h (av 10 a)) (av 11 a) (av 12 a)))), (mM B ad ix iv av, ns)) := by
  have el : (nI l).toNatClampNeg = l := nI_clamp (by omega)
  have ea : (nI a).toNatClampNeg = a := nI_clamp (by omega)
  have n1 : ¬ av 10 a = 121 := by rw [h1]; intro e; have := (nI_eq (a := 97 + q) (b := 121) (by omega) (by decide)).mp e; omega
  have n2 : ¬ av 10 a = 122 := by rw [h1]; intro e; have := (nI_eq (a := 97 + q) (b := 122) (by omega) (by decide)).mp e; omega
  obtain ⟨rn, hrn, hr⟩ := hrows q hq
  have eq : (av 10 a).toNatClampNeg - 97 = q := by rw [h1, nI_clamp (by omega)]; omega
  have hE : mE av l h (av 10 a) = if mValue av q h rn = -1 then none else some (mValue av q h rn) := by rw [mE, if_neg n1, if_neg n2, eq, hr, nI_clamp (by omega)]
  have hR0 : mValue av q h rn = -1 → lfS (mE av l h (av 10 a)) (av 11 a) (av 12 a) = 2 := fun e => by rw [hE, if_pos e]; rfl
  have hR : ¬ mValue av q h rn = -1 → lfS (mE av l h (av 10 a)) (av 11 a) (av 12 a) = if av 11 a = 60 then (if mValue av q h rn < av 12 a then 1 else 0) else if av 11 a = 61 then (if mValue av q h rn = av 12 a then 1 else 0) else (if av 12 a < mValue av q h rn then 1 else 0) := fun e => by rw [hE, if_neg e]; rfl
  show xEv _ k_M_leaf 0 [some (.ref (ad 0)), some (.int (nI l)), some (.int (nI a)), some (.int h), none, none, none, none, none] [] _ _
  refine ev_aload_n d_M_leaf_0 rfl ?_
  refine ev_get d_M_leaf_1 f_8_31 (mM_obj ok) rfl ?_
  refine ev_iload_n d_M_leaf_4 rfl ?_
  refine ev_iald d_M_leaf_5 (mM_arr ok 10 rfl) ⟨rfl, vp_in_nI (N := 1280) ha (by decide)⟩ rfl ?_
  rw [ea]
  refine ev_top (fun x_1 ex_1 => ?_)
  refine ev_istore (lo1 := [some (.ref (ad 0)), some (.int (nI l)), some (.int (nI a)), some (.int h), some (.int x_1), none, none, none, none]) d_M_leaf_6 (Nat.le_of_ble_eq_true rfl) rfl ?_
  refine ev_iload d_M_leaf_8 rfl ?_
  refine ev_bipush (v := 121) d_M_leaf_10 rfl ?_
  refine ev_icmp_eq (t := 22) d_M_leaf_12 (by decide) (fun c_12 => absurd c_12 (by rw [ex_1]; exact n1)) (fun _ => ?_)
  refine ev_iload d_M_leaf_15 rfl ?_
  refine ev_bipush (v := 122) d_M_leaf_17 rfl ?_
  refine ev_icmp_ne (t := 26) d_M_leaf_19 (by decide) (fun _ => ?_) (fun c_19 => absurd c_19 (by rw [ex_1]; exact n2))
  refine ev_iconst (v := 0) d_M_leaf_26 rfl ?_
  refine ev_istore (lo1 := [some (.ref (ad 0)), some (.int (nI l)), some (.int (nI a)), some (.int h), some (.int x_1), some (.int 0), none, none, none]) d_M_leaf_27 (Nat.le_of_ble_eq_true rfl) rfl ?_
  refine ev_iload d_M_leaf_29 rfl ?_
  refine ev_bipush (v := 121) d_M_leaf_31 rfl ?_
  refine ev_icmp_ne (t := 50) d_M_leaf_33 (by decide) (fun _ => ?_) (fun c_33 => absurd c_33 (by rw [ex_1]; exact n1))
  refine ev_iload d_M_leaf_50 rfl ?_
  refine ev_bipush (v := 122) d_M_leaf_52 rfl ?_
  refine ev_icmp_ne (t := 74) d_M_leaf_54 (by decide) (fun _ => ?_) (fun c_54 => absurd c_54 (by rw [ex_1]; exact n2))
  refine ev_aload_n d_M_leaf_74 rfl ?_
  refine ev_iload d_M_leaf_75 rfl ?_
  refine ev_bipush (v := 97) d_M_leaf_77 rfl ?_
  refine ev_isub d_M_leaf_79 ?_
  refine ev_iload_n d_M_leaf_80 rfl ?_
  rw [show x_1 - 97 = nI q from by rw [ex_1, h1, show (97 : Int32) = nI 97 from rfl, pk_sub (by omega)]; simp]
  refine ev_v2r d_M_leaf_81 q_8_187 rfl (mM_obj ok) ⟨rfl, Nat.le_of_ble_eq_true rfl, Nat.le_of_ble_eq_true rfl⟩ (c_M_valueAt ok q h rn hq hrn hr) ?_
  refine ev_top (fun x_2 ex_2 => ?_)
  refine ev_istore (lo1 := [some (.ref (ad 0)), some (.int (nI l)), some (.int (nI a)), some (.int h), some (.int x_1), some (.int 0), some (.int x_2), none, none]) d_M_leaf_84 (Nat.le_of_ble_eq_true rfl) rfl ?_
  refine ev_iload d_M_leaf_86 rfl ?_
  refine ev_if_ne (t := 99) d_M_leaf_88 (by decide) (fun c_88 => absurd rfl c_88) (fun _ => ?_)
  refine ev_iload d_M_leaf_91 rfl ?_
  refine ev_iconst (v := (-1)) d_M_leaf_93 rfl ?_
  refine ev_icmp_ne (t := 99) d_M_leaf_94 (by decide) (fun c_94_3 => ?_) (fun c_94_3 => ?_)
  · refine ev_aload_n d_M_leaf_99 rfl ?_
    refine ev_get d_M_leaf_100 f_8_37 (mM_obj ok) rfl ?_
    refine ev_iload_n d_M_leaf_103 rfl ?_
    refine ev_iald d_M_leaf_104 (mM_arr ok 12 rfl) ⟨rfl, vp_in_nI (N := 1280) ha (by decide)⟩ rfl ?_
    rw [ea]
    refine ev_top (fun x_4 ex_4 => ?_)
    refine ev_istore (lo1 := [some (.ref (ad 0)), some (.int (nI l)), some (.int (nI a)), some (.int h), some (.int x_1), some (.int 0), some (.int x_2), some (.int x_4), none]) d_M_leaf_105 (Nat.le_of_ble_eq_true rfl) rfl ?_
    refine ev_aload_n d_M_leaf_107 rfl ?_
    refine ev_get d_M_leaf_108 f_8_34 (mM_obj ok) rfl ?_
    refine ev_iload_n d_M_leaf_111 rfl ?_
    refine ev_iald d_M_leaf_112 (mM_arr ok 11 rfl) ⟨rfl, vp_in_nI (N := 1280) ha (by decide)⟩ rfl ?_
    rw [ea]
    refine ev_bipush (v := 60) d_M_leaf_113 rfl ?_
    refine ev_icmp_ne (t := 133) d_M_leaf_115 (by decide) (fun c_115_5 => ?_) (fun c_115_5 => ?_)
    · refine ev_aload_n d_M_leaf_133 rfl ?_
      refine ev_get d_M_leaf_134 f_8_34 (mM_obj ok) rfl ?_
      refine ev_iload_n d_M_leaf_137 rfl ?_
      refine ev_iald d_M_leaf_138 (mM_arr ok 11 rfl) ⟨rfl, vp_in_nI (N := 1280) ha (by decide)⟩ rfl ?_
      rw [ea]
      refine ev_bipush (v := 61) d_M_leaf_139 rfl ?_
      refine ev_icmp_ne (t := 159) d_M_leaf_141 (by decide) (fun c_141_6 => ?_) (fun c_141_6 => ?_)
      · refine ev_iload d_M_leaf_159 rfl ?_
        refine ev_iload d_M_leaf_161 rfl ?_
        refine ev_icmp_le (t := 170) d_M_leaf_163 (by decide) (fun c_163_7 => ?_) (fun c_163_7 => ?_)
        · refine ev_iconst (v := 0) d_M_leaf_170 rfl ?_
          refine ev_istore (lo1 := [some (.ref (ad 0)), some (.int (nI l)), some (.int (nI a)), some (.int h), some (.int x_1), some (.int 0), some (.int x_2), some (.int x_4), some (.int 0)]) d_M_leaf_171 (Nat.le_of_ble_eq_true rfl) rfl ?_
          refine ev_iload d_M_leaf_173 rfl ?_
          refine ev_if_eq (t := 182) d_M_leaf_175 (by decide) (fun c_175_8 => ?_) (fun c_175_8 => ?_)
          · refine ev_iconst (v := 0) d_M_leaf_182 rfl ?_
            exact xEv.to (ev_iret d_M_leaf_183 rfl) (by rw [hR (by grind)]; clear hE hR hR0; grind)
          · refine ev_iconst (v := 1) d_M_leaf_178 rfl ?_
            refine ev_goto (t := 183) d_M_leaf_179 (by decide) ?_
            exact xEv.to (ev_iret d_M_leaf_183 rfl) (by rw [hR (by grind)]; clear hE hR hR0; grind)
        · refine ev_iconst (v := 1) d_M_leaf_166 rfl ?_
          refine ev_goto (t := 171) d_M_leaf_167 (by decide) ?_
          refine ev_istore (lo1 := [some (.ref (ad 0)), some (.int (nI l)), some (.int (nI a)), some (.int h), some (.int x_1), some (.int 0), some (.int x_2), some (.int x_4), some (.int 1)]) d_M_leaf_171 (Nat.le_of_ble_eq_true rfl) rfl ?_
          refine ev_iload d_M_leaf_173 rfl ?_
          refine ev_if_eq (t := 182) d_M_leaf_175 (by decide) (fun c_175_9 => ?_) (fun c_175_9 => ?_)
          · refine ev_iconst (v := 0) d_M_leaf_182 rfl ?_
            exact xEv.to (ev_iret d_M_leaf_183 rfl) (by rw [hR (by grind)]; clear hE hR hR0; grind)
          · refine ev_iconst (v := 1) d_M_leaf_178 rfl ?_
            refine ev_goto (t := 183) d_M_leaf_179 (by decide) ?_
            exact xEv.to (ev_iret d_M_leaf_183 rfl) (by rw [hR (by grind)]; clear hE hR hR0; grind)
      · refine ev_iload d_M_leaf_144 rfl ?_
        refine ev_iload d_M_leaf_146 rfl ?_
        refine ev_icmp_ne (t := 155) d_M_leaf_148 (by decide) (fun c_148_10 => ?_) (fun c_148_10 => ?_)
        · refine ev_iconst (v := 0) d_M_leaf_155 rfl ?_
          refine ev_goto (t := 171) d_M_leaf_156 (by decide) ?_
          refine ev_istore (lo1 := [some (.ref (ad 0)), some (.int (nI l)), some (.int (nI a)), some (.int h), some (.int x_1), some (.int 0), some (.int x_2), some (.int x_4), some (.int 0)]) d_M_leaf_171 (Nat.le_of_ble_eq_true rfl) rfl ?_
          refine ev_iload d_M_leaf_173 rfl ?_
          refine ev_if_eq (t := 182) d_M_leaf_175 (by decide) (fun c_175_11 => ?_) (fun c_175_11 => ?_)
          · refine ev_iconst (v := 0) d_M_leaf_182 rfl ?_
            exact xEv.to (ev_iret d_M_leaf_183 rfl) (by rw [hR (by grind)]; clear hE hR hR0; grind)
          · refine ev_iconst (v := 1) d_M_leaf_178 rfl ?_
            refine ev_goto (t := 183) d_M_leaf_179 (by decide) ?_
            exact xEv.to (ev_iret d_M_leaf_183 rfl) (by rw [hR (by grind)]; clear hE hR hR0; grind)
        · refine ev_iconst (v := 1) d_M_leaf_151 rfl ?_
          refine ev_goto (t := 171) d_M_leaf_152 (by decide) ?_
          refine ev_istore (lo1 := [some (.ref (ad 0)), some (.int (nI l)), some (.int (nI a)), some (.int h), some (.int x_1), some (.int 0), some (.int x_2), some (.int x_4), some (.int 1)]) d_M_leaf_171 (Nat.le_of_ble_eq_true rfl) rfl ?_
          refine ev_iload d_M_leaf_173 rfl ?_
          refine ev_if_eq (t := 182) d_M_leaf_175 (by decide) (fun c_175_12 => ?_) (fun c_175_12 => ?_)
          · refine ev_iconst (v := 0) d_M_leaf_182 rfl ?_
            exact xEv.to (ev_iret d_M_leaf_183 rfl) (by rw [hR (by grind)]; clear hE hR hR0; grind)
          · refine ev_iconst (v := 1) d_M_leaf_178 rfl ?_
            refine ev_goto (t := 183) d_M_leaf_179 (by decide) ?_
            exact xEv.to (ev_iret d_M_leaf_183 rfl) (by rw [hR (by grind)]; clear hE hR hR0; grind)
    · refine ev_iload d_M_leaf_118 rfl ?_
      refine ev_iload d_M_leaf_120 rfl ?_
      refine ev_icmp_ge (t := 129) d_M_leaf_122 (by decide) (fun c_122_13 => ?_) (fun c_122_13 => ?_)
      · refine ev_iconst (v := 0) d_M_leaf_129 rfl ?_
        refine ev_goto (t := 171) d_M_leaf_130 (by decide) ?_
        refine ev_istore (lo1 := [some (.ref (ad 0)), some (.int (nI l)), some (.int (nI a)), some (.int h), some (.int x_1), some (.int 0), some (.int x_2), some (.int x_4), some (.int 0)]) d_M_leaf_171 (Nat.le_of_ble_eq_true rfl) rfl ?_
        refine ev_iload d_M_leaf_173 rfl ?_
        refine ev_if_eq (t := 182) d_M_leaf_175 (by decide) (fun c_175_14 => ?_) (fun c_175_14 => ?_)
        · refine ev_iconst (v := 0) d_M_leaf_182 rfl ?_
          exact xEv.to (ev_iret d_M_leaf_183 rfl) (by rw [hR (by grind)]; clear hE hR hR0; grind)
        · refine ev_iconst (v := 1) d_M_leaf_178 rfl ?_
          refine ev_goto (t := 183) d_M_leaf_179 (by decide) ?_
          exact xEv.to (ev_iret d_M_leaf_183 rfl) (by rw [hR (by grind)]; clear hE hR hR0; grind)
      · refine ev_iconst (v := 1) d_M_leaf_125 rfl ?_
        refine ev_goto (t := 171) d_M_leaf_126 (by decide) ?_
        refine ev_istore (lo1 := [some (.ref (ad 0)), some (.int (nI l)), some (.int (nI a)), some (.int h), some (.int x_1), some (.int 0), some (.int x_2), some (.int x_4), some (.int 1)]) d_M_leaf_171 (Nat.le_of_ble_eq_true rfl) rfl ?_
        refine ev_iload d_M_leaf_173 rfl ?_
        refine ev_if_eq (t := 182) d_M_leaf_175 (by decide) (fun c_175_15 => ?_) (fun c_175_15 => ?_)
        · refine ev_iconst (v := 0) d_M_leaf_182 rfl ?_
          exact xEv.to (ev_iret d_M_leaf_183 rfl) (by rw [hR (by grind)]; clear hE hR hR0; grind)
        · refine ev_iconst (v := 1) d_M_leaf_178 rfl ?_
          refine ev_goto (t := 183) d_M_leaf_179 (by decide) ?_
          exact xEv.to (ev_iret d_M_leaf_183 rfl) (by rw [hR (by grind)]; clear hE hR hR0; grind)
  · refine ev_iconst (v := 2) d_M_leaf_97 rfl ?_
    exact xEv.to (ev_iret d_M_leaf_98 rfl) (by rw [hR0 (by grind)])
theorem c_M_leaf {d : Nat} {B : xMm} {ad : Nat → Nat} {ix : Nat → Option Nat} {iv : Nat → Int32} {av : Nat → Nat → Int32} {ns : Nat × Nat} (ok : mOk ad ix) (l a : Nat) (h : Int32) (hl : l < 20) (ha : a < 1280) (hrows : ∀ q, q < 8 → ∃ rn, rn ≤ 60 ∧ av 18 q = nI rn) (hn : mNm (av 10 a)) : xCl (d + 2) k_M_leaf [.ref (ad 0), .int (nI l), .int (nI a), .int h] (mM B ad ix iv av, ns) (.inl (some (.int (lfS (mE av l h (av 10 a)) (av 11 a) (av 12 a)))), (mM B ad ix iv av, ns)) := by
  rcases hn with h1 | h1 | ⟨q, hq, h1⟩
  · exact c_M_leaf_y ok l a h hl ha hrows h1
  · exact c_M_leaf_z ok l a h hl ha hrows h1
  · exact c_M_leaf_n ok l a h hl ha hrows q hq h1
