/-! the reference: ask and the terms that could not be asked -/
def askS (av : Nat → Nat → Int32) (l : Nat) (h : Int32) (t : Nat) (s : Int32) : Nat → Nat → Int32 :=
  if s = 0 then (if av 29 (6 * l + t) = 0 ∧ av 30 l < 100 then va_up (va_up (va_up (va_up av 31 (upd (av 31) (100 * l + (av 30 l).toNatClampNeg) h)) 32 (upd (av 32) (100 * l + (av 30 l).toNatClampNeg) (nI t))) 30 (upd (av 30) l (av 30 l + 1))) 29 (upd (av 29) (6 * l + t) 1) else av)
  else if s = 1 then va_up av 29 (upd (av 29) (6 * l + t) 0) else av
def askL (l : Nat) (h : Int32) (S : Nat → Int32) : Nat → Nat → Int32 → (Nat → Nat → Int32) → Int32 × (Nat → Nat → Int32)
  | 0, _, f, av => (f, av)
  | m + 1, t, f, av => askL l h S m (t + 1) (if S t = 0 ∧ f = 0 then nI t + 1 else f) (askS av l h t (S t))
theorem askS_ne {av : Nat → Nat → Int32} {l : Nat} {h : Int32} {t : Nat} {s : Int32} {k : Nat} (h1 : k ≠ 29) (h2 : k ≠ 30) (h3 : k ≠ 31) (h4 : k ≠ 32) : askS av l h t s k = av k := by
  unfold askS
  split
  · split
    · rw [va_up_ne _ _ h1, va_up_ne _ _ h2, va_up_ne _ _ h4, va_up_ne _ _ h3]
    · rfl
  · split
    · rw [va_up_ne _ _ h1]
    · rfl
theorem askS_30 {av : Nat → Nat → Int32} {l : Nat} {h : Int32} {t : Nat} {s : Int32} (h30 : ∃ n, n ≤ 100 ∧ av 30 l = nI n) : ∃ n, n ≤ 100 ∧ askS av l h t s 30 l = nI n := by
  obtain ⟨n, hn, e⟩ := h30
  unfold askS
  split
  · split
    · rename_i hc
      have h9 : n < 100 := by
        rw [e] at hc
        exact (nI_ltI (a := n) (b := 100) (by omega) (by decide)).mp hc.2
      exact ⟨n + 1, by omega, by simp [va_up, upd, e, nI_succ]⟩
    · exact ⟨n, hn, e⟩
  · split
    · exact ⟨n, hn, by simp [va_up, e]⟩
    · exact ⟨n, hn, e⟩
set_option maxRecDepth 20000 in
theorem l_M_ask {d : Nat} {B : xMm} {ad : Nat → Nat} {ix : Nat → Option Nat} {iv : Nat → Int32} {ns : Nat × Nat} (ok : mOk ad ix) (l c mn : Nat) (h : Int32) (S : Nat → Int32) (hl : l < 20) (hc : c < 8) (hmn : mn ≤ 6)  : ∀ (m t : Nat) (f : Int32) (av : Nat → Nat → Int32) (o6 : Option Value), t + m = mn → av 4 c = nI mn → (∀ t, t < mn → ∃ r, r < 160 ∧ av 5 (6 * c + t) = nI r ∧ av 13 r = S t) → (∃ n, n ≤ 100 ∧ av 30 l = nI n) → xEv (d + 4) k_M_ask 65 [some (.ref (ad 0)), some (.int (nI l)), some (.int h), some (.int (nI c)), some (.int f), some (.int (nI t)), o6] [] (mM B ad ix iv av, ns) (.inl (some (.int (askL l h S m t f av).1)), (mM B ad ix iv (askL l h S m t f av).2, ns)) := by
  have ec : (nI c).toNatClampNeg = c := nI_clamp (by omega)
  have el : (nI l).toNatClampNeg = l := nI_clamp (by omega)
  intro m
  induction m with
  | zero =>
    intro t f av o6 ht h4 hro h30
    refine ev_iload d_M_ask_65 rfl ?_
    refine ev_aload_n d_M_ask_67 rfl ?_
    refine ev_get d_M_ask_68 f_8_13 (mM_obj ok) rfl ?_
    refine ev_iload_n d_M_ask_71 rfl ?_
    refine ev_iald d_M_ask_72 (mM_arr ok 4 rfl) ⟨rfl, vp_in_nI (N := 8) hc (by decide)⟩ rfl ?_
    rw [ec, h4]
    refine ev_icmp_ge (t := 228) d_M_ask_73 (by decide) (fun _ => ?_) (fun c_73 => absurd (nI_le (by omega) (by omega)) c_73)
    refine ev_iload d_M_ask_228 rfl ?_
    exact xEv.to (ev_iret d_M_ask_230 rfl) rfl
  | succ m ih =>
    intro t f av o6 ht h4 hro h30
    obtain ⟨n, hn100, hn⟩ := h30
    obtain ⟨r, hr160, hr, hs⟩ := hro t (by omega)
    refine ev_iload d_M_ask_65 rfl ?_
    refine ev_aload_n d_M_ask_67 rfl ?_
    refine ev_get d_M_ask_68 f_8_13 (mM_obj ok) rfl ?_
    refine ev_iload_n d_M_ask_71 rfl ?_
    refine ev_iald d_M_ask_72 (mM_arr ok 4 rfl) ⟨rfl, vp_in_nI (N := 8) hc (by decide)⟩ rfl ?_
    rw [ec, h4]
    refine ev_icmp_ge (t := 228) d_M_ask_73 (by decide) (fun c_73 => absurd c_73 (nI_ge (by omega) (by omega))) (fun _ => ?_)
    refine ev_aload_n d_M_ask_76 rfl ?_
    refine ev_get d_M_ask_77 f_8_40 (mM_obj ok) rfl ?_
    refine ev_aload_n d_M_ask_80 rfl ?_
    refine ev_get d_M_ask_81 f_8_16 (mM_obj ok) rfl ?_
    refine ev_bipush (v := 6) d_M_ask_84 rfl ?_
    refine ev_iload_n d_M_ask_86 rfl ?_
    refine ev_imul d_M_ask_87 ?_
    refine ev_iload d_M_ask_88 rfl ?_
    refine ev_iadd d_M_ask_90 ?_
    rw [nI6]
    refine ev_iald d_M_ask_91 (mM_arr ok 5 rfl) ⟨rfl, vp_in_nI (N := 48) (by omega) (by decide)⟩ rfl ?_
    rw [nI_clamp (show 6 * c + t < 2 ^ 31 by omega), hr]
    refine ev_iald d_M_ask_92 (mM_arr ok 13 rfl) ⟨rfl, vp_in_nI (N := 160) (by omega) (by decide)⟩ rfl ?_
    rw [nI_clamp (show r < 2 ^ 31 by omega), hs]
    refine ev_top (fun x_1 ex_1 => ?_)
    refine ev_istore (lo1 := [some (.ref (ad 0)), some (.int (nI l)), some (.int h), some (.int (nI c)), some (.int f), some (.int (nI t)), some (.int x_1)]) d_M_ask_93 (Nat.le_of_ble_eq_true rfl) rfl ?_
    refine ev_iload d_M_ask_95 rfl ?_
    refine ev_if_ne (t := 203) d_M_ask_97 (by decide) (fun c_97_2 => ?_) (fun c_97_2 => ?_)
    · refine ev_iload d_M_ask_203 rfl ?_
      refine ev_iconst (v := 1) d_M_ask_205 rfl ?_
      refine ev_icmp_ne (t := 222) d_M_ask_206 (by decide) (fun c_206_3 => ?_) (fun c_206_3 => ?_)
      · obtain ⟨x_4, ex_4⟩ : ∃ z : Int32, z = (nI t) + 1 := ⟨_, rfl⟩
        refine ev_iinc (v := x_4) (lo1 := [some (.ref (ad 0)), some (.int (nI l)), some (.int h), some (.int (nI c)), some (.int f), some (.int x_4), some (.int x_1)]) d_M_ask_222 rfl (by rw [ex_4]; rfl) rfl ?_
        refine ev_goto (t := 65) d_M_ask_225 (by decide) ?_
        rw [show x_4 = nI (t + 1) from by rw [ex_4, nI_succ]]
        have hS : askS av l h t (S t) = av := by rw [askS, if_neg (by grind), if_neg (by grind)]
        have hF : (if S t = 0 ∧ f = 0 then nI t + 1 else f) = f := by grind
        refine xEv.to (ih (t + 1) _ _ _ (by omega) ?_ ?_ ?_) (by rw [askL, hS, hF])
        · rw [← hS, askS_ne (by decide) (by decide) (by decide) (by decide)]
          exact h4
        · intro t1 ht1
          rw [← hS, askS_ne (by decide) (by decide) (by decide) (by decide), askS_ne (by decide) (by decide) (by decide) (by decide)]
          exact hro t1 ht1
        · rw [← hS]
          exact askS_30 ⟨n, hn100, hn⟩
      · refine ev_aload_n d_M_ask_209 rfl ?_
        refine ev_get d_M_ask_210 f_8_80 (mM_obj ok) rfl ?_
        refine ev_bipush (v := 6) d_M_ask_213 rfl ?_
        refine ev_iload_n d_M_ask_215 rfl ?_
        refine ev_imul d_M_ask_216 ?_
        refine ev_iload d_M_ask_217 rfl ?_
        refine ev_iadd d_M_ask_219 ?_
        rw [nI6]
        refine ev_iconst (v := 0) d_M_ask_220 rfl ?_
        refine ev_zast d_M_ask_221 (mM_arr ok 29 rfl) ⟨rfl, vp_in_nI (N := 120) (by omega) (by decide)⟩ (mM_ast ok 29 rfl) ?_
        rw [nI_clamp (show 6 * l + t < 2 ^ 31 by omega), show (0 : Int32) &&& 1 = 0 from rfl]
        obtain ⟨x_5, ex_5⟩ : ∃ z : Int32, z = (nI t) + 1 := ⟨_, rfl⟩
        refine ev_iinc (v := x_5) (lo1 := [some (.ref (ad 0)), some (.int (nI l)), some (.int h), some (.int (nI c)), some (.int f), some (.int x_5), some (.int x_1)]) d_M_ask_222 rfl (by rw [ex_5]; rfl) rfl ?_
        refine ev_goto (t := 65) d_M_ask_225 (by decide) ?_
        rw [show x_5 = nI (t + 1) from by rw [ex_5, nI_succ]]
        have hS : askS av l h t (S t) = va_up av 29 (upd (av 29) (6 * l + t) 0) := by rw [askS, if_neg (by grind), if_pos (by grind)]
        have hF : (if S t = 0 ∧ f = 0 then nI t + 1 else f) = f := by grind
        refine xEv.to (ih (t + 1) _ _ _ (by omega) ?_ ?_ ?_) (by rw [askL, hS, hF])
        · rw [← hS, askS_ne (by decide) (by decide) (by decide) (by decide)]
          exact h4
        · intro t1 ht1
          rw [← hS, askS_ne (by decide) (by decide) (by decide) (by decide), askS_ne (by decide) (by decide) (by decide) (by decide)]
          exact hro t1 ht1
        · rw [← hS]
          exact askS_30 ⟨n, hn100, hn⟩
    · refine ev_cutv (E := 114) (V := if f = 0 then nI t + 1 else f) ?_ (fun hk_6 => ?_)
      · refine ev_top (fun x_7 ex_7 => ?_)
        refine ev_istore (lo1 := [some (.ref (ad 0)), some (.int (nI l)), some (.int h), some (.int (nI c)), some (.int x_7), some (.int (nI t)), some (.int x_1)]) d_M_ask_114 (Nat.le_of_ble_eq_true rfl) rfl ?_
        refine ev_aload_n d_M_ask_116 rfl ?_
        refine ev_get d_M_ask_117 f_8_80 (mM_obj ok) rfl ?_
        refine ev_bipush (v := 6) d_M_ask_120 rfl ?_
        refine ev_iload_n d_M_ask_122 rfl ?_
        refine ev_imul d_M_ask_123 ?_
        refine ev_iload d_M_ask_124 rfl ?_
        refine ev_iadd d_M_ask_126 ?_
        rw [nI6]
        refine ev_zald d_M_ask_127 (mM_arr ok 29 rfl) ⟨rfl, vp_in_nI (N := 120) (by omega) (by decide)⟩ rfl ?_
        rw [nI_clamp (show 6 * l + t < 2 ^ 31 by omega)]
        refine ev_if_ne (t := 222) d_M_ask_128 (by decide) (fun c_128_8 => ?_) (fun c_128_8 => ?_)
        · obtain ⟨x_9, ex_9⟩ : ∃ z : Int32, z = (nI t) + 1 := ⟨_, rfl⟩
          refine ev_iinc (v := x_9) (lo1 := [some (.ref (ad 0)), some (.int (nI l)), some (.int h), some (.int (nI c)), some (.int x_7), some (.int x_9), some (.int x_1)]) d_M_ask_222 rfl (by rw [ex_9]; rfl) rfl ?_
          refine ev_goto (t := 65) d_M_ask_225 (by decide) ?_
          rw [show x_9 = nI (t + 1) from by rw [ex_9, nI_succ]]
          have hS : askS av l h t (S t) = av := by rw [askS, if_pos (by grind), if_neg (by rintro ⟨g1, g2⟩; grind)]
          have hF : (if S t = 0 ∧ f = 0 then nI t + 1 else f) = x_7 := by rw [ex_7]; grind
          refine xEv.to (ih (t + 1) _ _ _ (by omega) ?_ ?_ ?_) (by rw [askL, hS, hF])
          · rw [← hS, askS_ne (by decide) (by decide) (by decide) (by decide)]
            exact h4
          · intro t1 ht1
            rw [← hS, askS_ne (by decide) (by decide) (by decide) (by decide), askS_ne (by decide) (by decide) (by decide) (by decide)]
            exact hro t1 ht1
          · rw [← hS]
            exact askS_30 ⟨n, hn100, hn⟩
        · refine ev_aload_n d_M_ask_131 rfl ?_
          refine ev_get d_M_ask_132 f_8_83 (mM_obj ok) rfl ?_
          refine ev_iload_n d_M_ask_135 rfl ?_
          refine ev_iald d_M_ask_136 (mM_arr ok 30 rfl) ⟨rfl, vp_in_nI (N := 20) hl (by decide)⟩ rfl ?_
          rw [el, hn]
          refine ev_bipush (v := 100) d_M_ask_137 rfl ?_
          refine ev_icmp_ge (t := 222) d_M_ask_139 (by decide) (fun c_139_10 => ?_) (fun c_139_10 => ?_)
          · obtain ⟨x_11, ex_11⟩ : ∃ z : Int32, z = (nI t) + 1 := ⟨_, rfl⟩
            refine ev_iinc (v := x_11) (lo1 := [some (.ref (ad 0)), some (.int (nI l)), some (.int h), some (.int (nI c)), some (.int x_7), some (.int x_11), some (.int x_1)]) d_M_ask_222 rfl (by rw [ex_11]; rfl) rfl ?_
            refine ev_goto (t := 65) d_M_ask_225 (by decide) ?_
            rw [show x_11 = nI (t + 1) from by rw [ex_11, nI_succ]]
            have hS : askS av l h t (S t) = av := by rw [askS, if_pos (by grind), if_neg (by rintro ⟨g1, g2⟩; grind)]
            have hF : (if S t = 0 ∧ f = 0 then nI t + 1 else f) = x_7 := by rw [ex_7]; grind
            refine xEv.to (ih (t + 1) _ _ _ (by omega) ?_ ?_ ?_) (by rw [askL, hS, hF])
            · rw [← hS, askS_ne (by decide) (by decide) (by decide) (by decide)]
              exact h4
            · intro t1 ht1
              rw [← hS, askS_ne (by decide) (by decide) (by decide) (by decide), askS_ne (by decide) (by decide) (by decide) (by decide)]
              exact hro t1 ht1
            · rw [← hS]
              exact askS_30 ⟨n, hn100, hn⟩
          · refine ev_aload_n d_M_ask_142 rfl ?_
            have h9 : n < 100 := by rcases Nat.lt_or_ge n 100 with g | g; exact g; exact absurd (nI_le (a := 100) g (by omega)) (by assumption)
            refine ev_get d_M_ask_143 f_8_86 (mM_obj ok) rfl ?_
            refine ev_bipush (v := 100) d_M_ask_146 rfl ?_
            refine ev_iload_n d_M_ask_148 rfl ?_
            refine ev_imul d_M_ask_149 ?_
            refine ev_aload_n d_M_ask_150 rfl ?_
            refine ev_get d_M_ask_151 f_8_83 (mM_obj ok) rfl ?_
            refine ev_iload_n d_M_ask_154 rfl ?_
            refine ev_iald d_M_ask_155 (mM_arr ok 30 rfl) ⟨rfl, vp_in_nI (N := 20) hl (by decide)⟩ rfl ?_
            rw [el, hn]
            refine ev_iadd d_M_ask_156 ?_
            rw [nI100]
            refine ev_iload_n d_M_ask_157 rfl ?_
            refine ev_iast d_M_ask_158 (mM_arr ok 31 rfl) ⟨rfl, vp_in_nI (N := 2000) (by omega) (by decide)⟩ (mM_ast ok 31 rfl) ?_
            rw [nI_clamp (show 100 * l + n < 2 ^ 31 by omega)]
            refine ev_aload_n d_M_ask_159 rfl ?_
            refine ev_get d_M_ask_160 f_8_89 (mM_obj ok) rfl ?_
            refine ev_bipush (v := 100) d_M_ask_163 rfl ?_
            refine ev_iload_n d_M_ask_165 rfl ?_
            refine ev_imul d_M_ask_166 ?_
            refine ev_aload_n d_M_ask_167 rfl ?_
            refine ev_get d_M_ask_168 f_8_83 (mM_obj ok) rfl ?_
            refine ev_iload_n d_M_ask_171 rfl ?_
            refine ev_iald d_M_ask_172 (mM_arr ok 30 rfl) ⟨rfl, vp_in_nI (N := 20) hl (by decide)⟩ rfl ?_
            rw [va_up_ne (k := 31) (j := 30) _ _ (by decide), el, hn]
            refine ev_iadd d_M_ask_173 ?_
            rw [nI100]
            refine ev_iload d_M_ask_174 rfl ?_
            refine ev_iast d_M_ask_176 (mM_arr ok 32 rfl) ⟨rfl, vp_in_nI (N := 2000) (by omega) (by decide)⟩ (mM_ast ok 32 rfl) ?_
            rw [nI_clamp (show 100 * l + n < 2 ^ 31 by omega), va_up_ne (k := 31) (j := 32) _ _ (by decide)]
            refine ev_aload_n d_M_ask_177 rfl ?_
            refine ev_get d_M_ask_178 f_8_83 (mM_obj ok) rfl ?_
            refine ev_iload_n d_M_ask_181 rfl ?_
            refine ev_dup2 d_M_ask_182 ⟨rfl, rfl⟩ ?_
            refine ev_iald d_M_ask_183 (mM_arr ok 30 rfl) ⟨rfl, vp_in_nI (N := 20) hl (by decide)⟩ rfl ?_
            rw [va_up_ne (k := 32) (j := 30) _ _ (by decide), va_up_ne (k := 31) (j := 30) _ _ (by decide), el, hn]
            refine ev_iconst (v := 1) d_M_ask_184 rfl ?_
            refine ev_iadd d_M_ask_185 ?_
            refine ev_iast d_M_ask_186 (mM_arr ok 30 rfl) ⟨rfl, vp_in_nI (N := 20) hl (by decide)⟩ (mM_ast ok 30 rfl) ?_
            rw [va_up_ne (k := 32) (j := 30) _ _ (by decide), va_up_ne (k := 31) (j := 30) _ _ (by decide), el]
            refine ev_aload_n d_M_ask_187 rfl ?_
            refine ev_get d_M_ask_188 f_8_80 (mM_obj ok) rfl ?_
            refine ev_bipush (v := 6) d_M_ask_191 rfl ?_
            refine ev_iload_n d_M_ask_193 rfl ?_
            refine ev_imul d_M_ask_194 ?_
            refine ev_iload d_M_ask_195 rfl ?_
            refine ev_iadd d_M_ask_197 ?_
            rw [nI6]
            refine ev_iconst (v := 1) d_M_ask_198 rfl ?_
            refine ev_zast d_M_ask_199 (mM_arr ok 29 rfl) ⟨rfl, vp_in_nI (N := 120) (by omega) (by decide)⟩ (mM_ast ok 29 rfl) ?_
            rw [nI_clamp (show 6 * l + t < 2 ^ 31 by omega), va_up_ne (k := 30) (j := 29) _ _ (by decide), va_up_ne (k := 32) (j := 29) _ _ (by decide), va_up_ne (k := 31) (j := 29) _ _ (by decide), show (1 : Int32) &&& 1 = 1 from rfl]
            refine ev_goto (t := 222) d_M_ask_200 (by decide) ?_
            obtain ⟨x_12, ex_12⟩ : ∃ z : Int32, z = (nI t) + 1 := ⟨_, rfl⟩
            refine ev_iinc (v := x_12) (lo1 := [some (.ref (ad 0)), some (.int (nI l)), some (.int h), some (.int (nI c)), some (.int x_7), some (.int x_12), some (.int x_1)]) d_M_ask_222 rfl (by rw [ex_12]; rfl) rfl ?_
            refine ev_goto (t := 65) d_M_ask_225 (by decide) ?_
            rw [show x_12 = nI (t + 1) from by rw [ex_12, nI_succ]]
            have hS : askS av l h t (S t) = va_up (va_up (va_up (va_up av 31 (upd (av 31) (100 * l + n) h)) 32 (upd (av 32) (100 * l + n) (nI t))) 30 (upd (av 30) l (nI n + 1))) 29 (upd (av 29) (6 * l + t) 1) := by rw [askS, if_pos (by grind), if_pos ⟨by assumption, by rw [hn]; grind⟩, hn, nI_clamp (show n < 2 ^ 31 by omega)]
            have hF : (if S t = 0 ∧ f = 0 then nI t + 1 else f) = x_7 := by rw [ex_7]; grind
            refine xEv.to (ih (t + 1) _ _ _ (by omega) ?_ ?_ ?_) (by rw [askL, hS, hF])
            · rw [← hS, askS_ne (by decide) (by decide) (by decide) (by decide)]
              exact h4
            · intro t1 ht1
              rw [← hS, askS_ne (by decide) (by decide) (by decide) (by decide), askS_ne (by decide) (by decide) (by decide) (by decide)]
              exact hro t1 ht1
            · rw [← hS]
              exact askS_30 ⟨n, hn100, hn⟩
      · refine ev_iload d_M_ask_100 rfl ?_
        refine ev_if_ne (t := 112) d_M_ask_102 (by decide) (fun c_102_13 => ?_) (fun c_102_13 => ?_)
        · refine ev_iload d_M_ask_112 rfl ?_
          exact hk_6 _ (by grind)
        · refine ev_iload d_M_ask_105 rfl ?_
          refine ev_iconst (v := 1) d_M_ask_107 rfl ?_
          refine ev_iadd d_M_ask_108 ?_
          refine ev_goto (t := 114) d_M_ask_109 (by decide) ?_
          exact hk_6 _ (by grind)
