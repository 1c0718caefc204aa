theorem xfit_v {c k : Nat} {v : Value} {T : FieldType} (h : xft c k = T) (hn : narrow T v = v) (hf : fits T v = true) : xfitb c k v = true := by
  unfold xfitb
  rw [h, hf, Bool.and_true]
  exact decide_eq_true hn
/-! the reference: a new one. Its arrays come one behind the other, from n on. -/
def mks : List Nat := [2, 4, 5, 6, 7, 8, 9, 10, 11, 12, 13, 14, 16, 18, 19, 20, 21, 22, 24, 25, 26, 27, 28, 29, 30, 31, 32, 34, 35, 36]
def mix (a n q : Nat) : Option Nat := if q = a then some 0 else if n ≤ q then mks[q - n]? else none
def mpos (k : Nat) : Nat := (mks.idxOf? k).getD 0
def mad (a n k : Nat) : Nat := if k = 0 then a else n + mpos k
def mFp (n j : Nat) : List Value := (List.range 37).map fun k => if k ∈ [0, 1, 3, 15, 17, 23, 33] then .int 0 else if mpos k < j then .ref (n + mpos k) else .null
def mMp (B : xMm) (a n j : Nat) : xMm := fun q => if q = a then some (.inr (8, mFp n j)) else if n ≤ q ∧ q < n + j then (mks[q - n]?).map (fun k => .inl (mty k, mlen k, .inl fun _ => 0)) else B q
theorem mMp_obj (B : xMm) (a n j : Nat) : mMp B a n j a = some (.inr (8, mFp n j)) := if_pos rfl
theorem mMp_step (B : xMm) {a n : Nat} (j : Nat) {k t z : Nat} {F : List Value} (ha : a < n) (hk : mks[j]? = some k) (ht : mty k = t) (hz : mlen k = z) (hF : (mFp n j).set k (.ref (n + j)) = F) (hF2 : F = mFp n (j + 1)) : xset (xset (mMp B a n j) (n + j) (.inl (t, z, .inl fun _ => 0))) a (.inr (8, F)) = mMp B a n (j + 1) := by
  funext q
  by_cases h1 : q = a
  · subst h1
    rw [xset_self, mMp_obj, hF2]
  · rw [xset_ne _ _ h1]
    by_cases h2 : q = n + j
    · subst h2
      rw [xset_self]
      unfold mMp
      rw [if_neg h1, if_pos (by omega), show n + j - n = j by omega, hk]
      simp [ht, hz]
    · rw [xset_ne _ _ h2]
      unfold mMp
      rw [if_neg h1, if_neg h1]
      by_cases h3 : n ≤ q ∧ q < n + j
      · rw [if_pos h3, if_pos (by omega)]
      · rw [if_neg h3, if_neg (by omega)]
theorem mad_ok {a n : Nat} (ha : a < n) : mOk (mad a n) (mix a n) := by
  have h1 : ∀ k, k < 37 → mar k = true → ¬ k = 0 ∧ mks[mpos k]? = some k := by decide
  have h2 : ∀ k, mar k = true → k < 37 := by
    intro k hk
    rcases Nat.lt_or_ge k 37 with g | g
    · exact g
    · exfalso
      unfold mar mlen at hk
      split at hk <;> first | omega | exact absurd hk (by decide)
  have h3 : ∀ i, i < 30 → ∀ k, mks[i]? = some k → mpos k = i ∧ mar k = true ∧ ¬ k = 0 := by
    intro i hi k hk
    have : ∀ i, i < 30 → mpos (mks[i]?.getD 0) = i ∧ mar (mks[i]?.getD 0) = true ∧ ¬ mks[i]?.getD 0 = 0 := by decide
    have h := this i hi
    rw [hk] at h
    exact h
  refine ⟨?_, fun k hk => ?_, fun q k hq => ?_⟩
  · simp [mix, mad]
  · obtain ⟨g1, g2⟩ := h1 k (h2 k hk) hk
    unfold mix mad
    rw [if_neg g1, if_neg (by omega), if_pos (by omega), show n + mpos k - n = mpos k by omega]
    exact g2
  · unfold mix at hq
    split at hq
    · rename_i e
      cases hq
      exact ⟨by simp [mad, e], Or.inl rfl⟩
    · split at hq
      · rename_i e1 e2
        have hlt := (List.getElem?_eq_some_iff.mp hq).1
        obtain ⟨g1, g2, g3⟩ := h3 (q - n) hlt k hq
        refine ⟨?_, Or.inr g2⟩
        unfold mad
        rw [if_neg g3, g1]
        omega
      · cases hq
theorem mMp_end (B : xMm) {a n : Nat} (ha : a < n) : mMp B a n 30 = mM B (mad a n) (mix a n) (fun _ => 0) (fun _ _ => 0) := by
  funext q
  unfold mMp mM mix
  by_cases h1 : q = a
  · rw [if_pos h1, if_pos h1]
    rfl
  · rw [if_neg h1, if_neg h1]
    by_cases h2 : n ≤ q
    · rw [if_pos h2]
      by_cases h3 : q < n + 30
      · rw [if_pos ⟨h2, h3⟩]
        have hlt : q - n < mks.length := by show q - n < 30; omega
        rw [List.getElem?_eq_getElem hlt]
        have : ∀ i (h : i < mks.length), ¬ mks[i] = 0 := by decide
        simp [this (q - n) hlt]
      · rw [if_neg (by omega), List.getElem?_eq_none (show mks.length ≤ q - n by show 30 ≤ q - n; omega)]
    · rw [if_neg h2, if_neg (by omega)]
set_option maxRecDepth 20000 in
theorem l_M_init {d : Nat} {B : xMm} {ad : Nat → Nat} {ix : Nat → Option Nat} {iv : Nat → Int32} {ns : Nat × Nat} (ok : mOk ad ix)  : ∀ (m i : Nat) (av : Nat → Nat → Int32), i + m = 8 → (∀ k, av k = if k = 22 then (fun q => if q < i then -1 else 0) else fun _ => 0) → xEv d k_M_init 259 [some (.ref (ad 0)), some (.int (nI i))] [] (mM B ad ix iv av, ns) (.inl none, (mM B ad ix iv (fun k => if k = 22 then (fun i => if i < 8 then -1 else 0) else fun _ => 0), ns)) := by
  intro m
  induction m with
  | zero =>
    intro i av hi hav
    refine ev_iload_n d_M_init_259 rfl ?_
    refine ev_bipush (v := 8) d_M_init_260 rfl ?_
    refine ev_icmp_ge (t := 278) d_M_init_262 (by decide) (fun _ => ?_) (fun c_262 => absurd (nI_le (a := 8) (by omega) (by omega)) c_262)
    exact xEv.to (ev_ret d_M_init_278 rfl) (by rw [show av = (fun k => if k = 22 then (fun i => if i < 8 then -1 else 0) else fun _ => 0) from funext fun k => by rw [hav k, show i = 8 by omega]])
  | succ m ih =>
    intro i av hi hav
    refine ev_iload_n d_M_init_259 rfl ?_
    refine ev_bipush (v := 8) d_M_init_260 rfl ?_
    refine ev_icmp_ge (t := 278) d_M_init_262 (by decide) (fun c_262 => absurd c_262 (nI_ge (b := 8) (by omega) (by decide))) (fun _ => ?_)
    refine ev_aload_n d_M_init_265 rfl ?_
    refine ev_get d_M_init_266 f_8_61 (mM_obj ok) rfl ?_
    refine ev_iload_n d_M_init_269 rfl ?_
    refine ev_iconst (v := (-1)) d_M_init_270 rfl ?_
    refine ev_iast d_M_init_271 (mM_arr ok 22 rfl) ⟨rfl, vp_in_nI (N := 8) (by omega) (by decide)⟩ (mM_ast ok 22 rfl) ?_
    rw [nI_clamp (show i < 2 ^ 31 by omega)]
    obtain ⟨x_1, ex_1⟩ : ∃ z : Int32, z = (nI i) + 1 := ⟨_, rfl⟩
    refine ev_iinc (v := x_1) (lo1 := [some (.ref (ad 0)), some (.int x_1)]) d_M_init_272 rfl (by rw [ex_1]; rfl) rfl ?_
    refine ev_goto (t := 259) d_M_init_275 (by decide) ?_
    rw [show x_1 = nI (i + 1) from by rw [ex_1, nI_succ]]
    refine ih (i + 1) _ (by omega) (fun k => ?_)
    by_cases h22 : k = 22
    · subst h22
      rw [va_up_self, hav 22, if_pos rfl, if_pos rfl]
      funext q
      simp [upd]
      grind
    · rw [va_up_ne _ _ h22, hav k, if_neg h22, if_neg h22]
set_option maxRecDepth 20000 in
theorem l_M_init0 {d : Nat} {B : xMm} {ad : Nat → Nat} {ix : Nat → Option Nat} {iv : Nat → Int32} {ns : Nat × Nat} (ok : mOk ad ix)  : xEv d k_M_init 257 [some (.ref (ad 0)), none] [] (mM B ad ix iv (fun _ _ => 0), ns) (.inl none, (mM B ad ix iv (fun k => if k = 22 then (fun i => if i < 8 then -1 else 0) else fun _ => 0), ns)) := by
  refine ev_iconst (v := 0) d_M_init_257 rfl ?_
  refine ev_istore_n (lo1 := [some (.ref (ad 0)), some (.int 0)]) d_M_init_258 (Nat.le_of_ble_eq_true rfl) rfl ?_
  exact l_M_init ok 8 0 _ (by omega) (fun k => by split <;> simp)
set_option maxRecDepth 20000 in
theorem c_M_init {d : Nat} (B : xMm) {a n sl : Nat} (ha : a < n) : xCl d k_M_init [.ref a] (xset B a (.inr (8, xdf 8)), n, sl) (.inl none, (mM B (mad a n) (mix a n) (fun _ => 0) (fun k => if k = 22 then (fun i => if i < 8 then -1 else 0) else fun _ => 0), n + 30, sl + 14098)) := by
  have e0 : xset B a (.inr (8, xdf 8)) = mMp B a n 0 := by
    funext q
    unfold xset mMp
    by_cases h1 : q = a
    · rw [if_pos h1, if_pos h1]
      rfl
    · rw [if_neg h1, if_neg h1, if_neg (by omega)]
  show xEv _ k_M_init 0 [some (.ref a), none] [] _ _
  refine ev_aload_n d_M_init_0 rfl ?_
  refine ev_obj d_M_init_1 q_8_1 (Nat.le_of_ble_eq_true rfl) ?_
  rw [e0]
  refine ev_aload_n d_M_init_4 rfl ?_
  refine ev_bipush (v := 80) d_M_init_5 rfl ?_
  refine ev_newI (z := 80) (S1 := (xset (mMp B a n 0) (n + 0) (.inl (0, 80, .inl fun _ => 0)), n + 1, sl + 80)) d_M_init_7 (by decide) (by decide) rfl ?_
  refine ev_put (M1 := mMp B a n 1) d_M_init_9 f_8_7 ((xset_ne _ _ (by omega)).trans (mMp_obj B a n 0)) ⟨Nat.le_of_ble_eq_true rfl, xfit_v rfl rfl rfl, Or.inr ⟨rfl, rfl⟩⟩ (mMp_step B 0 ha rfl rfl rfl rfl rfl) ?_
  refine ev_aload_n d_M_init_12 rfl ?_
  refine ev_bipush (v := 8) d_M_init_13 rfl ?_
  refine ev_newI (z := 8) (S1 := (xset (mMp B a n 1) (n + 1) (.inl (0, 8, .inl fun _ => 0)), n + 2, sl + 88)) d_M_init_15 (by decide) (by decide) rfl ?_
  refine ev_put (M1 := mMp B a n 2) d_M_init_17 f_8_13 ((xset_ne _ _ (by omega)).trans (mMp_obj B a n 1)) ⟨Nat.le_of_ble_eq_true rfl, xfit_v rfl rfl rfl, Or.inr ⟨rfl, rfl⟩⟩ (mMp_step B 1 ha rfl rfl rfl rfl rfl) ?_
  refine ev_aload_n d_M_init_20 rfl ?_
  refine ev_bipush (v := 48) d_M_init_21 rfl ?_
  refine ev_newI (z := 48) (S1 := (xset (mMp B a n 2) (n + 2) (.inl (0, 48, .inl fun _ => 0)), n + 3, sl + 136)) d_M_init_23 (by decide) (by decide) rfl ?_
  refine ev_put (M1 := mMp B a n 3) d_M_init_25 f_8_16 ((xset_ne _ _ (by omega)).trans (mMp_obj B a n 2)) ⟨Nat.le_of_ble_eq_true rfl, xfit_v rfl rfl rfl, Or.inr ⟨rfl, rfl⟩⟩ (mMp_step B 2 ha rfl rfl rfl rfl rfl) ?_
  refine ev_aload_n d_M_init_28 rfl ?_
  refine ev_bipush (v := 8) d_M_init_29 rfl ?_
  refine ev_newI (z := 8) (S1 := (xset (mMp B a n 3) (n + 3) (.inl (0, 8, .inl fun _ => 0)), n + 4, sl + 144)) d_M_init_31 (by decide) (by decide) rfl ?_
  refine ev_put (M1 := mMp B a n 4) d_M_init_33 f_8_19 ((xset_ne _ _ (by omega)).trans (mMp_obj B a n 3)) ⟨Nat.le_of_ble_eq_true rfl, xfit_v rfl rfl rfl, Or.inr ⟨rfl, rfl⟩⟩ (mMp_step B 3 ha rfl rfl rfl rfl rfl) ?_
  refine ev_aload_n d_M_init_36 rfl ?_
  refine ev_sipush (v := 1280) d_M_init_37 rfl ?_
  refine ev_newI (z := 1280) (S1 := (xset (mMp B a n 4) (n + 4) (.inl (0, 1280, .inl fun _ => 0)), n + 5, sl + 1424)) d_M_init_40 (by decide) (by decide) rfl ?_
  refine ev_put (M1 := mMp B a n 5) d_M_init_42 f_8_22 ((xset_ne _ _ (by omega)).trans (mMp_obj B a n 4)) ⟨Nat.le_of_ble_eq_true rfl, xfit_v rfl rfl rfl, Or.inr ⟨rfl, rfl⟩⟩ (mMp_step B 4 ha rfl rfl rfl rfl rfl) ?_
  refine ev_aload_n d_M_init_45 rfl ?_
  refine ev_sipush (v := 1280) d_M_init_46 rfl ?_
  refine ev_newI (z := 1280) (S1 := (xset (mMp B a n 5) (n + 5) (.inl (0, 1280, .inl fun _ => 0)), n + 6, sl + 2704)) d_M_init_49 (by decide) (by decide) rfl ?_
  refine ev_put (M1 := mMp B a n 6) d_M_init_51 f_8_25 ((xset_ne _ _ (by omega)).trans (mMp_obj B a n 5)) ⟨Nat.le_of_ble_eq_true rfl, xfit_v rfl rfl rfl, Or.inr ⟨rfl, rfl⟩⟩ (mMp_step B 5 ha rfl rfl rfl rfl rfl) ?_
  refine ev_aload_n d_M_init_54 rfl ?_
  refine ev_sipush (v := 1280) d_M_init_55 rfl ?_
  refine ev_newI (z := 1280) (S1 := (xset (mMp B a n 6) (n + 6) (.inl (0, 1280, .inl fun _ => 0)), n + 7, sl + 3984)) d_M_init_58 (by decide) (by decide) rfl ?_
  refine ev_put (M1 := mMp B a n 7) d_M_init_60 f_8_28 ((xset_ne _ _ (by omega)).trans (mMp_obj B a n 6)) ⟨Nat.le_of_ble_eq_true rfl, xfit_v rfl rfl rfl, Or.inr ⟨rfl, rfl⟩⟩ (mMp_step B 6 ha rfl rfl rfl rfl rfl) ?_
  refine ev_aload_n d_M_init_63 rfl ?_
  refine ev_sipush (v := 1280) d_M_init_64 rfl ?_
  refine ev_newI (z := 1280) (S1 := (xset (mMp B a n 7) (n + 7) (.inl (0, 1280, .inl fun _ => 0)), n + 8, sl + 5264)) d_M_init_67 (by decide) (by decide) rfl ?_
  refine ev_put (M1 := mMp B a n 8) d_M_init_69 f_8_31 ((xset_ne _ _ (by omega)).trans (mMp_obj B a n 7)) ⟨Nat.le_of_ble_eq_true rfl, xfit_v rfl rfl rfl, Or.inr ⟨rfl, rfl⟩⟩ (mMp_step B 7 ha rfl rfl rfl rfl rfl) ?_
  refine ev_aload_n d_M_init_72 rfl ?_
  refine ev_sipush (v := 1280) d_M_init_73 rfl ?_
  refine ev_newI (z := 1280) (S1 := (xset (mMp B a n 8) (n + 8) (.inl (0, 1280, .inl fun _ => 0)), n + 9, sl + 6544)) d_M_init_76 (by decide) (by decide) rfl ?_
  refine ev_put (M1 := mMp B a n 9) d_M_init_78 f_8_34 ((xset_ne _ _ (by omega)).trans (mMp_obj B a n 8)) ⟨Nat.le_of_ble_eq_true rfl, xfit_v rfl rfl rfl, Or.inr ⟨rfl, rfl⟩⟩ (mMp_step B 8 ha rfl rfl rfl rfl rfl) ?_
  refine ev_aload_n d_M_init_81 rfl ?_
  refine ev_sipush (v := 1280) d_M_init_82 rfl ?_
  refine ev_newI (z := 1280) (S1 := (xset (mMp B a n 9) (n + 9) (.inl (0, 1280, .inl fun _ => 0)), n + 10, sl + 7824)) d_M_init_85 (by decide) (by decide) rfl ?_
  refine ev_put (M1 := mMp B a n 10) d_M_init_87 f_8_37 ((xset_ne _ _ (by omega)).trans (mMp_obj B a n 9)) ⟨Nat.le_of_ble_eq_true rfl, xfit_v rfl rfl rfl, Or.inr ⟨rfl, rfl⟩⟩ (mMp_step B 9 ha rfl rfl rfl rfl rfl) ?_
  refine ev_aload_n d_M_init_90 rfl ?_
  refine ev_sipush (v := 160) d_M_init_91 rfl ?_
  refine ev_newI (z := 160) (S1 := (xset (mMp B a n 10) (n + 10) (.inl (0, 160, .inl fun _ => 0)), n + 11, sl + 7984)) d_M_init_94 (by decide) (by decide) rfl ?_
  refine ev_put (M1 := mMp B a n 11) d_M_init_96 f_8_40 ((xset_ne _ _ (by omega)).trans (mMp_obj B a n 10)) ⟨Nat.le_of_ble_eq_true rfl, xfit_v rfl rfl rfl, Or.inr ⟨rfl, rfl⟩⟩ (mMp_step B 10 ha rfl rfl rfl rfl rfl) ?_
  refine ev_aload_n d_M_init_99 rfl ?_
  refine ev_sipush (v := 400) d_M_init_100 rfl ?_
  refine ev_newI (z := 400) (S1 := (xset (mMp B a n 11) (n + 11) (.inl (0, 400, .inl fun _ => 0)), n + 12, sl + 8384)) d_M_init_103 (by decide) (by decide) rfl ?_
  refine ev_put (M1 := mMp B a n 12) d_M_init_105 f_8_43 ((xset_ne _ _ (by omega)).trans (mMp_obj B a n 11)) ⟨Nat.le_of_ble_eq_true rfl, xfit_v rfl rfl rfl, Or.inr ⟨rfl, rfl⟩⟩ (mMp_step B 11 ha rfl rfl rfl rfl rfl) ?_
  refine ev_aload_n d_M_init_108 rfl ?_
  refine ev_sipush (v := 400) d_M_init_109 rfl ?_
  refine ev_newI (z := 400) (S1 := (xset (mMp B a n 12) (n + 12) (.inl (0, 400, .inl fun _ => 0)), n + 13, sl + 8784)) d_M_init_112 (by decide) (by decide) rfl ?_
  refine ev_put (M1 := mMp B a n 13) d_M_init_114 f_8_46 ((xset_ne _ _ (by omega)).trans (mMp_obj B a n 12)) ⟨Nat.le_of_ble_eq_true rfl, xfit_v rfl rfl rfl, Or.inr ⟨rfl, rfl⟩⟩ (mMp_step B 12 ha rfl rfl rfl rfl rfl) ?_
  refine ev_aload_n d_M_init_117 rfl ?_
  refine ev_bipush (v := 8) d_M_init_118 rfl ?_
  refine ev_newI (z := 8) (S1 := (xset (mMp B a n 13) (n + 13) (.inl (0, 8, .inl fun _ => 0)), n + 14, sl + 8792)) d_M_init_120 (by decide) (by decide) rfl ?_
  refine ev_put (M1 := mMp B a n 14) d_M_init_122 f_8_49 ((xset_ne _ _ (by omega)).trans (mMp_obj B a n 13)) ⟨Nat.le_of_ble_eq_true rfl, xfit_v rfl rfl rfl, Or.inr ⟨rfl, rfl⟩⟩ (mMp_step B 13 ha rfl rfl rfl rfl rfl) ?_
  refine ev_aload_n d_M_init_125 rfl ?_
  refine ev_sipush (v := 480) d_M_init_126 rfl ?_
  refine ev_newI (z := 480) (S1 := (xset (mMp B a n 14) (n + 14) (.inl (0, 480, .inl fun _ => 0)), n + 15, sl + 9272)) d_M_init_129 (by decide) (by decide) rfl ?_
  refine ev_put (M1 := mMp B a n 15) d_M_init_131 f_8_52 ((xset_ne _ _ (by omega)).trans (mMp_obj B a n 14)) ⟨Nat.le_of_ble_eq_true rfl, xfit_v rfl rfl rfl, Or.inr ⟨rfl, rfl⟩⟩ (mMp_step B 14 ha rfl rfl rfl rfl rfl) ?_
  refine ev_aload_n d_M_init_134 rfl ?_
  refine ev_sipush (v := 480) d_M_init_135 rfl ?_
  refine ev_newI (z := 480) (S1 := (xset (mMp B a n 15) (n + 15) (.inl (0, 480, .inl fun _ => 0)), n + 16, sl + 9752)) d_M_init_138 (by decide) (by decide) rfl ?_
  refine ev_put (M1 := mMp B a n 16) d_M_init_140 f_8_55 ((xset_ne _ _ (by omega)).trans (mMp_obj B a n 15)) ⟨Nat.le_of_ble_eq_true rfl, xfit_v rfl rfl rfl, Or.inr ⟨rfl, rfl⟩⟩ (mMp_step B 15 ha rfl rfl rfl rfl rfl) ?_
  refine ev_aload_n d_M_init_143 rfl ?_
  refine ev_bipush (v := 8) d_M_init_144 rfl ?_
  refine ev_newI (z := 8) (S1 := (xset (mMp B a n 16) (n + 16) (.inl (0, 8, .inl fun _ => 0)), n + 17, sl + 9760)) d_M_init_146 (by decide) (by decide) rfl ?_
  refine ev_put (M1 := mMp B a n 17) d_M_init_148 f_8_58 ((xset_ne _ _ (by omega)).trans (mMp_obj B a n 16)) ⟨Nat.le_of_ble_eq_true rfl, xfit_v rfl rfl rfl, Or.inr ⟨rfl, rfl⟩⟩ (mMp_step B 16 ha rfl rfl rfl rfl rfl) ?_
  refine ev_aload_n d_M_init_151 rfl ?_
  refine ev_bipush (v := 8) d_M_init_152 rfl ?_
  refine ev_newI (z := 8) (S1 := (xset (mMp B a n 17) (n + 17) (.inl (0, 8, .inl fun _ => 0)), n + 18, sl + 9768)) d_M_init_154 (by decide) (by decide) rfl ?_
  refine ev_put (M1 := mMp B a n 18) d_M_init_156 f_8_61 ((xset_ne _ _ (by omega)).trans (mMp_obj B a n 17)) ⟨Nat.le_of_ble_eq_true rfl, xfit_v rfl rfl rfl, Or.inr ⟨rfl, rfl⟩⟩ (mMp_step B 17 ha rfl rfl rfl rfl rfl) ?_
  refine ev_aload_n d_M_init_159 rfl ?_
  refine ev_bipush (v := 20) d_M_init_160 rfl ?_
  refine ev_newI (z := 20) (S1 := (xset (mMp B a n 18) (n + 18) (.inl (0, 20, .inl fun _ => 0)), n + 19, sl + 9788)) d_M_init_162 (by decide) (by decide) rfl ?_
  refine ev_put (M1 := mMp B a n 19) d_M_init_164 f_8_64 ((xset_ne _ _ (by omega)).trans (mMp_obj B a n 18)) ⟨Nat.le_of_ble_eq_true rfl, xfit_v rfl rfl rfl, Or.inr ⟨rfl, rfl⟩⟩ (mMp_step B 18 ha rfl rfl rfl rfl rfl) ?_
  refine ev_aload_n d_M_init_167 rfl ?_
  refine ev_bipush (v := 20) d_M_init_168 rfl ?_
  refine ev_newI (z := 20) (S1 := (xset (mMp B a n 19) (n + 19) (.inl (0, 20, .inl fun _ => 0)), n + 20, sl + 9808)) d_M_init_170 (by decide) (by decide) rfl ?_
  refine ev_put (M1 := mMp B a n 20) d_M_init_172 f_8_67 ((xset_ne _ _ (by omega)).trans (mMp_obj B a n 19)) ⟨Nat.le_of_ble_eq_true rfl, xfit_v rfl rfl rfl, Or.inr ⟨rfl, rfl⟩⟩ (mMp_step B 19 ha rfl rfl rfl rfl rfl) ?_
  refine ev_aload_n d_M_init_175 rfl ?_
  refine ev_bipush (v := 20) d_M_init_176 rfl ?_
  refine ev_newI (z := 20) (S1 := (xset (mMp B a n 20) (n + 20) (.inl (0, 20, .inl fun _ => 0)), n + 21, sl + 9828)) d_M_init_178 (by decide) (by decide) rfl ?_
  refine ev_put (M1 := mMp B a n 21) d_M_init_180 f_8_70 ((xset_ne _ _ (by omega)).trans (mMp_obj B a n 20)) ⟨Nat.le_of_ble_eq_true rfl, xfit_v rfl rfl rfl, Or.inr ⟨rfl, rfl⟩⟩ (mMp_step B 20 ha rfl rfl rfl rfl rfl) ?_
  refine ev_aload_n d_M_init_183 rfl ?_
  refine ev_bipush (v := 20) d_M_init_184 rfl ?_
  refine ev_newI (z := 20) (S1 := (xset (mMp B a n 21) (n + 21) (.inl (0, 20, .inl fun _ => 0)), n + 22, sl + 9848)) d_M_init_186 (by decide) (by decide) rfl ?_
  refine ev_put (M1 := mMp B a n 22) d_M_init_188 f_8_73 ((xset_ne _ _ (by omega)).trans (mMp_obj B a n 21)) ⟨Nat.le_of_ble_eq_true rfl, xfit_v rfl rfl rfl, Or.inr ⟨rfl, rfl⟩⟩ (mMp_step B 21 ha rfl rfl rfl rfl rfl) ?_
  refine ev_aload_n d_M_init_191 rfl ?_
  refine ev_bipush (v := 20) d_M_init_192 rfl ?_
  refine ev_newZ (z := 20) (S1 := (xset (mMp B a n 22) (n + 22) (.inl (1, 20, .inl fun _ => 0)), n + 23, sl + 9868)) d_M_init_194 (by decide) (by decide) rfl ?_
  refine ev_put (M1 := mMp B a n 23) d_M_init_196 f_8_76 ((xset_ne _ _ (by omega)).trans (mMp_obj B a n 22)) ⟨Nat.le_of_ble_eq_true rfl, xfit_v rfl rfl rfl, Or.inr ⟨rfl, rfl⟩⟩ (mMp_step B 22 ha rfl rfl rfl rfl rfl) ?_
  refine ev_aload_n d_M_init_199 rfl ?_
  refine ev_bipush (v := 120) d_M_init_200 rfl ?_
  refine ev_newZ (z := 120) (S1 := (xset (mMp B a n 23) (n + 23) (.inl (1, 120, .inl fun _ => 0)), n + 24, sl + 9988)) d_M_init_202 (by decide) (by decide) rfl ?_
  refine ev_put (M1 := mMp B a n 24) d_M_init_204 f_8_80 ((xset_ne _ _ (by omega)).trans (mMp_obj B a n 23)) ⟨Nat.le_of_ble_eq_true rfl, xfit_v rfl rfl rfl, Or.inr ⟨rfl, rfl⟩⟩ (mMp_step B 23 ha rfl rfl rfl rfl rfl) ?_
  refine ev_aload_n d_M_init_207 rfl ?_
  refine ev_bipush (v := 20) d_M_init_208 rfl ?_
  refine ev_newI (z := 20) (S1 := (xset (mMp B a n 24) (n + 24) (.inl (0, 20, .inl fun _ => 0)), n + 25, sl + 10008)) d_M_init_210 (by decide) (by decide) rfl ?_
  refine ev_put (M1 := mMp B a n 25) d_M_init_212 f_8_83 ((xset_ne _ _ (by omega)).trans (mMp_obj B a n 24)) ⟨Nat.le_of_ble_eq_true rfl, xfit_v rfl rfl rfl, Or.inr ⟨rfl, rfl⟩⟩ (mMp_step B 24 ha rfl rfl rfl rfl rfl) ?_
  refine ev_aload_n d_M_init_215 rfl ?_
  refine ev_sipush (v := 2000) d_M_init_216 rfl ?_
  refine ev_newI (z := 2000) (S1 := (xset (mMp B a n 25) (n + 25) (.inl (0, 2000, .inl fun _ => 0)), n + 26, sl + 12008)) d_M_init_219 (by decide) (by decide) rfl ?_
  refine ev_put (M1 := mMp B a n 26) d_M_init_221 f_8_86 ((xset_ne _ _ (by omega)).trans (mMp_obj B a n 25)) ⟨Nat.le_of_ble_eq_true rfl, xfit_v rfl rfl rfl, Or.inr ⟨rfl, rfl⟩⟩ (mMp_step B 25 ha rfl rfl rfl rfl rfl) ?_
  refine ev_aload_n d_M_init_224 rfl ?_
  refine ev_sipush (v := 2000) d_M_init_225 rfl ?_
  refine ev_newI (z := 2000) (S1 := (xset (mMp B a n 26) (n + 26) (.inl (0, 2000, .inl fun _ => 0)), n + 27, sl + 14008)) d_M_init_228 (by decide) (by decide) rfl ?_
  refine ev_put (M1 := mMp B a n 27) d_M_init_230 f_8_89 ((xset_ne _ _ (by omega)).trans (mMp_obj B a n 26)) ⟨Nat.le_of_ble_eq_true rfl, xfit_v rfl rfl rfl, Or.inr ⟨rfl, rfl⟩⟩ (mMp_step B 26 ha rfl rfl rfl rfl rfl) ?_
  refine ev_aload_n d_M_init_233 rfl ?_
  refine ev_bipush (v := 30) d_M_init_234 rfl ?_
  refine ev_newI (z := 30) (S1 := (xset (mMp B a n 27) (n + 27) (.inl (0, 30, .inl fun _ => 0)), n + 28, sl + 14038)) d_M_init_236 (by decide) (by decide) rfl ?_
  refine ev_put (M1 := mMp B a n 28) d_M_init_238 f_8_92 ((xset_ne _ _ (by omega)).trans (mMp_obj B a n 27)) ⟨Nat.le_of_ble_eq_true rfl, xfit_v rfl rfl rfl, Or.inr ⟨rfl, rfl⟩⟩ (mMp_step B 27 ha rfl rfl rfl rfl rfl) ?_
  refine ev_aload_n d_M_init_241 rfl ?_
  refine ev_bipush (v := 30) d_M_init_242 rfl ?_
  refine ev_newI (z := 30) (S1 := (xset (mMp B a n 28) (n + 28) (.inl (0, 30, .inl fun _ => 0)), n + 29, sl + 14068)) d_M_init_244 (by decide) (by decide) rfl ?_
  refine ev_put (M1 := mMp B a n 29) d_M_init_246 f_8_95 ((xset_ne _ _ (by omega)).trans (mMp_obj B a n 28)) ⟨Nat.le_of_ble_eq_true rfl, xfit_v rfl rfl rfl, Or.inr ⟨rfl, rfl⟩⟩ (mMp_step B 28 ha rfl rfl rfl rfl rfl) ?_
  refine ev_aload_n d_M_init_249 rfl ?_
  refine ev_bipush (v := 30) d_M_init_250 rfl ?_
  refine ev_newI (z := 30) (S1 := (xset (mMp B a n 29) (n + 29) (.inl (0, 30, .inl fun _ => 0)), n + 30, sl + 14098)) d_M_init_252 (by decide) (by decide) rfl ?_
  refine ev_put (M1 := mMp B a n 30) d_M_init_254 f_8_98 ((xset_ne _ _ (by omega)).trans (mMp_obj B a n 29)) ⟨Nat.le_of_ble_eq_true rfl, xfit_v rfl rfl rfl, Or.inr ⟨rfl, rfl⟩⟩ (mMp_step B 29 ha rfl rfl rfl rfl rfl) ?_
  rw [mMp_end B ha]
  exact l_M_init0 (mad_ok ha)
