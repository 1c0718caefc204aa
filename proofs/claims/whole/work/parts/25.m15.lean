/-! the reference: the written text -/
def mWt (W : Nat → List Int32) (ro : Nat → Nat) : Nat → Nat → List Int32
  | 0, _ => []
  | m + 1, t => W (ro t) ++ [59] ++ mWt W ro m (t + 1)
theorem s_first (B : xMm) (ad : Nat → Nat) (ix : Nat → Option Nat) (iv : Nat → Int32) (av : Nat → Nat → Int32) (g : Nat → Int32) (w : List Int32) (x y : Int32) : mM B ad ix (upd (wI (upd iv 15 x) w) 15 1) (va_up (wA (va_up av 14 g) w) 14 (upd (wA (va_up av 14 g) w 14) 0 y)) = mM B ad ix (wI (upd iv 15 (nI ([y] : List Int32).length)) w) (wA (va_up av 14 (wrF g [y])) w) := by
  have e1 : upd (wI (upd iv 15 x) w) 15 1 = wI (upd iv 15 (nI ([y] : List Int32).length)) w := by
    funext k
    simp [wI, upd]
    have : nI 1 = 1 := rfl
    grind
  have e2 : va_up (wA (va_up av 14 g) w) 14 (upd (wA (va_up av 14 g) w 14) 0 y) = wA (va_up av 14 (wrF g [y])) w := by
    rw [s_14, show upd g 0 y = wrF g [y] from by have := wrF_put g [] y; rw [wrF_nil] at this; exact this]
    funext k
    simp [wA, va_up]
    grind
  rw [e1, e2]
set_option maxRecDepth 20000 in
theorem l_M_write_t {d : Nat} {B : xMm} {ad : Nat → Nat} {ix : Nat → Option Nat} {iv : Nat → Int32} {av : Nat → Nat → Int32} {ns : Nat × Nat} (ok : mOk ad ix) (c N mn : Nat) (hc : c < 8) (hN : N ≤ 160) (h6 : av 6 c = nI N) (hG : mGood av c N) (hmn : mn ≤ 6) (h4 : av 4 c = nI mn) (ro : Nat → Nat) (hro : ∀ t, t < mn → ro t < N ∧ av 5 (6 * c + t) = nI (ro t))  : ∀ (m t : Nat) (w : List Int32) (x : Int32) (g : Nat → Int32), t + m = mn → w.length + (mWt (mW av c N N) ro m t).length ≤ 400 → ∃ (x' : Int32) (g' : Nat → Int32), ∀ (o3 o4 o5 : Option Value), xEv (d + 2) k_M_write 7 [some (.ref (ad 0)), some (.int (nI c)), some (.int (nI t)), o3, o4, o5] [] (mM B ad ix (wI (upd iv 15 x) (w)) (wA (va_up av 14 g) (w)), ns) (.inl none, (mM B ad ix (wI (upd iv 15 x') (w ++ mWt (mW av c N N) ro m t)) (wA (va_up av 14 g') (w ++ mWt (mW av c N N) ro m t)), ns)) := by
  have ec : (nI c).toNatClampNeg = c := nI_clamp (by omega)
  intro m
  induction m with
  | zero =>
    intro t w x g ht hw
    refine ⟨x, g, fun o3 o4 o5 => ?_⟩
    refine ev_iload_n d_M_write_7 rfl ?_
    refine ev_aload_n d_M_write_8 rfl ?_
    refine ev_get d_M_write_9 f_8_13 (mM_obj ok) rfl ?_
    refine ev_iload_n d_M_write_12 rfl ?_
    refine ev_iald d_M_write_13 (mM_arr ok 4 rfl) ⟨rfl, vp_in_nI (N := 8) hc (by decide)⟩ rfl ?_
    rw [s_ne (k := 4) (by decide) (by decide), ec, h4]
    refine ev_icmp_ge (t := 195) d_M_write_14 (by decide) (fun _ => ?_) (fun c_14 => absurd (nI_le (by omega) (by omega)) c_14)
    exact xEv.to (ev_ret d_M_write_195 rfl) (by rw [show mWt (mW av c N N) ro 0 t = [] from rfl, List.append_nil])
  | succ m ih =>
    intro t w x g ht hw
    obtain ⟨hrN, hr⟩ := hro t (by omega)
    rw [show mWt (mW av c N N) ro (m + 1) t = (mW av c N N) (ro t) ++ [59] ++ mWt (mW av c N N) ro m (t + 1) from rfl] at hw
    simp at hw
    obtain ⟨g1, t1⟩ := l_M_write_node (B := B) (d := d) (ns := ns) (iv := iv) ok c N hc hN h6 hG t N (ro t) hrN (by omega) [] w (by simp; omega) (by omega) g
    obtain ⟨x', g', t2⟩ := ih (t + 1) (w ++ (mW av c N N) (ro t) ++ [59]) (nI ([] : List Int32).length) g1 (by omega) (by simp; omega)
    refine ⟨x', g', fun o3 o4 o5 => ?_⟩
    refine ev_iload_n d_M_write_7 rfl ?_
    refine ev_aload_n d_M_write_8 rfl ?_
    refine ev_get d_M_write_9 f_8_13 (mM_obj ok) rfl ?_
    refine ev_iload_n d_M_write_12 rfl ?_
    refine ev_iald d_M_write_13 (mM_arr ok 4 rfl) ⟨rfl, vp_in_nI (N := 8) hc (by decide)⟩ rfl ?_
    rw [s_ne (k := 4) (by decide) (by decide), ec, h4]
    refine ev_icmp_ge (t := 195) d_M_write_14 (by decide) (fun c_14 => absurd c_14 (nI_ge (by omega) (by omega))) (fun _ => ?_)
    refine ev_aload_n d_M_write_17 rfl ?_
    refine ev_iconst (v := 1) d_M_write_18 rfl ?_
    refine ev_put d_M_write_19 f_8_158 (mM_obj ok) ⟨Nat.le_of_ble_eq_true rfl, xfit_i rfl, Or.inl rfl⟩ (mM_put ok rfl) ?_
    refine ev_aload_n d_M_write_22 rfl ?_
    refine ev_get d_M_write_23 f_8_43 (mM_obj ok) rfl ?_
    refine ev_iconst (v := 0) d_M_write_26 rfl ?_
    refine ev_aload_n d_M_write_27 rfl ?_
    refine ev_get d_M_write_28 f_8_16 (mM_obj ok) rfl ?_
    refine ev_bipush (v := 6) d_M_write_31 rfl ?_
    refine ev_iload_n d_M_write_33 rfl ?_
    refine ev_imul d_M_write_34 ?_
    refine ev_iload_n d_M_write_35 rfl ?_
    refine ev_iadd d_M_write_36 ?_
    rw [nI6]
    refine ev_iald d_M_write_37 (mM_arr ok 5 rfl) ⟨rfl, vp_in_nI (N := 48) (by omega) (by decide)⟩ rfl ?_
    rw [s_ne (k := 5) (by decide) (by decide), nI_clamp (show 6 * c + t < 2 ^ 31 by omega), hr]
    refine ev_iast d_M_write_38 (mM_arr ok 14 rfl) ⟨rfl, vp_in_nI (n := 0) (N := 400) (by decide) (by decide)⟩ (mM_ast ok 14 rfl) ?_
    rw [show (0 : Int32).toNatClampNeg = 0 from rfl, s_first]
    refine t1 _ (fun o3 o4 o5 => ?_) _ _ _
    refine ev_aload_n d_M_write_39 rfl ?_
    refine ev_get d_M_write_40 f_8_158 (mM_obj ok) rfl ?_
    rw [s_15]
    refine ev_if_le (t := 183) d_M_write_43 (by decide) (fun _ => ?_) (fun c_43 => absurd (by decide) c_43)
    refine ev_aload_n d_M_write_183 rfl ?_
    refine ev_bipush (v := 59) d_M_write_184 rfl ?_
    refine ev_v1o d_M_write_186 q_8_152 rfl (mM_obj ok) ⟨rfl, Nat.le_of_ble_eq_true rfl, Nat.le_of_ble_eq_true rfl⟩ (c_M_putw ok _ _ (by simp; omega)) ?_
    obtain ⟨x_1, ex_1⟩ : ∃ z : Int32, z = (nI t) + 1 := ⟨_, rfl⟩
    refine ev_iinc (v := x_1) (lo1 := [some (.ref (ad 0)), some (.int (nI c)), some (.int x_1), o3, o4, o5]) d_M_write_189 rfl (by rw [ex_1]; rfl) rfl ?_
    refine ev_goto (t := 7) d_M_write_192 (by decide) ?_
    rw [show x_1 = nI (t + 1) from by rw [ex_1, nI_succ], wrF_nil]
    exact xEv.to (t2 _ _ _) (by simp [mWt])
set_option maxRecDepth 20000 in
theorem c_M_write {d : Nat} {B : xMm} {ad : Nat → Nat} {ix : Nat → Option Nat} {iv : Nat → Int32} {av : Nat → Nat → Int32} {ns : Nat × Nat} (ok : mOk ad ix) (c N mn : Nat) (hc : c < 8) (hN : N ≤ 160) (h6 : av 6 c = nI N) (hG : mGood av c N) (hmn : mn ≤ 6) (h4 : av 4 c = nI mn) (ro : Nat → Nat) (hro : ∀ t, t < mn → ro t < N ∧ av 5 (6 * c + t) = nI (ro t)) (hw : (mWt (mW av c N N) ro mn 0).length ≤ 400) : ∃ (x' : Int32) (g' : Nat → Int32), xCl (d + 2) k_M_write [.ref (ad 0), .int (nI c)] (mM B ad ix iv av, ns) (.inl none, (mM B ad ix (wI (upd iv 15 x') (mWt (mW av c N N) ro mn 0)) (wA (va_up av 14 g') (mWt (mW av c N N) ro mn 0)), ns)) := by
  obtain ⟨x', g', hh⟩ := l_M_write_t (B := B) (d := d) (ns := ns) (iv := iv) ok c N mn hc hN h6 hG hmn h4 ro hro mn 0 [] (iv 15) (av 14) (by omega) (by simp; omega)
  refine ⟨x', g', ?_⟩
  have e1 : wI (upd iv 15 (iv 15)) [] = upd iv 17 0 := by
    funext k
    simp [wI, upd]
    have : nI 0 = 0 := rfl
    grind
  have e2 : wA (va_up av 14 (av 14)) [] = av := by
    funext k
    simp [wA, va_up, wrF_nil]
    grind
  show xEv _ k_M_write 0 [some (.ref (ad 0)), some (.int (nI c)), none, none, none, none] [] _ _
  refine ev_aload_n d_M_write_0 rfl ?_
  refine ev_iconst (v := 0) d_M_write_1 rfl ?_
  refine ev_put d_M_write_2 f_8_149 (mM_obj ok) ⟨Nat.le_of_ble_eq_true rfl, xfit_i rfl, Or.inl rfl⟩ (mM_put ok rfl) ?_
  rw [show mM B ad ix (upd iv 17 0) av = mM B ad ix (wI (upd iv 15 (iv 15)) []) (wA (va_up av 14 (av 14)) []) by rw [e1, e2]]
  refine ev_iconst (v := 0) d_M_write_5 rfl ?_
  refine ev_istore_n (lo1 := [some (.ref (ad 0)), some (.int (nI c)), some (.int (nI 0)), none, none, none]) d_M_write_6 (Nat.le_of_ble_eq_true rfl) rfl ?_
  exact xEv.to (hh none none none) (by rw [List.nil_append])
set_option maxRecDepth 20000 in
theorem c_M_written_no1 {d : Nat} {B : xMm} {ad : Nat → Nat} {ix : Nat → Option Nat} {iv : Nat → Int32} {av : Nat → Nat → Int32} {ns : Nat × Nat} (ok : mOk ad ix) (c i : Int32) (h : ¬ ((0 ≤ c ∧ c < iv 3) ∧ -1 ≤ i)) : xCl (d + 3) k_M_written [.ref (ad 0), .int c, .int i] (mM B ad ix iv av, ns) (.inl (some (.int 0)), (mM B ad ix (upd iv 0 1) (av), ns)) := by
  show xEv _ k_M_written 0 [some (.ref (ad 0)), some (.int c), some (.int i), none] [] _ _
  refine ev_cutv (E := 18) (V := 0) ?_ (fun hk_1 => ?_)
  · refine ev_istore_n (lo1 := [some (.ref (ad 0)), some (.int c), some (.int i), some (.int (0))]) d_M_written_18 (Nat.le_of_ble_eq_true rfl) rfl ?_
    refine ev_iload_n d_M_written_19 rfl ?_
    refine ev_if_eq (t := 28) d_M_written_20 (by decide) (fun _ => ?_) (fun c_20 => absurd rfl c_20)
    refine ev_aload_n d_M_written_28 rfl ?_
    refine ev_cutv (E := 46) (V := 0) ?_ (fun hk_2 => ?_)
    · refine ev_iconst (v := 1) d_M_written_46 rfl ?_
      refine ev_iconst (v := 1) d_M_written_47 rfl ?_
      refine ev_v3r d_M_written_48 q_8_116 rfl (mM_obj ok) ⟨rfl, Nat.le_of_ble_eq_true rfl, Nat.le_of_ble_eq_true rfl⟩ (c_M_goes ok _ _ _) ?_
      refine ev_if_ne (t := 56) d_M_written_51 (by decide) (fun c_51 => absurd (by decide) c_51) (fun _ => ?_)
      refine ev_iconst (v := 0) d_M_written_54 rfl ?_
      exact xEv.to (ev_iret d_M_written_55 rfl) (by grind [upd, va_up, xbi, mgo])
    · refine ev_iload_n d_M_written_29 rfl ?_
      refine ev_if_eq (t := 45) d_M_written_30 (by decide) (fun _ => ?_) (fun c_30 => absurd rfl c_30)
      refine ev_iconst (v := 0) d_M_written_45 rfl ?_
      exact hk_2 _ (by grind)
  · refine ev_aload_n d_M_written_0 rfl ?_
    refine ev_iload_n d_M_written_1 rfl ?_
    refine ev_v1r d_M_written_2 q_8_146 rfl (mM_obj ok) ⟨rfl, Nat.le_of_ble_eq_true rfl, Nat.le_of_ble_eq_true rfl⟩ (c_M_isContract ok _) ?_
    refine ev_if_eq (t := 17) d_M_written_5 (by decide) (fun c_5_3 => ?_) (fun c_5_3 => ?_)
    · refine ev_iconst (v := 0) d_M_written_17 rfl ?_
      exact hk_1 _ (by grind [xbi])
    · refine ev_iload_n d_M_written_8 rfl ?_
      refine ev_iconst (v := (-1)) d_M_written_9 rfl ?_
      refine ev_icmp_lt (t := 17) d_M_written_10 (by decide) (fun c_10_4 => ?_) (fun c_10_4 => ?_)
      · refine ev_iconst (v := 0) d_M_written_17 rfl ?_
        exact hk_1 _ (by grind [xbi])
      · refine ev_iconst (v := 1) d_M_written_13 rfl ?_
        refine ev_goto (t := 18) d_M_written_14 (by decide) ?_
        exact hk_1 _ (by grind [xbi])
set_option maxRecDepth 20000 in
theorem c_M_written_no2 {d : Nat} {B : xMm} {ad : Nat → Nat} {ix : Nat → Option Nat} {iv : Nat → Int32} {av : Nat → Nat → Int32} {ns : Nat × Nat} (ok : mOk ad ix) (i : Int32) (c N mn : Nat) (hc : c < 8) (hN : N ≤ 160) (h6 : av 6 c = nI N) (hG : mGood av c N) (hmn : mn ≤ 6) (h4 : av 4 c = nI mn) (ro : Nat → Nat) (hro : ∀ t, t < mn → ro t < N ∧ av 5 (6 * c + t) = nI (ro t)) (hw : (mWt (mW av c N N) ro mn 0).length ≤ 400) (h : (0 ≤ nI c ∧ nI c < iv 3) ∧ -1 ≤ i) (h2 : ¬ i < nI (mWt (mW av c N N) ro mn 0).length) : ∃ (x' : Int32) (g' : Nat → Int32), xCl (d + 3) k_M_written [.ref (ad 0), .int (nI c), .int i] (mM B ad ix iv av, ns) (.inl (some (.int 0)), (mM B ad ix (upd (wI (upd iv 15 x') (mWt (mW av c N N) ro mn 0)) 0 1) (wA (va_up av 14 g') (mWt (mW av c N N) ro mn 0)), ns)) := by
  obtain ⟨x', g', hwr⟩ := c_M_write (B := B) (d := d) (ns := ns) (iv := iv) ok c N mn hc hN h6 hG hmn h4 ro hro hw
  refine ⟨x', g', ?_⟩
  show xEv _ k_M_written 0 [some (.ref (ad 0)), some (.int (nI c)), some (.int i), none] [] _ _
  refine ev_cutv (E := 18) (V := 1) ?_ (fun hk_1 => ?_)
  · refine ev_istore_n (lo1 := [some (.ref (ad 0)), some (.int (nI c)), some (.int i), some (.int (1))]) d_M_written_18 (Nat.le_of_ble_eq_true rfl) rfl ?_
    refine ev_iload_n d_M_written_19 rfl ?_
    refine ev_if_eq (t := 28) d_M_written_20 (by decide) (fun c_20 => absurd c_20 (by grind)) (fun _ => ?_)
    refine ev_aload_n d_M_written_23 rfl ?_
    refine ev_iload_n d_M_written_24 rfl ?_
    refine ev_v1o d_M_written_25 q_8_168 rfl (mM_obj ok) ⟨rfl, Nat.le_of_ble_eq_true rfl, Nat.le_of_ble_eq_true rfl⟩ hwr ?_
    refine ev_aload_n d_M_written_28 rfl ?_
    refine ev_cutv (E := 46) (V := 0) ?_ (fun hk_2 => ?_)
    · refine ev_iconst (v := 1) d_M_written_46 rfl ?_
      refine ev_iconst (v := 1) d_M_written_47 rfl ?_
      refine ev_v3r d_M_written_48 q_8_116 rfl (mM_obj ok) ⟨rfl, Nat.le_of_ble_eq_true rfl, Nat.le_of_ble_eq_true rfl⟩ (c_M_goes ok _ _ _) ?_
      refine ev_if_ne (t := 56) d_M_written_51 (by decide) (fun c_51 => absurd (by decide) c_51) (fun _ => ?_)
      refine ev_iconst (v := 0) d_M_written_54 rfl ?_
      exact xEv.to (ev_iret d_M_written_55 rfl) rfl
    · refine ev_iload_n d_M_written_29 rfl ?_
      refine ev_if_eq (t := 45) d_M_written_30 (by decide) (fun c_30 => absurd c_30 (by grind)) (fun _ => ?_)
      refine ev_iload_n d_M_written_33 rfl ?_
      refine ev_aload_n d_M_written_34 rfl ?_
      refine ev_get d_M_written_35 f_8_149 (mM_obj ok) rfl ?_
      refine ev_icmp_ge (t := 45) d_M_written_38 (by decide) (fun c_38_3 => ?_) (fun c_38_3 => ?_)
      · refine ev_iconst (v := 0) d_M_written_45 rfl ?_
        exact hk_2 _ (by (try rw [wI_17] at *) <;> grind)
      · refine ev_iconst (v := 1) d_M_written_41 rfl ?_
        refine ev_goto (t := 46) d_M_written_42 (by decide) ?_
        exact hk_2 _ (by (try rw [wI_17] at *) <;> grind)
  · refine ev_aload_n d_M_written_0 rfl ?_
    refine ev_iload_n d_M_written_1 rfl ?_
    refine ev_v1r d_M_written_2 q_8_146 rfl (mM_obj ok) ⟨rfl, Nat.le_of_ble_eq_true rfl, Nat.le_of_ble_eq_true rfl⟩ (c_M_isContract ok _) ?_
    refine ev_if_eq (t := 17) d_M_written_5 (by decide) (fun c_5_4 => ?_) (fun c_5_4 => ?_)
    · refine ev_iconst (v := 0) d_M_written_17 rfl ?_
      exact hk_1 _ (by grind [xbi])
    · refine ev_iload_n d_M_written_8 rfl ?_
      refine ev_iconst (v := (-1)) d_M_written_9 rfl ?_
      refine ev_icmp_lt (t := 17) d_M_written_10 (by decide) (fun c_10_5 => ?_) (fun c_10_5 => ?_)
      · refine ev_iconst (v := 0) d_M_written_17 rfl ?_
        exact hk_1 _ (by grind [xbi])
      · refine ev_iconst (v := 1) d_M_written_13 rfl ?_
        refine ev_goto (t := 18) d_M_written_14 (by decide) ?_
        exact hk_1 _ (by grind [xbi])
set_option maxRecDepth 20000 in
theorem c_M_written_n {d : Nat} {B : xMm} {ad : Nat → Nat} {ix : Nat → Option Nat} {iv : Nat → Int32} {av : Nat → Nat → Int32} {ns : Nat × Nat} (ok : mOk ad ix) (i : Int32) (c N mn : Nat) (hc : c < 8) (hN : N ≤ 160) (h6 : av 6 c = nI N) (hG : mGood av c N) (hmn : mn ≤ 6) (h4 : av 4 c = nI mn) (ro : Nat → Nat) (hro : ∀ t, t < mn → ro t < N ∧ av 5 (6 * c + t) = nI (ro t)) (hw : (mWt (mW av c N N) ro mn 0).length ≤ 400) (h : 0 ≤ nI c ∧ nI c < iv 3) (h2 : i = -1) : ∃ (x' : Int32) (g' : Nat → Int32), xCl (d + 3) k_M_written [.ref (ad 0), .int (nI c), .int i] (mM B ad ix iv av, ns) (.inl (some (.int (nI (mWt (mW av c N N) ro mn 0).length))), (mM B ad ix (upd (wI (upd iv 15 x') (mWt (mW av c N N) ro mn 0)) 0 0) (wA (va_up av 14 g') (mWt (mW av c N N) ro mn 0)), ns)) := by
  obtain ⟨x', g', hwr⟩ := c_M_write (B := B) (d := d) (ns := ns) (iv := iv) ok c N mn hc hN h6 hG hmn h4 ro hro hw
  refine ⟨x', g', ?_⟩
  have h3 := nI_pos' (n := (mWt (mW av c N N) ro mn 0).length) (by omega)
  show xEv _ k_M_written 0 [some (.ref (ad 0)), some (.int (nI c)), some (.int i), none] [] _ _
  refine ev_cutv (E := 18) (V := 1) ?_ (fun hk_1 => ?_)
  · refine ev_istore_n (lo1 := [some (.ref (ad 0)), some (.int (nI c)), some (.int i), some (.int (1))]) d_M_written_18 (Nat.le_of_ble_eq_true rfl) rfl ?_
    refine ev_iload_n d_M_written_19 rfl ?_
    refine ev_if_eq (t := 28) d_M_written_20 (by decide) (fun c_20 => absurd c_20 (by grind)) (fun _ => ?_)
    refine ev_aload_n d_M_written_23 rfl ?_
    refine ev_iload_n d_M_written_24 rfl ?_
    refine ev_v1o d_M_written_25 q_8_168 rfl (mM_obj ok) ⟨rfl, Nat.le_of_ble_eq_true rfl, Nat.le_of_ble_eq_true rfl⟩ hwr ?_
    refine ev_aload_n d_M_written_28 rfl ?_
    refine ev_cutv (E := 46) (V := 1) ?_ (fun hk_2 => ?_)
    · refine ev_iconst (v := 1) d_M_written_46 rfl ?_
      refine ev_iconst (v := 1) d_M_written_47 rfl ?_
      refine ev_v3r d_M_written_48 q_8_116 rfl (mM_obj ok) ⟨rfl, Nat.le_of_ble_eq_true rfl, Nat.le_of_ble_eq_true rfl⟩ (c_M_goes ok _ _ _) ?_
      refine ev_if_ne (t := 56) d_M_written_51 (by decide) (fun _ => ?_) (fun c_51 => absurd c_51 (by decide))
      refine ev_iload_n d_M_written_56 rfl ?_
      refine ev_iconst (v := (-1)) d_M_written_57 rfl ?_
      refine ev_icmp_ne (t := 68) d_M_written_58 (by decide) (fun c_58 => absurd h2 c_58) (fun _ => ?_)
      refine ev_aload_n d_M_written_61 rfl ?_
      refine ev_get d_M_written_62 f_8_149 (mM_obj ok) rfl ?_
      refine ev_goto (t := 74) d_M_written_65 (by decide) ?_
      exact xEv.to (ev_iret d_M_written_74 rfl) (by simp [mgo, upd, wI_17])
    · refine ev_iload_n d_M_written_29 rfl ?_
      refine ev_if_eq (t := 45) d_M_written_30 (by decide) (fun c_30 => absurd c_30 (by grind)) (fun _ => ?_)
      refine ev_iload_n d_M_written_33 rfl ?_
      refine ev_aload_n d_M_written_34 rfl ?_
      refine ev_get d_M_written_35 f_8_149 (mM_obj ok) rfl ?_
      refine ev_icmp_ge (t := 45) d_M_written_38 (by decide) (fun c_38_3 => ?_) (fun c_38_3 => ?_)
      · refine ev_iconst (v := 0) d_M_written_45 rfl ?_
        exact hk_2 _ (by (try rw [wI_17] at *) <;> grind)
      · refine ev_iconst (v := 1) d_M_written_41 rfl ?_
        refine ev_goto (t := 46) d_M_written_42 (by decide) ?_
        exact hk_2 _ (by (try rw [wI_17] at *) <;> grind)
  · refine ev_aload_n d_M_written_0 rfl ?_
    refine ev_iload_n d_M_written_1 rfl ?_
    refine ev_v1r d_M_written_2 q_8_146 rfl (mM_obj ok) ⟨rfl, Nat.le_of_ble_eq_true rfl, Nat.le_of_ble_eq_true rfl⟩ (c_M_isContract ok _) ?_
    refine ev_if_eq (t := 17) d_M_written_5 (by decide) (fun c_5_4 => ?_) (fun c_5_4 => ?_)
    · refine ev_iconst (v := 0) d_M_written_17 rfl ?_
      exact hk_1 _ (by grind [xbi])
    · refine ev_iload_n d_M_written_8 rfl ?_
      refine ev_iconst (v := (-1)) d_M_written_9 rfl ?_
      refine ev_icmp_lt (t := 17) d_M_written_10 (by decide) (fun c_10_5 => ?_) (fun c_10_5 => ?_)
      · refine ev_iconst (v := 0) d_M_written_17 rfl ?_
        exact hk_1 _ (by grind [xbi])
      · refine ev_iconst (v := 1) d_M_written_13 rfl ?_
        refine ev_goto (t := 18) d_M_written_14 (by decide) ?_
        exact hk_1 _ (by grind [xbi])
set_option maxRecDepth 20000 in
theorem c_M_written_s {d : Nat} {B : xMm} {ad : Nat → Nat} {ix : Nat → Option Nat} {iv : Nat → Int32} {av : Nat → Nat → Int32} {ns : Nat × Nat} (ok : mOk ad ix) (i : Int32) (c N mn : Nat) (hc : c < 8) (hN : N ≤ 160) (h6 : av 6 c = nI N) (hG : mGood av c N) (hmn : mn ≤ 6) (h4 : av 4 c = nI mn) (ro : Nat → Nat) (hro : ∀ t, t < mn → ro t < N ∧ av 5 (6 * c + t) = nI (ro t)) (hw : (mWt (mW av c N N) ro mn 0).length ≤ 400) (h : 0 ≤ nI c ∧ nI c < iv 3) (j : Nat) (s : Int32) (h2 : i = nI j) (hs : (mWt (mW av c N N) ro mn 0)[j]? = some s) : ∃ (x' : Int32) (g' : Nat → Int32), xCl (d + 3) k_M_written [.ref (ad 0), .int (nI c), .int i] (mM B ad ix iv av, ns) (.inl (some (.int s)), (mM B ad ix (upd (wI (upd iv 15 x') (mWt (mW av c N N) ro mn 0)) 0 0) (wA (va_up av 14 g') (mWt (mW av c N N) ro mn 0)), ns)) := by
  obtain ⟨x', g', hwr⟩ := c_M_write (B := B) (d := d) (ns := ns) (iv := iv) ok c N mn hc hN h6 hG hmn h4 ro hro hw
  refine ⟨x', g', ?_⟩
  have hj : j < (mWt (mW av c N N) ro mn 0).length := (List.getElem?_eq_some_iff.mp hs).1
  have h3 := nI_pos' (n := j) (by omega)
  have h5 : i < nI (mWt (mW av c N N) ro mn 0).length := by rw [h2]; exact nI_lt hj (by omega)
  have h4' : ¬ i = -1 := by grind
  show xEv _ k_M_written 0 [some (.ref (ad 0)), some (.int (nI c)), some (.int i), none] [] _ _
  refine ev_cutv (E := 18) (V := 1) ?_ (fun hk_1 => ?_)
  · refine ev_istore_n (lo1 := [some (.ref (ad 0)), some (.int (nI c)), some (.int i), some (.int (1))]) d_M_written_18 (Nat.le_of_ble_eq_true rfl) rfl ?_
    refine ev_iload_n d_M_written_19 rfl ?_
    refine ev_if_eq (t := 28) d_M_written_20 (by decide) (fun c_20 => absurd c_20 (by grind)) (fun _ => ?_)
    refine ev_aload_n d_M_written_23 rfl ?_
    refine ev_iload_n d_M_written_24 rfl ?_
    refine ev_v1o d_M_written_25 q_8_168 rfl (mM_obj ok) ⟨rfl, Nat.le_of_ble_eq_true rfl, Nat.le_of_ble_eq_true rfl⟩ hwr ?_
    refine ev_aload_n d_M_written_28 rfl ?_
    refine ev_cutv (E := 46) (V := 1) ?_ (fun hk_2 => ?_)
    · refine ev_iconst (v := 1) d_M_written_46 rfl ?_
      refine ev_iconst (v := 1) d_M_written_47 rfl ?_
      refine ev_v3r d_M_written_48 q_8_116 rfl (mM_obj ok) ⟨rfl, Nat.le_of_ble_eq_true rfl, Nat.le_of_ble_eq_true rfl⟩ (c_M_goes ok _ _ _) ?_
      refine ev_if_ne (t := 56) d_M_written_51 (by decide) (fun _ => ?_) (fun c_51 => absurd c_51 (by decide))
      refine ev_iload_n d_M_written_56 rfl ?_
      refine ev_iconst (v := (-1)) d_M_written_57 rfl ?_
      refine ev_icmp_ne (t := 68) d_M_written_58 (by decide) (fun _ => ?_) (fun c_58 => absurd c_58 h4')
      refine ev_aload_n d_M_written_68 rfl ?_
      refine ev_get d_M_written_69 f_8_46 (mM_obj ok) rfl ?_
      refine ev_iload_n d_M_written_72 rfl ?_
      refine ev_iald d_M_written_73 (mM_arr ok 16 rfl) ⟨rfl, (by rw [h2]; exact vp_in_nI (N := 400) (by omega) (by decide))⟩ rfl ?_
      rw [h2, nI_clamp (by omega), wA_16, wrF_at hs]
      exact xEv.to (ev_iret d_M_written_74 rfl) rfl
    · refine ev_iload_n d_M_written_29 rfl ?_
      refine ev_if_eq (t := 45) d_M_written_30 (by decide) (fun c_30 => absurd c_30 (by grind)) (fun _ => ?_)
      refine ev_iload_n d_M_written_33 rfl ?_
      refine ev_aload_n d_M_written_34 rfl ?_
      refine ev_get d_M_written_35 f_8_149 (mM_obj ok) rfl ?_
      refine ev_icmp_ge (t := 45) d_M_written_38 (by decide) (fun c_38_3 => ?_) (fun c_38_3 => ?_)
      · refine ev_iconst (v := 0) d_M_written_45 rfl ?_
        exact hk_2 _ (by (try rw [wI_17] at *) <;> grind)
      · refine ev_iconst (v := 1) d_M_written_41 rfl ?_
        refine ev_goto (t := 46) d_M_written_42 (by decide) ?_
        exact hk_2 _ (by (try rw [wI_17] at *) <;> grind)
  · refine ev_aload_n d_M_written_0 rfl ?_
    refine ev_iload_n d_M_written_1 rfl ?_
    refine ev_v1r d_M_written_2 q_8_146 rfl (mM_obj ok) ⟨rfl, Nat.le_of_ble_eq_true rfl, Nat.le_of_ble_eq_true rfl⟩ (c_M_isContract ok _) ?_
    refine ev_if_eq (t := 17) d_M_written_5 (by decide) (fun c_5_4 => ?_) (fun c_5_4 => ?_)
    · refine ev_iconst (v := 0) d_M_written_17 rfl ?_
      exact hk_1 _ (by grind [xbi])
    · refine ev_iload_n d_M_written_8 rfl ?_
      refine ev_iconst (v := (-1)) d_M_written_9 rfl ?_
      refine ev_icmp_lt (t := 17) d_M_written_10 (by decide) (fun c_10_5 => ?_) (fun c_10_5 => ?_)
      · refine ev_iconst (v := 0) d_M_written_17 rfl ?_
        exact hk_1 _ (by grind [xbi])
      · refine ev_iconst (v := 1) d_M_written_13 rfl ?_
        refine ev_goto (t := 18) d_M_written_14 (by decide) ?_
        exact hk_1 _ (by grind [xbi])
