/-! the class: numbers written, rows looked up -/
theorem dgn_get (m : Nat) : ∀ j t, t ≤ j → (dgn m j)[t]? = some (nI (48 + m / 10 ^ (j - t) % 10))
  | 0, t, h => by
    rw [show t = 0 by omega]
    simp [dgn]
  | j + 1, 0, h => by simp [dgn]
  | j + 1, t + 1, h => by
    rw [show j + 1 - (t + 1) = j - t by omega]
    simp [dgn, dgn_get m j t (by omega)]
def gR (m k K : Nat) (g : Nat → Int32) (j : Nat) : Nat → Int32 := fun i => if k + j ≤ i ∧ i < k + K then nI (48 + m / 10 ^ (k + K - 1 - i) % 10) else g i
theorem gR_top (m k K : Nat) (g : Nat → Int32) : gR m k K g K = g := by
  funext i
  unfold gR
  rw [if_neg (by omega)]
theorem gR_step (m k K : Nat) (g : Nat → Int32) (j : Nat) (h : j < K) : upd (gR m k K g (j + 1)) (k + j) (nI (48 + m / 10 ^ (K - (j + 1)) % 10)) = gR m k K g j := by
  funext i
  unfold upd gR
  by_cases h1 : i = k + j
  · subst h1
    simp [show k + j < k + K by omega, show k + K - 1 - (k + j) = K - (j + 1) by omega]
  · simp only [h1, if_false]
    by_cases h2 : k + (j + 1) ≤ i ∧ i < k + K
    · rw [if_pos h2, if_pos (by omega)]
    · rw [if_neg h2, if_neg (by omega)]
theorem gR_zero (m : Nat) (f : Nat → Int32) (w : List Int32) (J : Nat) : gR m w.length (J + 1) (wrF f w) 0 = wrF f (w ++ dgn m J) := by
  funext i
  unfold gR
  by_cases h : w.length + 0 ≤ i ∧ i < w.length + (J + 1)
  · rw [if_pos h]
    unfold wrF
    rw [List.getElem?_append_right (by omega), dgn_get m J (i - w.length) (by omega)]
    rw [show J - (i - w.length) = w.length + (J + 1) - 1 - i by omega]
    rfl
  · rw [if_neg h]
    unfold wrF
    by_cases h2 : i < w.length
    · rw [List.getElem?_append_left h2]
    · rw [List.getElem?_eq_none (show w.length ≤ i by omega), List.getElem?_eq_none (show (w ++ dgn m J).length ≤ i by rw [List.length_append, dgn_len]; omega)]
set_option maxRecDepth 20000 in
theorem l_W_addNumber2 {d : Nat} {M : xMm} {n sl : Nat} {a b : Nat} {f : Nat → Int32} (hab : a ≠ b) (m : Nat) (hm : m < 1000000) (w : List Int32) (K : Nat) (hK : K ≤ 6) (hw : w.length + K ≤ 240)  : ∀ (j : Nat), j ≤ K → ∀ r : Int32, r = nI (m / 10 ^ (K - j)) → xEv d k_W_addNumber 42 [some (.ref a), some (.int (nI m)), some (.int (nI (w.length + K))), some (.int r), some (.int (nI (w.length + j) - 1))] [] (xset (rowM M a b f w) b (.inl (0, 240, .inl (gR m w.length K (wrF f w) j))), n, sl) (.inl none, (xset (xset (rowM M a b f w) b (.inl (0, 240, .inl (gR m w.length K (wrF f w) 0)))) a (.inr (6, [.ref b, .int (nI (w.length + K))])), n, sl)) := by
  have hlt : nI w.length - 1 < nI w.length := by
    rcases Nat.eq_zero_or_pos w.length with h | h
    · rw [h]; decide
    · have := nI_pred (w.length - 1)
      rw [show w.length - 1 + 1 = w.length by omega] at this
      rw [this]
      exact nI_lt (by omega) (by omega)
  intro j
  induction j with
  | zero =>
    intro hj r hr
    refine ev_iload d_W_addNumber_42 rfl ?_
    refine ev_aload_n d_W_addNumber_44 rfl ?_
    refine ev_get d_W_addNumber_45 f_6_15 ((xset_ne _ _ hab).trans (rowM_a M a b f w)) rfl ?_
    refine ev_icmp_lt (t := 76) d_W_addNumber_48 (by decide) (fun _ => ?_) (fun c_48 => absurd (by rw [Nat.add_zero]; exact hlt) c_48)
    refine ev_aload_n d_W_addNumber_76 rfl ?_
    refine ev_iload_n d_W_addNumber_77 rfl ?_
    refine ev_put (M1 := (xset (xset (rowM M a b f w) b (.inl (0, 240, .inl (gR m w.length K (wrF f w) 0)))) (a) (.inr (6, [.ref b, .int (nI (w.length + K))])))) d_W_addNumber_78 f_6_15 ((xset_ne _ _ hab).trans (rowM_a M a b f w)) ⟨Nat.le_of_ble_eq_true rfl, (xfit_i rfl), Or.inl rfl⟩ rfl ?_
    exact ev_ret d_W_addNumber_81 rfl
  | succ j ih0 =>
    intro hj r hr
    subst hr
    have ih := fun h => ih0 h _ rfl
    have hle : m / 10 ^ (K - (j + 1)) ≤ m := Nat.div_le_self _ _
    rw [show nI (w.length + (j + 1)) - 1 = nI (w.length + j) from nI_pred _]
    refine ev_iload d_W_addNumber_42 rfl ?_
    refine ev_aload_n d_W_addNumber_44 rfl ?_
    refine ev_get d_W_addNumber_45 f_6_15 ((xset_ne _ _ hab).trans (rowM_a M a b f w)) rfl ?_
    refine ev_icmp_lt (t := 76) d_W_addNumber_48 (by decide) (fun c_48 => absurd c_48 (nI_nlt (by omega) (by omega))) (fun _ => ?_)
    refine ev_aload_n d_W_addNumber_51 rfl ?_
    refine ev_get d_W_addNumber_52 f_6_9 ((xset_ne _ _ hab).trans (rowM_a M a b f w)) rfl ?_
    refine ev_iload d_W_addNumber_55 rfl ?_
    refine ev_bipush (v := 48) d_W_addNumber_57 rfl ?_
    refine ev_iload_n d_W_addNumber_59 rfl ?_
    refine ev_bipush (v := 10) d_W_addNumber_60 rfl ?_
    rw [show (10 : Int32) = nI 10 from rfl]
    refine ev_irem d_W_addNumber_62 (by decide) ?_
    rw [pk_rem (by omega) (by decide) (by decide), show (48 : Int32) = nI 48 from rfl]
    refine ev_iadd d_W_addNumber_63 ?_
    rw [nI_add]
    refine ev_iast (M1 := xset (rowM M a b f w) b (.inl (0, 240, .inl (gR m w.length K (wrF f w) j)))) d_W_addNumber_64 (xset_self _ _ _) ⟨rfl, vp_in_nI (N := 240) (by omega) (by decide)⟩ (by rw [nI_clamp (show w.length + j < 2 ^ 31 by omega), xset_xset, gR_step m w.length K (wrF f w) j (by omega)]) ?_
    refine ev_iload_n d_W_addNumber_65 rfl ?_
    refine ev_bipush (v := 10) d_W_addNumber_66 rfl ?_
    refine ev_idiv d_W_addNumber_68 (by decide) ?_
    refine ev_top (fun x_1 ex_1 => ?_)
    refine ev_istore_n (lo1 := [some (.ref a), some (.int (nI m)), some (.int (nI (w.length + K))), some (.int x_1), some (.int (nI (w.length + j)))]) d_W_addNumber_69 (Nat.le_of_ble_eq_true rfl) rfl ?_
    obtain ⟨x_2, ex_2⟩ : ∃ z : Int32, z = (nI (w.length + j)) + (-1) := ⟨_, rfl⟩
    refine ev_iinc (v := x_2) (lo1 := [some (.ref a), some (.int (nI m)), some (.int (nI (w.length + K))), some (.int x_1), some (.int x_2)]) d_W_addNumber_70 rfl (by rw [ex_2]; rfl) rfl ?_
    refine ev_goto (t := 42) d_W_addNumber_73 (by decide) ?_
    rw [show x_1 = nI (m / 10 ^ (K - j)) from by rw [ex_1, show (10 : Int32) = nI 10 from rfl, pk_div (by omega) (by decide) (by decide), Nat.div_div_eq_div_mul, ← Nat.pow_succ, show (K - (j + 1)).succ = K - j by omega], show x_2 = nI (w.length + j) - 1 from by rw [ex_2]; grind]
    exact ih (by omega)
set_option maxRecDepth 20000 in
theorem l_W_addNumber1 {d : Nat} {M : xMm} {n sl : Nat} {a b : Nat} {f : Nat → Int32} (hab : a ≠ b) (m : Nat) (hm : m < 1000000) (w : List Int32) (hw : w.length + (dg m).length ≤ 240)  : ∀ (g j : Nat), j + g = 5 → dn m g j = dn m 5 0 → xEv d k_W_addNumber 12 [some (.ref a), some (.int (nI m)), some (.int (nI (w.length + 1 + j))), some (.int (nI (m / 10 ^ (j + 1)))), none] [] ((rowM M a b f w), n, sl) (.inl none, (rowM M a b f (w ++ dg m), n, sl)) := by
  have hlen : (dg m).length = dn m 5 0 + 1 := dgn_len m _
  have hd5 := dn_le m 5 0
  have htail : ∀ (e r : Int32), e = nI (w.length + (dn m 5 0 + 1)) → xEv d k_W_addNumber 27 [some (.ref a), some (.int (nI m)), some (.int e), some (.int r), none] [] ((rowM M a b f w), n, sl) (.inl none, (rowM M a b f (w ++ dg m), n, sl)) := by
    intro e r he
    subst he
    refine ev_iload_n d_W_addNumber_27 rfl ?_
    refine ev_sipush (v := 240) d_W_addNumber_28 rfl ?_
    refine ev_icmp_le (t := 35) d_W_addNumber_31 (by decide) (fun _ => ?_) (fun c_31 => absurd (nI_le (b := 240) (by omega) (by decide)) c_31)
    refine ev_iload_n d_W_addNumber_35 rfl ?_
    refine ev_top (fun x_1 ex_1 => ?_)
    refine ev_istore_n (lo1 := [some (.ref a), some (.int (nI m)), some (.int (nI (w.length + (dn m 5 0 + 1)))), some (.int x_1), none]) d_W_addNumber_36 (Nat.le_of_ble_eq_true rfl) rfl ?_
    refine ev_iload_n d_W_addNumber_37 rfl ?_
    refine ev_iconst (v := 1) d_W_addNumber_38 rfl ?_
    refine ev_isub d_W_addNumber_39 ?_
    refine ev_top (fun x_2 ex_2 => ?_)
    refine ev_istore (lo1 := [some (.ref a), some (.int (nI m)), some (.int (nI (w.length + (dn m 5 0 + 1)))), some (.int x_1), some (.int x_2)]) d_W_addNumber_40 (Nat.le_of_ble_eq_true rfl) rfl ?_
    rw [show x_2 = nI (w.length + (dn m 5 0 + 1)) - 1 from ex_2, show x_1 = nI m from ex_1]
    have h := l_W_addNumber2 (d := d) (M := M) (n := n) (sl := sl) (f := f) hab m hm w (dn m 5 0 + 1) (by omega) (by omega) (dn m 5 0 + 1) (Nat.le_refl _) (nI m) (by rw [Nat.sub_self, Nat.pow_zero, Nat.div_one])
    rw [gR_top, xset_id (rowM_b M f w hab), gR_zero, rowM_set _ _ _ _ _ hab] at h
    refine xEv.to h ?_
    unfold rowM dg
    rw [List.length_append, dgn_len]
  intro g
  induction g with
  | zero =>
    intro j hj hd
    refine ev_iload_n d_W_addNumber_12 rfl ?_
    refine ev_if_le (t := 27) d_W_addNumber_13 (by decide) (fun _ => ?_) (fun c_13 => absurd (by rw [show m / 10 ^ (j + 1) = 0 from by rw [show j = 5 by omega]; omega]; decide) c_13)
    exact htail _ _ (by rw [← hd, show dn m 0 j = j from rfl, Nat.add_assoc, Nat.add_comm 1])
  | succ g ih =>
    intro j hj hd
    have hle : m / 10 ^ (j + 1) ≤ m := Nat.div_le_self _ _
    have hdd : m / 10 ^ (j + 1) = m / 10 ^ j / 10 := by rw [Nat.div_div_eq_div_mul, ← Nat.pow_succ]
    by_cases hc : m / 10 ^ j ≤ 9
    · have hq0 : m / 10 ^ (j + 1) = 0 := by rw [hdd]; exact Nat.div_eq_of_lt (Nat.lt_succ_of_le hc)
      refine ev_iload_n d_W_addNumber_12 rfl ?_
      refine ev_if_le (t := 27) d_W_addNumber_13 (by decide) (fun _ => ?_) (fun c_13 => absurd (by rw [hq0]; decide) c_13)
      exact htail _ _ (by rw [← hd, show dn m (g + 1) j = j from if_pos hc, Nat.add_assoc, Nat.add_comm 1])
    · have hq1 : 0 < m / 10 ^ (j + 1) := by rw [hdd]; exact Nat.div_pos (Nat.lt_of_not_le hc) (by decide)
      refine ev_iload_n d_W_addNumber_12 rfl ?_
      refine ev_if_le (t := 27) d_W_addNumber_13 (by decide) (fun c_13 => absurd c_13 (nI_nle (by omega) (by omega))) (fun _ => ?_)
      obtain ⟨x_1, ex_1⟩ : ∃ z : Int32, z = (nI (w.length + 1 + j)) + 1 := ⟨_, rfl⟩
      refine ev_iinc (v := x_1) (lo1 := [some (.ref a), some (.int (nI m)), some (.int x_1), some (.int (nI (m / 10 ^ (j + 1)))), none]) d_W_addNumber_16 rfl (by rw [ex_1]; rfl) rfl ?_
      refine ev_iload_n d_W_addNumber_19 rfl ?_
      refine ev_bipush (v := 10) d_W_addNumber_20 rfl ?_
      refine ev_idiv d_W_addNumber_22 (by decide) ?_
      refine ev_top (fun x_2 ex_2 => ?_)
      refine ev_istore_n (lo1 := [some (.ref a), some (.int (nI m)), some (.int x_1), some (.int x_2), none]) d_W_addNumber_23 (Nat.le_of_ble_eq_true rfl) rfl ?_
      refine ev_goto (t := 12) d_W_addNumber_24 (by decide) ?_
      rw [show x_1 = nI (w.length + 1 + (j + 1)) from by rw [ex_1, ← Nat.add_assoc, nI_succ], show x_2 = nI (m / 10 ^ (j + 1 + 1)) from by rw [ex_2, show (10 : Int32) = nI 10 from rfl, pk_div (by omega) (by decide) (by decide), Nat.div_div_eq_div_mul, ← Nat.pow_succ]]
      exact ih (j + 1) (by omega) (by rw [← hd, show dn m (g + 1) j = dn m g (j + 1) from if_neg hc])
set_option maxRecDepth 20000 in
theorem c_W_addNumber {d : Nat} {M : xMm} {n sl : Nat} {a b : Nat} {f : Nat → Int32} (hab : a ≠ b) (m : Nat) (hm : m < 1000000) (w : List Int32) (hw : w.length + (dg m).length ≤ 240)  : xCl d k_W_addNumber [.ref a, .int (nI m)] ((rowM M a b f w), n, sl) (.inl none, (rowM M a b f (w ++ dg m), n, sl)) := by
  show xEv _ k_W_addNumber 0 [some (.ref a), some (.int (nI m)), none, none, none] [] _ _
  refine ev_aload_n d_W_addNumber_0 rfl ?_
  refine ev_get d_W_addNumber_1 f_6_15 (rowM_a M a b f w) rfl ?_
  refine ev_iconst (v := 1) d_W_addNumber_4 rfl ?_
  refine ev_iadd d_W_addNumber_5 ?_
  rw [← nI_succ]
  refine ev_istore_n (lo1 := [some (.ref a), some (.int (nI m)), some (.int (nI (w.length + 1 + 0))), none, none]) d_W_addNumber_6 (Nat.le_of_ble_eq_true rfl) rfl ?_
  refine ev_iload_n d_W_addNumber_7 rfl ?_
  refine ev_bipush (v := 10) d_W_addNumber_8 rfl ?_
  rw [show (10 : Int32) = nI 10 from rfl]
  refine ev_idiv d_W_addNumber_10 (by decide) ?_
  rw [pk_div (by omega) (by decide) (by decide)]
  refine ev_istore_n (lo1 := [some (.ref a), some (.int (nI m)), some (.int (nI (w.length + 1 + 0))), some (.int (nI (m / 10 ^ (0 + 1)))), none]) d_W_addNumber_11 (Nat.le_of_ble_eq_true rfl) rfl ?_
  exact l_W_addNumber1 hab m hm w hw 5 0 (by omega) rfl
