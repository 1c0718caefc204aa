/-! texts: a list laid into an array; numbers as digits -/
def wrF (f : Nat → Int32) (w : List Int32) : Nat → Int32 := fun i => (w[i]?).getD (f i)
theorem wrF_nil (f : Nat → Int32) : wrF f [] = f := by funext i; simp [wrF]
theorem wrF_put (f : Nat → Int32) (w : List Int32) (s : Int32) : upd (wrF f w) w.length s = wrF f (w ++ [s]) := by
  funext i
  unfold upd wrF
  by_cases h : i = w.length
  · subst h
    simp
  · by_cases h2 : i < w.length
    · simp [h, List.getElem?_append_left h2]
    · have h3 : w.length + 1 ≤ i := by omega
      simp [h, List.getElem?_eq_none (Nat.le_of_not_lt h2), List.getElem?_eq_none (show (w ++ [s]).length ≤ i by simp; omega)]
theorem wrF_at {f : Nat → Int32} {w : List Int32} {i : Nat} {s : Int32} (h : w[i]? = some s) : wrF f w i = s := by simp [wrF, h]
theorem wrF_base (f : Nat → Int32) (w u : List Int32) : wrF f (w ++ u) = wrF (wrF f (w ++ u)) w := by
  funext i
  unfold wrF
  by_cases h2 : i < w.length
  · simp [List.getElem?_append_left h2, h2]
  · simp [List.getElem?_eq_none (Nat.le_of_not_lt h2)]
def wI (iv : Nat → Int32) (w : List Int32) : Nat → Int32 := upd iv 17 (nI w.length)
def wA (av : Nat → Nat → Int32) (w : List Int32) : Nat → Nat → Int32 := va_up av 16 (wrF (av 16) w)
theorem wI_ne {iv : Nat → Int32} {w : List Int32} {k : Nat} (h : k ≠ 17) : wI iv w k = iv k := by simp [wI, upd, h]
theorem wI_17 (iv : Nat → Int32) (w : List Int32) : wI iv w 17 = nI w.length := by simp [wI, upd]
theorem wA_ne {av : Nat → Nat → Int32} {w : List Int32} {k : Nat} (h : k ≠ 16) : wA av w k = av k := va_up_ne _ _ h
theorem wA_16 (av : Nat → Nat → Int32) (w : List Int32) : wA av w 16 = wrF (av 16) w := va_up_self _ _ _
theorem va_up_up {α : Type} (f : Nat → α) (k : Nat) (u v : α) : va_up (va_up f k u) k v = va_up f k v := by funext j; simp [va_up]; grind
theorem upd_upd (f : Nat → Int32) (k : Nat) (u v : Int32) : upd (upd f k u) k v = upd f k v := by funext j; simp [upd]; grind
/-- the first j from which on the number has no further digit -/
def dn (m : Nat) : Nat → Nat → Nat
  | 0, j => j
  | f + 1, j => if m / 10 ^ j ≤ 9 then j else dn m f (j + 1)
def dgn (m : Nat) : Nat → List Int32
  | 0 => [nI (48 + m % 10)]
  | j + 1 => nI (48 + m / 10 ^ (j + 1) % 10) :: dgn m j
def dg (m : Nat) : List Int32 := dgn m (dn m 5 0)
theorem dn_le (m : Nat) : ∀ f j, dn m f j ≤ f + j
  | 0, j => by simp [dn]
  | f + 1, j => by
    unfold dn
    split
    · omega
    · have := dn_le m f (j + 1)
      omega
theorem dgn_len (m : Nat) : ∀ j, (dgn m j).length = j + 1
  | 0 => rfl
  | j + 1 => by simp [dgn, dgn_len m j]
theorem dg_len (m : Nat) : (dg m).length ≤ 6 := by
  unfold dg
  rw [dgn_len]
  have := dn_le m 5 0
  omega
theorem dg_pos (m : Nat) : 1 ≤ (dg m).length := by
  unfold dg
  rw [dgn_len]
  omega
theorem p10 {j : Nat} (h : j ≤ 5) : 10 ^ j ≤ 100000 := Nat.le_trans (Nat.pow_le_pow_right (by decide) h) (by decide)
theorem p10p (j : Nat) : 0 < 10 ^ j := Nat.pow_pos (by decide)
theorem c_M_putw {d : Nat} {B : xMm} {ad : Nat → Nat} {ix : Nat → Option Nat} {iv : Nat → Int32} {av : Nat → Nat → Int32} {ns : Nat × Nat} (ok : mOk ad ix) (s : Int32) (w : List Int32) (hw : w.length < 400) : xCl d k_M_put [.ref (ad 0), .int s] (mM B ad ix (wI iv (w)) (wA av (w)), ns) (.inl none, (mM B ad ix (wI iv (w ++ [s])) (wA av (w ++ [s])), ns)) := by
  have h := c_M_put (d := d) (B := B) (ns := ns) (iv := wI iv w) (av := wA av w) ok s w.length hw (wI_17 iv w)
  rw [show upd (wI iv w) 17 (nI (w.length + 1)) = wI iv (w ++ [s]) by simp [wI, upd_upd], show va_up (wA av w) 16 (upd (wA av w 16) w.length s) = wA av (w ++ [s]) by rw [wA_16, wrF_put]; simp [wA, va_up_up]] at h
  exact h
set_option maxRecDepth 20000 in
theorem l_M_putNumber2 {d : Nat} {B : xMm} {ad : Nat → Nat} {ix : Nat → Option Nat} {iv : Nat → Int32} {av : Nat → Nat → Int32} {ns : Nat × Nat} (ok : mOk ad ix) (m : Nat) (hm : m < 1000000) : ∀ (j : Nat) (w : List Int32), j ≤ 5 → w.length + (dgn m j).length ≤ 400 → xEv (d + 1) k_M_putNumber 18 [some (.ref (ad 0)), some (.int (nI m)), some (.int (nI (10 ^ j)))] [] (mM B ad ix (wI iv (w)) (wA av (w)), ns) (.inl none, (mM B ad ix (wI iv (w ++ dgn m j)) (wA av (w ++ dgn m j)), ns)) := by
  intro j
  induction j with
  | zero =>
    intro w hj hw
    have hdj : nI m / nI (10 ^ 0) = nI (m / 10 ^ 0) := pk_div (by omega) (by decide) (by decide)
    rw [show dgn m 0 = [nI (48 + m / 10 ^ 0 % 10)] from by simp [dgn]]
    refine ev_iload_n d_M_putNumber_18 rfl ?_
    refine ev_if_le (t := 43) d_M_putNumber_19 (by decide) (fun c_19 => absurd c_19 (by decide)) (fun _ => ?_)
    refine ev_aload_n d_M_putNumber_22 rfl ?_
    refine ev_bipush (v := 48) d_M_putNumber_23 rfl ?_
    refine ev_iload_n d_M_putNumber_25 rfl ?_
    refine ev_iload_n d_M_putNumber_26 rfl ?_
    refine ev_idiv d_M_putNumber_27 (nI_ne0 (p10p _) (by omega)) ?_
    rw [hdj]
    refine ev_bipush (v := 10) d_M_putNumber_28 rfl ?_
    rw [show (10 : Int32) = nI 10 from rfl]
    refine ev_irem d_M_putNumber_30 (by decide) ?_
    rw [pk_rem (by omega) (by decide) (by decide), show (48 : Int32) = nI 48 from rfl]
    refine ev_iadd d_M_putNumber_31 ?_
    rw [nI_add]
    refine ev_v1o d_M_putNumber_32 q_8_152 rfl (mM_obj ok) ⟨rfl, Nat.le_of_ble_eq_true rfl, Nat.le_of_ble_eq_true rfl⟩ (c_M_putw ok _ _ (by have := hw; simp [dgn_len] at this; omega)) ?_
    refine ev_iload_n d_M_putNumber_35 rfl ?_
    refine ev_bipush (v := 10) d_M_putNumber_36 rfl ?_
    refine ev_idiv d_M_putNumber_38 (by decide) ?_
    refine ev_top (fun x_1 ex_1 => ?_)
    refine ev_istore_n (lo1 := [some (.ref (ad 0)), some (.int (nI m)), some (.int x_1)]) d_M_putNumber_39 (Nat.le_of_ble_eq_true rfl) rfl ?_
    refine ev_goto (t := 18) d_M_putNumber_40 (by decide) ?_
    rw [show x_1 = 0 from by rw [ex_1]; rfl]
    refine ev_iload_n d_M_putNumber_18 rfl ?_
    refine ev_if_le (t := 43) d_M_putNumber_19 (by decide) (fun _ => ?_) (fun c_19 => absurd (by decide) c_19)
    exact ev_ret d_M_putNumber_43 rfl
  | succ j ih =>
    intro w hj hw
    have hp := p10 hj
    have hp2 := p10p (j + 1)
    have hp3 := p10 (show j ≤ 5 by omega)
    have hdj : nI m / nI (10 ^ (j + 1)) = nI (m / 10 ^ (j + 1)) := pk_div (by omega) hp2 (by omega)
    have hlt : m / 10 ^ (j + 1) ≤ m := Nat.div_le_self _ _
    refine ev_iload_n d_M_putNumber_18 rfl ?_
    refine ev_if_le (t := 43) d_M_putNumber_19 (by decide) (fun c_19 => absurd c_19 (nI_nle (p10p _) (by omega))) (fun _ => ?_)
    refine ev_aload_n d_M_putNumber_22 rfl ?_
    refine ev_bipush (v := 48) d_M_putNumber_23 rfl ?_
    refine ev_iload_n d_M_putNumber_25 rfl ?_
    refine ev_iload_n d_M_putNumber_26 rfl ?_
    refine ev_idiv d_M_putNumber_27 (nI_ne0 (p10p _) (by omega)) ?_
    rw [hdj]
    refine ev_bipush (v := 10) d_M_putNumber_28 rfl ?_
    rw [show (10 : Int32) = nI 10 from rfl]
    refine ev_irem d_M_putNumber_30 (by decide) ?_
    rw [pk_rem (by omega) (by decide) (by decide), show (48 : Int32) = nI 48 from rfl]
    refine ev_iadd d_M_putNumber_31 ?_
    rw [nI_add]
    refine ev_v1o d_M_putNumber_32 q_8_152 rfl (mM_obj ok) ⟨rfl, Nat.le_of_ble_eq_true rfl, Nat.le_of_ble_eq_true rfl⟩ (c_M_putw ok _ _ (by have := hw; simp [dgn_len] at this; omega)) ?_
    refine ev_iload_n d_M_putNumber_35 rfl ?_
    refine ev_bipush (v := 10) d_M_putNumber_36 rfl ?_
    refine ev_idiv d_M_putNumber_38 (by decide) ?_
    refine ev_top (fun x_1 ex_1 => ?_)
    refine ev_istore_n (lo1 := [some (.ref (ad 0)), some (.int (nI m)), some (.int x_1)]) d_M_putNumber_39 (Nat.le_of_ble_eq_true rfl) rfl ?_
    refine ev_goto (t := 18) d_M_putNumber_40 (by decide) ?_
    rw [show x_1 = nI (10 ^ j) from by rw [ex_1, show (10 : Int32) = nI 10 from rfl, pk_div (by omega) (by decide) (by decide), Nat.pow_succ, Nat.mul_div_cancel _ (by decide)]]
    exact xEv.to (ih _ (by omega) (by have := hw; simp [dgn_len] at this ⊢; omega)) (by simp [dgn])
set_option maxRecDepth 20000 in
theorem l_M_putNumber1 {d : Nat} {B : xMm} {ad : Nat → Nat} {ix : Nat → Option Nat} {iv : Nat → Int32} {av : Nat → Nat → Int32} {ns : Nat × Nat} (ok : mOk ad ix) (m : Nat) (hm : m < 1000000) (w : List Int32) : ∀ (f j : Nat), j + f = 5 → w.length + (dgn m (dn m f j)).length ≤ 400 → xEv (d + 1) k_M_putNumber 2 [some (.ref (ad 0)), some (.int (nI m)), some (.int (nI (10 ^ j)))] [] (mM B ad ix (wI iv (w)) (wA av (w)), ns) (.inl none, (mM B ad ix (wI iv (w ++ dgn m (dn m f j))) (wA av (w ++ dgn m (dn m f j))), ns)) := by
  intro f
  induction f with
  | zero =>
    intro j hj hw
    have hj5 : j = 5 := by omega
    have hp := p10 (show j ≤ 5 by omega)
    have hp2 := p10p j
    have hdj : nI m / nI (10 ^ j) = nI (m / 10 ^ j) := pk_div (by omega) hp2 (by omega)
    have hlt : m / 10 ^ j ≤ m := Nat.div_le_self _ _
    refine ev_iload_n d_M_putNumber_2 rfl ?_
    refine ev_iload_n d_M_putNumber_3 rfl ?_
    refine ev_idiv d_M_putNumber_4 (nI_ne0 (p10p _) (by omega)) ?_
    rw [hdj]
    refine ev_bipush (v := 9) d_M_putNumber_5 rfl ?_
    refine ev_icmp_le (t := 18) d_M_putNumber_7 (by decide) (fun _ => ?_) (fun c_7 => absurd (nI_le (b := 9) (by rw [show j = 5 by omega]; omega) (by decide)) c_7)
    exact l_M_putNumber2 ok m hm _ _ (by omega) hw
  | succ f ih =>
    intro j hj hw
    have hp := p10 (show j ≤ 5 by omega)
    have hp2 := p10p j
    have hdj : nI m / nI (10 ^ j) = nI (m / 10 ^ j) := pk_div (by omega) hp2 (by omega)
    have hlt : m / 10 ^ j ≤ m := Nat.div_le_self _ _
    by_cases hc : m / 10 ^ j ≤ 9
    · refine ev_iload_n d_M_putNumber_2 rfl ?_
      refine ev_iload_n d_M_putNumber_3 rfl ?_
      refine ev_idiv d_M_putNumber_4 (nI_ne0 (p10p _) (by omega)) ?_
      rw [hdj]
      refine ev_bipush (v := 9) d_M_putNumber_5 rfl ?_
      refine ev_icmp_le (t := 18) d_M_putNumber_7 (by decide) (fun _ => ?_) (fun c_7 => absurd (nI_le (b := 9) hc (by decide)) c_7)
      exact xEv.to (l_M_putNumber2 ok m hm j _ (by omega) (by rw [show dn m (f + 1) j = j from if_pos hc] at hw; exact hw)) (by rw [show dn m (f + 1) j = j from if_pos hc])
    · refine ev_iload_n d_M_putNumber_2 rfl ?_
      refine ev_iload_n d_M_putNumber_3 rfl ?_
      refine ev_idiv d_M_putNumber_4 (nI_ne0 (p10p _) (by omega)) ?_
      rw [hdj]
      refine ev_bipush (v := 9) d_M_putNumber_5 rfl ?_
      refine ev_icmp_le (t := 18) d_M_putNumber_7 (by decide) (fun c_7 => absurd c_7 (nI_ge (a := 9) (by omega) (by omega))) (fun _ => ?_)
      refine ev_iload_n d_M_putNumber_10 rfl ?_
      refine ev_bipush (v := 10) d_M_putNumber_11 rfl ?_
      refine ev_imul d_M_putNumber_13 ?_
      refine ev_top (fun x_1 ex_1 => ?_)
      refine ev_istore_n (lo1 := [some (.ref (ad 0)), some (.int (nI m)), some (.int x_1)]) d_M_putNumber_14 (Nat.le_of_ble_eq_true rfl) rfl ?_
      refine ev_goto (t := 2) d_M_putNumber_15 (by decide) ?_
      rw [show x_1 = nI (10 ^ (j + 1)) from by rw [ex_1, show (10 : Int32) = nI 10 from rfl, pk_mul, Nat.pow_succ]]
      exact xEv.to (ih _ (by omega) (by rw [show dn m (f + 1) j = dn m f (j + 1) from if_neg hc] at hw; exact hw)) (by rw [show dn m (f + 1) j = dn m f (j + 1) from if_neg hc])
set_option maxRecDepth 20000 in
theorem c_M_putNumber {d : Nat} {B : xMm} {ad : Nat → Nat} {ix : Nat → Option Nat} {iv : Nat → Int32} {av : Nat → Nat → Int32} {ns : Nat × Nat} (ok : mOk ad ix) (m : Nat) (hm : m < 1000000) (w : List Int32) (hw : w.length + (dg m).length ≤ 400) : xCl (d + 1) k_M_putNumber [.ref (ad 0), .int (nI m)] (mM B ad ix (wI iv (w)) (wA av (w)), ns) (.inl none, (mM B ad ix (wI iv (w ++ dg m)) (wA av (w ++ dg m)), ns)) := by
  show xEv _ k_M_putNumber 0 [some (.ref (ad 0)), some (.int (nI m)), none] [] _ _
  refine ev_iconst (v := 1) d_M_putNumber_0 rfl ?_
  refine ev_istore_n (lo1 := [some (.ref (ad 0)), some (.int (nI m)), some (.int 1)]) d_M_putNumber_1 (Nat.le_of_ble_eq_true rfl) rfl ?_
  exact l_M_putNumber1 ok m hm w 5 0 (by omega) hw
