/-! the reference: letters -/
def tp (tt : Nat → Nat) : Nat → Nat → List Int32
  | 0, _ => []
  | n + 1, k => [33] ++ dg (tt k) ++ tp tt n (k + 1)
theorem dg_1 {m : Nat} (h : m < 10) : (dg m).length = 1 := by
  unfold dg dn
  rw [if_pos (show m / 10 ^ 0 ≤ 9 by omega), dgn_len]
theorem dg_2 {m : Nat} (h : m < 100) : (dg m).length ≤ 2 := by
  unfold dg dn dn
  split
  · rw [dgn_len]
    omega
  · rw [if_pos (show m / 10 ^ (0 + 1) ≤ 9 by omega), dgn_len]
    omega
theorem tp_len (tt : Nat → Nat) (h : ∀ k, tt k < 10) : ∀ n k, (tp tt n k).length = 2 * n
  | 0, _ => rfl
  | n + 1, k => by simp [tp, tp_len tt h n (k + 1), dg_1 (h k)]; omega
def ltr (l th fi la fe : Nat) (tt : Nat → Nat) (n : Nat) : List Int32 := [35] ++ dg l ++ [64] ++ dg th ++ [58] ++ dg fi ++ [45] ++ dg la ++ [61] ++ dg fe ++ tp tt n 0
theorem ltr_len {l th fi la fe : Nat} {tt : Nat → Nat} {n : Nat} (h1 : l < 20) (h2 : th < 16) (ht : ∀ k, tt k < 10) (hn : n ≤ 100) : (ltr l th fi la fe tt n).length ≤ 227 := by
  have a1 := dg_2 (m := l) (by omega)
  have a2 := dg_2 (m := th) (by omega)
  have a3 := dg_len fi
  have a4 := dg_len la
  have a5 := dg_len fe
  simp only [ltr, List.length_append, List.length_cons, List.length_nil, tp_len tt ht]
  omega
set_option maxRecDepth 20000 in
theorem l_M_writeLetter {d : Nat} {B : xMm} {ad : Nat → Nat} {ix : Nat → Option Nat} {iv : Nat → Int32} {av : Nat → Nat → Int32} {ns : Nat × Nat} (ok : mOk ad ix) (l n : Nat) (tt : Nat → Nat) (hl : l < 20) (ht : ∀ k, tt k < 10) (hn : n ≤ 100) (hN : av 30 l = nI n) (hT : ∀ k, k < n → av 32 (100 * l + k) = nI (tt k))  : ∀ (i k : Nat) (w : List Int32), k + i = n → w.length + 2 * i ≤ 400 → xEv (d + 2) k_M_writeLetter 81 [some (.ref (ad 0)), some (.int (nI l)), some (.int (nI k))] [] (mM B ad ix (wI iv (w)) (wA av (w)), ns) (.inl none, (mM B ad ix (wI iv (w ++ tp tt i k)) (wA av (w ++ tp tt i k)), ns)) := by
  have el : (nI l).toNatClampNeg = l := nI_clamp (by omega)
  intro i
  induction i with
  | zero =>
    intro k w hk hw
    refine ev_iload_n d_M_writeLetter_81 rfl ?_
    refine ev_aload_n d_M_writeLetter_82 rfl ?_
    refine ev_get d_M_writeLetter_83 f_8_83 (mM_obj ok) rfl ?_
    refine ev_iload_n d_M_writeLetter_86 rfl ?_
    refine ev_iald d_M_writeLetter_87 (mM_arr ok 30 rfl) ⟨rfl, vp_in_nI (N := 20) (by omega) (by decide)⟩ rfl ?_
    rw [wA_ne (k := 30) (by decide), el, hN]
    refine ev_icmp_ge (t := 118) d_M_writeLetter_88 (by decide) (fun _ => ?_) (fun c_88 => absurd (nI_le (a := n) (b := k) (by omega) (by omega)) c_88)
    exact xEv.to (ev_ret d_M_writeLetter_118 rfl) (by simp [tp])
  | succ i ih =>
    intro k w hk hw
    refine ev_iload_n d_M_writeLetter_81 rfl ?_
    refine ev_aload_n d_M_writeLetter_82 rfl ?_
    refine ev_get d_M_writeLetter_83 f_8_83 (mM_obj ok) rfl ?_
    refine ev_iload_n d_M_writeLetter_86 rfl ?_
    refine ev_iald d_M_writeLetter_87 (mM_arr ok 30 rfl) ⟨rfl, vp_in_nI (N := 20) (by omega) (by decide)⟩ rfl ?_
    rw [wA_ne (k := 30) (by decide), el, hN]
    refine ev_icmp_ge (t := 118) d_M_writeLetter_88 (by decide) (fun c_88 => absurd c_88 (nI_ge (by omega) (by omega))) (fun _ => ?_)
    refine ev_aload_n d_M_writeLetter_91 rfl ?_
    refine ev_bipush (v := 33) d_M_writeLetter_92 rfl ?_
    refine ev_v1o d_M_writeLetter_94 q_8_152 rfl (mM_obj ok) ⟨rfl, Nat.le_of_ble_eq_true rfl, Nat.le_of_ble_eq_true rfl⟩ (c_M_putw ok _ _ (by omega)) ?_
    refine ev_aload_n d_M_writeLetter_97 rfl ?_
    refine ev_aload_n d_M_writeLetter_98 rfl ?_
    refine ev_get d_M_writeLetter_99 f_8_89 (mM_obj ok) rfl ?_
    refine ev_bipush (v := 100) d_M_writeLetter_102 rfl ?_
    refine ev_iload_n d_M_writeLetter_104 rfl ?_
    refine ev_imul d_M_writeLetter_105 ?_
    refine ev_iload_n d_M_writeLetter_106 rfl ?_
    refine ev_iadd d_M_writeLetter_107 ?_
    rw [nI100]
    refine ev_iald d_M_writeLetter_108 (mM_arr ok 32 rfl) ⟨rfl, vp_in_nI (N := 2000) (by omega) (by decide)⟩ rfl ?_
    rw [wA_ne (k := 32) (by decide), nI_clamp (show 100 * l + k < 2 ^ 31 by omega), hT k (by omega)]
    have hk9 := ht k
    have hk8 := dg_1 hk9
    refine ev_v1o d_M_writeLetter_109 q_8_165 rfl (mM_obj ok) ⟨rfl, Nat.le_of_ble_eq_true rfl, Nat.le_of_ble_eq_true rfl⟩ (c_M_putNumber ok _ (by omega) _ (by simp; omega)) ?_
    obtain ⟨x_1, ex_1⟩ : ∃ z : Int32, z = (nI k) + 1 := ⟨_, rfl⟩
    refine ev_iinc (v := x_1) (lo1 := [some (.ref (ad 0)), some (.int (nI l)), some (.int x_1)]) d_M_writeLetter_112 rfl (by rw [ex_1]; rfl) rfl ?_
    refine ev_goto (t := 81) d_M_writeLetter_115 (by decide) ?_
    rw [show x_1 = nI (k + 1) from by rw [ex_1, nI_succ]]
    exact xEv.to (ih (k + 1) _ (by omega) (by simp [dg_1 (ht k)]; omega)) (by simp [tp])
set_option maxRecDepth 20000 in
theorem c_M_writeLetter {d : Nat} {B : xMm} {ad : Nat → Nat} {ix : Nat → Option Nat} {iv : Nat → Int32} {av : Nat → Nat → Int32} {ns : Nat × Nat} (ok : mOk ad ix) (l n : Nat) (tt : Nat → Nat) (hl : l < 20) (ht : ∀ k, tt k < 10) (hn : n ≤ 100) (hN : av 30 l = nI n) (hT : ∀ k, k < n → av 32 (100 * l + k) = nI (tt k)) (c th fi la : Nat) (hc : c < 8) (hlc : av 24 l = nI c) (hth : av 25 l = nI th) (h16 : th < 16) (hfi : av 26 l = nI fi) (hla : av 27 l = nI la) (hfl : fi < 1000000 ∧ la < 1000000) (fe : Nat) (hfe : 5 * (av 27 l - av 26 l + 1) + 20 * av 4 c + (if av 28 l = 0 then 300 else 0) + 50 * av 30 l = nI fe) (hf6 : fe < 1000000)  : xCl (d + 2) k_M_writeLetter [.ref (ad 0), .int (nI l)] (mM B ad ix iv av, ns) (.inl none, (mM B ad ix (wI iv (ltr l th fi la fe tt n)) (wA av (ltr l th fi la fe tt n)), ns)) := by
  have el : (nI l).toNatClampNeg = l := nI_clamp (by omega)
  show xEv _ k_M_writeLetter 0 [some (.ref (ad 0)), some (.int (nI l)), none] [] _ _
  refine ev_aload_n d_M_writeLetter_0 rfl ?_
  refine ev_iconst (v := 0) d_M_writeLetter_1 rfl ?_
  refine ev_put d_M_writeLetter_2 f_8_149 (mM_obj ok) ⟨Nat.le_of_ble_eq_true rfl, xfit_i rfl, Or.inl rfl⟩ (mM_put ok rfl) ?_
  rw [show mM B ad ix (upd iv 17 0) av = mM B ad ix (wI iv []) (wA av []) by rw [show wI iv [] = upd iv 17 0 from rfl, show wA av [] = av from by funext k; simp [wA, va_up, wrF_nil]; intro h; rw [h]]]
  refine ev_aload_n d_M_writeLetter_5 rfl ?_
  refine ev_bipush (v := 35) d_M_writeLetter_6 rfl ?_
  refine ev_v1o d_M_writeLetter_8 q_8_152 rfl (mM_obj ok) ⟨rfl, Nat.le_of_ble_eq_true rfl, Nat.le_of_ble_eq_true rfl⟩ (c_M_putw ok _ _ (by have a1 := dg_len l; have a2 := dg_len th; have a3 := dg_len fi; have a4 := dg_len la; have a5 := dg_len fe; simp <;> omega)) ?_
  refine ev_aload_n d_M_writeLetter_11 rfl ?_
  refine ev_iload_n d_M_writeLetter_12 rfl ?_
  refine ev_v1o d_M_writeLetter_13 q_8_165 rfl (mM_obj ok) ⟨rfl, Nat.le_of_ble_eq_true rfl, Nat.le_of_ble_eq_true rfl⟩ (c_M_putNumber ok _ (by omega) _ (by have a1 := dg_len l; have a2 := dg_len th; have a3 := dg_len fi; have a4 := dg_len la; have a5 := dg_len fe; simp <;> omega)) ?_
  refine ev_aload_n d_M_writeLetter_16 rfl ?_
  refine ev_bipush (v := 64) d_M_writeLetter_17 rfl ?_
  refine ev_v1o d_M_writeLetter_19 q_8_152 rfl (mM_obj ok) ⟨rfl, Nat.le_of_ble_eq_true rfl, Nat.le_of_ble_eq_true rfl⟩ (c_M_putw ok _ _ (by have a1 := dg_len l; have a2 := dg_len th; have a3 := dg_len fi; have a4 := dg_len la; have a5 := dg_len fe; simp <;> omega)) ?_
  refine ev_aload_n d_M_writeLetter_22 rfl ?_
  refine ev_aload_n d_M_writeLetter_23 rfl ?_
  refine ev_get d_M_writeLetter_24 f_8_67 (mM_obj ok) rfl ?_
  refine ev_iload_n d_M_writeLetter_27 rfl ?_
  refine ev_iald d_M_writeLetter_28 (mM_arr ok 25 rfl) ⟨rfl, vp_in_nI (N := 20) (by omega) (by decide)⟩ rfl ?_
  rw [wA_ne (k := 25) (by decide), el, hth]
  refine ev_v1o d_M_writeLetter_29 q_8_165 rfl (mM_obj ok) ⟨rfl, Nat.le_of_ble_eq_true rfl, Nat.le_of_ble_eq_true rfl⟩ (c_M_putNumber ok _ (by omega) _ (by have a1 := dg_len l; have a2 := dg_len th; have a3 := dg_len fi; have a4 := dg_len la; have a5 := dg_len fe; simp <;> omega)) ?_
  refine ev_aload_n d_M_writeLetter_32 rfl ?_
  refine ev_bipush (v := 58) d_M_writeLetter_33 rfl ?_
  refine ev_v1o d_M_writeLetter_35 q_8_152 rfl (mM_obj ok) ⟨rfl, Nat.le_of_ble_eq_true rfl, Nat.le_of_ble_eq_true rfl⟩ (c_M_putw ok _ _ (by have a1 := dg_len l; have a2 := dg_len th; have a3 := dg_len fi; have a4 := dg_len la; have a5 := dg_len fe; simp <;> omega)) ?_
  refine ev_aload_n d_M_writeLetter_38 rfl ?_
  refine ev_aload_n d_M_writeLetter_39 rfl ?_
  refine ev_get d_M_writeLetter_40 f_8_70 (mM_obj ok) rfl ?_
  refine ev_iload_n d_M_writeLetter_43 rfl ?_
  refine ev_iald d_M_writeLetter_44 (mM_arr ok 26 rfl) ⟨rfl, vp_in_nI (N := 20) (by omega) (by decide)⟩ rfl ?_
  rw [wA_ne (k := 26) (by decide), el, hfi]
  refine ev_v1o d_M_writeLetter_45 q_8_165 rfl (mM_obj ok) ⟨rfl, Nat.le_of_ble_eq_true rfl, Nat.le_of_ble_eq_true rfl⟩ (c_M_putNumber ok _ (by omega) _ (by have a1 := dg_len l; have a2 := dg_len th; have a3 := dg_len fi; have a4 := dg_len la; have a5 := dg_len fe; simp <;> omega)) ?_
  refine ev_aload_n d_M_writeLetter_48 rfl ?_
  refine ev_bipush (v := 45) d_M_writeLetter_49 rfl ?_
  refine ev_v1o d_M_writeLetter_51 q_8_152 rfl (mM_obj ok) ⟨rfl, Nat.le_of_ble_eq_true rfl, Nat.le_of_ble_eq_true rfl⟩ (c_M_putw ok _ _ (by have a1 := dg_len l; have a2 := dg_len th; have a3 := dg_len fi; have a4 := dg_len la; have a5 := dg_len fe; simp <;> omega)) ?_
  refine ev_aload_n d_M_writeLetter_54 rfl ?_
  refine ev_aload_n d_M_writeLetter_55 rfl ?_
  refine ev_get d_M_writeLetter_56 f_8_73 (mM_obj ok) rfl ?_
  refine ev_iload_n d_M_writeLetter_59 rfl ?_
  refine ev_iald d_M_writeLetter_60 (mM_arr ok 27 rfl) ⟨rfl, vp_in_nI (N := 20) (by omega) (by decide)⟩ rfl ?_
  rw [wA_ne (k := 27) (by decide), el, hla]
  refine ev_v1o d_M_writeLetter_61 q_8_165 rfl (mM_obj ok) ⟨rfl, Nat.le_of_ble_eq_true rfl, Nat.le_of_ble_eq_true rfl⟩ (c_M_putNumber ok _ (by omega) _ (by have a1 := dg_len l; have a2 := dg_len th; have a3 := dg_len fi; have a4 := dg_len la; have a5 := dg_len fe; simp <;> omega)) ?_
  refine ev_aload_n d_M_writeLetter_64 rfl ?_
  refine ev_bipush (v := 61) d_M_writeLetter_65 rfl ?_
  refine ev_v1o d_M_writeLetter_67 q_8_152 rfl (mM_obj ok) ⟨rfl, Nat.le_of_ble_eq_true rfl, Nat.le_of_ble_eq_true rfl⟩ (c_M_putw ok _ _ (by have a1 := dg_len l; have a2 := dg_len th; have a3 := dg_len fi; have a4 := dg_len la; have a5 := dg_len fe; simp <;> omega)) ?_
  refine ev_aload_n d_M_writeLetter_70 rfl ?_
  refine ev_aload_n d_M_writeLetter_71 rfl ?_
  refine ev_iload_n d_M_writeLetter_72 rfl ?_
  refine ev_v1r d_M_writeLetter_73 q_8_206 rfl (mM_obj ok) ⟨rfl, Nat.le_of_ble_eq_true rfl, Nat.le_of_ble_eq_true rfl⟩ (c_M_allFee ok _ c hl hc (by rw [wA_ne (k := 24) (by decide)]; exact hlc)) ?_
  rw [wA_ne (k := 27) (by decide), wA_ne (k := 26) (by decide), wA_ne (k := 4) (by decide), wA_ne (k := 28) (by decide), wA_ne (k := 30) (by decide), hfe]
  refine ev_v1o d_M_writeLetter_76 q_8_165 rfl (mM_obj ok) ⟨rfl, Nat.le_of_ble_eq_true rfl, Nat.le_of_ble_eq_true rfl⟩ (c_M_putNumber ok _ (by omega) _ (by have a1 := dg_len l; have a2 := dg_len th; have a3 := dg_len fi; have a4 := dg_len la; have a5 := dg_len fe; simp <;> omega)) ?_
  refine ev_iconst (v := 0) d_M_writeLetter_79 rfl ?_
  refine ev_istore_n (lo1 := [some (.ref (ad 0)), some (.int (nI l)), some (.int 0)]) d_M_writeLetter_80 (Nat.le_of_ble_eq_true rfl) rfl ?_
  exact xEv.to (l_M_writeLetter ok l n tt hl ht hn hN hT n 0 _ (by omega) (by have a1 := dg_len l; have a2 := dg_len th; have a3 := dg_len fi; have a4 := dg_len la; have a5 := dg_len fe; simp <;> omega)) (by simp [ltr])
set_option maxRecDepth 20000 in
theorem c_M_letter_no1 {d : Nat} {B : xMm} {ad : Nat → Nat} {ix : Nat → Option Nat} {iv : Nat → Int32} {av : Nat → Nat → Int32} {ns : Nat × Nat} (ok : mOk ad ix) (l i : Int32) (h : ¬ ((0 ≤ l ∧ l < iv 23) ∧ -1 ≤ i)) : xCl (d + 3) k_M_letter [.ref (ad 0), .int l, .int i] (mM B ad ix iv av, ns) (.inl (some (.int 0)), (mM B ad ix (upd iv 0 1) (av), ns)) := by
  show xEv _ k_M_letter 0 [some (.ref (ad 0)), some (.int l), some (.int i), none] [] _ _
  refine ev_cutv (E := 18) (V := 0) ?_ (fun hk_1 => ?_)
  · refine ev_istore_n (lo1 := [some (.ref (ad 0)), some (.int l), some (.int i), some (.int (0))]) d_M_letter_18 (Nat.le_of_ble_eq_true rfl) rfl ?_
    refine ev_iload_n d_M_letter_19 rfl ?_
    refine ev_if_eq (t := 28) d_M_letter_20 (by decide) (fun _ => ?_) (fun c_20 => absurd rfl c_20)
    refine ev_aload_n d_M_letter_28 rfl ?_
    refine ev_cutv (E := 46) (V := 0) ?_ (fun hk_2 => ?_)
    · refine ev_iconst (v := 1) d_M_letter_46 rfl ?_
      refine ev_iconst (v := 1) d_M_letter_47 rfl ?_
      refine ev_v3r d_M_letter_48 q_8_116 rfl (mM_obj ok) ⟨rfl, Nat.le_of_ble_eq_true rfl, Nat.le_of_ble_eq_true rfl⟩ (c_M_goes ok _ _ _) ?_
      refine ev_if_ne (t := 56) d_M_letter_51 (by decide) (fun c_51 => absurd (by decide) c_51) (fun _ => ?_)
      refine ev_iconst (v := 0) d_M_letter_54 rfl ?_
      exact xEv.to (ev_iret d_M_letter_55 rfl) (by grind [upd, va_up, xbi, mgo])
    · refine ev_iload_n d_M_letter_29 rfl ?_
      refine ev_if_eq (t := 45) d_M_letter_30 (by decide) (fun _ => ?_) (fun c_30 => absurd rfl c_30)
      refine ev_iconst (v := 0) d_M_letter_45 rfl ?_
      exact hk_2 _ (by grind)
  · refine ev_aload_n d_M_letter_0 rfl ?_
    refine ev_iload_n d_M_letter_1 rfl ?_
    refine ev_v1r d_M_letter_2 q_8_184 rfl (mM_obj ok) ⟨rfl, Nat.le_of_ble_eq_true rfl, Nat.le_of_ble_eq_true rfl⟩ (c_M_isLoan ok _) ?_
    refine ev_if_eq (t := 17) d_M_letter_5 (by decide) (fun c_5_3 => ?_) (fun c_5_3 => ?_)
    · refine ev_iconst (v := 0) d_M_letter_17 rfl ?_
      exact hk_1 _ (by grind [xbi])
    · refine ev_iload_n d_M_letter_8 rfl ?_
      refine ev_iconst (v := (-1)) d_M_letter_9 rfl ?_
      refine ev_icmp_lt (t := 17) d_M_letter_10 (by decide) (fun c_10_4 => ?_) (fun c_10_4 => ?_)
      · refine ev_iconst (v := 0) d_M_letter_17 rfl ?_
        exact hk_1 _ (by grind [xbi])
      · refine ev_iconst (v := 1) d_M_letter_13 rfl ?_
        refine ev_goto (t := 18) d_M_letter_14 (by decide) ?_
        exact hk_1 _ (by grind [xbi])
set_option maxRecDepth 20000 in
theorem c_M_letter_no2 {d : Nat} {B : xMm} {ad : Nat → Nat} {ix : Nat → Option Nat} {iv : Nat → Int32} {av : Nat → Nat → Int32} {ns : Nat × Nat} (ok : mOk ad ix) (i : Int32) (l n : Nat) (tt : Nat → Nat) (hl : l < 20) (ht : ∀ k, tt k < 10) (hn : n ≤ 100) (hN : av 30 l = nI n) (hT : ∀ k, k < n → av 32 (100 * l + k) = nI (tt k)) (c th fi la : Nat) (hc : c < 8) (hlc : av 24 l = nI c) (hth : av 25 l = nI th) (h16 : th < 16) (hfi : av 26 l = nI fi) (hla : av 27 l = nI la) (hfl : fi < 1000000 ∧ la < 1000000) (fe : Nat) (hfe : 5 * (av 27 l - av 26 l + 1) + 20 * av 4 c + (if av 28 l = 0 then 300 else 0) + 50 * av 30 l = nI fe) (hf6 : fe < 1000000) (h : (0 ≤ nI l ∧ nI l < iv 23) ∧ -1 ≤ i) (h2 : ¬ i < nI (ltr l th fi la fe tt n).length) : xCl (d + 3) k_M_letter [.ref (ad 0), .int (nI l), .int i] (mM B ad ix iv av, ns) (.inl (some (.int 0)), (mM B ad ix (upd (wI iv (ltr l th fi la fe tt n)) 0 1) (wA av (ltr l th fi la fe tt n)), ns)) := by
  have hlen := ltr_len (l := l) (th := th) (fi := fi) (la := la) (fe := fe) hl h16 ht hn
  show xEv _ k_M_letter 0 [some (.ref (ad 0)), some (.int (nI l)), some (.int i), none] [] _ _
  refine ev_cutv (E := 18) (V := 1) ?_ (fun hk_1 => ?_)
  · refine ev_istore_n (lo1 := [some (.ref (ad 0)), some (.int (nI l)), some (.int i), some (.int (1))]) d_M_letter_18 (Nat.le_of_ble_eq_true rfl) rfl ?_
    refine ev_iload_n d_M_letter_19 rfl ?_
    refine ev_if_eq (t := 28) d_M_letter_20 (by decide) (fun c_20 => absurd c_20 (by grind)) (fun _ => ?_)
    refine ev_aload_n d_M_letter_23 rfl ?_
    refine ev_iload_n d_M_letter_24 rfl ?_
    refine ev_v1o d_M_letter_25 q_8_209 rfl (mM_obj ok) ⟨rfl, Nat.le_of_ble_eq_true rfl, Nat.le_of_ble_eq_true rfl⟩ (c_M_writeLetter ok l n tt hl ht hn hN hT c th fi la hc hlc hth h16 hfi hla hfl fe hfe hf6) ?_
    refine ev_aload_n d_M_letter_28 rfl ?_
    refine ev_cutv (E := 46) (V := 0) ?_ (fun hk_2 => ?_)
    · refine ev_iconst (v := 1) d_M_letter_46 rfl ?_
      refine ev_iconst (v := 1) d_M_letter_47 rfl ?_
      refine ev_v3r d_M_letter_48 q_8_116 rfl (mM_obj ok) ⟨rfl, Nat.le_of_ble_eq_true rfl, Nat.le_of_ble_eq_true rfl⟩ (c_M_goes ok _ _ _) ?_
      refine ev_if_ne (t := 56) d_M_letter_51 (by decide) (fun c_51 => absurd (by decide) c_51) (fun _ => ?_)
      refine ev_iconst (v := 0) d_M_letter_54 rfl ?_
      exact xEv.to (ev_iret d_M_letter_55 rfl) rfl
    · refine ev_iload_n d_M_letter_29 rfl ?_
      refine ev_if_eq (t := 45) d_M_letter_30 (by decide) (fun c_30 => absurd c_30 (by grind)) (fun _ => ?_)
      refine ev_iload_n d_M_letter_33 rfl ?_
      refine ev_aload_n d_M_letter_34 rfl ?_
      refine ev_get d_M_letter_35 f_8_149 (mM_obj ok) rfl ?_
      refine ev_icmp_ge (t := 45) d_M_letter_38 (by decide) (fun c_38_3 => ?_) (fun c_38_3 => ?_)
      · refine ev_iconst (v := 0) d_M_letter_45 rfl ?_
        exact hk_2 _ (by (try rw [wI_17] at *) <;> grind)
      · refine ev_iconst (v := 1) d_M_letter_41 rfl ?_
        refine ev_goto (t := 46) d_M_letter_42 (by decide) ?_
        exact hk_2 _ (by (try rw [wI_17] at *) <;> grind)
  · refine ev_aload_n d_M_letter_0 rfl ?_
    refine ev_iload_n d_M_letter_1 rfl ?_
    refine ev_v1r d_M_letter_2 q_8_184 rfl (mM_obj ok) ⟨rfl, Nat.le_of_ble_eq_true rfl, Nat.le_of_ble_eq_true rfl⟩ (c_M_isLoan ok _) ?_
    refine ev_if_eq (t := 17) d_M_letter_5 (by decide) (fun c_5_4 => ?_) (fun c_5_4 => ?_)
    · refine ev_iconst (v := 0) d_M_letter_17 rfl ?_
      exact hk_1 _ (by grind [xbi])
    · refine ev_iload_n d_M_letter_8 rfl ?_
      refine ev_iconst (v := (-1)) d_M_letter_9 rfl ?_
      refine ev_icmp_lt (t := 17) d_M_letter_10 (by decide) (fun c_10_5 => ?_) (fun c_10_5 => ?_)
      · refine ev_iconst (v := 0) d_M_letter_17 rfl ?_
        exact hk_1 _ (by grind [xbi])
      · refine ev_iconst (v := 1) d_M_letter_13 rfl ?_
        refine ev_goto (t := 18) d_M_letter_14 (by decide) ?_
        exact hk_1 _ (by grind [xbi])
set_option maxRecDepth 20000 in
theorem c_M_letter_n {d : Nat} {B : xMm} {ad : Nat → Nat} {ix : Nat → Option Nat} {iv : Nat → Int32} {av : Nat → Nat → Int32} {ns : Nat × Nat} (ok : mOk ad ix) (i : Int32) (l n : Nat) (tt : Nat → Nat) (hl : l < 20) (ht : ∀ k, tt k < 10) (hn : n ≤ 100) (hN : av 30 l = nI n) (hT : ∀ k, k < n → av 32 (100 * l + k) = nI (tt k)) (c th fi la : Nat) (hc : c < 8) (hlc : av 24 l = nI c) (hth : av 25 l = nI th) (h16 : th < 16) (hfi : av 26 l = nI fi) (hla : av 27 l = nI la) (hfl : fi < 1000000 ∧ la < 1000000) (fe : Nat) (hfe : 5 * (av 27 l - av 26 l + 1) + 20 * av 4 c + (if av 28 l = 0 then 300 else 0) + 50 * av 30 l = nI fe) (hf6 : fe < 1000000) (h : 0 ≤ nI l ∧ nI l < iv 23) (h2 : i = -1) : xCl (d + 3) k_M_letter [.ref (ad 0), .int (nI l), .int i] (mM B ad ix iv av, ns) (.inl (some (.int (nI (ltr l th fi la fe tt n).length))), (mM B ad ix (upd (wI iv (ltr l th fi la fe tt n)) 0 0) (wA av (ltr l th fi la fe tt n)), ns)) := by
  have hlen := ltr_len (l := l) (th := th) (fi := fi) (la := la) (fe := fe) hl h16 ht hn
  have h3 := nI_pos' (n := (ltr l th fi la fe tt n).length) (by omega)
  show xEv _ k_M_letter 0 [some (.ref (ad 0)), some (.int (nI l)), some (.int i), none] [] _ _
  refine ev_cutv (E := 18) (V := 1) ?_ (fun hk_1 => ?_)
  · refine ev_istore_n (lo1 := [some (.ref (ad 0)), some (.int (nI l)), some (.int i), some (.int (1))]) d_M_letter_18 (Nat.le_of_ble_eq_true rfl) rfl ?_
    refine ev_iload_n d_M_letter_19 rfl ?_
    refine ev_if_eq (t := 28) d_M_letter_20 (by decide) (fun c_20 => absurd c_20 (by grind)) (fun _ => ?_)
    refine ev_aload_n d_M_letter_23 rfl ?_
    refine ev_iload_n d_M_letter_24 rfl ?_
    refine ev_v1o d_M_letter_25 q_8_209 rfl (mM_obj ok) ⟨rfl, Nat.le_of_ble_eq_true rfl, Nat.le_of_ble_eq_true rfl⟩ (c_M_writeLetter ok l n tt hl ht hn hN hT c th fi la hc hlc hth h16 hfi hla hfl fe hfe hf6) ?_
    refine ev_aload_n d_M_letter_28 rfl ?_
    refine ev_cutv (E := 46) (V := 1) ?_ (fun hk_2 => ?_)
    · refine ev_iconst (v := 1) d_M_letter_46 rfl ?_
      refine ev_iconst (v := 1) d_M_letter_47 rfl ?_
      refine ev_v3r d_M_letter_48 q_8_116 rfl (mM_obj ok) ⟨rfl, Nat.le_of_ble_eq_true rfl, Nat.le_of_ble_eq_true rfl⟩ (c_M_goes ok _ _ _) ?_
      refine ev_if_ne (t := 56) d_M_letter_51 (by decide) (fun _ => ?_) (fun c_51 => absurd c_51 (by decide))
      refine ev_iload_n d_M_letter_56 rfl ?_
      refine ev_iconst (v := (-1)) d_M_letter_57 rfl ?_
      refine ev_icmp_ne (t := 68) d_M_letter_58 (by decide) (fun c_58 => absurd h2 c_58) (fun _ => ?_)
      refine ev_aload_n d_M_letter_61 rfl ?_
      refine ev_get d_M_letter_62 f_8_149 (mM_obj ok) rfl ?_
      refine ev_goto (t := 74) d_M_letter_65 (by decide) ?_
      exact xEv.to (ev_iret d_M_letter_74 rfl) (by simp [mgo, upd, wI_17])
    · refine ev_iload_n d_M_letter_29 rfl ?_
      refine ev_if_eq (t := 45) d_M_letter_30 (by decide) (fun c_30 => absurd c_30 (by grind)) (fun _ => ?_)
      refine ev_iload_n d_M_letter_33 rfl ?_
      refine ev_aload_n d_M_letter_34 rfl ?_
      refine ev_get d_M_letter_35 f_8_149 (mM_obj ok) rfl ?_
      refine ev_icmp_ge (t := 45) d_M_letter_38 (by decide) (fun c_38_3 => ?_) (fun c_38_3 => ?_)
      · refine ev_iconst (v := 0) d_M_letter_45 rfl ?_
        exact hk_2 _ (by (try rw [wI_17] at *) <;> grind)
      · refine ev_iconst (v := 1) d_M_letter_41 rfl ?_
        refine ev_goto (t := 46) d_M_letter_42 (by decide) ?_
        exact hk_2 _ (by (try rw [wI_17] at *) <;> grind)
  · refine ev_aload_n d_M_letter_0 rfl ?_
    refine ev_iload_n d_M_letter_1 rfl ?_
    refine ev_v1r d_M_letter_2 q_8_184 rfl (mM_obj ok) ⟨rfl, Nat.le_of_ble_eq_true rfl, Nat.le_of_ble_eq_true rfl⟩ (c_M_isLoan ok _) ?_
    refine ev_if_eq (t := 17) d_M_letter_5 (by decide) (fun c_5_4 => ?_) (fun c_5_4 => ?_)
    · refine ev_iconst (v := 0) d_M_letter_17 rfl ?_
      exact hk_1 _ (by grind [xbi])
    · refine ev_iload_n d_M_letter_8 rfl ?_
      refine ev_iconst (v := (-1)) d_M_letter_9 rfl ?_
      refine ev_icmp_lt (t := 17) d_M_letter_10 (by decide) (fun c_10_5 => ?_) (fun c_10_5 => ?_)
      · refine ev_iconst (v := 0) d_M_letter_17 rfl ?_
        exact hk_1 _ (by grind [xbi])
      · refine ev_iconst (v := 1) d_M_letter_13 rfl ?_
        refine ev_goto (t := 18) d_M_letter_14 (by decide) ?_
        exact hk_1 _ (by grind [xbi])
set_option maxRecDepth 20000 in
theorem c_M_letter_s {d : Nat} {B : xMm} {ad : Nat → Nat} {ix : Nat → Option Nat} {iv : Nat → Int32} {av : Nat → Nat → Int32} {ns : Nat × Nat} (ok : mOk ad ix) (i : Int32) (l n : Nat) (tt : Nat → Nat) (hl : l < 20) (ht : ∀ k, tt k < 10) (hn : n ≤ 100) (hN : av 30 l = nI n) (hT : ∀ k, k < n → av 32 (100 * l + k) = nI (tt k)) (c th fi la : Nat) (hc : c < 8) (hlc : av 24 l = nI c) (hth : av 25 l = nI th) (h16 : th < 16) (hfi : av 26 l = nI fi) (hla : av 27 l = nI la) (hfl : fi < 1000000 ∧ la < 1000000) (fe : Nat) (hfe : 5 * (av 27 l - av 26 l + 1) + 20 * av 4 c + (if av 28 l = 0 then 300 else 0) + 50 * av 30 l = nI fe) (hf6 : fe < 1000000) (h : 0 ≤ nI l ∧ nI l < iv 23) (j : Nat) (s : Int32) (h2 : i = nI j) (hs : (ltr l th fi la fe tt n)[j]? = some s) : xCl (d + 3) k_M_letter [.ref (ad 0), .int (nI l), .int i] (mM B ad ix iv av, ns) (.inl (some (.int s)), (mM B ad ix (upd (wI iv (ltr l th fi la fe tt n)) 0 0) (wA av (ltr l th fi la fe tt n)), ns)) := by
  have hlen := ltr_len (l := l) (th := th) (fi := fi) (la := la) (fe := fe) hl h16 ht hn
  have hj : j < (ltr l th fi la fe tt n).length := (List.getElem?_eq_some_iff.mp hs).1
  have h3 := nI_pos' (n := j) (by omega)
  have h5 : i < nI (ltr l th fi la fe tt n).length := by rw [h2]; exact nI_lt hj (by omega)
  have h4 : ¬ i = -1 := by grind
  show xEv _ k_M_letter 0 [some (.ref (ad 0)), some (.int (nI l)), some (.int i), none] [] _ _
  refine ev_cutv (E := 18) (V := 1) ?_ (fun hk_1 => ?_)
  · refine ev_istore_n (lo1 := [some (.ref (ad 0)), some (.int (nI l)), some (.int i), some (.int (1))]) d_M_letter_18 (Nat.le_of_ble_eq_true rfl) rfl ?_
    refine ev_iload_n d_M_letter_19 rfl ?_
    refine ev_if_eq (t := 28) d_M_letter_20 (by decide) (fun c_20 => absurd c_20 (by grind)) (fun _ => ?_)
    refine ev_aload_n d_M_letter_23 rfl ?_
    refine ev_iload_n d_M_letter_24 rfl ?_
    refine ev_v1o d_M_letter_25 q_8_209 rfl (mM_obj ok) ⟨rfl, Nat.le_of_ble_eq_true rfl, Nat.le_of_ble_eq_true rfl⟩ (c_M_writeLetter ok l n tt hl ht hn hN hT c th fi la hc hlc hth h16 hfi hla hfl fe hfe hf6) ?_
    refine ev_aload_n d_M_letter_28 rfl ?_
    refine ev_cutv (E := 46) (V := 1) ?_ (fun hk_2 => ?_)
    · refine ev_iconst (v := 1) d_M_letter_46 rfl ?_
      refine ev_iconst (v := 1) d_M_letter_47 rfl ?_
      refine ev_v3r d_M_letter_48 q_8_116 rfl (mM_obj ok) ⟨rfl, Nat.le_of_ble_eq_true rfl, Nat.le_of_ble_eq_true rfl⟩ (c_M_goes ok _ _ _) ?_
      refine ev_if_ne (t := 56) d_M_letter_51 (by decide) (fun _ => ?_) (fun c_51 => absurd c_51 (by decide))
      refine ev_iload_n d_M_letter_56 rfl ?_
      refine ev_iconst (v := (-1)) d_M_letter_57 rfl ?_
      refine ev_icmp_ne (t := 68) d_M_letter_58 (by decide) (fun _ => ?_) (fun c_58 => absurd c_58 h4)
      refine ev_aload_n d_M_letter_68 rfl ?_
      refine ev_get d_M_letter_69 f_8_46 (mM_obj ok) rfl ?_
      refine ev_iload_n d_M_letter_72 rfl ?_
      refine ev_iald d_M_letter_73 (mM_arr ok 16 rfl) ⟨rfl, (by rw [h2]; exact vp_in_nI (N := 400) (by omega) (by decide))⟩ rfl ?_
      rw [h2, nI_clamp (by omega), wA_16, wrF_at hs]
      exact xEv.to (ev_iret d_M_letter_74 rfl) rfl
    · refine ev_iload_n d_M_letter_29 rfl ?_
      refine ev_if_eq (t := 45) d_M_letter_30 (by decide) (fun c_30 => absurd c_30 (by grind)) (fun _ => ?_)
      refine ev_iload_n d_M_letter_33 rfl ?_
      refine ev_aload_n d_M_letter_34 rfl ?_
      refine ev_get d_M_letter_35 f_8_149 (mM_obj ok) rfl ?_
      refine ev_icmp_ge (t := 45) d_M_letter_38 (by decide) (fun c_38_3 => ?_) (fun c_38_3 => ?_)
      · refine ev_iconst (v := 0) d_M_letter_45 rfl ?_
        exact hk_2 _ (by (try rw [wI_17] at *) <;> grind)
      · refine ev_iconst (v := 1) d_M_letter_41 rfl ?_
        refine ev_goto (t := 46) d_M_letter_42 (by decide) ?_
        exact hk_2 _ (by (try rw [wI_17] at *) <;> grind)
  · refine ev_aload_n d_M_letter_0 rfl ?_
    refine ev_iload_n d_M_letter_1 rfl ?_
    refine ev_v1r d_M_letter_2 q_8_184 rfl (mM_obj ok) ⟨rfl, Nat.le_of_ble_eq_true rfl, Nat.le_of_ble_eq_true rfl⟩ (c_M_isLoan ok _) ?_
    refine ev_if_eq (t := 17) d_M_letter_5 (by decide) (fun c_5_4 => ?_) (fun c_5_4 => ?_)
    · refine ev_iconst (v := 0) d_M_letter_17 rfl ?_
      exact hk_1 _ (by grind [xbi])
    · refine ev_iload_n d_M_letter_8 rfl ?_
      refine ev_iconst (v := (-1)) d_M_letter_9 rfl ?_
      refine ev_icmp_lt (t := 17) d_M_letter_10 (by decide) (fun c_10_5 => ?_) (fun c_10_5 => ?_)
      · refine ev_iconst (v := 0) d_M_letter_17 rfl ?_
        exact hk_1 _ (by grind [xbi])
      · refine ev_iconst (v := 1) d_M_letter_13 rfl ?_
        refine ev_goto (t := 18) d_M_letter_14 (by decide) ?_
        exact hk_1 _ (by grind [xbi])
