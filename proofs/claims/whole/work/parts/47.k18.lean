/-! the class: a contract read -/
def CT (N : xMm) (c0 k : Nat) (rf : Nat → Option Nat) (tx : List Int32) : Prop := N c0 = some (.inr (1, [.ref (c0 + 1), .ref (c0 + 2), .int (nI k)])) ∧ N (c0 + 1) = some (.inl (6, 6, .inr (.inr (.inr (.inr rf))))) ∧ N (c0 + 2) = some (.inr (6, [.ref (c0 + 3), .int (nI tx.length)])) ∧ N (c0 + 3) = some (.inl (0, 240, .inl (wrF (fun _ => 0) tx)))
theorem CT.keep {N N2 : xMm} {c0 k : Nat} {rf : Nat → Option Nat} {tx : List Int32} (h : CT N c0 k rf tx) (hk : ∀ x, c0 ≤ x → x < c0 + 4 → N2 x = N x) : CT N2 c0 k rf tx := by
  obtain ⟨h1, h2, h3, h4⟩ := h
  exact ⟨(hk _ (by omega) (by omega)).trans h1, (hk _ (by omega) (by omega)).trans h2, (hk _ (by omega) (by omega)).trans h3, (hk _ (by omega) (by omega)).trans h4⟩
theorem rN_cB {N B : xMm} {lo h a : Nat} {D : Den} (hN : rN N lo h a D) (hB : ∀ x, lo ≤ x → B x = N x) : cN B h a D :=
  rN_c h a D (rN_keep h a D hN (fun x e g1 _ g3 => (hB x g1).trans g3) (fun kd nm nu i x g => ⟨x, (hB a (rN_lo hN)).trans g⟩))
theorem rN_cell {N : xMm} {lo h a : Nat} {D : Den} (hN : rN N lo h a D) : ∃ vs, N a = some (.inr (4, vs)) := by
  cases h with
  | zero => exact absurd hN id
  | succ h =>
    obtain ⟨-, kd, nm, nu, i, x, h2, -⟩ := hN
    exact ⟨_, h2⟩
set_option maxRecDepth 20000 in
theorem l_R_readContract {ra w ba c0 : Nat} {s : Nat → Int32} {len : Nat} (hw0 : w < c0 ∧ ba < c0 ∧ ra < c0) : ∀ (kk e p cnt : Nat) (N : xMm) (n sl : Nat) (rf : Nat → Option Nat) (tx : List Int32), RS N n ra w ba s len → CT N c0 cnt rf tx → c0 + 4 ≤ n → p ≤ len → cnt + kk = 6 → tx.length ≤ 2 * p → ∀ o3 : Option Value, ∃ (N1 : xMm) (n1 sl1 : Nat) (v : Value), xEv (e + 496) k_R_readContract 10 [some (.ref ra), some (.ref c0), some (.int (nI kk - 1)), o3] [] (rdM N ra w p, n, sl) (.inl (some v), (rdM N1 ra w (pC s len kk p).1, n1, sl1)) ∧ (∀ x, x < n → (x < c0 ∨ c0 + 4 ≤ x) → N1 x = N x) ∧ n ≤ n1 ∧ n1 + p ≤ n + (pC s len kk p).1 ∧ sl1 = sl + 5 * (n1 - n) ∧ (((pC s len kk p).2 = none ∧ v = .null) ∨ ∃ (Ds : List Den) (rf1 : Nat → Option Nat), (pC s len kk p).2 = some Ds ∧ v = .ref c0 ∧ CT N1 c0 (cnt + Ds.length) rf1 (tx ++ txS Ds) ∧ (∀ t, t < cnt → rf1 t = rf t) ∧ ∀ t, t < Ds.length → ∃ (a : Nat) (D : Den), rf1 (cnt + t) = some a ∧ n ≤ a ∧ a < n1 ∧ Ds[t]? = some D ∧ rN N1 n 31 a D) := by
  intro kk
  induction kk with
  | zero =>
    intro e p cnt N n sl rf tx hR hT hc0 hp hcnt htx o3
    refine ⟨N, n, sl, .null, ?_, fun _ _ _ => rfl, Nat.le_refl _, Nat.le_refl _, by omega, Or.inl ⟨rfl, rfl⟩⟩
    refine ev_iload_n d_R_readContract_10 rfl ?_
    refine ev_if_lt (t := 80) d_R_readContract_11 (by decide) (fun _ => ?_) (fun c_11 => absurd (by decide) c_11)
    refine ev_null d_R_readContract_80 ?_
    exact ev_aretN d_R_readContract_81 rfl
  | succ kk ih =>
    intro e p cnt N n sl rf tx hR hT hc0 hp hcnt htx o3
    have h80 := hR.2.2.2.2.2.2.2.2
    rw [nI_pred]
    obtain ⟨N1, n1, sl1, v, hcl, hk, hn, hbd, hs, hr⟩ := (c_R_all 246).2.1 e 124 0 p N n sl hR hp (by omega) (Or.inl rfl) (by simp only [if_true]; omega)
    have hq1 := pP_bd s len 246 1 124 0 0 p hp (by decide)
    have hql := fun q Ds (h : pP s len 246 1 124 0 0 p = (q, some Ds)) => (pP_len s len 246 1 124 0 0 p q Ds hp (by decide) h).1 (by decide)
    rw [show e + 2 * 246 + 3 = e + 495 by omega] at hcl
    rw [pC]
    cases hq : pP s len 246 1 124 0 0 p with
    | mk q o =>
    rw [hq] at hcl hbd hr hq1 hql
    simp only at hcl hbd hr hq1
    have hR1 := hR.keep hn hk
    rcases hr with ⟨rfl, rfl⟩ | ⟨a, D, rfl, rfl, ha1, ha2, hN, hcell⟩
    · refine ⟨N1, n1, sl1, .null, ?_, fun x hx _ => hk x hx, hn, by first | omega | (simp only; omega), hs, Or.inl ⟨rfl, rfl⟩⟩
      refine ev_iload_n d_R_readContract_10 rfl ?_
      refine ev_if_lt (t := 80) d_R_readContract_11 (by decide) (fun c_11 => absurd c_11 (nI_pos (by omega))) (fun _ => ?_)
      refine ev_aload_n d_R_readContract_14 rfl ?_
      refine ev_bipush (v := 124) d_R_readContract_15 rfl ?_
      refine ev_iconst (v := 0) d_R_readContract_17 rfl ?_
      refine ev_v2r d_R_readContract_18 q_5_22 rfl (xset_self _ _ _) ⟨rfl, Nat.le_of_ble_eq_true rfl, Nat.le_of_ble_eq_true rfl⟩ hcl ?_
      refine ev_astore_nN (lo1 := [some (.ref ra), some (.ref c0), some (.int (nI kk)), some (.null)]) d_R_readContract_21 (Nat.le_of_ble_eq_true rfl) rfl ?_
      refine ev_aload_nN d_R_readContract_22 rfl ?_
      refine ev_ifnonnullN d_R_readContract_23 ?_
      refine ev_null d_R_readContract_26 ?_
      exact ev_aretN d_R_readContract_27 rfl
    · obtain ⟨D9, hD9, hlen⟩ := hql q [D] rfl
      cases hD9
      have hN : rN N1 n 31 a D := hN
      have hT1 : CT N1 c0 cnt rf tx := hT.keep (fun x _ g => hk x (by omega))
      obtain ⟨vs, hvs⟩ := rN_cell hN
      have hra : ∀ x, c0 ≤ x → x ≠ ra := fun x hx => by omega
      have hrd : ∀ x, c0 ≤ x → rdM N1 ra w q x = N1 x := fun x hx => xset_ne _ _ (hra x hx)
      have hrow : rdM N1 ra w q = rowM (rdM N1 ra w q) (c0 + 2) (c0 + 3) (fun _ => 0) tx := by
        unfold rowM
        rw [xset_id ((hrd _ (by omega)).trans hT1.2.2.2), xset_id ((hrd _ (by omega)).trans hT1.2.2.1)]
      have hca1 : rdM N1 ra w q c0 = some (.inr (1, [.ref (c0 + 1), .ref (c0 + 2), .int (nI cnt)])) := (hrd _ (by omega)).trans hT1.1
      have hwr := c_C_write (B := fun x => if c0 + 4 ≤ x then N1 x else none) (N := (xset (xset (rdM N1 ra w q) (c0 + 1) (.inl (6, 6, .inr (.inr (.inr (.inr (va_up rf cnt (some a)))))))) c0 (.inr (1, [.ref (c0 + 1), .ref (c0 + 2), .int (nI (cnt + 1))])))) (n := n1) (sl := sl1) (ca := c0) (ro := c0 + 1) (xr := c0 + 2) (xa := c0 + 3) (z := nI (cnt + 1)) (f := fun _ => 0) (by omega) (fun x y hy => by
        by_cases g : c0 + 4 ≤ x
        · simp only [if_pos g] at hy
          exact ⟨by omega, by omega, (xset_ne _ _ (by omega)).trans ((xset_ne _ _ (by omega)).trans ((hrd x (by omega)).trans hy))⟩
        · simp only [if_neg g] at hy
          cases hy) (xset_self _ _ _) (by omega) (by omega) 31 (e + 431) a D (rN_cB hN (fun x hx => if_pos (by omega))) 0 tx ⟨0, rfl, by omega⟩ (by omega)
      rw [show e + 431 + 2 * 31 + 1 = e + 494 by omega] at hwr
      have hadd := c_C_add (B := fun _ => none) (n := n1) (sl := sl1) (rf := rf) (show c0 + 2 ≠ c0 + 3 by omega) hca1 ((hrd _ (by omega)).trans hT1.2.1) (show c0 ≠ c0 + 2 by omega) (show c0 ≠ c0 + 3 by omega) (show c0 ≠ c0 + 1 by omega) (show c0 + 1 ≠ c0 + 2 by omega) (show c0 + 1 ≠ c0 + 3 by omega) (show cnt < 6 by omega) a ((hrd a (by omega)).trans hvs) (by omega) (by omega) D tx (by omega) hwr (by omega)
      have hback : rowM (xset (xset (rdM N1 ra w q) (c0 + 1) (.inl (6, 6, .inr (.inr (.inr (.inr (va_up rf cnt (some a)))))))) c0 (.inr (1, [.ref (c0 + 1), .ref (c0 + 2), .int (nI (cnt + 1))]))) (c0 + 2) (c0 + 3) (fun _ => 0) (tx ++ D.2 ++ [59]) = rdM (rowM (xset (xset N1 (c0 + 1) (.inl (6, 6, .inr (.inr (.inr (.inr (va_up rf cnt (some a)))))))) c0 (.inr (1, [.ref (c0 + 1), .ref (c0 + 2), .int (nI (cnt + 1))]))) (c0 + 2) (c0 + 3) (fun _ => 0) (tx ++ D.2 ++ [59])) ra w q := by
        unfold rowM
        rw [rd_new _ _ (by omega), rd_new _ _ (by omega), rd_new _ _ (by omega), rd_new _ _ (by omega)]
      generalize hN3 : (rowM (xset (xset N1 (c0 + 1) (.inl (6, 6, .inr (.inr (.inr (.inr (va_up rf cnt (some a)))))))) c0 (.inr (1, [.ref (c0 + 1), .ref (c0 + 2), .int (nI (cnt + 1))]))) (c0 + 2) (c0 + 3) (fun _ => 0) (tx ++ D.2 ++ [59])) = N3 at hback
      have hk3 : ∀ x, (x < c0 ∨ c0 + 4 ≤ x) → N3 x = N1 x := fun x hx => by
        rw [← hN3]
        exact (rowM_ne _ _ _ (by omega) (by omega)).trans ((xset_ne _ _ (by omega)).trans (xset_ne _ _ (by omega)))
      have hT3 : CT N3 c0 (cnt + 1) (va_up rf cnt (some a)) (tx ++ D.2 ++ [59]) := by
        rw [← hN3]
        exact ⟨(rowM_ne _ _ _ (by omega) (by omega)).trans (xset_self _ _ _), (rowM_ne _ _ _ (by omega) (by omega)).trans ((xset_ne _ _ (by omega)).trans (xset_self _ _ _)), rowM_a _ _ _ _ _, rowM_b _ _ _ (by omega)⟩
      have hR3 : RS N3 n1 ra w ba s len := by
        obtain ⟨g1, g2, g3⟩ := hR1
        exact ⟨(hk3 w (by omega)).trans g1, (hk3 ba (by omega)).trans g2, g3⟩
      have hkk : ∀ x, x < n → (x < c0 ∨ c0 + 4 ≤ x) → N3 x = N x := fun x hx hx2 => (hk3 x hx2).trans (hk x hx)
      have hNa : rN N3 n 31 a D := rN_keep _ a D hN (fun x y g1 _ g3 => (hk3 x (by omega)).trans g3) (fun kd nm nu i x g => ⟨x, (hk3 a (by omega)).trans g⟩)
      by_cases hlq : len ≤ q
      · simp only [if_pos hlq]
        refine ⟨N3, n1, sl1, .ref c0, ?_, hkk, hn, by first | omega | (simp only; omega), hs, Or.inr ⟨[D], va_up rf cnt (some a), rfl, rfl, ?_, fun t ht => va_up_ne _ _ (by omega), fun t ht => ?_⟩⟩
        · refine ev_iload_n d_R_readContract_10 rfl ?_
          refine ev_if_lt (t := 80) d_R_readContract_11 (by decide) (fun c_11 => absurd c_11 (nI_pos (by omega))) (fun _ => ?_)
          refine ev_aload_n d_R_readContract_14 rfl ?_
          refine ev_bipush (v := 124) d_R_readContract_15 rfl ?_
          refine ev_iconst (v := 0) d_R_readContract_17 rfl ?_
          refine ev_v2r d_R_readContract_18 q_5_22 rfl (xset_self _ _ _) ⟨rfl, Nat.le_of_ble_eq_true rfl, Nat.le_of_ble_eq_true rfl⟩ hcl ?_
          refine ev_astore_n (lo1 := [some (.ref ra), some (.ref c0), some (.int (nI kk)), some (.ref a)]) d_R_readContract_21 (Nat.le_of_ble_eq_true rfl) rfl ?_
          refine ev_aload_n d_R_readContract_22 rfl ?_
          refine ev_ifnonnull (t := 28) d_R_readContract_23 (by decide) ?_
          refine ev_aload_n d_R_readContract_28 rfl ?_
          refine ev_aload_n d_R_readContract_29 rfl ?_
          rw [hrow]
          refine ev_v1o d_R_readContract_30 q_5_26 rfl ((rowM_ne _ _ _ (by omega) (by omega)).trans hca1) ⟨rfl, Nat.le_of_ble_eq_true rfl, Nat.le_of_ble_eq_true rfl⟩ hadd ?_
          rw [hback]
          refine ev_aload_n d_R_readContract_33 rfl ?_
          refine ev_get d_R_readContract_34 f_5_9 ((xset_self _ _ _)) rfl ?_
          refine ev_aload_n d_R_readContract_37 rfl ?_
          refine ev_get d_R_readContract_38 f_5_15 ((xset_self _ _ _)) rfl ?_
          refine ev_get d_R_readContract_41 f_5_30 (((xset_ne _ _ hR3.2.2.1).trans hR3.1)) rfl ?_
          refine ev_icmp_lt (t := 49) d_R_readContract_44 (by decide) (fun c_44 => absurd c_44 (nI_nlt hlq (by omega))) (fun _ => ?_)
          refine ev_aload_n d_R_readContract_47 rfl ?_
          exact ev_aret d_R_readContract_48 rfl
        · rw [show tx ++ txS [D] = tx ++ D.2 ++ [59] by simp [txS]]
          exact hT3
        · have ht0 : t = 0 := by simpa using ht
          subst ht0
          exact ⟨a, D, va_up_self _ _ _, ha1, ha2, rfl, hNa⟩
      · simp only [if_neg hlq]
        by_cases h59 : sg s len q = 59 ∧ kk ≠ 0
        · rw [if_pos h59]
          obtain ⟨N4, n4, sl4, v4, hx3, hk4, hn4, hb4, hs4, hr4⟩ := ih e (q + 1) (cnt + 1) N3 n1 sl1 (va_up rf cnt (some a)) (tx ++ D.2 ++ [59]) hR3 hT3 (by omega) (by omega) (by omega) (by simp; omega) (some (.ref a))
          have hkk4 : ∀ x, x < n → (x < c0 ∨ c0 + 4 ≤ x) → N4 x = N x := fun x hx hx2 => (hk4 x (by omega) hx2).trans (hkk x hx hx2)
          cases hqc : pC s len kk (q + 1) with
          | mk q4 o4 =>
          rw [hqc] at hx3 hb4 hr4
          simp only at hx3 hb4 hr4
          rcases hr4 with ⟨rfl, rfl⟩ | ⟨Ds, rf4, rfl, rfl, hT4, hrf4, hts⟩
          · refine ⟨N4, n4, sl4, .null, ?_, hkk4, by omega, by first | omega | (simp only; omega), by omega, Or.inl ⟨rfl, rfl⟩⟩
            refine ev_iload_n d_R_readContract_10 rfl ?_
            refine ev_if_lt (t := 80) d_R_readContract_11 (by decide) (fun c_11 => absurd c_11 (nI_pos (by omega))) (fun _ => ?_)
            refine ev_aload_n d_R_readContract_14 rfl ?_
            refine ev_bipush (v := 124) d_R_readContract_15 rfl ?_
            refine ev_iconst (v := 0) d_R_readContract_17 rfl ?_
            refine ev_v2r d_R_readContract_18 q_5_22 rfl (xset_self _ _ _) ⟨rfl, Nat.le_of_ble_eq_true rfl, Nat.le_of_ble_eq_true rfl⟩ hcl ?_
            refine ev_astore_n (lo1 := [some (.ref ra), some (.ref c0), some (.int (nI kk)), some (.ref a)]) d_R_readContract_21 (Nat.le_of_ble_eq_true rfl) rfl ?_
            refine ev_aload_n d_R_readContract_22 rfl ?_
            refine ev_ifnonnull (t := 28) d_R_readContract_23 (by decide) ?_
            refine ev_aload_n d_R_readContract_28 rfl ?_
            refine ev_aload_n d_R_readContract_29 rfl ?_
            rw [hrow]
            refine ev_v1o d_R_readContract_30 q_5_26 rfl ((rowM_ne _ _ _ (by omega) (by omega)).trans hca1) ⟨rfl, Nat.le_of_ble_eq_true rfl, Nat.le_of_ble_eq_true rfl⟩ hadd ?_
            rw [hback]
            refine ev_aload_n d_R_readContract_33 rfl ?_
            refine ev_get d_R_readContract_34 f_5_9 ((xset_self _ _ _)) rfl ?_
            refine ev_aload_n d_R_readContract_37 rfl ?_
            refine ev_get d_R_readContract_38 f_5_15 ((xset_self _ _ _)) rfl ?_
            refine ev_get d_R_readContract_41 f_5_30 (((xset_ne _ _ hR3.2.2.1).trans hR3.1)) rfl ?_
            refine ev_icmp_lt (t := 49) d_R_readContract_44 (by decide) (fun _ => ?_) (fun c_44 => absurd (nI_lt (by omega) (by omega)) c_44)
            refine ev_aload_n d_R_readContract_49 rfl ?_
            refine ev_v0r d_R_readContract_50 q_5_35 rfl (xset_self _ _ _) ⟨rfl, Nat.le_of_ble_eq_true rfl, Nat.le_of_ble_eq_true rfl⟩ (c_R_sign hR3 q (by omega)) ?_
            refine ev_bipush (v := 59) d_R_readContract_53 rfl ?_
            refine ev_icmp_ne (t := 62) d_R_readContract_55 (by decide) (fun c_55 => absurd h59.1 c_55) (fun _ => ?_)
            refine ev_iload_n d_R_readContract_58 rfl ?_
            refine ev_if_ne (t := 64) d_R_readContract_59 (by decide) (fun _ => ?_) (fun c_59 => absurd c_59 (nI_ne0 (by omega) (by omega)))
            refine ev_aload_n d_R_readContract_64 rfl ?_
            refine ev_dup d_R_readContract_65 rfl ?_
            refine ev_get d_R_readContract_66 f_5_9 ((xset_self _ _ _)) rfl ?_
            refine ev_iconst (v := 1) d_R_readContract_69 rfl ?_
            refine ev_iadd d_R_readContract_70 ?_
            refine ev_put (M1 := (rdM N3 ra w (q + 1))) d_R_readContract_71 f_5_9 ((xset_self _ _ _)) ⟨Nat.le_of_ble_eq_true rfl, (xfit_i rfl), Or.inl rfl⟩ (by rw [← nI_succ]; exact rd_put N3 ra w q (q + 1)) ?_
            obtain ⟨x_1, ex_1⟩ : ∃ z : Int32, z = (nI kk) + (-1) := ⟨_, rfl⟩
            refine ev_iinc (v := x_1) (lo1 := [some (.ref ra), some (.ref c0), some (.int x_1), some (.ref a)]) d_R_readContract_74 rfl (by rw [ex_1]; rfl) rfl ?_
            refine ev_goto (t := 10) d_R_readContract_77 (by decide) ?_
            rw [show x_1 = nI kk - 1 from by rw [ex_1]; grind]
            exact hx3
          · refine ⟨N4, n4, sl4, .ref c0, ?_, hkk4, by omega, by first | omega | (simp only; omega), by omega, Or.inr ⟨D :: Ds, rf4, rfl, rfl, ?_, fun t ht => (hrf4 t (by omega)).trans (va_up_ne _ _ (by omega)), fun t ht => ?_⟩⟩
            · refine ev_iload_n d_R_readContract_10 rfl ?_
              refine ev_if_lt (t := 80) d_R_readContract_11 (by decide) (fun c_11 => absurd c_11 (nI_pos (by omega))) (fun _ => ?_)
              refine ev_aload_n d_R_readContract_14 rfl ?_
              refine ev_bipush (v := 124) d_R_readContract_15 rfl ?_
              refine ev_iconst (v := 0) d_R_readContract_17 rfl ?_
              refine ev_v2r d_R_readContract_18 q_5_22 rfl (xset_self _ _ _) ⟨rfl, Nat.le_of_ble_eq_true rfl, Nat.le_of_ble_eq_true rfl⟩ hcl ?_
              refine ev_astore_n (lo1 := [some (.ref ra), some (.ref c0), some (.int (nI kk)), some (.ref a)]) d_R_readContract_21 (Nat.le_of_ble_eq_true rfl) rfl ?_
              refine ev_aload_n d_R_readContract_22 rfl ?_
              refine ev_ifnonnull (t := 28) d_R_readContract_23 (by decide) ?_
              refine ev_aload_n d_R_readContract_28 rfl ?_
              refine ev_aload_n d_R_readContract_29 rfl ?_
              rw [hrow]
              refine ev_v1o d_R_readContract_30 q_5_26 rfl ((rowM_ne _ _ _ (by omega) (by omega)).trans hca1) ⟨rfl, Nat.le_of_ble_eq_true rfl, Nat.le_of_ble_eq_true rfl⟩ hadd ?_
              rw [hback]
              refine ev_aload_n d_R_readContract_33 rfl ?_
              refine ev_get d_R_readContract_34 f_5_9 ((xset_self _ _ _)) rfl ?_
              refine ev_aload_n d_R_readContract_37 rfl ?_
              refine ev_get d_R_readContract_38 f_5_15 ((xset_self _ _ _)) rfl ?_
              refine ev_get d_R_readContract_41 f_5_30 (((xset_ne _ _ hR3.2.2.1).trans hR3.1)) rfl ?_
              refine ev_icmp_lt (t := 49) d_R_readContract_44 (by decide) (fun _ => ?_) (fun c_44 => absurd (nI_lt (by omega) (by omega)) c_44)
              refine ev_aload_n d_R_readContract_49 rfl ?_
              refine ev_v0r d_R_readContract_50 q_5_35 rfl (xset_self _ _ _) ⟨rfl, Nat.le_of_ble_eq_true rfl, Nat.le_of_ble_eq_true rfl⟩ (c_R_sign hR3 q (by omega)) ?_
              refine ev_bipush (v := 59) d_R_readContract_53 rfl ?_
              refine ev_icmp_ne (t := 62) d_R_readContract_55 (by decide) (fun c_55 => absurd h59.1 c_55) (fun _ => ?_)
              refine ev_iload_n d_R_readContract_58 rfl ?_
              refine ev_if_ne (t := 64) d_R_readContract_59 (by decide) (fun _ => ?_) (fun c_59 => absurd c_59 (nI_ne0 (by omega) (by omega)))
              refine ev_aload_n d_R_readContract_64 rfl ?_
              refine ev_dup d_R_readContract_65 rfl ?_
              refine ev_get d_R_readContract_66 f_5_9 ((xset_self _ _ _)) rfl ?_
              refine ev_iconst (v := 1) d_R_readContract_69 rfl ?_
              refine ev_iadd d_R_readContract_70 ?_
              refine ev_put (M1 := (rdM N3 ra w (q + 1))) d_R_readContract_71 f_5_9 ((xset_self _ _ _)) ⟨Nat.le_of_ble_eq_true rfl, (xfit_i rfl), Or.inl rfl⟩ (by rw [← nI_succ]; exact rd_put N3 ra w q (q + 1)) ?_
              obtain ⟨x_1, ex_1⟩ : ∃ z : Int32, z = (nI kk) + (-1) := ⟨_, rfl⟩
              refine ev_iinc (v := x_1) (lo1 := [some (.ref ra), some (.ref c0), some (.int x_1), some (.ref a)]) d_R_readContract_74 rfl (by rw [ex_1]; rfl) rfl ?_
              refine ev_goto (t := 10) d_R_readContract_77 (by decide) ?_
              rw [show x_1 = nI kk - 1 from by rw [ex_1]; grind]
              exact hx3
            · rw [show cnt + (D :: Ds).length = cnt + 1 + Ds.length by simp; omega, show tx ++ txS (D :: Ds) = tx ++ D.2 ++ [59] ++ txS Ds by simp [txS]]
              exact hT4
            · cases t with
              | zero => exact ⟨a, D, (hrf4 cnt (by omega)).trans (va_up_self _ _ _), ha1, by omega, rfl, rN_keep _ a D hNa (fun x y g1 g2 g3 => (hk4 x (by omega) (by omega)).trans g3) (fun kd nm nu i x g => ⟨x, (hk4 a (by omega) (by omega)).trans g⟩)⟩
              | succ t =>
                obtain ⟨a4, D4, g1, g2, g3, g4, g5⟩ := hts t (by simpa using ht)
                exact ⟨a4, D4, by rw [show cnt + (t + 1) = cnt + 1 + t by omega]; exact g1, by omega, g3, by simpa using g4, rN_h (by omega) (Nat.le_refl _) g5⟩
        · rw [if_neg h59]
          refine ⟨N3, n1, sl1, .null, ?_, hkk, hn, by first | omega | (simp only; omega), hs, Or.inl ⟨rfl, rfl⟩⟩
          by_cases hs59 : sg s len q = 59
          · have hk0 : kk = 0 := by
              rcases Nat.eq_zero_or_pos kk with g | g
              · exact g
              · exact absurd ⟨hs59, by omega⟩ h59
            refine ev_iload_n d_R_readContract_10 rfl ?_
            refine ev_if_lt (t := 80) d_R_readContract_11 (by decide) (fun c_11 => absurd c_11 (nI_pos (by omega))) (fun _ => ?_)
            refine ev_aload_n d_R_readContract_14 rfl ?_
            refine ev_bipush (v := 124) d_R_readContract_15 rfl ?_
            refine ev_iconst (v := 0) d_R_readContract_17 rfl ?_
            refine ev_v2r d_R_readContract_18 q_5_22 rfl (xset_self _ _ _) ⟨rfl, Nat.le_of_ble_eq_true rfl, Nat.le_of_ble_eq_true rfl⟩ hcl ?_
            refine ev_astore_n (lo1 := [some (.ref ra), some (.ref c0), some (.int (nI kk)), some (.ref a)]) d_R_readContract_21 (Nat.le_of_ble_eq_true rfl) rfl ?_
            refine ev_aload_n d_R_readContract_22 rfl ?_
            refine ev_ifnonnull (t := 28) d_R_readContract_23 (by decide) ?_
            refine ev_aload_n d_R_readContract_28 rfl ?_
            refine ev_aload_n d_R_readContract_29 rfl ?_
            rw [hrow]
            refine ev_v1o d_R_readContract_30 q_5_26 rfl ((rowM_ne _ _ _ (by omega) (by omega)).trans hca1) ⟨rfl, Nat.le_of_ble_eq_true rfl, Nat.le_of_ble_eq_true rfl⟩ hadd ?_
            rw [hback]
            refine ev_aload_n d_R_readContract_33 rfl ?_
            refine ev_get d_R_readContract_34 f_5_9 ((xset_self _ _ _)) rfl ?_
            refine ev_aload_n d_R_readContract_37 rfl ?_
            refine ev_get d_R_readContract_38 f_5_15 ((xset_self _ _ _)) rfl ?_
            refine ev_get d_R_readContract_41 f_5_30 (((xset_ne _ _ hR3.2.2.1).trans hR3.1)) rfl ?_
            refine ev_icmp_lt (t := 49) d_R_readContract_44 (by decide) (fun _ => ?_) (fun c_44 => absurd (nI_lt (by omega) (by omega)) c_44)
            refine ev_aload_n d_R_readContract_49 rfl ?_
            refine ev_v0r d_R_readContract_50 q_5_35 rfl (xset_self _ _ _) ⟨rfl, Nat.le_of_ble_eq_true rfl, Nat.le_of_ble_eq_true rfl⟩ (c_R_sign hR3 q (by omega)) ?_
            refine ev_bipush (v := 59) d_R_readContract_53 rfl ?_
            refine ev_icmp_ne (t := 62) d_R_readContract_55 (by decide) (fun c_55 => absurd hs59 c_55) (fun _ => ?_)
            refine ev_iload_n d_R_readContract_58 rfl ?_
            refine ev_if_ne (t := 64) d_R_readContract_59 (by decide) (fun c_59 => absurd (by rw [hk0]; rfl) c_59) (fun _ => ?_)
            refine ev_null d_R_readContract_62 ?_
            exact ev_aretN d_R_readContract_63 rfl
          · skip
            refine ev_iload_n d_R_readContract_10 rfl ?_
            refine ev_if_lt (t := 80) d_R_readContract_11 (by decide) (fun c_11 => absurd c_11 (nI_pos (by omega))) (fun _ => ?_)
            refine ev_aload_n d_R_readContract_14 rfl ?_
            refine ev_bipush (v := 124) d_R_readContract_15 rfl ?_
            refine ev_iconst (v := 0) d_R_readContract_17 rfl ?_
            refine ev_v2r d_R_readContract_18 q_5_22 rfl (xset_self _ _ _) ⟨rfl, Nat.le_of_ble_eq_true rfl, Nat.le_of_ble_eq_true rfl⟩ hcl ?_
            refine ev_astore_n (lo1 := [some (.ref ra), some (.ref c0), some (.int (nI kk)), some (.ref a)]) d_R_readContract_21 (Nat.le_of_ble_eq_true rfl) rfl ?_
            refine ev_aload_n d_R_readContract_22 rfl ?_
            refine ev_ifnonnull (t := 28) d_R_readContract_23 (by decide) ?_
            refine ev_aload_n d_R_readContract_28 rfl ?_
            refine ev_aload_n d_R_readContract_29 rfl ?_
            rw [hrow]
            refine ev_v1o d_R_readContract_30 q_5_26 rfl ((rowM_ne _ _ _ (by omega) (by omega)).trans hca1) ⟨rfl, Nat.le_of_ble_eq_true rfl, Nat.le_of_ble_eq_true rfl⟩ hadd ?_
            rw [hback]
            refine ev_aload_n d_R_readContract_33 rfl ?_
            refine ev_get d_R_readContract_34 f_5_9 ((xset_self _ _ _)) rfl ?_
            refine ev_aload_n d_R_readContract_37 rfl ?_
            refine ev_get d_R_readContract_38 f_5_15 ((xset_self _ _ _)) rfl ?_
            refine ev_get d_R_readContract_41 f_5_30 (((xset_ne _ _ hR3.2.2.1).trans hR3.1)) rfl ?_
            refine ev_icmp_lt (t := 49) d_R_readContract_44 (by decide) (fun _ => ?_) (fun c_44 => absurd (nI_lt (by omega) (by omega)) c_44)
            refine ev_aload_n d_R_readContract_49 rfl ?_
            refine ev_v0r d_R_readContract_50 q_5_35 rfl (xset_self _ _ _) ⟨rfl, Nat.le_of_ble_eq_true rfl, Nat.le_of_ble_eq_true rfl⟩ (c_R_sign hR3 q (by omega)) ?_
            refine ev_bipush (v := 59) d_R_readContract_53 rfl ?_
            refine ev_icmp_ne (t := 62) d_R_readContract_55 (by decide) (fun _ => ?_) (fun c_55 => absurd c_55 hs59)
            refine ev_null d_R_readContract_62 ?_
            exact ev_aretN d_R_readContract_63 rfl
