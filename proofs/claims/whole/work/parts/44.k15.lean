/-! reading groups in the class -/
theorem va_rf_inj {a b : Option Nat} (h : va_rf a = va_rf b) : a = b := by
  cases a with
  | none =>
    cases b with
    | none => rfl
    | some y => cases h
  | some x =>
    cases b with
    | none => cases h
    | some y => cases h; rfl
theorem nod_inj {kd nm nu kd2 nm2 nu2 : Int32} {i i2 : Option Nat} {y z : Value} (h : (some (.inr (4, [.int kd, .int nm, .int nu, va_rf i, y])) : Option xE) = some (.inr (4, [.int kd2, .int nm2, .int nu2, va_rf i2, z]))) : kd = kd2 ∧ nm = nm2 ∧ nu = nu2 ∧ i = i2 := by
  have h1 := Sum.inr.inj (Option.some.inj h)
  have h2 := (Prod.mk.inj h1).2
  injection h2 with a1 h3
  injection h3 with a2 h4
  injection h4 with a3 h5
  injection h5 with a4 h6
  exact ⟨Value.int.inj a1, Value.int.inj a2, Value.int.inj a3, va_rf_inj a4⟩
set_option maxRecDepth 20000 in
theorem l_R_readGroup {ra w ba : Nat} {s : Nat → Int32} {len : Nat} (f : Nat) (hI : ∀ (e : Nat) (j : Int32) (b p : Nat) (N : xMm) (n sl : Nat), RS N n ra w ba s len → p ≤ len → b ≤ 5 → (j = 124 ∨ j = 38) → 3 * (81 - p) + (if j = 124 then 2 else 1) ≤ f → PRd (e + 2 * f + 4) k_R_readItem [.ref ra, .int j, .int (nI b)] N n sl ra w ((if j = 124 then 5 else 4) + 5 * (5 - b)) p (pP s len f (if j = 124 then 1 else 0) 38 b 0 p)) (hC : ∀ (e : Nat) (j : Int32) (b p k : Nat) (N : xMm) (n sl fi la : Nat) (kd nm nu : Int32) (i : Option Nat), RS N n ra w ba s len → p ≤ len → b ≤ 5 → (j = 124 ∨ j = 38) → 3 * (81 - p) ≤ f → k ≤ p → la < n → la ≠ ra → N la = some (.inr (4, [.int kd, .int nm, .int nu, va_rf i, .null])) → ∃ (N1 : xMm) (n1 sl1 : Nat), (∀ x, x < n → x ≠ la → N1 x = N x) ∧ n ≤ n1 ∧ n1 + p ≤ n + (pP s len f 2 j b 0 p).1 ∧ sl1 = sl + 5 * (n1 - n) ∧ (((pP s len f 2 j b 0 p).2 = none ∧ ∀ o6 : Option Value, xEv (e + 2 * f + 3) k_R_readGroup 27 [some (.ref ra), some (.int j), some (.int (nI b)), some (.ref fi), some (.ref la), some (.int (nI k)), o6] [] (rdM N ra w p, n, sl) (.inl (some .null), (rdM N1 ra w (pP s len f 2 j b 0 p).1, n1, sl1))) ∨ ∃ (Ds : List Den) (x : Option Nat), (pP s len f 2 j b 0 p).2 = some Ds ∧ (Ds ≠ [] → n1 + p + 1 ≤ n + (pP s len f 2 j b 0 p).1) ∧ N1 la = some (.inr (4, [.int kd, .int nm, .int nu, va_rf i, va_rf x])) ∧ rCh N1 n1 (rN N1 n ((if j = 124 then 5 else 4) + 5 * (5 - b))) Ds x ∧ ∀ X : xO × xS, (∀ (la1 : Nat) (k1 : Int32) (o6 : Option Value), xEv (e + 2 * f + 3) k_R_readGroup 84 [some (.ref ra), some (.int j), some (.int (nI b)), some (.ref fi), some (.ref la1), some (.int k1), o6] [] (rdM N1 ra w (pP s len f 2 j b 0 p).1, n1, sl1) X) → ∀ o6 : Option Value, xEv (e + 2 * f + 3) k_R_readGroup 27 [some (.ref ra), some (.int j), some (.int (nI b)), some (.ref fi), some (.ref la), some (.int (nI k)), o6] [] (rdM N ra w p, n, sl) X)) : ∀ (e : Nat) (j : Int32) (b p k : Nat) (N : xMm) (n sl fi la : Nat) (kd nm nu : Int32) (i : Option Nat), RS N n ra w ba s len → p ≤ len → b ≤ 5 → (j = 124 ∨ j = 38) → 3 * (81 - p) ≤ (f + 1) → k ≤ p → la < n → la ≠ ra → N la = some (.inr (4, [.int kd, .int nm, .int nu, va_rf i, .null])) → ∃ (N1 : xMm) (n1 sl1 : Nat), (∀ x, x < n → x ≠ la → N1 x = N x) ∧ n ≤ n1 ∧ n1 + p ≤ n + (pP s len (f + 1) 2 j b 0 p).1 ∧ sl1 = sl + 5 * (n1 - n) ∧ (((pP s len (f + 1) 2 j b 0 p).2 = none ∧ ∀ o6 : Option Value, xEv (e + 2 * (f + 1) + 3) k_R_readGroup 27 [some (.ref ra), some (.int j), some (.int (nI b)), some (.ref fi), some (.ref la), some (.int (nI k)), o6] [] (rdM N ra w p, n, sl) (.inl (some .null), (rdM N1 ra w (pP s len (f + 1) 2 j b 0 p).1, n1, sl1))) ∨ ∃ (Ds : List Den) (x : Option Nat), (pP s len (f + 1) 2 j b 0 p).2 = some Ds ∧ (Ds ≠ [] → n1 + p + 1 ≤ n + (pP s len (f + 1) 2 j b 0 p).1) ∧ N1 la = some (.inr (4, [.int kd, .int nm, .int nu, va_rf i, va_rf x])) ∧ rCh N1 n1 (rN N1 n ((if j = 124 then 5 else 4) + 5 * (5 - b))) Ds x ∧ ∀ X : xO × xS, (∀ (la1 : Nat) (k1 : Int32) (o6 : Option Value), xEv (e + 2 * (f + 1) + 3) k_R_readGroup 84 [some (.ref ra), some (.int j), some (.int (nI b)), some (.ref fi), some (.ref la1), some (.int k1), o6] [] (rdM N1 ra w (pP s len (f + 1) 2 j b 0 p).1, n1, sl1) X) → ∀ o6 : Option Value, xEv (e + 2 * (f + 1) + 3) k_R_readGroup 27 [some (.ref ra), some (.int j), some (.int (nI b)), some (.ref fi), some (.ref la), some (.int (nI k)), o6] [] (rdM N ra w p, n, sl) X) := by
  intro e j b p k N n sl fi la kd nm nu i hR hp hb hj hf hkp hla hlr hcell
  have h80 := hR.2.2.2.2.2.2.2.2
  have hjz : j ≠ 0 := by rcases hj with rfl | rfl <;> decide
  rw [pP, if_neg (by decide), if_neg (by decide)]
  by_cases hsj : sg s len p = j
  · have hp1 : p < len := sg_lt (by rw [hsj]; exact hjz)
    rw [if_pos hsj]
    have hji : 3 * (81 - (p + 1)) + (if j = 124 then 2 else 1) ≤ f := by split <;> omega
    obtain ⟨N1, n1, sl1, v, hcl, hk, hn, hbd, hs, hr⟩ := hI e j b (p + 1) N n sl hR (by omega) hb hj hji
    have hq1 := pP_bd s len f (if j = 124 then 1 else 0) 38 b 0 (p + 1) (by omega) (by decide)
    cases hq : pP s len f (if j = 124 then 1 else 0) 38 b 0 (p + 1) with
    | mk q o =>
    rw [hq] at hcl hbd hr hq1
    simp only at hcl hbd hr hq1
    have hR1 := hR.keep hn hk
    rcases hr with ⟨rfl, rfl⟩ | ⟨a, D, rfl, rfl, ha1, ha2, hN, kd2, nm2, nu2, i2, hca⟩
    · refine ⟨N1, n1, sl1, fun x hx _ => hk x hx, hn, by simp only; omega, hs, Or.inl ⟨rfl, fun o6 => ?_⟩⟩
      refine ev_iload d_R_readGroup_27 rfl ?_
      refine ev_bipush (v := 80) d_R_readGroup_29 rfl ?_
      refine ev_icmp_ge (t := 84) d_R_readGroup_31 (by decide) (fun c_31 => absurd c_31 (nI_ge (b := 80) (by omega) (by decide))) (fun _ => ?_)
      refine ev_aload_n d_R_readGroup_34 rfl ?_
      refine ev_v0r d_R_readGroup_35 q_5_35 rfl (xset_self _ _ _) ⟨rfl, Nat.le_of_ble_eq_true rfl, Nat.le_of_ble_eq_true rfl⟩ (c_R_sign hR p (by omega)) ?_
      refine ev_iload_n d_R_readGroup_38 rfl ?_
      refine ev_icmp_ne (t := 84) d_R_readGroup_39 (by decide) (fun c_39 => absurd hsj c_39) (fun _ => ?_)
      refine ev_aload_n d_R_readGroup_42 rfl ?_
      refine ev_dup d_R_readGroup_43 rfl ?_
      refine ev_get d_R_readGroup_44 f_5_9 ((xset_self _ _ _)) rfl ?_
      refine ev_iconst (v := 1) d_R_readGroup_47 rfl ?_
      refine ev_iadd d_R_readGroup_48 ?_
      refine ev_put (M1 := (rdM N ra w (p + 1))) d_R_readGroup_49 f_5_9 ((xset_self _ _ _)) ⟨Nat.le_of_ble_eq_true rfl, (xfit_i rfl), Or.inl rfl⟩ (by rw [← nI_succ]; exact rd_put N ra w p (p + 1)) ?_
      refine ev_aload_n d_R_readGroup_52 rfl ?_
      refine ev_iload_n d_R_readGroup_53 rfl ?_
      refine ev_iload_n d_R_readGroup_54 rfl ?_
      refine ev_v2r d_R_readGroup_55 q_5_39 rfl (xset_self _ _ _) ⟨rfl, Nat.le_of_ble_eq_true rfl, Nat.le_of_ble_eq_true rfl⟩ hcl ?_
      refine ev_astoreN (lo1 := [some (.ref ra), some (.int j), some (.int (nI b)), some (.ref fi), some (.ref la), some (.int (nI k)), some (.null)]) d_R_readGroup_58 (Nat.le_of_ble_eq_true rfl) rfl ?_
      refine ev_aloadN d_R_readGroup_60 rfl ?_
      refine ev_ifnonnullN d_R_readGroup_62 ?_
      refine ev_null d_R_readGroup_65 ?_
      exact ev_aretN d_R_readGroup_66 rfl
    · simp only
      have hla1 : N1 la = some (.inr (4, [.int kd, .int nm, .int nu, va_rf i, .null])) := (hk la hla).trans hcell
      have hR2 : RS (xset N1 la (.inr (4, [.int kd, .int nm, .int nu, va_rf i, .ref a]))) n1 ra w ba s len := by
        obtain ⟨g1, g2, g3⟩ := hR1
        refine ⟨(xset_ne _ _ (fun e9 => ?_)).trans g1, (xset_ne _ _ (fun e9 => ?_)).trans g2, g3⟩
        · rw [e9, hla1] at g1
          cases g1
        · rw [e9, hla1] at g2
          cases g2
      have hca2 : (xset N1 la (.inr (4, [.int kd, .int nm, .int nu, va_rf i, .ref a]))) a = some (.inr (4, [.int kd2, .int nm2, .int nu2, va_rf i2, .null])) := (xset_ne _ _ (by omega)).trans hca
      have har : a ≠ ra := by have := hR.2.2.2.2.2.2.2.1; omega
      obtain ⟨N3, n3, sl3, hk3, hn3, hb3, hs3, hr3⟩ := hC (e + 2) j b q (k + 1) (xset N1 la (.inr (4, [.int kd, .int nm, .int nu, va_rf i, .ref a]))) n1 sl1 fi a kd2 nm2 nu2 i2 hR2 (by omega) hb hj (by omega) (by omega) ha2 har hca2
      rw [show e + 2 + 2 * f + 3 = e + 2 * (f + 1) + 3 by omega] at hr3
      cases hq2 : pP s len f 2 j b 0 q with
      | mk q3 o3 =>
      rw [hq2] at hr3 hb3
      simp only at hr3 hb3
      have hk4 : ∀ x, x < n → x ≠ la → N3 x = N x := fun x hx hx2 => (hk3 x (by omega) (by omega)).trans ((xset_ne _ _ hx2).trans (hk x hx))
      rcases hr3 with ⟨rfl, hx3⟩ | ⟨Ds, x3, rfl, hsl3, hca3, hch3, hx3⟩
      · refine ⟨N3, n3, sl3, hk4, by omega, by simp only; omega, by omega, Or.inl ⟨rfl, fun o6 => ?_⟩⟩
        refine ev_iload d_R_readGroup_27 rfl ?_
        refine ev_bipush (v := 80) d_R_readGroup_29 rfl ?_
        refine ev_icmp_ge (t := 84) d_R_readGroup_31 (by decide) (fun c_31 => absurd c_31 (nI_ge (b := 80) (by omega) (by decide))) (fun _ => ?_)
        refine ev_aload_n d_R_readGroup_34 rfl ?_
        refine ev_v0r d_R_readGroup_35 q_5_35 rfl (xset_self _ _ _) ⟨rfl, Nat.le_of_ble_eq_true rfl, Nat.le_of_ble_eq_true rfl⟩ (c_R_sign hR p (by omega)) ?_
        refine ev_iload_n d_R_readGroup_38 rfl ?_
        refine ev_icmp_ne (t := 84) d_R_readGroup_39 (by decide) (fun c_39 => absurd hsj c_39) (fun _ => ?_)
        refine ev_aload_n d_R_readGroup_42 rfl ?_
        refine ev_dup d_R_readGroup_43 rfl ?_
        refine ev_get d_R_readGroup_44 f_5_9 ((xset_self _ _ _)) rfl ?_
        refine ev_iconst (v := 1) d_R_readGroup_47 rfl ?_
        refine ev_iadd d_R_readGroup_48 ?_
        refine ev_put (M1 := (rdM N ra w (p + 1))) d_R_readGroup_49 f_5_9 ((xset_self _ _ _)) ⟨Nat.le_of_ble_eq_true rfl, (xfit_i rfl), Or.inl rfl⟩ (by rw [← nI_succ]; exact rd_put N ra w p (p + 1)) ?_
        refine ev_aload_n d_R_readGroup_52 rfl ?_
        refine ev_iload_n d_R_readGroup_53 rfl ?_
        refine ev_iload_n d_R_readGroup_54 rfl ?_
        refine ev_v2r d_R_readGroup_55 q_5_39 rfl (xset_self _ _ _) ⟨rfl, Nat.le_of_ble_eq_true rfl, Nat.le_of_ble_eq_true rfl⟩ hcl ?_
        refine ev_astore (lo1 := [some (.ref ra), some (.int j), some (.int (nI b)), some (.ref fi), some (.ref la), some (.int (nI k)), some (.ref a)]) d_R_readGroup_58 (Nat.le_of_ble_eq_true rfl) rfl ?_
        refine ev_aload d_R_readGroup_60 rfl ?_
        refine ev_ifnonnull (t := 67) d_R_readGroup_62 (by decide) ?_
        refine ev_aload d_R_readGroup_67 rfl ?_
        refine ev_aload d_R_readGroup_69 rfl ?_
        refine ev_put (M1 := (rdM (xset N1 la (.inr (4, [.int kd, .int nm, .int nu, va_rf i, .ref a]))) ra w q)) d_R_readGroup_71 f_5_42 (((xset_ne _ _ hlr).trans hla1)) ⟨Nat.le_of_ble_eq_true rfl, (xfit_v rfl rfl rfl), Or.inl rfl⟩ (xset_swap _ _ _ (Ne.symm hlr)) ?_
        refine ev_aload d_R_readGroup_74 rfl ?_
        refine ev_astore (lo1 := [some (.ref ra), some (.int j), some (.int (nI b)), some (.ref fi), some (.ref a), some (.int (nI k)), some (.ref a)]) d_R_readGroup_76 (Nat.le_of_ble_eq_true rfl) rfl ?_
        obtain ⟨x_1, ex_1⟩ : ∃ z : Int32, z = (nI k) + 1 := ⟨_, rfl⟩
        refine ev_iinc (v := x_1) (lo1 := [some (.ref ra), some (.int j), some (.int (nI b)), some (.ref fi), some (.ref a), some (.int x_1), some (.ref a)]) d_R_readGroup_78 rfl (by rw [ex_1]; rfl) rfl ?_
        refine ev_goto (t := 27) d_R_readGroup_81 (by decide) ?_
        rw [show x_1 = nI (k + 1) from by rw [ex_1, nI_succ]]
        exact hx3 _
      · have hla3 : N3 la = some (.inr (4, [.int kd, .int nm, .int nu, va_rf i, va_rf (some a)])) := (hk3 la (by omega) (by omega)).trans (xset_self _ _ _)
        refine ⟨N3, n3, sl3, hk4, by omega, by simp only; omega, by omega, Or.inr ⟨D :: Ds, some a, rfl, fun _ => by simp only; omega, hla3, ?_, fun X hX o6 => ?_⟩⟩
        · refine ⟨a, rfl, by omega, rN_keep _ a D hN (fun x e g1 g2 g3 => (hk3 x (by omega) (by omega)).trans ((xset_ne _ _ (by omega)).trans g3)) (fun kd nm nu i x g => ?_), kd2, nm2, nu2, i2, x3, hca3, ?_⟩
          · rw [hca] at g
            obtain ⟨rfl, rfl, rfl, rfl⟩ := nod_inj g
            exact ⟨x3, hca3⟩
          · exact rCh_mono (Nat.le_refl _) (fun a D _ hh => rN_h (by omega) (Nat.le_refl _) hh) (fun _ _ _ _ hh => hh) Ds x3 hch3
        · have hx4 := hx3 X hX
          refine ev_iload d_R_readGroup_27 rfl ?_
          refine ev_bipush (v := 80) d_R_readGroup_29 rfl ?_
          refine ev_icmp_ge (t := 84) d_R_readGroup_31 (by decide) (fun c_31 => absurd c_31 (nI_ge (b := 80) (by omega) (by decide))) (fun _ => ?_)
          refine ev_aload_n d_R_readGroup_34 rfl ?_
          refine ev_v0r d_R_readGroup_35 q_5_35 rfl (xset_self _ _ _) ⟨rfl, Nat.le_of_ble_eq_true rfl, Nat.le_of_ble_eq_true rfl⟩ (c_R_sign hR p (by omega)) ?_
          refine ev_iload_n d_R_readGroup_38 rfl ?_
          refine ev_icmp_ne (t := 84) d_R_readGroup_39 (by decide) (fun c_39 => absurd hsj c_39) (fun _ => ?_)
          refine ev_aload_n d_R_readGroup_42 rfl ?_
          refine ev_dup d_R_readGroup_43 rfl ?_
          refine ev_get d_R_readGroup_44 f_5_9 ((xset_self _ _ _)) rfl ?_
          refine ev_iconst (v := 1) d_R_readGroup_47 rfl ?_
          refine ev_iadd d_R_readGroup_48 ?_
          refine ev_put (M1 := (rdM N ra w (p + 1))) d_R_readGroup_49 f_5_9 ((xset_self _ _ _)) ⟨Nat.le_of_ble_eq_true rfl, (xfit_i rfl), Or.inl rfl⟩ (by rw [← nI_succ]; exact rd_put N ra w p (p + 1)) ?_
          refine ev_aload_n d_R_readGroup_52 rfl ?_
          refine ev_iload_n d_R_readGroup_53 rfl ?_
          refine ev_iload_n d_R_readGroup_54 rfl ?_
          refine ev_v2r d_R_readGroup_55 q_5_39 rfl (xset_self _ _ _) ⟨rfl, Nat.le_of_ble_eq_true rfl, Nat.le_of_ble_eq_true rfl⟩ hcl ?_
          refine ev_astore (lo1 := [some (.ref ra), some (.int j), some (.int (nI b)), some (.ref fi), some (.ref la), some (.int (nI k)), some (.ref a)]) d_R_readGroup_58 (Nat.le_of_ble_eq_true rfl) rfl ?_
          refine ev_aload d_R_readGroup_60 rfl ?_
          refine ev_ifnonnull (t := 67) d_R_readGroup_62 (by decide) ?_
          refine ev_aload d_R_readGroup_67 rfl ?_
          refine ev_aload d_R_readGroup_69 rfl ?_
          refine ev_put (M1 := (rdM (xset N1 la (.inr (4, [.int kd, .int nm, .int nu, va_rf i, .ref a]))) ra w q)) d_R_readGroup_71 f_5_42 (((xset_ne _ _ hlr).trans hla1)) ⟨Nat.le_of_ble_eq_true rfl, (xfit_v rfl rfl rfl), Or.inl rfl⟩ (xset_swap _ _ _ (Ne.symm hlr)) ?_
          refine ev_aload d_R_readGroup_74 rfl ?_
          refine ev_astore (lo1 := [some (.ref ra), some (.int j), some (.int (nI b)), some (.ref fi), some (.ref a), some (.int (nI k)), some (.ref a)]) d_R_readGroup_76 (Nat.le_of_ble_eq_true rfl) rfl ?_
          obtain ⟨x_1, ex_1⟩ : ∃ z : Int32, z = (nI k) + 1 := ⟨_, rfl⟩
          refine ev_iinc (v := x_1) (lo1 := [some (.ref ra), some (.int j), some (.int (nI b)), some (.ref fi), some (.ref a), some (.int x_1), some (.ref a)]) d_R_readGroup_78 rfl (by rw [ex_1]; rfl) rfl ?_
          refine ev_goto (t := 27) d_R_readGroup_81 (by decide) ?_
          rw [show x_1 = nI (k + 1) from by rw [ex_1, nI_succ]]
          exact hx4 _
  · rw [if_neg hsj]
    refine ⟨N, n, sl, fun _ _ _ => rfl, Nat.le_refl _, Nat.le_refl _, by omega, Or.inr ⟨[], none, rfl, fun h => absurd rfl h, hcell, rfl, fun X hX o6 => ?_⟩⟩
    refine ev_iload d_R_readGroup_27 rfl ?_
    refine ev_bipush (v := 80) d_R_readGroup_29 rfl ?_
    refine ev_icmp_ge (t := 84) d_R_readGroup_31 (by decide) (fun c_31_1 => ?_) (fun c_31_1 => ?_)
    · exact hX _ _ _
    · refine ev_aload_n d_R_readGroup_34 rfl ?_
      refine ev_v0r d_R_readGroup_35 q_5_35 rfl (xset_self _ _ _) ⟨rfl, Nat.le_of_ble_eq_true rfl, Nat.le_of_ble_eq_true rfl⟩ (c_R_sign hR p (by omega)) ?_
      refine ev_iload_n d_R_readGroup_38 rfl ?_
      refine ev_icmp_ne (t := 84) d_R_readGroup_39 (by decide) (fun _ => ?_) (fun c_39 => absurd c_39 hsj)
      exact hX _ _ _
set_option maxRecDepth 20000 in
theorem c_R_readGroup {ra w ba : Nat} {s : Nat → Int32} {len : Nat} (f : Nat) (hI : ∀ (e : Nat) (j : Int32) (b p : Nat) (N : xMm) (n sl : Nat), RS N n ra w ba s len → p ≤ len → b ≤ 5 → (j = 124 ∨ j = 38) → 3 * (81 - p) + (if j = 124 then 2 else 1) ≤ f → PRd (e + 2 * f + 4) k_R_readItem [.ref ra, .int j, .int (nI b)] N n sl ra w ((if j = 124 then 5 else 4) + 5 * (5 - b)) p (pP s len f (if j = 124 then 1 else 0) 38 b 0 p)) (hC : ∀ (e : Nat) (j : Int32) (b p k : Nat) (N : xMm) (n sl fi la : Nat) (kd nm nu : Int32) (i : Option Nat), RS N n ra w ba s len → p ≤ len → b ≤ 5 → (j = 124 ∨ j = 38) → 3 * (81 - p) ≤ f → k ≤ p → la < n → la ≠ ra → N la = some (.inr (4, [.int kd, .int nm, .int nu, va_rf i, .null])) → ∃ (N1 : xMm) (n1 sl1 : Nat), (∀ x, x < n → x ≠ la → N1 x = N x) ∧ n ≤ n1 ∧ n1 + p ≤ n + (pP s len f 2 j b 0 p).1 ∧ sl1 = sl + 5 * (n1 - n) ∧ (((pP s len f 2 j b 0 p).2 = none ∧ ∀ o6 : Option Value, xEv (e + 2 * f + 3) k_R_readGroup 27 [some (.ref ra), some (.int j), some (.int (nI b)), some (.ref fi), some (.ref la), some (.int (nI k)), o6] [] (rdM N ra w p, n, sl) (.inl (some .null), (rdM N1 ra w (pP s len f 2 j b 0 p).1, n1, sl1))) ∨ ∃ (Ds : List Den) (x : Option Nat), (pP s len f 2 j b 0 p).2 = some Ds ∧ (Ds ≠ [] → n1 + p + 1 ≤ n + (pP s len f 2 j b 0 p).1) ∧ N1 la = some (.inr (4, [.int kd, .int nm, .int nu, va_rf i, va_rf x])) ∧ rCh N1 n1 (rN N1 n ((if j = 124 then 5 else 4) + 5 * (5 - b))) Ds x ∧ ∀ X : xO × xS, (∀ (la1 : Nat) (k1 : Int32) (o6 : Option Value), xEv (e + 2 * f + 3) k_R_readGroup 84 [some (.ref ra), some (.int j), some (.int (nI b)), some (.ref fi), some (.ref la1), some (.int k1), o6] [] (rdM N1 ra w (pP s len f 2 j b 0 p).1, n1, sl1) X) → ∀ o6 : Option Value, xEv (e + 2 * f + 3) k_R_readGroup 27 [some (.ref ra), some (.int j), some (.int (nI b)), some (.ref fi), some (.ref la), some (.int (nI k)), o6] [] (rdM N ra w p, n, sl) X)) : ∀ (e : Nat) (j : Int32) (b p : Nat) (N : xMm) (n sl : Nat), RS N n ra w ba s len → p ≤ len → b ≤ 5 → (j = 124 ∨ j = 38) → 3 * (81 - p) + (if j = 124 then 3 else 2) ≤ (f + 1) → PRd (e + 2 * (f + 1) + 3) k_R_readGroup [.ref ra, .int j, .int (nI b)] N n sl ra w ((if j = 124 then 6 else 5) + 5 * (5 - b)) p (pP s len (f + 1) 1 j b 0 p) := by
  intro e j b p N n sl hR hp hb hj hf
  have h80 := hR.2.2.2.2.2.2.2.2
  have hjz : j ≠ 0 := by rcases hj with rfl | rfl <;> decide
  have hf1 : 1 ≤ f := by split at hf <;> omega
  generalize hH6 : (if j = 124 then 6 else 5) + 5 * (5 - b) = H6
  rw [pP, if_neg (by decide), if_pos rfl]
  have hji : 3 * (81 - p) + (if j = 124 then 2 else 1) ≤ f := by rcases hj with e9 | e9 <;> subst e9 <;> simp at hf ⊢ <;> omega
  have hHH : H6 = ((if j = 124 then 5 else 4) + 5 * (5 - b)) + 1 := by rw [← hH6]; split <;> omega
  obtain ⟨N1, n1, sl1, v, hcl, hk, hn, hbd, hs, hr⟩ := hI e j b p N n sl hR (by omega) hb hj hji
  have hq1 := pP_bd s len f (if j = 124 then 1 else 0) 38 b 0 p (by omega) (by decide)
  cases hq : pP s len f (if j = 124 then 1 else 0) 38 b 0 p with
  | mk q o =>
  rw [hq] at hcl hbd hr hq1
  simp only at hcl hbd hr hq1
  have hR1 := hR.keep hn hk
  rcases hr with ⟨rfl, rfl⟩ | ⟨a, D, rfl, rfl, ha1, ha2, hN, kd2, nm2, nu2, i2, hca⟩
  · refine ⟨N1, n1, sl1, .null, ?_, hk, hn, by simp only; omega, hs, Or.inl ⟨rfl, rfl⟩⟩
    show xEv _ k_R_readGroup 0 [some (.ref ra), some (.int j), some (.int (nI b)), none, none, none, none] [] _ _
    refine ev_aload_n d_R_readGroup_0 rfl ?_
    refine ev_iload_n d_R_readGroup_1 rfl ?_
    refine ev_iload_n d_R_readGroup_2 rfl ?_
    refine ev_v2r d_R_readGroup_3 q_5_39 rfl (xset_self _ _ _) ⟨rfl, Nat.le_of_ble_eq_true rfl, Nat.le_of_ble_eq_true rfl⟩ hcl ?_
    refine ev_astore_nN (lo1 := [some (.ref ra), some (.int j), some (.int (nI b)), some (.null), none, none, none]) d_R_readGroup_6 (Nat.le_of_ble_eq_true rfl) rfl ?_
    refine ev_aload_nN d_R_readGroup_7 rfl ?_
    refine ev_ifnullN (t := 19) d_R_readGroup_8 (by decide) ?_
    refine ev_aload_nN d_R_readGroup_19 rfl ?_
    exact ev_aretN d_R_readGroup_20 rfl
  · simp only
    by_cases hsq : sg s len q = j
    · have har : a ≠ ra := by have := hR.2.2.2.2.2.2.2.1; omega
      have hp1 : q < len := sg_lt (by rw [hsq]; exact hjz)
      obtain ⟨N3, n3, sl3, hk3, hn3, hb3, hs3, hr3⟩ := hC (e + 2) j b q 1 N1 n1 sl1 a a kd2 nm2 nu2 i2 hR1 (by omega) hb hj (by split at hf <;> omega) (by omega) ha2 har hca
      rw [show e + 2 + 2 * f + 3 = e + 2 * (f + 1) + 3 by omega] at hr3
      have hr4 : (pP s len f 2 j b 0 q).2 ≠ some [] := by
        obtain ⟨f2, rfl⟩ : ∃ f2, f = f2 + 1 := ⟨f - 1, by omega⟩
        rw [pP, if_neg (by decide), if_neg (by decide), if_pos hsq]
        split
        · split <;> exact fun h => by cases h
        · exact fun h => by cases h
      cases hq2 : pP s len f 2 j b 0 q with
      | mk q3 o3 =>
      rw [hq2] at hr3 hb3 hr4
      simp only at hr3 hb3 hr4
      rcases hr3 with ⟨rfl, hx3⟩ | ⟨Ds, x3, rfl, hsl3, hca3, hch3, hx3⟩
      · refine ⟨N3, n3, sl3, .null, ?_, fun x hx => (hk3 x (by omega) (by omega)).trans (hk x hx), by omega, by simp only; omega, by omega, Or.inl ⟨rfl, rfl⟩⟩
        show xEv _ k_R_readGroup 0 [some (.ref ra), some (.int j), some (.int (nI b)), none, none, none, none] [] _ _
        refine ev_aload_n d_R_readGroup_0 rfl ?_
        refine ev_iload_n d_R_readGroup_1 rfl ?_
        refine ev_iload_n d_R_readGroup_2 rfl ?_
        refine ev_v2r d_R_readGroup_3 q_5_39 rfl (xset_self _ _ _) ⟨rfl, Nat.le_of_ble_eq_true rfl, Nat.le_of_ble_eq_true rfl⟩ hcl ?_
        refine ev_astore_n (lo1 := [some (.ref ra), some (.int j), some (.int (nI b)), some (.ref a), none, none, none]) d_R_readGroup_6 (Nat.le_of_ble_eq_true rfl) rfl ?_
        refine ev_aload_n d_R_readGroup_7 rfl ?_
        refine ev_ifnull d_R_readGroup_8 ?_
        refine ev_aload_n d_R_readGroup_11 rfl ?_
        refine ev_v0r d_R_readGroup_12 q_5_35 rfl (xset_self _ _ _) ⟨rfl, Nat.le_of_ble_eq_true rfl, Nat.le_of_ble_eq_true rfl⟩ (c_R_sign hR1 q (by omega)) ?_
        refine ev_iload_n d_R_readGroup_15 rfl ?_
        refine ev_icmp_eq (t := 21) d_R_readGroup_16 (by decide) (fun _ => ?_) (fun c_16 => absurd hsq c_16)
        refine ev_aload_n d_R_readGroup_21 rfl ?_
        refine ev_astore (lo1 := [some (.ref ra), some (.int j), some (.int (nI b)), some (.ref a), some (.ref a), none, none]) d_R_readGroup_22 (Nat.le_of_ble_eq_true rfl) rfl ?_
        refine ev_iconst (v := 1) d_R_readGroup_24 rfl ?_
        refine ev_istore (lo1 := [some (.ref ra), some (.int j), some (.int (nI b)), some (.ref a), some (.ref a), some (.int 1), none]) d_R_readGroup_25 (Nat.le_of_ble_eq_true rfl) rfl ?_
        exact hx3 _
      · cases Ds with
        | nil => exact absurd rfl hr4
        | cons E Es =>
        have hsl4 := hsl3 (by simp)
        have hne3 : ra ≠ n3 := by have := hR1.2.2.2.2.2.2.2.1; omega
        simp only
        rw [hHH]
        have hNa : rN N3 n ((if j = 124 then 5 else 4) + 5 * (5 - b)) a D := rN_keep _ a D hN (fun x e g1 g2 g3 => (hk3 x (by omega) (by omega)).trans g3) (fun kd nm nu i x g => by
          rw [hca] at g
          obtain ⟨rfl, rfl, rfl, rfl⟩ := nod_inj g
          exact ⟨x3, hca3⟩)
        have hup : ∀ x y, x < n3 → N3 x = some y → xset N3 n3 (.inr (4, [.int j, .int 0, .int 0, .ref a, .null])) x = some y := fun x y hx hy => (xset_ne _ _ (by omega)).trans hy
        have hcc : rCh N3 n3 (rN N3 n ((if j = 124 then 5 else 4) + 5 * (5 - b))) (D :: E :: Es) (some a) := ⟨a, rfl, by omega, hNa, kd2, nm2, nu2, i2, x3, hca3, rCh_mono (Nat.le_refl _) (fun a9 D9 _ hh => rN_h hn (Nat.le_refl _) hh) (fun _ _ _ _ hh => hh) _ x3 hch3⟩
        refine ⟨xset N3 n3 (.inr (4, [.int j, .int 0, .int 0, .ref a, .null])), n3 + 1, sl3 + 5, .ref n3, ?_, fun x hx => (xset_ne _ _ (by omega)).trans ((hk3 x (by omega) (by omega)).trans (hk x hx)), by omega, by simp only; omega, by omega, Or.inr ⟨n3, grpD j (D :: E :: Es), rfl, rfl, by omega, Nat.lt_succ_self n3, ⟨by omega, j, 0, 0, some a, none, xset_self _ _ _, Or.inr (Or.inl ⟨hj, D :: E :: Es, ?_, rfl⟩)⟩, j, 0, 0, some a, xset_self _ _ _⟩⟩
        · show xEv _ k_R_readGroup 0 [some (.ref ra), some (.int j), some (.int (nI b)), none, none, none, none] [] _ _
          refine ev_aload_n d_R_readGroup_0 rfl ?_
          refine ev_iload_n d_R_readGroup_1 rfl ?_
          refine ev_iload_n d_R_readGroup_2 rfl ?_
          refine ev_v2r d_R_readGroup_3 q_5_39 rfl (xset_self _ _ _) ⟨rfl, Nat.le_of_ble_eq_true rfl, Nat.le_of_ble_eq_true rfl⟩ hcl ?_
          refine ev_astore_n (lo1 := [some (.ref ra), some (.int j), some (.int (nI b)), some (.ref a), none, none, none]) d_R_readGroup_6 (Nat.le_of_ble_eq_true rfl) rfl ?_
          refine ev_aload_n d_R_readGroup_7 rfl ?_
          refine ev_ifnull d_R_readGroup_8 ?_
          refine ev_aload_n d_R_readGroup_11 rfl ?_
          refine ev_v0r d_R_readGroup_12 q_5_35 rfl (xset_self _ _ _) ⟨rfl, Nat.le_of_ble_eq_true rfl, Nat.le_of_ble_eq_true rfl⟩ (c_R_sign hR1 q (by omega)) ?_
          refine ev_iload_n d_R_readGroup_15 rfl ?_
          refine ev_icmp_eq (t := 21) d_R_readGroup_16 (by decide) (fun _ => ?_) (fun c_16 => absurd hsq c_16)
          refine ev_aload_n d_R_readGroup_21 rfl ?_
          refine ev_astore (lo1 := [some (.ref ra), some (.int j), some (.int (nI b)), some (.ref a), some (.ref a), none, none]) d_R_readGroup_22 (Nat.le_of_ble_eq_true rfl) rfl ?_
          refine ev_iconst (v := 1) d_R_readGroup_24 rfl ?_
          refine ev_istore (lo1 := [some (.ref ra), some (.int j), some (.int (nI b)), some (.ref a), some (.ref a), some (.int 1), none]) d_R_readGroup_25 (Nat.le_of_ble_eq_true rfl) rfl ?_
          refine hx3 _ (fun la1 k1 o6 => ?_) _
          refine ev_new (S1 := (rdM (xset N3 n3 (.inr (4, [.int 0, .int 0, .int 0, .null, .null]))) ra w q3, n3 + 1, sl3 + 5)) d_R_readGroup_84 rfl n_5_43 (congrArg (fun X => (X, n3 + 1, sl3 + 5)) (rd_new N3 _ hne3)) ?_
          refine ev_dup d_R_readGroup_87 rfl ?_
          refine ev_iload_n d_R_readGroup_88 rfl ?_
          refine ev_aload_n d_R_readGroup_89 rfl ?_
          refine ev_i2 d_R_readGroup_90 ⟨_, q_5_48, by decide, by decide⟩ rfl ⟨rfl, Nat.le_of_ble_eq_true rfl, Nat.le_of_ble_eq_true rfl⟩ (c_N_init _ _ ((xset_ne _ _ (Ne.symm hne3)).trans (xset_self _ _ _))) ?_
          rw [rd_new _ _ hne3, xset_xset]
          exact ev_aret d_R_readGroup_93 rfl
        · exact rCh_keep (fun b9 D9 hb9 hh => rN_keep _ b9 D9 hh (fun x e g1 g2 g3 => hup x e (by omega) g3) (fun kd nm nu i x g => ⟨x, hup b9 _ hb9 g⟩)) (fun x y hx _ hy => hup x y hx hy) _ _ hcc
    · have hm : pP s len f 2 j b 0 q = (q, some []) := by
        obtain ⟨f2, rfl⟩ : ∃ f2, f = f2 + 1 := ⟨f - 1, by omega⟩
        rw [pP, if_neg (by decide), if_neg (by decide), if_neg hsq]
      simp only [hm]
      rw [hHH]
      refine ⟨N1, n1, sl1, .ref a, ?_, hk, hn, by simp only; omega, hs, Or.inr ⟨a, D, rfl, rfl, ha1, ha2, rN_h (Nat.le_refl _) (by omega) hN, kd2, nm2, nu2, i2, hca⟩⟩
      show xEv _ k_R_readGroup 0 [some (.ref ra), some (.int j), some (.int (nI b)), none, none, none, none] [] _ _
      refine ev_aload_n d_R_readGroup_0 rfl ?_
      refine ev_iload_n d_R_readGroup_1 rfl ?_
      refine ev_iload_n d_R_readGroup_2 rfl ?_
      refine ev_v2r d_R_readGroup_3 q_5_39 rfl (xset_self _ _ _) ⟨rfl, Nat.le_of_ble_eq_true rfl, Nat.le_of_ble_eq_true rfl⟩ hcl ?_
      refine ev_astore_n (lo1 := [some (.ref ra), some (.int j), some (.int (nI b)), some (.ref a), none, none, none]) d_R_readGroup_6 (Nat.le_of_ble_eq_true rfl) rfl ?_
      refine ev_aload_n d_R_readGroup_7 rfl ?_
      refine ev_ifnull d_R_readGroup_8 ?_
      refine ev_aload_n d_R_readGroup_11 rfl ?_
      refine ev_v0r d_R_readGroup_12 q_5_35 rfl (xset_self _ _ _) ⟨rfl, Nat.le_of_ble_eq_true rfl, Nat.le_of_ble_eq_true rfl⟩ (c_R_sign hR1 q (by omega)) ?_
      refine ev_iload_n d_R_readGroup_15 rfl ?_
      refine ev_icmp_eq (t := 21) d_R_readGroup_16 (by decide) (fun c_16 => absurd c_16 hsq) (fun _ => ?_)
      refine ev_aload_n d_R_readGroup_19 rfl ?_
      exact ev_aret d_R_readGroup_20 rfl
theorem c_R_all {ra w ba : Nat} {s : Nat → Int32} {len : Nat} : ∀ f : Nat, (∀ (e : Nat) (j : Int32) (b no p : Nat) (N : xMm) (n sl : Nat), RS N n ra w ba s len → p ≤ len → b ≤ 5 → no ≤ 3 → 3 * (81 - p) + 1 ≤ f → PRd (e + 2 * f + 3) k_R_readBit [.ref ra, .int (nI b), .int (nI no)] N n sl ra w (4 - no + 5 * (5 - b)) p (pP s len f 0 j b no p)) ∧ (∀ (e : Nat) (j : Int32) (b p : Nat) (N : xMm) (n sl : Nat), RS N n ra w ba s len → p ≤ len → b ≤ 5 → (j = 124 ∨ j = 38) → 3 * (81 - p) + (if j = 124 then 3 else 2) ≤ f → PRd (e + 2 * f + 3) k_R_readGroup [.ref ra, .int j, .int (nI b)] N n sl ra w ((if j = 124 then 6 else 5) + 5 * (5 - b)) p (pP s len f 1 j b 0 p)) ∧ (∀ (e : Nat) (j : Int32) (b p k : Nat) (N : xMm) (n sl fi la : Nat) (kd nm nu : Int32) (i : Option Nat), RS N n ra w ba s len → p ≤ len → b ≤ 5 → (j = 124 ∨ j = 38) → 3 * (81 - p) ≤ f → k ≤ p → la < n → la ≠ ra → N la = some (.inr (4, [.int kd, .int nm, .int nu, va_rf i, .null])) → ∃ (N1 : xMm) (n1 sl1 : Nat), (∀ x, x < n → x ≠ la → N1 x = N x) ∧ n ≤ n1 ∧ n1 + p ≤ n + (pP s len f 2 j b 0 p).1 ∧ sl1 = sl + 5 * (n1 - n) ∧ (((pP s len f 2 j b 0 p).2 = none ∧ ∀ o6 : Option Value, xEv (e + 2 * f + 3) k_R_readGroup 27 [some (.ref ra), some (.int j), some (.int (nI b)), some (.ref fi), some (.ref la), some (.int (nI k)), o6] [] (rdM N ra w p, n, sl) (.inl (some .null), (rdM N1 ra w (pP s len f 2 j b 0 p).1, n1, sl1))) ∨ ∃ (Ds : List Den) (x : Option Nat), (pP s len f 2 j b 0 p).2 = some Ds ∧ (Ds ≠ [] → n1 + p + 1 ≤ n + (pP s len f 2 j b 0 p).1) ∧ N1 la = some (.inr (4, [.int kd, .int nm, .int nu, va_rf i, va_rf x])) ∧ rCh N1 n1 (rN N1 n ((if j = 124 then 5 else 4) + 5 * (5 - b))) Ds x ∧ ∀ X : xO × xS, (∀ (la1 : Nat) (k1 : Int32) (o6 : Option Value), xEv (e + 2 * f + 3) k_R_readGroup 84 [some (.ref ra), some (.int j), some (.int (nI b)), some (.ref fi), some (.ref la1), some (.int k1), o6] [] (rdM N1 ra w (pP s len f 2 j b 0 p).1, n1, sl1) X) → ∀ o6 : Option Value, xEv (e + 2 * f + 3) k_R_readGroup 27 [some (.ref ra), some (.int j), some (.int (nI b)), some (.ref fi), some (.ref la), some (.int (nI k)), o6] [] (rdM N ra w p, n, sl) X))
  | 0 => ⟨fun e j b no p N n sl hR hp hb hno hf => absurd hf (by have := hR.2.2.2.2.2.2.2.2; omega), fun e j b p N n sl hR hp hb hj hf => absurd hf (by have := hR.2.2.2.2.2.2.2.2; split <;> omega), fun e j b p k N n sl fi la kd nm nu i hR hp hb hj hf _ _ _ _ => absurd hf (by have := hR.2.2.2.2.2.2.2.2; omega)⟩
  | f + 1 => by
    obtain ⟨hA, hB, hC⟩ := c_R_all f
    have hI := c_R_readItem f hA hB
    exact ⟨c_R_readBit f hA hB, c_R_readGroup f hI hC, l_R_readGroup f hI hC⟩
