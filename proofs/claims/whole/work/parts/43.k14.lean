/-! reading bits and groups in the class -/
set_option maxRecDepth 20000 in
theorem c_R_readItem {ra w ba : Nat} {s : Nat → Int32} {len : Nat} (f : Nat) (hA : ∀ (e : Nat) (j : Int32) (b no p : Nat) (N : xMm) (n sl : Nat), RS N n ra w ba s len → p ≤ len → b ≤ 5 → no ≤ 3 → 3 * (81 - p) + 1 ≤ f → PRd (e + 2 * f + 3) k_R_readBit [.ref ra, .int (nI b), .int (nI no)] N n sl ra w (4 - no + 5 * (5 - b)) p (pP s len f 0 j b no p)) (hB : ∀ (e : Nat) (j : Int32) (b p : Nat) (N : xMm) (n sl : Nat), RS N n ra w ba s len → p ≤ len → b ≤ 5 → (j = 124 ∨ j = 38) → 3 * (81 - p) + (if j = 124 then 3 else 2) ≤ f → PRd (e + 2 * f + 3) k_R_readGroup [.ref ra, .int j, .int (nI b)] N n sl ra w ((if j = 124 then 6 else 5) + 5 * (5 - b)) p (pP s len f 1 j b 0 p)) : ∀ (e : Nat) (j : Int32) (b p : Nat) (N : xMm) (n sl : Nat), RS N n ra w ba s len → p ≤ len → b ≤ 5 → (j = 124 ∨ j = 38) → 3 * (81 - p) + (if j = 124 then 2 else 1) ≤ f → PRd (e + 2 * f + 4) k_R_readItem [.ref ra, .int j, .int (nI b)] N n sl ra w ((if j = 124 then 5 else 4) + 5 * (5 - b)) p (pP s len f (if j = 124 then 1 else 0) 38 b 0 p) := by
  intro e j b p N n sl hR hp hb hj hf
  rcases hj with rfl | rfl
  · obtain ⟨N1, n1, sl1, v, hcl, hk, hn, hbd, hs, hr⟩ := hB e 38 b p N n sl hR hp hb (Or.inr rfl) (by simpa using hf)
    rcases hr with ⟨e1, rfl⟩ | ⟨a, D, e1, rfl, hr⟩
    · refine ⟨N1, n1, sl1, .null, ?_, hk, hn, hbd, hs, Or.inl ⟨e1, rfl⟩⟩
      show xEv _ k_R_readItem 0 [some (.ref ra), some (.int 124), some (.int (nI b))] [] _ _
      refine ev_iload_n d_R_readItem_0 rfl ?_
      refine ev_bipush (v := 124) d_R_readItem_1 rfl ?_
      refine ev_icmp_ne (t := 16) d_R_readItem_3 (by decide) (fun c_3 => absurd rfl c_3) (fun _ => ?_)
      refine ev_aload_n d_R_readItem_6 rfl ?_
      refine ev_bipush (v := 38) d_R_readItem_7 rfl ?_
      refine ev_iload_n d_R_readItem_9 rfl ?_
      refine ev_v2r d_R_readItem_10 q_5_22 rfl (xset_self _ _ _) ⟨rfl, Nat.le_of_ble_eq_true rfl, Nat.le_of_ble_eq_true rfl⟩ hcl ?_
      refine ev_goto (t := 22) d_R_readItem_13 (by decide) ?_
      exact ev_aretN d_R_readItem_22 rfl
    · refine ⟨N1, n1, sl1, .ref a, ?_, hk, hn, hbd, hs, Or.inr ⟨a, D, e1, rfl, hr⟩⟩
      show xEv _ k_R_readItem 0 [some (.ref ra), some (.int 124), some (.int (nI b))] [] _ _
      refine ev_iload_n d_R_readItem_0 rfl ?_
      refine ev_bipush (v := 124) d_R_readItem_1 rfl ?_
      refine ev_icmp_ne (t := 16) d_R_readItem_3 (by decide) (fun c_3 => absurd rfl c_3) (fun _ => ?_)
      refine ev_aload_n d_R_readItem_6 rfl ?_
      refine ev_bipush (v := 38) d_R_readItem_7 rfl ?_
      refine ev_iload_n d_R_readItem_9 rfl ?_
      refine ev_v2r d_R_readItem_10 q_5_22 rfl (xset_self _ _ _) ⟨rfl, Nat.le_of_ble_eq_true rfl, Nat.le_of_ble_eq_true rfl⟩ hcl ?_
      refine ev_goto (t := 22) d_R_readItem_13 (by decide) ?_
      exact ev_aret d_R_readItem_22 rfl
  · obtain ⟨N1, n1, sl1, v, hcl, hk, hn, hbd, hs, hr⟩ := hA e 38 b 0 p N n sl hR hp hb (by omega) (by simpa using hf)
    rcases hr with ⟨e1, rfl⟩ | ⟨a, D, e1, rfl, hr⟩
    · refine ⟨N1, n1, sl1, .null, ?_, hk, hn, hbd, hs, Or.inl ⟨e1, rfl⟩⟩
      show xEv _ k_R_readItem 0 [some (.ref ra), some (.int 38), some (.int (nI b))] [] _ _
      refine ev_iload_n d_R_readItem_0 rfl ?_
      refine ev_bipush (v := 124) d_R_readItem_1 rfl ?_
      refine ev_icmp_ne (t := 16) d_R_readItem_3 (by decide) (fun _ => ?_) (fun c_3 => absurd c_3 (by decide))
      refine ev_aload_n d_R_readItem_16 rfl ?_
      refine ev_iload_n d_R_readItem_17 rfl ?_
      refine ev_iconst (v := 0) d_R_readItem_18 rfl ?_
      refine ev_v2r d_R_readItem_19 q_5_51 rfl (xset_self _ _ _) ⟨rfl, Nat.le_of_ble_eq_true rfl, Nat.le_of_ble_eq_true rfl⟩ hcl ?_
      exact ev_aretN d_R_readItem_22 rfl
    · refine ⟨N1, n1, sl1, .ref a, ?_, hk, hn, hbd, hs, Or.inr ⟨a, D, e1, rfl, hr⟩⟩
      show xEv _ k_R_readItem 0 [some (.ref ra), some (.int 38), some (.int (nI b))] [] _ _
      refine ev_iload_n d_R_readItem_0 rfl ?_
      refine ev_bipush (v := 124) d_R_readItem_1 rfl ?_
      refine ev_icmp_ne (t := 16) d_R_readItem_3 (by decide) (fun _ => ?_) (fun c_3 => absurd c_3 (by decide))
      refine ev_aload_n d_R_readItem_16 rfl ?_
      refine ev_iload_n d_R_readItem_17 rfl ?_
      refine ev_iconst (v := 0) d_R_readItem_18 rfl ?_
      refine ev_v2r d_R_readItem_19 q_5_51 rfl (xset_self _ _ _) ⟨rfl, Nat.le_of_ble_eq_true rfl, Nat.le_of_ble_eq_true rfl⟩ hcl ?_
      exact ev_aret d_R_readItem_22 rfl
set_option maxRecDepth 20000 in
theorem c_R_readBit {ra w ba : Nat} {s : Nat → Int32} {len : Nat} (f : Nat) (hA : ∀ (e : Nat) (j : Int32) (b no p : Nat) (N : xMm) (n sl : Nat), RS N n ra w ba s len → p ≤ len → b ≤ 5 → no ≤ 3 → 3 * (81 - p) + 1 ≤ f → PRd (e + 2 * f + 3) k_R_readBit [.ref ra, .int (nI b), .int (nI no)] N n sl ra w (4 - no + 5 * (5 - b)) p (pP s len f 0 j b no p)) (hB : ∀ (e : Nat) (j : Int32) (b p : Nat) (N : xMm) (n sl : Nat), RS N n ra w ba s len → p ≤ len → b ≤ 5 → (j = 124 ∨ j = 38) → 3 * (81 - p) + (if j = 124 then 3 else 2) ≤ f → PRd (e + 2 * f + 3) k_R_readGroup [.ref ra, .int j, .int (nI b)] N n sl ra w ((if j = 124 then 6 else 5) + 5 * (5 - b)) p (pP s len f 1 j b 0 p)) : ∀ (e : Nat) (j : Int32) (b no p : Nat) (N : xMm) (n sl : Nat), RS N n ra w ba s len → p ≤ len → b ≤ 5 → no ≤ 3 → 3 * (81 - p) + 1 ≤ (f + 1) → PRd (e + 2 * (f + 1) + 3) k_R_readBit [.ref ra, .int (nI b), .int (nI no)] N n sl ra w (4 - no + 5 * (5 - b)) p (pP s len (f + 1) 0 j b no p) := by
  intro e j b no p N n sl hR hp hb hno hf
  have h80 := hR.2.2.2.2.2.2.2.2
  rw [show e + 2 * (f + 1) + 3 = (e + 1 + 2 * f + 3) + 1 by omega]
  by_cases h1 : sg s len p = 33 ∧ no < 3
  · have hp1 : p < len := sg_lt (by rw [h1.1]; decide)
    rw [pP, if_pos rfl, if_pos h1]
    obtain ⟨N1, n1, sl1, v, hcl, hk, hn, hbd, hs, hr⟩ := hA (e + 1) j b (no + 1) (p + 1) N n sl hR (by omega) hb (by omega) (by omega)
    have hq1 := pP_bd s len f 0 j b (no + 1) (p + 1) (by omega)
    cases hq : pP s len f 0 j b (no + 1) (p + 1) with
    | mk q o =>
    rw [hq] at hcl hbd hr
    simp only at hcl hbd hr
    have hR1 := hR.keep hn hk
    have hne1 : ra ≠ n1 := Nat.ne_of_lt hR1.2.2.2.2.2.2.2.1
    rcases hr with ⟨rfl, rfl⟩ | ⟨a, D, rfl, rfl, ha1, ha2, hN, kd, nm, nu, i, hcell⟩
    · refine ⟨N1, n1, sl1, .null, ?_, hk, hn, by simp only; omega, hs, Or.inl ⟨rfl, rfl⟩⟩
      show xEv _ k_R_readBit 0 [some (.ref ra), some (.int (nI b)), some (.int (nI no)), none] [] _ _
      refine ev_aload_n d_R_readBit_0 rfl ?_
      refine ev_v0r d_R_readBit_1 q_5_35 rfl (xset_self _ _ _) ⟨rfl, Nat.le_of_ble_eq_true rfl, Nat.le_of_ble_eq_true rfl⟩ (c_R_sign hR p (by omega)) ?_
      refine ev_bipush (v := 33) d_R_readBit_4 rfl ?_
      refine ev_icmp_ne (t := 52) d_R_readBit_6 (by decide) (fun c_6 => absurd h1.1 c_6) (fun _ => ?_)
      refine ev_iload_n d_R_readBit_9 rfl ?_
      refine ev_iconst (v := 3) d_R_readBit_10 rfl ?_
      refine ev_icmp_ge (t := 52) d_R_readBit_11 (by decide) (fun c_11 => absurd c_11 (nI_ge (b := 3) h1.2 (by decide))) (fun _ => ?_)
      refine ev_aload_n d_R_readBit_14 rfl ?_
      refine ev_dup d_R_readBit_15 rfl ?_
      refine ev_get d_R_readBit_16 f_5_9 ((xset_self _ _ _)) rfl ?_
      refine ev_iconst (v := 1) d_R_readBit_19 rfl ?_
      refine ev_iadd d_R_readBit_20 ?_
      refine ev_put (M1 := (rdM N ra w (p + 1))) d_R_readBit_21 f_5_9 ((xset_self _ _ _)) ⟨Nat.le_of_ble_eq_true rfl, (xfit_i rfl), Or.inl rfl⟩ (by rw [← nI_succ]; exact rd_put N ra w p (p + 1)) ?_
      refine ev_aload_n d_R_readBit_24 rfl ?_
      refine ev_iload_n d_R_readBit_25 rfl ?_
      refine ev_iload_n d_R_readBit_26 rfl ?_
      refine ev_iconst (v := 1) d_R_readBit_27 rfl ?_
      refine ev_iadd d_R_readBit_28 ?_
      rw [show nI no + 1 = nI (no + 1) from (nI_succ no).symm]
      refine ev_v2r d_R_readBit_29 q_5_51 rfl (xset_self _ _ _) ⟨rfl, Nat.le_of_ble_eq_true rfl, Nat.le_of_ble_eq_true rfl⟩ hcl ?_
      refine ev_astore_nN (lo1 := [some (.ref ra), some (.int (nI b)), some (.int (nI no)), some (.null)]) d_R_readBit_32 (Nat.le_of_ble_eq_true rfl) rfl ?_
      refine ev_aload_nN d_R_readBit_33 rfl ?_
      refine ev_ifnonnullN d_R_readBit_34 ?_
      refine ev_null d_R_readBit_37 ?_
      refine ev_goto (t := 51) d_R_readBit_38 (by decide) ?_
      exact ev_aretN d_R_readBit_51 rfl
    · rw [show 4 - no + 5 * (5 - b) = (4 - (no + 1) + 5 * (5 - b)) + 1 by omega]
      refine ⟨xset N1 n1 (.inr (4, [.int 33, .int 0, .int 0, .ref a, .null])), n1 + 1, sl1 + 5, .ref n1, ?_, fun x hx => (xset_ne _ _ (by omega)).trans (hk x hx), by omega, by simp only; omega, by omega, Or.inr ⟨n1, notD D, rfl, rfl, hn, Nat.lt_succ_self n1, ⟨hn, 33, 0, 0, some a, none, xset_self _ _ _, Or.inl ⟨rfl, a, D, rfl, ha2, rN_keep _ a D hN (fun x e _ hx2 hx3 => (xset_ne _ _ (by omega)).trans hx3) (fun kd nm nu i x hx => ⟨x, (xset_ne _ _ (by omega)).trans hx⟩), rfl⟩⟩, 33, 0, 0, some a, xset_self _ _ _⟩⟩
      show xEv _ k_R_readBit 0 [some (.ref ra), some (.int (nI b)), some (.int (nI no)), none] [] _ _
      refine ev_aload_n d_R_readBit_0 rfl ?_
      refine ev_v0r d_R_readBit_1 q_5_35 rfl (xset_self _ _ _) ⟨rfl, Nat.le_of_ble_eq_true rfl, Nat.le_of_ble_eq_true rfl⟩ (c_R_sign hR p (by omega)) ?_
      refine ev_bipush (v := 33) d_R_readBit_4 rfl ?_
      refine ev_icmp_ne (t := 52) d_R_readBit_6 (by decide) (fun c_6 => absurd h1.1 c_6) (fun _ => ?_)
      refine ev_iload_n d_R_readBit_9 rfl ?_
      refine ev_iconst (v := 3) d_R_readBit_10 rfl ?_
      refine ev_icmp_ge (t := 52) d_R_readBit_11 (by decide) (fun c_11 => absurd c_11 (nI_ge (b := 3) h1.2 (by decide))) (fun _ => ?_)
      refine ev_aload_n d_R_readBit_14 rfl ?_
      refine ev_dup d_R_readBit_15 rfl ?_
      refine ev_get d_R_readBit_16 f_5_9 ((xset_self _ _ _)) rfl ?_
      refine ev_iconst (v := 1) d_R_readBit_19 rfl ?_
      refine ev_iadd d_R_readBit_20 ?_
      refine ev_put (M1 := (rdM N ra w (p + 1))) d_R_readBit_21 f_5_9 ((xset_self _ _ _)) ⟨Nat.le_of_ble_eq_true rfl, (xfit_i rfl), Or.inl rfl⟩ (by rw [← nI_succ]; exact rd_put N ra w p (p + 1)) ?_
      refine ev_aload_n d_R_readBit_24 rfl ?_
      refine ev_iload_n d_R_readBit_25 rfl ?_
      refine ev_iload_n d_R_readBit_26 rfl ?_
      refine ev_iconst (v := 1) d_R_readBit_27 rfl ?_
      refine ev_iadd d_R_readBit_28 ?_
      rw [show nI no + 1 = nI (no + 1) from (nI_succ no).symm]
      refine ev_v2r d_R_readBit_29 q_5_51 rfl (xset_self _ _ _) ⟨rfl, Nat.le_of_ble_eq_true rfl, Nat.le_of_ble_eq_true rfl⟩ hcl ?_
      refine ev_astore_n (lo1 := [some (.ref ra), some (.int (nI b)), some (.int (nI no)), some (.ref a)]) d_R_readBit_32 (Nat.le_of_ble_eq_true rfl) rfl ?_
      refine ev_aload_n d_R_readBit_33 rfl ?_
      refine ev_ifnonnull (t := 41) d_R_readBit_34 (by decide) ?_
      refine ev_new (S1 := (rdM (xset N1 n1 (.inr (4, [.int 0, .int 0, .int 0, .null, .null]))) ra w q, n1 + 1, sl1 + 5)) d_R_readBit_41 rfl n_5_43 (congrArg (fun X => (X, n1 + 1, sl1 + 5)) (rd_new N1 _ hne1)) ?_
      refine ev_dup d_R_readBit_44 rfl ?_
      refine ev_bipush (v := 33) d_R_readBit_45 rfl ?_
      refine ev_aload_n d_R_readBit_47 rfl ?_
      refine ev_i2 d_R_readBit_48 ⟨_, q_5_48, by decide, by decide⟩ rfl ⟨rfl, Nat.le_of_ble_eq_true rfl, Nat.le_of_ble_eq_true rfl⟩ (c_N_init _ _ ((xset_ne _ _ (Ne.symm hne1)).trans (xset_self _ _ _))) ?_
      rw [rd_new _ _ hne1, xset_xset]
      exact ev_aret d_R_readBit_51 rfl
  · by_cases h2 : sg s len p = 40 ∧ b < 5
    · have hp1 : p < len := sg_lt (by rw [h2.1]; decide)
      rw [pP, if_pos rfl, if_neg h1, if_pos h2]
      obtain ⟨N1, n1, sl1, v, hcl, hk, hn, hbd, hs, hr⟩ := hB (e + 1) 124 (b + 1) (p + 1) N n sl hR (by omega) (by omega) (Or.inl rfl) (by simp only [if_true]; omega)
      have hq1 := pP_bd s len f 1 124 (b + 1) 0 (p + 1) (by omega) (by decide)
      cases hq : pP s len f 1 124 (b + 1) 0 (p + 1) with
      | mk q o =>
      rw [hq] at hcl hbd hr hq1
      simp only at hcl hbd hr hq1
      have hR1 := hR.keep hn hk
      rcases hr with ⟨rfl, rfl⟩ | ⟨a, D, rfl, rfl, ha1, ha2, hN, hcell⟩
      · refine ⟨N1, n1, sl1, .null, ?_, hk, hn, by simp only; omega, hs, Or.inl ⟨rfl, rfl⟩⟩
        show xEv _ k_R_readBit 0 [some (.ref ra), some (.int (nI b)), some (.int (nI no)), none] [] _ _
        refine ev_aload_n d_R_readBit_0 rfl ?_
        refine ev_v0r d_R_readBit_1 q_5_35 rfl (xset_self _ _ _) ⟨rfl, Nat.le_of_ble_eq_true rfl, Nat.le_of_ble_eq_true rfl⟩ (c_R_sign hR p (by omega)) ?_
        refine ev_bipush (v := 33) d_R_readBit_4 rfl ?_
        refine ev_icmp_ne (t := 52) d_R_readBit_6 (by decide) (fun _ => ?_) (fun c_6 => absurd c_6 (by rw [h2.1]; decide))
        refine ev_aload_n d_R_readBit_52 rfl ?_
        refine ev_v0r d_R_readBit_53 q_5_35 rfl (xset_self _ _ _) ⟨rfl, Nat.le_of_ble_eq_true rfl, Nat.le_of_ble_eq_true rfl⟩ (c_R_sign hR p (by omega)) ?_
        refine ev_bipush (v := 40) d_R_readBit_56 rfl ?_
        refine ev_icmp_ne (t := 113) d_R_readBit_58 (by decide) (fun c_58 => absurd h2.1 c_58) (fun _ => ?_)
        refine ev_iload_n d_R_readBit_61 rfl ?_
        refine ev_iconst (v := 5) d_R_readBit_62 rfl ?_
        refine ev_icmp_ge (t := 113) d_R_readBit_63 (by decide) (fun c_63 => absurd c_63 (nI_ge (b := 5) h2.2 (by decide))) (fun _ => ?_)
        refine ev_aload_n d_R_readBit_66 rfl ?_
        refine ev_dup d_R_readBit_67 rfl ?_
        refine ev_get d_R_readBit_68 f_5_9 ((xset_self _ _ _)) rfl ?_
        refine ev_iconst (v := 1) d_R_readBit_71 rfl ?_
        refine ev_iadd d_R_readBit_72 ?_
        refine ev_put (M1 := (rdM N ra w (p + 1))) d_R_readBit_73 f_5_9 ((xset_self _ _ _)) ⟨Nat.le_of_ble_eq_true rfl, (xfit_i rfl), Or.inl rfl⟩ (by rw [← nI_succ]; exact rd_put N ra w p (p + 1)) ?_
        refine ev_aload_n d_R_readBit_76 rfl ?_
        refine ev_bipush (v := 124) d_R_readBit_77 rfl ?_
        refine ev_iload_n d_R_readBit_79 rfl ?_
        refine ev_iconst (v := 1) d_R_readBit_80 rfl ?_
        refine ev_iadd d_R_readBit_81 ?_
        rw [show nI b + 1 = nI (b + 1) from (nI_succ b).symm]
        refine ev_v2r d_R_readBit_82 q_5_22 rfl (xset_self _ _ _) ⟨rfl, Nat.le_of_ble_eq_true rfl, Nat.le_of_ble_eq_true rfl⟩ hcl ?_
        refine ev_astore_nN (lo1 := [some (.ref ra), some (.int (nI b)), some (.int (nI no)), some (.null)]) d_R_readBit_85 (Nat.le_of_ble_eq_true rfl) rfl ?_
        refine ev_aload_nN d_R_readBit_86 rfl ?_
        refine ev_ifnullN (t := 99) d_R_readBit_87 (by decide) ?_
        refine ev_null d_R_readBit_99 ?_
        exact ev_aretN d_R_readBit_100 rfl
      · by_cases h4 : sg s len q = 41
        · simp only [if_pos h4]
          refine ⟨N1, n1, sl1, .ref a, ?_, hk, hn, by simp only; omega, hs, Or.inr ⟨a, D, rfl, rfl, ha1, ha2, rN_h (Nat.le_refl _) (by simp only [if_true]; omega) hN, hcell⟩⟩
          show xEv _ k_R_readBit 0 [some (.ref ra), some (.int (nI b)), some (.int (nI no)), none] [] _ _
          refine ev_aload_n d_R_readBit_0 rfl ?_
          refine ev_v0r d_R_readBit_1 q_5_35 rfl (xset_self _ _ _) ⟨rfl, Nat.le_of_ble_eq_true rfl, Nat.le_of_ble_eq_true rfl⟩ (c_R_sign hR p (by omega)) ?_
          refine ev_bipush (v := 33) d_R_readBit_4 rfl ?_
          refine ev_icmp_ne (t := 52) d_R_readBit_6 (by decide) (fun _ => ?_) (fun c_6 => absurd c_6 (by rw [h2.1]; decide))
          refine ev_aload_n d_R_readBit_52 rfl ?_
          refine ev_v0r d_R_readBit_53 q_5_35 rfl (xset_self _ _ _) ⟨rfl, Nat.le_of_ble_eq_true rfl, Nat.le_of_ble_eq_true rfl⟩ (c_R_sign hR p (by omega)) ?_
          refine ev_bipush (v := 40) d_R_readBit_56 rfl ?_
          refine ev_icmp_ne (t := 113) d_R_readBit_58 (by decide) (fun c_58 => absurd h2.1 c_58) (fun _ => ?_)
          refine ev_iload_n d_R_readBit_61 rfl ?_
          refine ev_iconst (v := 5) d_R_readBit_62 rfl ?_
          refine ev_icmp_ge (t := 113) d_R_readBit_63 (by decide) (fun c_63 => absurd c_63 (nI_ge (b := 5) h2.2 (by decide))) (fun _ => ?_)
          refine ev_aload_n d_R_readBit_66 rfl ?_
          refine ev_dup d_R_readBit_67 rfl ?_
          refine ev_get d_R_readBit_68 f_5_9 ((xset_self _ _ _)) rfl ?_
          refine ev_iconst (v := 1) d_R_readBit_71 rfl ?_
          refine ev_iadd d_R_readBit_72 ?_
          refine ev_put (M1 := (rdM N ra w (p + 1))) d_R_readBit_73 f_5_9 ((xset_self _ _ _)) ⟨Nat.le_of_ble_eq_true rfl, (xfit_i rfl), Or.inl rfl⟩ (by rw [← nI_succ]; exact rd_put N ra w p (p + 1)) ?_
          refine ev_aload_n d_R_readBit_76 rfl ?_
          refine ev_bipush (v := 124) d_R_readBit_77 rfl ?_
          refine ev_iload_n d_R_readBit_79 rfl ?_
          refine ev_iconst (v := 1) d_R_readBit_80 rfl ?_
          refine ev_iadd d_R_readBit_81 ?_
          rw [show nI b + 1 = nI (b + 1) from (nI_succ b).symm]
          refine ev_v2r d_R_readBit_82 q_5_22 rfl (xset_self _ _ _) ⟨rfl, Nat.le_of_ble_eq_true rfl, Nat.le_of_ble_eq_true rfl⟩ hcl ?_
          refine ev_astore_n (lo1 := [some (.ref ra), some (.int (nI b)), some (.int (nI no)), some (.ref a)]) d_R_readBit_85 (Nat.le_of_ble_eq_true rfl) rfl ?_
          refine ev_aload_n d_R_readBit_86 rfl ?_
          refine ev_ifnull d_R_readBit_87 ?_
          refine ev_aload_n d_R_readBit_90 rfl ?_
          refine ev_v0r d_R_readBit_91 q_5_35 rfl (xset_self _ _ _) ⟨rfl, Nat.le_of_ble_eq_true rfl, Nat.le_of_ble_eq_true rfl⟩ (c_R_sign hR1 q (by omega)) ?_
          refine ev_bipush (v := 41) d_R_readBit_94 rfl ?_
          refine ev_icmp_eq (t := 101) d_R_readBit_96 (by decide) (fun _ => ?_) (fun c_96 => absurd h4 c_96)
          refine ev_aload_n d_R_readBit_101 rfl ?_
          refine ev_dup d_R_readBit_102 rfl ?_
          refine ev_get d_R_readBit_103 f_5_9 ((xset_self _ _ _)) rfl ?_
          refine ev_iconst (v := 1) d_R_readBit_106 rfl ?_
          refine ev_iadd d_R_readBit_107 ?_
          refine ev_put (M1 := (rdM N1 ra w (q + 1))) d_R_readBit_108 f_5_9 ((xset_self _ _ _)) ⟨Nat.le_of_ble_eq_true rfl, (xfit_i rfl), Or.inl rfl⟩ (by rw [← nI_succ]; exact rd_put N1 ra w q (q + 1)) ?_
          refine ev_aload_n d_R_readBit_111 rfl ?_
          exact ev_aret d_R_readBit_112 rfl
        · simp only [if_neg h4]
          refine ⟨N1, n1, sl1, .null, ?_, hk, hn, by simp only; omega, hs, Or.inl ⟨rfl, rfl⟩⟩
          show xEv _ k_R_readBit 0 [some (.ref ra), some (.int (nI b)), some (.int (nI no)), none] [] _ _
          refine ev_aload_n d_R_readBit_0 rfl ?_
          refine ev_v0r d_R_readBit_1 q_5_35 rfl (xset_self _ _ _) ⟨rfl, Nat.le_of_ble_eq_true rfl, Nat.le_of_ble_eq_true rfl⟩ (c_R_sign hR p (by omega)) ?_
          refine ev_bipush (v := 33) d_R_readBit_4 rfl ?_
          refine ev_icmp_ne (t := 52) d_R_readBit_6 (by decide) (fun _ => ?_) (fun c_6 => absurd c_6 (by rw [h2.1]; decide))
          refine ev_aload_n d_R_readBit_52 rfl ?_
          refine ev_v0r d_R_readBit_53 q_5_35 rfl (xset_self _ _ _) ⟨rfl, Nat.le_of_ble_eq_true rfl, Nat.le_of_ble_eq_true rfl⟩ (c_R_sign hR p (by omega)) ?_
          refine ev_bipush (v := 40) d_R_readBit_56 rfl ?_
          refine ev_icmp_ne (t := 113) d_R_readBit_58 (by decide) (fun c_58 => absurd h2.1 c_58) (fun _ => ?_)
          refine ev_iload_n d_R_readBit_61 rfl ?_
          refine ev_iconst (v := 5) d_R_readBit_62 rfl ?_
          refine ev_icmp_ge (t := 113) d_R_readBit_63 (by decide) (fun c_63 => absurd c_63 (nI_ge (b := 5) h2.2 (by decide))) (fun _ => ?_)
          refine ev_aload_n d_R_readBit_66 rfl ?_
          refine ev_dup d_R_readBit_67 rfl ?_
          refine ev_get d_R_readBit_68 f_5_9 ((xset_self _ _ _)) rfl ?_
          refine ev_iconst (v := 1) d_R_readBit_71 rfl ?_
          refine ev_iadd d_R_readBit_72 ?_
          refine ev_put (M1 := (rdM N ra w (p + 1))) d_R_readBit_73 f_5_9 ((xset_self _ _ _)) ⟨Nat.le_of_ble_eq_true rfl, (xfit_i rfl), Or.inl rfl⟩ (by rw [← nI_succ]; exact rd_put N ra w p (p + 1)) ?_
          refine ev_aload_n d_R_readBit_76 rfl ?_
          refine ev_bipush (v := 124) d_R_readBit_77 rfl ?_
          refine ev_iload_n d_R_readBit_79 rfl ?_
          refine ev_iconst (v := 1) d_R_readBit_80 rfl ?_
          refine ev_iadd d_R_readBit_81 ?_
          rw [show nI b + 1 = nI (b + 1) from (nI_succ b).symm]
          refine ev_v2r d_R_readBit_82 q_5_22 rfl (xset_self _ _ _) ⟨rfl, Nat.le_of_ble_eq_true rfl, Nat.le_of_ble_eq_true rfl⟩ hcl ?_
          refine ev_astore_n (lo1 := [some (.ref ra), some (.int (nI b)), some (.int (nI no)), some (.ref a)]) d_R_readBit_85 (Nat.le_of_ble_eq_true rfl) rfl ?_
          refine ev_aload_n d_R_readBit_86 rfl ?_
          refine ev_ifnull d_R_readBit_87 ?_
          refine ev_aload_n d_R_readBit_90 rfl ?_
          refine ev_v0r d_R_readBit_91 q_5_35 rfl (xset_self _ _ _) ⟨rfl, Nat.le_of_ble_eq_true rfl, Nat.le_of_ble_eq_true rfl⟩ (c_R_sign hR1 q (by omega)) ?_
          refine ev_bipush (v := 41) d_R_readBit_94 rfl ?_
          refine ev_icmp_eq (t := 101) d_R_readBit_96 (by decide) (fun c_96 => absurd c_96 h4) (fun _ => ?_)
          refine ev_null d_R_readBit_99 ?_
          exact ev_aretN d_R_readBit_100 rfl
    · rw [show pP s len (f + 1) 0 j b no p = pName s len p from by rw [pP, if_pos rfl, if_neg h1, if_neg h2]]
      have hno3 : ¬ 3 ≤ nI no → no < 3 := fun g => by
        rcases Nat.lt_or_ge no 3 with g2 | g2
        · exact g2
        · exact absurd (nI_le (a := 3) g2 (by omega)) g
      have hb5 : ¬ 5 ≤ nI b → b < 5 := fun g => by
        rcases Nat.lt_or_ge b 5 with g2 | g2
        · exact g2
        · exact absurd (nI_le (a := 5) g2 (by omega)) g
      obtain ⟨N1, n1, sl1, v, hcl, hk, hn, hbd, hs, hr⟩ := c_R_readName (d := e + 1 + 2 * f) (sl := sl) hR p hp (3 - no + 5 * (5 - b))
      cases hq : pName s len p with
      | mk q o =>
      rw [hq] at hcl hbd hr
      simp only at hcl hbd hr
      have hR1 := hR.keep hn hk
      rcases hr with ⟨rfl, rfl⟩ | ⟨a, D, rfl, rfl, ha1, ha2, hN, hcell⟩
      · refine ⟨N1, n1, sl1, .null, ?_, hk, hn, by simp only; omega, hs, Or.inl ⟨rfl, rfl⟩⟩
        show xEv _ k_R_readBit 0 [some (.ref ra), some (.int (nI b)), some (.int (nI no)), none] [] _ _
        refine ev_aload_n d_R_readBit_0 rfl ?_
        refine ev_v0r d_R_readBit_1 q_5_35 rfl (xset_self _ _ _) ⟨rfl, Nat.le_of_ble_eq_true rfl, Nat.le_of_ble_eq_true rfl⟩ (c_R_sign hR p (by omega)) ?_
        refine ev_bipush (v := 33) d_R_readBit_4 rfl ?_
        refine ev_icmp_ne (t := 52) d_R_readBit_6 (by decide) (fun c_6_1 => ?_) (fun c_6_1 => ?_)
        · refine ev_aload_n d_R_readBit_52 rfl ?_
          refine ev_v0r d_R_readBit_53 q_5_35 rfl (xset_self _ _ _) ⟨rfl, Nat.le_of_ble_eq_true rfl, Nat.le_of_ble_eq_true rfl⟩ (c_R_sign hR p (by omega)) ?_
          refine ev_bipush (v := 40) d_R_readBit_56 rfl ?_
          refine ev_icmp_ne (t := 113) d_R_readBit_58 (by decide) (fun c_58_2 => ?_) (fun c_58_2 => ?_)
          · refine ev_aload_n d_R_readBit_113 rfl ?_
            refine ev_v0r d_R_readBit_114 q_5_54 rfl (xset_self _ _ _) ⟨rfl, Nat.le_of_ble_eq_true rfl, Nat.le_of_ble_eq_true rfl⟩ hcl ?_
            exact ev_aretN d_R_readBit_117 rfl
          · refine ev_iload_n d_R_readBit_61 rfl ?_
            refine ev_iconst (v := 5) d_R_readBit_62 rfl ?_
            refine ev_icmp_ge (t := 113) d_R_readBit_63 (by decide) (fun c_63_3 => ?_) (fun c_63_3 => ?_)
            · refine ev_aload_n d_R_readBit_113 rfl ?_
              refine ev_v0r d_R_readBit_114 q_5_54 rfl (xset_self _ _ _) ⟨rfl, Nat.le_of_ble_eq_true rfl, Nat.le_of_ble_eq_true rfl⟩ hcl ?_
              exact ev_aretN d_R_readBit_117 rfl
            · exact absurd ⟨by grind, hb5 (by assumption)⟩ h2
        · refine ev_iload_n d_R_readBit_9 rfl ?_
          refine ev_iconst (v := 3) d_R_readBit_10 rfl ?_
          refine ev_icmp_ge (t := 52) d_R_readBit_11 (by decide) (fun c_11_4 => ?_) (fun c_11_4 => ?_)
          · refine ev_aload_n d_R_readBit_52 rfl ?_
            refine ev_v0r d_R_readBit_53 q_5_35 rfl (xset_self _ _ _) ⟨rfl, Nat.le_of_ble_eq_true rfl, Nat.le_of_ble_eq_true rfl⟩ (c_R_sign hR p (by omega)) ?_
            refine ev_bipush (v := 40) d_R_readBit_56 rfl ?_
            refine ev_icmp_ne (t := 113) d_R_readBit_58 (by decide) (fun c_58_5 => ?_) (fun c_58_5 => ?_)
            · refine ev_aload_n d_R_readBit_113 rfl ?_
              refine ev_v0r d_R_readBit_114 q_5_54 rfl (xset_self _ _ _) ⟨rfl, Nat.le_of_ble_eq_true rfl, Nat.le_of_ble_eq_true rfl⟩ hcl ?_
              exact ev_aretN d_R_readBit_117 rfl
            · refine ev_iload_n d_R_readBit_61 rfl ?_
              refine ev_iconst (v := 5) d_R_readBit_62 rfl ?_
              refine ev_icmp_ge (t := 113) d_R_readBit_63 (by decide) (fun c_63_6 => ?_) (fun c_63_6 => ?_)
              · refine ev_aload_n d_R_readBit_113 rfl ?_
                refine ev_v0r d_R_readBit_114 q_5_54 rfl (xset_self _ _ _) ⟨rfl, Nat.le_of_ble_eq_true rfl, Nat.le_of_ble_eq_true rfl⟩ hcl ?_
                exact ev_aretN d_R_readBit_117 rfl
              · exact absurd ⟨by grind, hb5 (by assumption)⟩ h2
          · exact absurd ⟨by grind, hno3 (by assumption)⟩ h1
      · refine ⟨N1, n1, sl1, .ref a, ?_, hk, hn, by simp only; omega, hs, Or.inr ⟨a, D, rfl, rfl, ha1, ha2, rN_h (Nat.le_refl _) (by omega) hN, hcell⟩⟩
        show xEv _ k_R_readBit 0 [some (.ref ra), some (.int (nI b)), some (.int (nI no)), none] [] _ _
        refine ev_aload_n d_R_readBit_0 rfl ?_
        refine ev_v0r d_R_readBit_1 q_5_35 rfl (xset_self _ _ _) ⟨rfl, Nat.le_of_ble_eq_true rfl, Nat.le_of_ble_eq_true rfl⟩ (c_R_sign hR p (by omega)) ?_
        refine ev_bipush (v := 33) d_R_readBit_4 rfl ?_
        refine ev_icmp_ne (t := 52) d_R_readBit_6 (by decide) (fun c_6_1 => ?_) (fun c_6_1 => ?_)
        · refine ev_aload_n d_R_readBit_52 rfl ?_
          refine ev_v0r d_R_readBit_53 q_5_35 rfl (xset_self _ _ _) ⟨rfl, Nat.le_of_ble_eq_true rfl, Nat.le_of_ble_eq_true rfl⟩ (c_R_sign hR p (by omega)) ?_
          refine ev_bipush (v := 40) d_R_readBit_56 rfl ?_
          refine ev_icmp_ne (t := 113) d_R_readBit_58 (by decide) (fun c_58_2 => ?_) (fun c_58_2 => ?_)
          · refine ev_aload_n d_R_readBit_113 rfl ?_
            refine ev_v0r d_R_readBit_114 q_5_54 rfl (xset_self _ _ _) ⟨rfl, Nat.le_of_ble_eq_true rfl, Nat.le_of_ble_eq_true rfl⟩ hcl ?_
            exact ev_aret d_R_readBit_117 rfl
          · refine ev_iload_n d_R_readBit_61 rfl ?_
            refine ev_iconst (v := 5) d_R_readBit_62 rfl ?_
            refine ev_icmp_ge (t := 113) d_R_readBit_63 (by decide) (fun c_63_3 => ?_) (fun c_63_3 => ?_)
            · refine ev_aload_n d_R_readBit_113 rfl ?_
              refine ev_v0r d_R_readBit_114 q_5_54 rfl (xset_self _ _ _) ⟨rfl, Nat.le_of_ble_eq_true rfl, Nat.le_of_ble_eq_true rfl⟩ hcl ?_
              exact ev_aret d_R_readBit_117 rfl
            · exact absurd ⟨by grind, hb5 (by assumption)⟩ h2
        · refine ev_iload_n d_R_readBit_9 rfl ?_
          refine ev_iconst (v := 3) d_R_readBit_10 rfl ?_
          refine ev_icmp_ge (t := 52) d_R_readBit_11 (by decide) (fun c_11_4 => ?_) (fun c_11_4 => ?_)
          · refine ev_aload_n d_R_readBit_52 rfl ?_
            refine ev_v0r d_R_readBit_53 q_5_35 rfl (xset_self _ _ _) ⟨rfl, Nat.le_of_ble_eq_true rfl, Nat.le_of_ble_eq_true rfl⟩ (c_R_sign hR p (by omega)) ?_
            refine ev_bipush (v := 40) d_R_readBit_56 rfl ?_
            refine ev_icmp_ne (t := 113) d_R_readBit_58 (by decide) (fun c_58_5 => ?_) (fun c_58_5 => ?_)
            · refine ev_aload_n d_R_readBit_113 rfl ?_
              refine ev_v0r d_R_readBit_114 q_5_54 rfl (xset_self _ _ _) ⟨rfl, Nat.le_of_ble_eq_true rfl, Nat.le_of_ble_eq_true rfl⟩ hcl ?_
              exact ev_aret d_R_readBit_117 rfl
            · refine ev_iload_n d_R_readBit_61 rfl ?_
              refine ev_iconst (v := 5) d_R_readBit_62 rfl ?_
              refine ev_icmp_ge (t := 113) d_R_readBit_63 (by decide) (fun c_63_6 => ?_) (fun c_63_6 => ?_)
              · refine ev_aload_n d_R_readBit_113 rfl ?_
                refine ev_v0r d_R_readBit_114 q_5_54 rfl (xset_self _ _ _) ⟨rfl, Nat.le_of_ble_eq_true rfl, Nat.le_of_ble_eq_true rfl⟩ hcl ?_
                exact ev_aret d_R_readBit_117 rfl
              · exact absurd ⟨by grind, hb5 (by assumption)⟩ h2
          · exact absurd ⟨by grind, hno3 (by assumption)⟩ h1
