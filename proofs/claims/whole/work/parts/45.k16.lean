/-! the class: writing a contract's text -/
set_option maxRecDepth 20000 in
theorem l_C_writeGroup {d : Nat} {B N : xMm} {n sl ca ro xr xa : Nat} {z : Int32} {f : Nat → Int32} (hxx : xr ≠ xa) (hB0 : ∀ a e, B a = some e → a ≠ xr ∧ a ≠ xa ∧ N a = some e) (hca : N ca = some (.inr (1, [.ref ro, .ref xr, .int z]))) (hcr : ca ≠ xr) (hcx : ca ≠ xa) (P : Nat → Den → Prop) (v : Int32) (hP : ∀ b D w, P b D → w.length + D.2.length ≤ 240 → xCl d k_C_write [.ref ca, .ref b, .int (v + 1)] (rowM N xr xa f (w), n, sl) (.inl none, (rowM N xr xa f (w ++ D.2), n, sl))) (a : Nat) {kd nm nu : Int32} {i x : Option Nat} (hA : B a = some (.inr (4, [.int kd, .int nm, .int nu, va_rf i, va_rf x]))) : ∀ (Ds : List Den) (q : Option Nat), cCh B P Ds q → ∀ (w : List Int32) (ah : Int32), w.length + (grW kd ah Ds).length ≤ 240 → xEv (d + 1) k_C_writeGroup 9 [some (.ref ca), some (.ref a), some (.int v), some (.int ah), some (va_rf q)] [] (rowM N xr xa f (w), n, sl) (.inl none, (rowM N xr xa f (w ++ grW kd ah Ds), n, sl)) := by
  intro Ds
  induction Ds with
  | nil =>
    intro q hq w ah hw
    have hq : q = none := hq
    subst hq
    rw [grW] at hw
    show xEv _ _ _ [_, _, _, _, some Value.null] _ _ _
    refine ev_aloadN d_C_writeGroup_9 rfl ?_
    refine ev_ifnullN (t := 46) d_C_writeGroup_11 (by decide) ?_
    refine ev_aload_n d_C_writeGroup_46 rfl ?_
    refine ev_get d_C_writeGroup_47 f_1_20 (((rowM_ne N f _ hcr hcx).trans hca)) rfl ?_
    refine ev_bipush (v := 41) d_C_writeGroup_50 rfl ?_
    refine ev_v1o d_C_writeGroup_52 q_1_32 rfl (rowM_a _ _ _ _ _) ⟨rfl, Nat.le_of_ble_eq_true rfl, Nat.le_of_ble_eq_true rfl⟩ (c_W_add hxx _ _ (by simp at hw ⊢; omega)) ?_
    exact xEv.to (ev_ret d_C_writeGroup_55 rfl) (by rfl)
  | cons D Ds ih =>
    intro q hq w ah hw
    rw [grW] at hw
    obtain ⟨b, rfl, hb, kd2, nm2, nu2, i2, x2, hBb, hch⟩ := hq
    show xEv _ _ _ [_, _, _, _, some (Value.ref b)] _ _ _
    refine ev_aload d_C_writeGroup_9 rfl ?_
    refine ev_ifnull d_C_writeGroup_11 ?_
    refine ev_aload_n d_C_writeGroup_14 rfl ?_
    refine ev_get d_C_writeGroup_15 f_1_20 (((rowM_ne N f _ hcr hcx).trans hca)) rfl ?_
    refine ev_iload_n d_C_writeGroup_18 rfl ?_
    refine ev_v1o d_C_writeGroup_19 q_1_32 rfl (rowM_a _ _ _ _ _) ⟨rfl, Nat.le_of_ble_eq_true rfl, Nat.le_of_ble_eq_true rfl⟩ (c_W_add hxx _ _ (by simp at hw ⊢; omega)) ?_
    refine ev_aload_n d_C_writeGroup_22 rfl ?_
    refine ev_aload d_C_writeGroup_23 rfl ?_
    refine ev_iload_n d_C_writeGroup_25 rfl ?_
    refine ev_iconst (v := 1) d_C_writeGroup_26 rfl ?_
    refine ev_iadd d_C_writeGroup_27 ?_
    refine ev_v2o d_C_writeGroup_28 q_1_28 rfl ((rowM_ne N f _ hcr hcx).trans hca) ⟨rfl, Nat.le_of_ble_eq_true rfl, Nat.le_of_ble_eq_true rfl⟩ (hP b D _ hb (by simp at hw ⊢; omega)) ?_
    refine ev_aload_n d_C_writeGroup_31 rfl ?_
    refine ev_get d_C_writeGroup_32 f_1_36 (((rowM_ne N f _ (hB0 a _ hA).1 (hB0 a _ hA).2.1).trans (hB0 a _ hA).2.2)) rfl ?_
    refine ev_istore_n (lo1 := [some (.ref ca), some (.ref a), some (.int v), some (.int kd), some (.ref b)]) d_C_writeGroup_35 (Nat.le_of_ble_eq_true rfl) rfl ?_
    refine ev_aload d_C_writeGroup_36 rfl ?_
    refine ev_get d_C_writeGroup_38 f_1_55 (((rowM_ne N f _ (hB0 b _ hBb).1 (hB0 b _ hBb).2.1).trans (hB0 b _ hBb).2.2)) rfl ?_
    refine ev_astoreQ (lo1 := [some (.ref ca), some (.ref a), some (.int v), some (.int kd), some (va_rf x2)]) d_C_writeGroup_41 (Nat.le_of_ble_eq_true rfl) rfl ?_
    refine ev_goto (t := 9) d_C_writeGroup_43 (by decide) ?_
    exact xEv.to (ih x2 hch _ kd (by simp at hw ⊢; omega)) (by simp [grW])
set_option maxRecDepth 20000 in
theorem c_C_writeGroup {d : Nat} {B N : xMm} {n sl ca ro xr xa : Nat} {z : Int32} {f : Nat → Int32} (hxx : xr ≠ xa) (hB0 : ∀ a e, B a = some e → a ≠ xr ∧ a ≠ xa ∧ N a = some e) (hca : N ca = some (.inr (1, [.ref ro, .ref xr, .int z]))) (hcr : ca ≠ xr) (hcx : ca ≠ xa) (P : Nat → Den → Prop) (v : Int32) (hP : ∀ b D w, P b D → w.length + D.2.length ≤ 240 → xCl d k_C_write [.ref ca, .ref b, .int (v + 1)] (rowM N xr xa f (w), n, sl) (.inl none, (rowM N xr xa f (w ++ D.2), n, sl))) (a : Nat) {kd nm nu : Int32} {i x : Option Nat} (hA : B a = some (.inr (4, [.int kd, .int nm, .int nu, va_rf i, va_rf x]))) (Ds : List Den) (hch : cCh B P Ds i) (w : List Int32) (hw : w.length + (grW kd 40 Ds).length ≤ 240) : xCl (d + 1) k_C_writeGroup [.ref ca, .ref a, .int v] (rowM N xr xa f (w), n, sl) (.inl none, (rowM N xr xa f (w ++ grW kd 40 Ds), n, sl)) := by
  show xEv _ k_C_writeGroup 0 [some (.ref ca), some (.ref a), some (.int v), none, none] [] _ _
  refine ev_bipush (v := 40) d_C_writeGroup_0 rfl ?_
  refine ev_istore_n (lo1 := [some (.ref ca), some (.ref a), some (.int v), some (.int 40), none]) d_C_writeGroup_2 (Nat.le_of_ble_eq_true rfl) rfl ?_
  refine ev_aload_n d_C_writeGroup_3 rfl ?_
  refine ev_get d_C_writeGroup_4 f_1_39 (((rowM_ne N f _ (hB0 a _ hA).1 (hB0 a _ hA).2.1).trans (hB0 a _ hA).2.2)) rfl ?_
  refine ev_astoreQ (lo1 := [some (.ref ca), some (.ref a), some (.int v), some (.int 40), some (va_rf i)]) d_C_writeGroup_7 (Nat.le_of_ble_eq_true rfl) rfl ?_
  exact l_C_writeGroup hxx hB0 hca hcr hcx P v hP a hA Ds i hch w 40 hw
set_option maxRecDepth 20000 in
theorem c_C_write {B N : xMm} {n sl ca ro xr xa : Nat} {z : Int32} {f : Nat → Int32} (hxx : xr ≠ xa) (hB0 : ∀ a e, B a = some e → a ≠ xr ∧ a ≠ xa ∧ N a = some e) (hca : N ca = some (.inr (1, [.ref ro, .ref xr, .int z]))) (hcr : ca ≠ xr) (hcx : ca ≠ xa)  : ∀ (H d a : Nat) (D : Den), cN B H a D → ∀ (v : Int32) (w : List Int32), (∃ u, v = nI u ∧ u + H ≤ 41) → w.length + D.2.length ≤ 240 → xCl (d + 2 * H + 1) k_C_write [.ref ca, .ref a, .int v] (rowM N xr xa f (w), n, sl) (.inl none, (rowM N xr xa f (w ++ D.2), n, sl)) := by
  intro H
  induction H with
  | zero =>
    intro d a D hN
    exact absurd hN id
  | succ H ih0 =>
    intro d a D hN v w hv0 hw
    obtain ⟨u, hu, huH⟩ := hv0
    have hv : v ≤ 40 := by rw [hu]; exact nI_le (b := 40) (by omega) (by decide)
    have hv1 : ∃ w, v + 1 = nI w ∧ w + H ≤ 41 := ⟨u + 1, by rw [hu, nI_succ], by omega⟩
    have ih := fun b D hb v w hv hw => ih0 (d + 1) b D hb v w hv hw
    have ih2 := fun b D hb v w hv hw => ih0 d b D hb v w hv hw
    rw [show d + 2 * (H + 1) + 1 = (d + 1 + 2 * H + 1) + 1 by omega]
    obtain ⟨kd, nm, nu, i, x, hB, hk⟩ := hN
    rcases hk with ⟨rfl, b, D1, rfl, hN, rfl⟩ | ⟨hk, Ds, hch, rfl⟩ | ⟨hk, hnm, m, hm, rfl, rfl⟩
    · show xEv _ k_C_write 0 [some (.ref ca), some (.ref a), some (.int v)] [] _ _
      refine ev_aload_n d_C_write_0 rfl ?_
      refine ev_ifnull d_C_write_1 ?_
      refine ev_iload_n d_C_write_4 rfl ?_
      refine ev_bipush (v := 40) d_C_write_5 rfl ?_
      refine ev_icmp_le (t := 11) d_C_write_7 (by decide) (fun _ => ?_) (fun c_7 => absurd hv c_7)
      refine ev_aload_n d_C_write_11 rfl ?_
      refine ev_get d_C_write_12 f_1_36 (((rowM_ne N f _ (hB0 a _ hB).1 (hB0 a _ hB).2.1).trans (hB0 a _ hB).2.2)) rfl ?_
      refine ev_bipush (v := 33) d_C_write_15 rfl ?_
      refine ev_icmp_ne (t := 43) d_C_write_17 (by decide) (fun c_17 => absurd rfl c_17) (fun _ => ?_)
      refine ev_aload_n d_C_write_20 rfl ?_
      refine ev_get d_C_write_21 f_1_20 (((rowM_ne N f _ hcr hcx).trans hca)) rfl ?_
      refine ev_bipush (v := 33) d_C_write_24 rfl ?_
      refine ev_v1o d_C_write_26 q_1_32 rfl (rowM_a _ _ _ _ _) ⟨rfl, Nat.le_of_ble_eq_true rfl, Nat.le_of_ble_eq_true rfl⟩ (c_W_add hxx _ _ (by simp [notD, leafD] at hw ⊢; omega)) ?_
      refine ev_aload_n d_C_write_29 rfl ?_
      refine ev_aload_n d_C_write_30 rfl ?_
      refine ev_get d_C_write_31 f_1_39 (((rowM_ne N f _ (hB0 a _ hB).1 (hB0 a _ hB).2.1).trans (hB0 a _ hB).2.2)) rfl ?_
      refine ev_iload_n d_C_write_34 rfl ?_
      refine ev_iconst (v := 1) d_C_write_35 rfl ?_
      refine ev_iadd d_C_write_36 ?_
      refine ev_v2o d_C_write_37 q_1_28 rfl ((rowM_ne N f _ hcr hcx).trans hca) ⟨rfl, Nat.le_of_ble_eq_true rfl, Nat.le_of_ble_eq_true rfl⟩ (ih b D1 hN _ _ hv1 (by simp [notD] at hw ⊢; omega)) ?_
      refine ev_goto (t := 103) d_C_write_40 (by decide) ?_
      exact xEv.to (ev_ret d_C_write_103 rfl) (by simp [notD, grpD, leafD])
    · rw [show d + 1 + 2 * H + 1 = (d + 2 * H + 1) + 1 by omega]
      have hw : w.length + (grW kd 40 Ds).length ≤ 240 := hw
      rcases hk with rfl | rfl
      · show xEv _ k_C_write 0 [some (.ref ca), some (.ref a), some (.int v)] [] _ _
        refine ev_aload_n d_C_write_0 rfl ?_
        refine ev_ifnull d_C_write_1 ?_
        refine ev_iload_n d_C_write_4 rfl ?_
        refine ev_bipush (v := 40) d_C_write_5 rfl ?_
        refine ev_icmp_le (t := 11) d_C_write_7 (by decide) (fun _ => ?_) (fun c_7 => absurd hv c_7)
        refine ev_aload_n d_C_write_11 rfl ?_
        refine ev_get d_C_write_12 f_1_36 (((rowM_ne N f _ (hB0 a _ hB).1 (hB0 a _ hB).2.1).trans (hB0 a _ hB).2.2)) rfl ?_
        refine ev_bipush (v := 33) d_C_write_15 rfl ?_
        refine ev_icmp_ne (t := 43) d_C_write_17 (by decide) (fun _ => ?_) (fun c_17 => absurd c_17 (by decide))
        refine ev_aload_n d_C_write_43 rfl ?_
        refine ev_get d_C_write_44 f_1_36 (((rowM_ne N f _ (hB0 a _ hB).1 (hB0 a _ hB).2.1).trans (hB0 a _ hB).2.2)) rfl ?_
        refine ev_bipush (v := 124) d_C_write_47 rfl ?_
        refine ev_icmp_eq (t := 61) d_C_write_49 (by decide) (fun _ => ?_) (fun c_49 => absurd rfl c_49)
        refine ev_aload_n d_C_write_61 rfl ?_
        refine ev_aload_n d_C_write_62 rfl ?_
        refine ev_iload_n d_C_write_63 rfl ?_
        refine ev_v2o d_C_write_64 q_1_43 rfl ((rowM_ne N f _ hcr hcx).trans hca) ⟨rfl, Nat.le_of_ble_eq_true rfl, Nat.le_of_ble_eq_true rfl⟩ (c_C_writeGroup hxx hB0 hca hcr hcx (cN B H) v (fun b D w hb hw => ih2 b D hb _ w hv1 hw) a hB Ds hch w hw) ?_
        refine ev_goto (t := 103) d_C_write_67 (by decide) ?_
        exact xEv.to (ev_ret d_C_write_103 rfl) (by simp [notD, grpD, leafD])
      · show xEv _ k_C_write 0 [some (.ref ca), some (.ref a), some (.int v)] [] _ _
        refine ev_aload_n d_C_write_0 rfl ?_
        refine ev_ifnull d_C_write_1 ?_
        refine ev_iload_n d_C_write_4 rfl ?_
        refine ev_bipush (v := 40) d_C_write_5 rfl ?_
        refine ev_icmp_le (t := 11) d_C_write_7 (by decide) (fun _ => ?_) (fun c_7 => absurd hv c_7)
        refine ev_aload_n d_C_write_11 rfl ?_
        refine ev_get d_C_write_12 f_1_36 (((rowM_ne N f _ (hB0 a _ hB).1 (hB0 a _ hB).2.1).trans (hB0 a _ hB).2.2)) rfl ?_
        refine ev_bipush (v := 33) d_C_write_15 rfl ?_
        refine ev_icmp_ne (t := 43) d_C_write_17 (by decide) (fun _ => ?_) (fun c_17 => absurd c_17 (by decide))
        refine ev_aload_n d_C_write_43 rfl ?_
        refine ev_get d_C_write_44 f_1_36 (((rowM_ne N f _ (hB0 a _ hB).1 (hB0 a _ hB).2.1).trans (hB0 a _ hB).2.2)) rfl ?_
        refine ev_bipush (v := 124) d_C_write_47 rfl ?_
        refine ev_icmp_eq (t := 61) d_C_write_49 (by decide) (fun c_49 => absurd c_49 (by decide)) (fun _ => ?_)
        refine ev_aload_n d_C_write_52 rfl ?_
        refine ev_get d_C_write_53 f_1_36 (((rowM_ne N f _ (hB0 a _ hB).1 (hB0 a _ hB).2.1).trans (hB0 a _ hB).2.2)) rfl ?_
        refine ev_bipush (v := 38) d_C_write_56 rfl ?_
        refine ev_icmp_ne (t := 70) d_C_write_58 (by decide) (fun c_58 => absurd rfl c_58) (fun _ => ?_)
        refine ev_aload_n d_C_write_61 rfl ?_
        refine ev_aload_n d_C_write_62 rfl ?_
        refine ev_iload_n d_C_write_63 rfl ?_
        refine ev_v2o d_C_write_64 q_1_43 rfl ((rowM_ne N f _ hcr hcx).trans hca) ⟨rfl, Nat.le_of_ble_eq_true rfl, Nat.le_of_ble_eq_true rfl⟩ (c_C_writeGroup hxx hB0 hca hcr hcx (cN B H) v (fun b D w hb hw => ih2 b D hb _ w hv1 hw) a hB Ds hch w hw) ?_
        refine ev_goto (t := 103) d_C_write_67 (by decide) ?_
        exact xEv.to (ev_ret d_C_write_103 rfl) (by simp [notD, grpD, leafD])
    · rcases hk with rfl | rfl | rfl
      · show xEv _ k_C_write 0 [some (.ref ca), some (.ref a), some (.int v)] [] _ _
        refine ev_aload_n d_C_write_0 rfl ?_
        refine ev_ifnull d_C_write_1 ?_
        refine ev_iload_n d_C_write_4 rfl ?_
        refine ev_bipush (v := 40) d_C_write_5 rfl ?_
        refine ev_icmp_le (t := 11) d_C_write_7 (by decide) (fun _ => ?_) (fun c_7 => absurd hv c_7)
        refine ev_aload_n d_C_write_11 rfl ?_
        refine ev_get d_C_write_12 f_1_36 (((rowM_ne N f _ (hB0 a _ hB).1 (hB0 a _ hB).2.1).trans (hB0 a _ hB).2.2)) rfl ?_
        refine ev_bipush (v := 33) d_C_write_15 rfl ?_
        refine ev_icmp_ne (t := 43) d_C_write_17 (by decide) (fun _ => ?_) (fun c_17 => absurd c_17 (by decide))
        refine ev_aload_n d_C_write_43 rfl ?_
        refine ev_get d_C_write_44 f_1_36 (((rowM_ne N f _ (hB0 a _ hB).1 (hB0 a _ hB).2.1).trans (hB0 a _ hB).2.2)) rfl ?_
        refine ev_bipush (v := 124) d_C_write_47 rfl ?_
        refine ev_icmp_eq (t := 61) d_C_write_49 (by decide) (fun c_49 => absurd c_49 (by decide)) (fun _ => ?_)
        refine ev_aload_n d_C_write_52 rfl ?_
        refine ev_get d_C_write_53 f_1_36 (((rowM_ne N f _ (hB0 a _ hB).1 (hB0 a _ hB).2.1).trans (hB0 a _ hB).2.2)) rfl ?_
        refine ev_bipush (v := 38) d_C_write_56 rfl ?_
        refine ev_icmp_ne (t := 70) d_C_write_58 (by decide) (fun _ => ?_) (fun c_58 => absurd c_58 (by decide))
        refine ev_aload_n d_C_write_70 rfl ?_
        refine ev_get d_C_write_71 f_1_20 (((rowM_ne N f _ hcr hcx).trans hca)) rfl ?_
        refine ev_aload_n d_C_write_74 rfl ?_
        refine ev_get d_C_write_75 f_1_46 (((rowM_ne N f _ (hB0 a _ hB).1 (hB0 a _ hB).2.1).trans (hB0 a _ hB).2.2)) rfl ?_
        refine ev_v1o d_C_write_78 q_1_32 rfl (rowM_a _ _ _ _ _) ⟨rfl, Nat.le_of_ble_eq_true rfl, Nat.le_of_ble_eq_true rfl⟩ (c_W_add hxx _ _ (by simp [notD, leafD] at hw ⊢; omega)) ?_
        refine ev_aload_n d_C_write_81 rfl ?_
        refine ev_get d_C_write_82 f_1_20 (((rowM_ne N f _ hcr hcx).trans hca)) rfl ?_
        refine ev_aload_n d_C_write_85 rfl ?_
        refine ev_get d_C_write_86 f_1_36 (((rowM_ne N f _ (hB0 a _ hB).1 (hB0 a _ hB).2.1).trans (hB0 a _ hB).2.2)) rfl ?_
        refine ev_v1o d_C_write_89 q_1_32 rfl (rowM_a _ _ _ _ _) ⟨rfl, Nat.le_of_ble_eq_true rfl, Nat.le_of_ble_eq_true rfl⟩ (c_W_add hxx _ _ (by simp [notD, leafD] at hw ⊢; omega)) ?_
        refine ev_aload_n d_C_write_92 rfl ?_
        refine ev_get d_C_write_93 f_1_20 (((rowM_ne N f _ hcr hcx).trans hca)) rfl ?_
        refine ev_aload_n d_C_write_96 rfl ?_
        refine ev_get d_C_write_97 f_1_49 (((rowM_ne N f _ (hB0 a _ hB).1 (hB0 a _ hB).2.1).trans (hB0 a _ hB).2.2)) rfl ?_
        refine ev_v1o d_C_write_100 q_1_52 rfl (rowM_a _ _ _ _ _) ⟨rfl, Nat.le_of_ble_eq_true rfl, Nat.le_of_ble_eq_true rfl⟩ (c_W_addNumber hxx m hm _ (by simp [leafD] at hw ⊢; omega)) ?_
        exact xEv.to (ev_ret d_C_write_103 rfl) (by simp [notD, grpD, leafD])
      · show xEv _ k_C_write 0 [some (.ref ca), some (.ref a), some (.int v)] [] _ _
        refine ev_aload_n d_C_write_0 rfl ?_
        refine ev_ifnull d_C_write_1 ?_
        refine ev_iload_n d_C_write_4 rfl ?_
        refine ev_bipush (v := 40) d_C_write_5 rfl ?_
        refine ev_icmp_le (t := 11) d_C_write_7 (by decide) (fun _ => ?_) (fun c_7 => absurd hv c_7)
        refine ev_aload_n d_C_write_11 rfl ?_
        refine ev_get d_C_write_12 f_1_36 (((rowM_ne N f _ (hB0 a _ hB).1 (hB0 a _ hB).2.1).trans (hB0 a _ hB).2.2)) rfl ?_
        refine ev_bipush (v := 33) d_C_write_15 rfl ?_
        refine ev_icmp_ne (t := 43) d_C_write_17 (by decide) (fun _ => ?_) (fun c_17 => absurd c_17 (by decide))
        refine ev_aload_n d_C_write_43 rfl ?_
        refine ev_get d_C_write_44 f_1_36 (((rowM_ne N f _ (hB0 a _ hB).1 (hB0 a _ hB).2.1).trans (hB0 a _ hB).2.2)) rfl ?_
        refine ev_bipush (v := 124) d_C_write_47 rfl ?_
        refine ev_icmp_eq (t := 61) d_C_write_49 (by decide) (fun c_49 => absurd c_49 (by decide)) (fun _ => ?_)
        refine ev_aload_n d_C_write_52 rfl ?_
        refine ev_get d_C_write_53 f_1_36 (((rowM_ne N f _ (hB0 a _ hB).1 (hB0 a _ hB).2.1).trans (hB0 a _ hB).2.2)) rfl ?_
        refine ev_bipush (v := 38) d_C_write_56 rfl ?_
        refine ev_icmp_ne (t := 70) d_C_write_58 (by decide) (fun _ => ?_) (fun c_58 => absurd c_58 (by decide))
        refine ev_aload_n d_C_write_70 rfl ?_
        refine ev_get d_C_write_71 f_1_20 (((rowM_ne N f _ hcr hcx).trans hca)) rfl ?_
        refine ev_aload_n d_C_write_74 rfl ?_
        refine ev_get d_C_write_75 f_1_46 (((rowM_ne N f _ (hB0 a _ hB).1 (hB0 a _ hB).2.1).trans (hB0 a _ hB).2.2)) rfl ?_
        refine ev_v1o d_C_write_78 q_1_32 rfl (rowM_a _ _ _ _ _) ⟨rfl, Nat.le_of_ble_eq_true rfl, Nat.le_of_ble_eq_true rfl⟩ (c_W_add hxx _ _ (by simp [notD, leafD] at hw ⊢; omega)) ?_
        refine ev_aload_n d_C_write_81 rfl ?_
        refine ev_get d_C_write_82 f_1_20 (((rowM_ne N f _ hcr hcx).trans hca)) rfl ?_
        refine ev_aload_n d_C_write_85 rfl ?_
        refine ev_get d_C_write_86 f_1_36 (((rowM_ne N f _ (hB0 a _ hB).1 (hB0 a _ hB).2.1).trans (hB0 a _ hB).2.2)) rfl ?_
        refine ev_v1o d_C_write_89 q_1_32 rfl (rowM_a _ _ _ _ _) ⟨rfl, Nat.le_of_ble_eq_true rfl, Nat.le_of_ble_eq_true rfl⟩ (c_W_add hxx _ _ (by simp [notD, leafD] at hw ⊢; omega)) ?_
        refine ev_aload_n d_C_write_92 rfl ?_
        refine ev_get d_C_write_93 f_1_20 (((rowM_ne N f _ hcr hcx).trans hca)) rfl ?_
        refine ev_aload_n d_C_write_96 rfl ?_
        refine ev_get d_C_write_97 f_1_49 (((rowM_ne N f _ (hB0 a _ hB).1 (hB0 a _ hB).2.1).trans (hB0 a _ hB).2.2)) rfl ?_
        refine ev_v1o d_C_write_100 q_1_52 rfl (rowM_a _ _ _ _ _) ⟨rfl, Nat.le_of_ble_eq_true rfl, Nat.le_of_ble_eq_true rfl⟩ (c_W_addNumber hxx m hm _ (by simp [leafD] at hw ⊢; omega)) ?_
        exact xEv.to (ev_ret d_C_write_103 rfl) (by simp [notD, grpD, leafD])
      · show xEv _ k_C_write 0 [some (.ref ca), some (.ref a), some (.int v)] [] _ _
        refine ev_aload_n d_C_write_0 rfl ?_
        refine ev_ifnull d_C_write_1 ?_
        refine ev_iload_n d_C_write_4 rfl ?_
        refine ev_bipush (v := 40) d_C_write_5 rfl ?_
        refine ev_icmp_le (t := 11) d_C_write_7 (by decide) (fun _ => ?_) (fun c_7 => absurd hv c_7)
        refine ev_aload_n d_C_write_11 rfl ?_
        refine ev_get d_C_write_12 f_1_36 (((rowM_ne N f _ (hB0 a _ hB).1 (hB0 a _ hB).2.1).trans (hB0 a _ hB).2.2)) rfl ?_
        refine ev_bipush (v := 33) d_C_write_15 rfl ?_
        refine ev_icmp_ne (t := 43) d_C_write_17 (by decide) (fun _ => ?_) (fun c_17 => absurd c_17 (by decide))
        refine ev_aload_n d_C_write_43 rfl ?_
        refine ev_get d_C_write_44 f_1_36 (((rowM_ne N f _ (hB0 a _ hB).1 (hB0 a _ hB).2.1).trans (hB0 a _ hB).2.2)) rfl ?_
        refine ev_bipush (v := 124) d_C_write_47 rfl ?_
        refine ev_icmp_eq (t := 61) d_C_write_49 (by decide) (fun c_49 => absurd c_49 (by decide)) (fun _ => ?_)
        refine ev_aload_n d_C_write_52 rfl ?_
        refine ev_get d_C_write_53 f_1_36 (((rowM_ne N f _ (hB0 a _ hB).1 (hB0 a _ hB).2.1).trans (hB0 a _ hB).2.2)) rfl ?_
        refine ev_bipush (v := 38) d_C_write_56 rfl ?_
        refine ev_icmp_ne (t := 70) d_C_write_58 (by decide) (fun _ => ?_) (fun c_58 => absurd c_58 (by decide))
        refine ev_aload_n d_C_write_70 rfl ?_
        refine ev_get d_C_write_71 f_1_20 (((rowM_ne N f _ hcr hcx).trans hca)) rfl ?_
        refine ev_aload_n d_C_write_74 rfl ?_
        refine ev_get d_C_write_75 f_1_46 (((rowM_ne N f _ (hB0 a _ hB).1 (hB0 a _ hB).2.1).trans (hB0 a _ hB).2.2)) rfl ?_
        refine ev_v1o d_C_write_78 q_1_32 rfl (rowM_a _ _ _ _ _) ⟨rfl, Nat.le_of_ble_eq_true rfl, Nat.le_of_ble_eq_true rfl⟩ (c_W_add hxx _ _ (by simp [notD, leafD] at hw ⊢; omega)) ?_
        refine ev_aload_n d_C_write_81 rfl ?_
        refine ev_get d_C_write_82 f_1_20 (((rowM_ne N f _ hcr hcx).trans hca)) rfl ?_
        refine ev_aload_n d_C_write_85 rfl ?_
        refine ev_get d_C_write_86 f_1_36 (((rowM_ne N f _ (hB0 a _ hB).1 (hB0 a _ hB).2.1).trans (hB0 a _ hB).2.2)) rfl ?_
        refine ev_v1o d_C_write_89 q_1_32 rfl (rowM_a _ _ _ _ _) ⟨rfl, Nat.le_of_ble_eq_true rfl, Nat.le_of_ble_eq_true rfl⟩ (c_W_add hxx _ _ (by simp [notD, leafD] at hw ⊢; omega)) ?_
        refine ev_aload_n d_C_write_92 rfl ?_
        refine ev_get d_C_write_93 f_1_20 (((rowM_ne N f _ hcr hcx).trans hca)) rfl ?_
        refine ev_aload_n d_C_write_96 rfl ?_
        refine ev_get d_C_write_97 f_1_49 (((rowM_ne N f _ (hB0 a _ hB).1 (hB0 a _ hB).2.1).trans (hB0 a _ hB).2.2)) rfl ?_
        refine ev_v1o d_C_write_100 q_1_52 rfl (rowM_a _ _ _ _ _) ⟨rfl, Nat.le_of_ble_eq_true rfl, Nat.le_of_ble_eq_true rfl⟩ (c_W_addNumber hxx m hm _ (by simp [leafD] at hw ⊢; omega)) ?_
        exact xEv.to (ev_ret d_C_write_103 rfl) (by simp [notD, grpD, leafD])
