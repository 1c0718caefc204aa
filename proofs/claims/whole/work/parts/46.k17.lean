/-! how long a written text is -/
def lenS : List Den → Nat
  | [] => 0
  | D :: Ds => D.2.length + 1 + lenS Ds
theorem grW_len (j : Int32) : ∀ (Ds : List Den) (a : Int32), (grW j a Ds).length = lenS Ds + 1
  | [], a => rfl
  | D :: Ds, a => by simp [grW, lenS, grW_len j Ds]; omega
theorem dn_le2 (m i : Nat) (h : m / 10 ^ i ≤ 9) : ∀ f j, j ≤ i → dn m f j ≤ i
  | 0, j, hj => hj
  | f + 1, j, hj => by
    rw [dn]
    split
    · exact hj
    · rename_i hc
      have : j ≠ i := fun e => hc (by rw [e]; exact h)
      exact dn_le2 m i h f (j + 1) (by omega)
theorem dg_pw {m c : Nat} (h : m < 10 ^ c) (hc : 1 ≤ c) : (dg m).length ≤ c := by
  unfold dg
  rw [dgn_len]
  have h1 : m / 10 ^ (c - 1) < 10 := by
    rw [Nat.div_lt_iff_lt_mul (p10p _)]
    rw [show c = (c - 1) + 1 by omega, Nat.pow_succ] at h
    rw [Nat.mul_comm]
    exact h
  have := dn_le2 m (c - 1) (by omega) 5 0 (by omega)
  omega
theorem pNum_pw (s : Nat → Int32) (len : Nat) : ∀ k m p d, m < 10 ^ d → p ≤ len → (pNum s len k m p).2 < 10 ^ (d + ((pNum s len k m p).1 - p))
  | 0, m, p, d, h, _ => by
    rw [pNum]
    simpa using h
  | k + 1, m, p, d, h, hp => by
    rw [pNum]
    split
    · rename_i hd
      have hd2 : 48 ≤ sg s len p ∧ sg s len p ≤ 57 := by simpa [isD] using hd
      have hp1 : p < len := sg_lt (fun e => by rw [e] at hd; exact absurd hd (by decide))
      obtain ⟨v, hv, e⟩ := nI_of (x := sg s len p) (by grind)
      rw [e] at hd2
      have hv1 : v ≤ 57 := (nI_leI (b := 57) (by omega) (by decide)).mp hd2.2
      rw [e, nI_clamp (by omega)]
      have ih := pNum_pw s len k (10 * m + (v - 48)) (p + 1) (d + 1) (by rw [Nat.pow_succ]; omega) (by omega)
      have hb := pNum_bd s len k (10 * m + (v - 48)) (p + 1) (by omega)
      rw [show d + 1 + ((pNum s len k (10 * m + (v - 48)) (p + 1)).1 - (p + 1)) = d + ((pNum s len k (10 * m + (v - 48)) (p + 1)).1 - p) by omega] at ih
      exact ih
    · simpa using h
theorem pNum_gt (s : Nat → Int32) (len p : Nat) (hp : p ≤ len) (h : isD (sg s len p) = true) : p + 1 ≤ (pNum s len 6 0 p).1 := by
  rw [pNum, if_pos h]
  have hp1 : p < len := sg_lt (fun e => by rw [e] at h; exact absurd h (by decide))
  exact (pNum_bd s len 5 _ (p + 1) (by omega)).1
theorem pName_len (s : Nat → Int32) (len p q : Nat) (Ds : List Den) (hp : p ≤ len) (h : pName s len p = (q, some Ds)) : ∃ D, Ds = [D] ∧ D.2.length + 3 + 2 * p ≤ 2 * q := by
  unfold pName at h
  split at h
  · rename_i h1
    have hp1 := isN_nz h1
    split at h
    · rename_i h2
      have hp2 : p + 1 < len := sg_lt (fun e => by rw [e] at h2; exact absurd h2 (by decide))
      split at h
      · rename_i h3
        cases h
        refine ⟨_, rfl, ?_⟩
        have g1 := pNum_gt s len (p + 2) (by omega) h3
        have g2 := pNum_pw s len 6 0 (p + 2) 0 (by decide) (by omega)
        rw [Nat.zero_add] at g2
        have g3 := dg_pw g2 (by omega)
        simp only [leafD, List.length_append, List.length_cons, List.length_nil]
        omega
      · cases h
    · cases h
  · cases h
theorem pP_len (s : Nat → Int32) (len : Nat) : ∀ f m j b no p q Ds, p ≤ len → j ≠ 0 → pP s len f m j b no p = (q, some Ds) → (m < 2 → ∃ D, Ds = [D] ∧ D.2.length + 3 + 2 * p ≤ 2 * q) ∧ (2 ≤ m → lenS Ds + 4 * Ds.length + 2 * p ≤ 2 * q)
  | 0, m, j, b, no, p, q, Ds, hp, hj, h => by cases h
  | f + 1, m, j, b, no, p, q, Ds, hp, hj, h => by
    have ih := pP_len s len f
    have bd := pP_bd s len f
    unfold pP at h
    split at h
    · rename_i hm
      refine ⟨fun _ => ?_, fun g => by omega⟩
      split at h
      · rename_i h1
        have hp1 : p < len := sg_lt (by rw [h1.1]; decide)
        split at h
        · rename_i e
          cases h
          obtain ⟨D, g1, g2⟩ := (ih _ _ _ _ _ _ _ (by omega) hj e).1 (by omega)
          cases g1
          refine ⟨_, rfl, ?_⟩
          simp only [notD, List.length_append, List.length_cons, List.length_nil]
          omega
        · cases h
      · split at h
        · rename_i h1
          have hp1 : p < len := sg_lt (by rw [h1.1]; decide)
          split at h
          · rename_i e
            split at h
            · cases h
              obtain ⟨D, g1, g2⟩ := (ih _ _ _ _ _ _ _ (by omega) (by decide) e).1 (by omega)
              exact ⟨D, g1, by omega⟩
            · cases h
          · cases h
        · exact pName_len s len p q Ds hp h
    · split at h
      · refine ⟨fun _ => ?_, fun g => by omega⟩
        split at h
        · rename_i e
          have e9 := bd (if j = 124 then 1 else 0) 38 b 0 p hp (by decide)
          rw [e] at e9
          simp only at e9
          obtain ⟨D, g1, g2⟩ := (ih _ _ _ _ _ _ _ hp (by decide) e).1 (by split <;> omega)
          cases g1
          split at h
          · rename_i e2
            cases h
            have e8 := bd 2 j b 0 _ e9.2 hj
            rw [e2] at e8
            simp only at e8
            exact ⟨_, rfl, by omega⟩
          · rename_i e2
            cases h
            have g3 := (ih _ _ _ _ _ _ _ e9.2 hj e2).2 (by omega)
            refine ⟨_, rfl, ?_⟩
            simp only [grpD, grW_len, lenS, List.length_cons] at g3 ⊢
            omega
          · cases h
        · cases h
      · rename_i hm0 hm1
        refine ⟨fun g => by omega, fun _ => ?_⟩
        split at h
        · rename_i h1
          have hp1 : p < len := sg_lt (by rw [h1]; exact hj)
          split at h
          · rename_i e
            have e9 := bd (if j = 124 then 1 else 0) 38 b 0 (p + 1) (by omega) (by decide)
            rw [e] at e9
            simp only at e9
            obtain ⟨D, g1, g2⟩ := (ih _ _ _ _ _ _ _ (by omega) (by decide) e).1 (by split <;> omega)
            cases g1
            split at h
            · rename_i e2
              cases h
              have g3 := (ih _ _ _ _ _ _ _ e9.2 hj e2).2 (by omega)
              simp only [lenS, List.length_cons]
              omega
            · cases h
          · cases h
        · cases h
          simp [lenS]
def pC (s : Nat → Int32) (len : Nat) : Nat → Nat → Nat × Option (List Den)
  | 0, p => (p, none)
  | k + 1, p => match pP s len 246 1 124 0 0 p with
    | (q, some (D :: _)) => if len ≤ q then (q, some [D]) else if sg s len q = 59 ∧ k ≠ 0 then (match pC s len k (q + 1) with
      | (r, some Ds) => (r, some (D :: Ds))
      | (r, none) => (r, none)) else (q, none)
    | (q, _) => (q, none)
def txS : List Den → List Int32
  | [] => []
  | D :: Ds => D.2 ++ [59] ++ txS Ds
set_option maxRecDepth 20000 in
theorem c_C_init {d : Nat} {M : xMm} {n sl a : Nat} (hn : a < n) (ha : M a = some (.inr (1, [.null, .null, .int 0]))) : ∃ M1 : xMm, xCl (d + 1) k_C_init [.ref a] (M, n, sl) (.inl none, (M1, n + 3, sl + 248)) ∧ M1 a = some (.inr (1, [.ref n, .ref (n + 1), .int 0])) ∧ M1 n = some (.inl (6, 6, .inr (.inr (.inr (.inr fun _ => none))))) ∧ M1 (n + 1) = some (.inr (6, [.ref (n + 2), .int 0])) ∧ M1 (n + 2) = some (.inl (0, 240, .inl fun _ => 0)) ∧ ∀ x, x < n → x ≠ a → M1 x = M x := by
  refine ⟨(xset (xset (xset (xset (xset (xset M (n) (.inl (6, 6, .inr (.inr (.inr (.inr (fun _ => none))))))) (a) (.inr (1, [.ref (n), .null, .int 0]))) (n + 1) (.inr (6, [.null, .int 0]))) (n + 2) (.inl (0, 240, .inl (fun _ => 0)))) (n + 1) (.inr (6, [.ref (n + 2), .int 0]))) (a) (.inr (1, [.ref (n), .ref (n + 1), .int 0]))), ?_, xset_self _ _ _, (xset_ne _ _ (by omega)).trans ((xset_ne _ _ (by omega)).trans ((xset_ne _ _ (by omega)).trans ((xset_ne _ _ (by omega)).trans ((xset_ne _ _ (by omega)).trans (xset_self _ _ _))))), (xset_ne _ _ (by omega)).trans (xset_self _ _ _), (xset_ne _ _ (by omega)).trans ((xset_ne _ _ (by omega)).trans (xset_self _ _ _)), fun x hx hxa => (xset_ne _ _ (show x ≠ a by omega)).trans ((xset_ne _ _ (show x ≠ n + 1 by omega)).trans ((xset_ne _ _ (show x ≠ n + 2 by omega)).trans ((xset_ne _ _ (show x ≠ n + 1 by omega)).trans ((xset_ne _ _ (show x ≠ a by omega)).trans ((xset_ne _ _ (show x ≠ n by omega)).trans (rfl))))))⟩
  show xEv _ k_C_init 0 [some (.ref a)] [] _ _
  refine ev_aload_n d_C_init_0 rfl ?_
  refine ev_obj d_C_init_1 q_1_3 (Nat.le_of_ble_eq_true rfl) ?_
  refine ev_aload_n d_C_init_4 rfl ?_
  refine ev_bipush (v := 6) d_C_init_5 rfl ?_
  refine ev_newA (z := 6) (S1 := ((xset M (n) (.inl (6, 6, .inr (.inr (.inr (.inr (fun _ => none))))))), n + 1, sl + 6)) d_C_init_7 a_1_9 (by decide) (by decide) rfl ?_
  dsimp only
  refine ev_put (M1 := (xset (xset M (n) (.inl (6, 6, .inr (.inr (.inr (.inr (fun _ => none))))))) (a) (.inr (1, [.ref (n), .null, .int 0])))) d_C_init_10 f_1_11 ((xset_ne _ _ (by omega)).trans (ha)) ⟨Nat.le_of_ble_eq_true rfl, (xfit_v rfl rfl rfl), Or.inr ⟨rfl, rfl⟩⟩ rfl ?_
  refine ev_aload_n d_C_init_13 rfl ?_
  refine ev_new (S1 := ((xset (xset (xset M (n) (.inl (6, 6, .inr (.inr (.inr (.inr (fun _ => none))))))) (a) (.inr (1, [.ref (n), .null, .int 0]))) (n + 1) (.inr (6, [.null, .int 0]))), n + 2, sl + 8)) d_C_init_14 rfl n_1_17 rfl ?_
  dsimp only
  refine ev_dup d_C_init_17 rfl ?_
  refine ev_i0 d_C_init_18 ⟨_, q_1_19, by decide, by decide⟩ rfl ⟨rfl, Nat.le_of_ble_eq_true rfl, Nat.le_of_ble_eq_true rfl⟩ (c_W_init (by omega) (xset_self _ _ _)) ?_
  refine ev_put (M1 := (xset (xset (xset (xset (xset (xset M (n) (.inl (6, 6, .inr (.inr (.inr (.inr (fun _ => none))))))) (a) (.inr (1, [.ref (n), .null, .int 0]))) (n + 1) (.inr (6, [.null, .int 0]))) (n + 2) (.inl (0, 240, .inl (fun _ => 0)))) (n + 1) (.inr (6, [.ref (n + 2), .int 0]))) (a) (.inr (1, [.ref (n), .ref (n + 1), .int 0])))) d_C_init_21 f_1_20 ((xset_ne _ _ (by omega)).trans ((xset_ne _ _ (by omega)).trans ((xset_ne _ _ (by omega)).trans (xset_self _ _ _)))) ⟨Nat.le_of_ble_eq_true rfl, (xfit_v rfl rfl rfl), Or.inr ⟨rfl, rfl⟩⟩ rfl ?_
  refine ev_aload_n d_C_init_24 rfl ?_
  refine ev_iconst (v := 0) d_C_init_25 rfl ?_
  refine ev_put (M1 := (xset (xset (xset (xset (xset (xset M (n) (.inl (6, 6, .inr (.inr (.inr (.inr (fun _ => none))))))) (a) (.inr (1, [.ref (n), .null, .int 0]))) (n + 1) (.inr (6, [.null, .int 0]))) (n + 2) (.inl (0, 240, .inl (fun _ => 0)))) (n + 1) (.inr (6, [.ref (n + 2), .int 0]))) (a) (.inr (1, [.ref (n), .ref (n + 1), .int 0])))) d_C_init_26 f_1_24 (xset_self _ _ _) ⟨Nat.le_of_ble_eq_true rfl, (xfit_i rfl), Or.inr ⟨rfl, rfl⟩⟩ (xset_xset _ _ _ _) ?_
  exact ev_ret d_C_init_29 rfl
theorem rowM_in (N : xMm) {xr xa q : Nat} (f : Nat → Int32) (w : List Int32) (e : xE) (h1 : q ≠ xr) (h2 : q ≠ xa) : xset (rowM N xr xa f w) q e = rowM (xset N q e) xr xa f w := by
  unfold rowM
  rw [xset_swap _ _ _ (Ne.symm h1), xset_swap _ _ _ (Ne.symm h2)]
set_option maxRecDepth 20000 in
theorem c_C_add {d : Nat} {B N : xMm} {n sl ca ro xr xa k : Nat} {rf : Nat → Option Nat} {f : Nat → Int32} (hxx : xr ≠ xa) (hca : N ca = some (.inr (1, [.ref ro, .ref xr, .int (nI k)]))) (hro : N ro = some (.inl (6, 6, .inr (.inr (.inr (.inr rf)))))) (hcr : ca ≠ xr) (hcx : ca ≠ xa) (hco : ca ≠ ro) (hor : ro ≠ xr) (hox : ro ≠ xa) (hk : k < 6) (a : Nat) {vs : List Value} (hac : N a = some (.inr (4, vs))) (har : a ≠ xr) (hax : a ≠ xa) (D : Den) (w : List Int32) (hw : w.length + D.2.length + 1 ≤ 240) (hwr : xCl d k_C_write [.ref ca, .ref a, .int 0] (rowM (xset (xset N ro (.inl (6, 6, .inr (.inr (.inr (.inr (va_up rf k (some a)))))))) ca (.inr (1, [.ref ro, .ref xr, .int (nI (k + 1))]))) xr xa f (w), n, sl) (.inl none, (rowM (xset (xset N ro (.inl (6, 6, .inr (.inr (.inr (.inr (va_up rf k (some a)))))))) ca (.inr (1, [.ref ro, .ref xr, .int (nI (k + 1))]))) xr xa f (w ++ D.2), n, sl))) (hd : 1 ≤ d) : xCl (d + 1) k_C_add [.ref ca, .ref a] (rowM N xr xa f (w), n, sl) (.inl none, (rowM (xset (xset N ro (.inl (6, 6, .inr (.inr (.inr (.inr (va_up rf k (some a)))))))) ca (.inr (1, [.ref ro, .ref xr, .int (nI (k + 1))]))) xr xa f (w ++ D.2 ++ [59]), n, sl)) := by
  show xEv _ k_C_add 0 [some (.ref ca), some (.ref a)] [] _ _
  refine ev_aload_n d_C_add_0 rfl ?_
  refine ev_get d_C_add_1 f_1_24 (((rowM_ne N f _ hcr hcx).trans hca)) rfl ?_
  refine ev_bipush (v := 6) d_C_add_4 rfl ?_
  refine ev_icmp_ge (t := 44) d_C_add_6 (by decide) (fun c_6 => absurd c_6 (nI_ge (b := 6) hk (by decide))) (fun _ => ?_)
  refine ev_aload_n d_C_add_9 rfl ?_
  refine ev_get d_C_add_10 f_1_11 (((rowM_ne N f _ hcr hcx).trans hca)) rfl ?_
  refine ev_aload_n d_C_add_13 rfl ?_
  refine ev_get d_C_add_14 f_1_24 (((rowM_ne N f _ hcr hcx).trans hca)) rfl ?_
  refine ev_aload_n d_C_add_17 rfl ?_
  refine ev_aast (M1 := (xset (rowM N xr xa f w) (ro) (.inl (6, 6, .inr (.inr (.inr (.inr (va_up (rf) ((nI k)).toNatClampNeg (some (a)))))))))) d_C_add_18 (((rowM_ne N f _ hor hox).trans hro)) rfl (((rowM_ne N f _ har hax).trans hac)) (vp_in_nI (N := 6) hk (by decide)) rfl ?_
  refine ev_aload_n d_C_add_19 rfl ?_
  refine ev_dup d_C_add_20 rfl ?_
  refine ev_get d_C_add_21 f_1_24 ((xset_ne _ _ hco).trans (((rowM_ne N f _ hcr hcx).trans hca))) rfl ?_
  refine ev_iconst (v := 1) d_C_add_24 rfl ?_
  refine ev_iadd d_C_add_25 ?_
  refine ev_put (M1 := (xset (xset (rowM N xr xa f w) (ro) (.inl (6, 6, .inr (.inr (.inr (.inr (va_up (rf) ((nI k)).toNatClampNeg (some (a))))))))) (ca) (.inr (1, [.ref ro, .ref xr, .int ((nI k) + 1)])))) d_C_add_26 f_1_24 ((xset_ne _ _ hco).trans (((rowM_ne N f _ hcr hcx).trans hca))) ⟨Nat.le_of_ble_eq_true rfl, (xfit_i rfl), Or.inl rfl⟩ rfl ?_
  refine ev_aload_n d_C_add_29 rfl ?_
  refine ev_aload_n d_C_add_30 rfl ?_
  refine ev_iconst (v := 0) d_C_add_31 rfl ?_
  rw [nI_clamp (show k < 2 ^ 31 by omega), ← nI_succ, rowM_in _ _ _ _ hor hox, rowM_in _ _ _ _ hcr hcx]
  refine ev_v2o d_C_add_32 q_1_28 rfl ((rowM_ne _ f _ hcr hcx).trans (xset_self _ _ _)) ⟨rfl, Nat.le_of_ble_eq_true rfl, Nat.le_of_ble_eq_true rfl⟩ hwr ?_
  refine ev_aload_n d_C_add_35 rfl ?_
  refine ev_get d_C_add_36 f_1_20 (((rowM_ne _ f _ hcr hcx).trans (xset_self _ _ _))) rfl ?_
  refine ev_bipush (v := 59) d_C_add_39 rfl ?_
  refine ev_v1o d_C_add_41 q_1_32 rfl (rowM_a _ _ _ _ _) ⟨rfl, Nat.le_of_ble_eq_true rfl, Nat.le_of_ble_eq_true rfl⟩ (c_W_add hxx _ _ (by simp at hw ⊢; omega)) ?_
  exact xEv.to (ev_ret d_C_add_44 rfl) (by rfl)
