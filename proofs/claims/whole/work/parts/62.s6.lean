/-! the class is made -/
set_option maxRecDepth 20000 in
theorem l_L_init0 {d : Nat} {M : xMm} {n sl a : Nat} (hn : a < n) (ha : M a = some (.inr (0, [.null, .null, .null, .null, .null, .null, .int 0, .int 0, .int 0]))) : ∃ M1 : xMm, (∀ X, xEv (d + 1) k_L_init 79 [some (.ref a), some (.int (nI 0))] [] (M1, n + 8, sl + 550) X → xCl (d + 1) k_L_init [.ref a] (M, n, sl) X) ∧ M1 (a) = some (.inr (0, [.ref (n), .ref (n + 2), .ref (n + 4), .ref (n + 5), .ref (n + 6), .ref (n + 7), .int 0, .int 0, .int 0])) ∧ M1 (n) = some (.inr (6, [.ref (n + 1), .int 0])) ∧ M1 (n + 1) = some (.inl (0, 240, .inl (fun _ => 0))) ∧ M1 (n + 2) = some (.inr (6, [.ref (n + 3), .int 0])) ∧ M1 (n + 3) = some (.inl (0, 240, .inl (fun _ => 0))) ∧ M1 (n + 4) = some (.inl (2, 8, .inr (.inr (.inr (.inr (fun _ => none)))))) ∧ M1 (n + 5) = some (.inl (3, 8, .inr (.inr (.inr (.inr (fun _ => none)))))) ∧ M1 (n + 6) = some (.inl (4, 20, .inr (.inr (.inr (.inr (fun _ => none)))))) ∧ M1 (n + 7) = some (.inl (5, 30, .inr (.inr (.inr (.inr (fun _ => none)))))) ∧ ∀ x, x < n → x ≠ a → M1 x = M x := by
  refine ⟨(xset (xset (xset (xset (xset (xset (xset (xset (xset (xset (xset (xset (xset (xset (xset (xset M (n) (.inr (6, [.null, .int 0]))) (n + 1) (.inl (0, 240, .inl (fun _ => 0)))) (n) (.inr (6, [.ref (n + 1), .int 0]))) (a) (.inr (0, [.ref (n), .null, .null, .null, .null, .null, .int 0, .int 0, .int 0]))) (n + 2) (.inr (6, [.null, .int 0]))) (n + 3) (.inl (0, 240, .inl (fun _ => 0)))) (n + 2) (.inr (6, [.ref (n + 3), .int 0]))) (a) (.inr (0, [.ref (n), .ref (n + 2), .null, .null, .null, .null, .int 0, .int 0, .int 0]))) (n + 4) (.inl (2, 8, .inr (.inr (.inr (.inr (fun _ => none))))))) (a) (.inr (0, [.ref (n), .ref (n + 2), .ref (n + 4), .null, .null, .null, .int 0, .int 0, .int 0]))) (n + 5) (.inl (3, 8, .inr (.inr (.inr (.inr (fun _ => none))))))) (a) (.inr (0, [.ref (n), .ref (n + 2), .ref (n + 4), .ref (n + 5), .null, .null, .int 0, .int 0, .int 0]))) (n + 6) (.inl (4, 20, .inr (.inr (.inr (.inr (fun _ => none))))))) (a) (.inr (0, [.ref (n), .ref (n + 2), .ref (n + 4), .ref (n + 5), .ref (n + 6), .null, .int 0, .int 0, .int 0]))) (n + 7) (.inl (5, 30, .inr (.inr (.inr (.inr (fun _ => none))))))) (a) (.inr (0, [.ref (n), .ref (n + 2), .ref (n + 4), .ref (n + 5), .ref (n + 6), .ref (n + 7), .int 0, .int 0, .int 0]))), fun X hend => ?_, (xset_self _ _ _), ((xset_ne _ _ (by omega)).trans ((xset_ne _ _ (by omega)).trans ((xset_ne _ _ (by omega)).trans ((xset_ne _ _ (by omega)).trans ((xset_ne _ _ (by omega)).trans ((xset_ne _ _ (by omega)).trans ((xset_ne _ _ (by omega)).trans ((xset_ne _ _ (by omega)).trans ((xset_ne _ _ (by omega)).trans ((xset_ne _ _ (by omega)).trans ((xset_ne _ _ (by omega)).trans ((xset_ne _ _ (by omega)).trans ((xset_ne _ _ (by omega)).trans (xset_self _ _ _)))))))))))))), ((xset_ne _ _ (by omega)).trans ((xset_ne _ _ (by omega)).trans ((xset_ne _ _ (by omega)).trans ((xset_ne _ _ (by omega)).trans ((xset_ne _ _ (by omega)).trans ((xset_ne _ _ (by omega)).trans ((xset_ne _ _ (by omega)).trans ((xset_ne _ _ (by omega)).trans ((xset_ne _ _ (by omega)).trans ((xset_ne _ _ (by omega)).trans ((xset_ne _ _ (by omega)).trans ((xset_ne _ _ (by omega)).trans ((xset_ne _ _ (by omega)).trans ((xset_ne _ _ (by omega)).trans (xset_self _ _ _))))))))))))))), ((xset_ne _ _ (by omega)).trans ((xset_ne _ _ (by omega)).trans ((xset_ne _ _ (by omega)).trans ((xset_ne _ _ (by omega)).trans ((xset_ne _ _ (by omega)).trans ((xset_ne _ _ (by omega)).trans ((xset_ne _ _ (by omega)).trans ((xset_ne _ _ (by omega)).trans ((xset_ne _ _ (by omega)).trans (xset_self _ _ _)))))))))), ((xset_ne _ _ (by omega)).trans ((xset_ne _ _ (by omega)).trans ((xset_ne _ _ (by omega)).trans ((xset_ne _ _ (by omega)).trans ((xset_ne _ _ (by omega)).trans ((xset_ne _ _ (by omega)).trans ((xset_ne _ _ (by omega)).trans ((xset_ne _ _ (by omega)).trans ((xset_ne _ _ (by omega)).trans ((xset_ne _ _ (by omega)).trans (xset_self _ _ _))))))))))), ((xset_ne _ _ (by omega)).trans ((xset_ne _ _ (by omega)).trans ((xset_ne _ _ (by omega)).trans ((xset_ne _ _ (by omega)).trans ((xset_ne _ _ (by omega)).trans ((xset_ne _ _ (by omega)).trans ((xset_ne _ _ (by omega)).trans (xset_self _ _ _)))))))), ((xset_ne _ _ (by omega)).trans ((xset_ne _ _ (by omega)).trans ((xset_ne _ _ (by omega)).trans ((xset_ne _ _ (by omega)).trans ((xset_ne _ _ (by omega)).trans (xset_self _ _ _)))))), ((xset_ne _ _ (by omega)).trans ((xset_ne _ _ (by omega)).trans ((xset_ne _ _ (by omega)).trans (xset_self _ _ _)))), ((xset_ne _ _ (by omega)).trans (xset_self _ _ _)), fun x hx hxa => (xset_ne _ _ (show x ≠ a by omega)).trans ((xset_ne _ _ (show x ≠ n + 7 by omega)).trans ((xset_ne _ _ (show x ≠ a by omega)).trans ((xset_ne _ _ (show x ≠ n + 6 by omega)).trans ((xset_ne _ _ (show x ≠ a by omega)).trans ((xset_ne _ _ (show x ≠ n + 5 by omega)).trans ((xset_ne _ _ (show x ≠ a by omega)).trans ((xset_ne _ _ (show x ≠ n + 4 by omega)).trans ((xset_ne _ _ (show x ≠ a by omega)).trans ((xset_ne _ _ (show x ≠ n + 2 by omega)).trans ((xset_ne _ _ (show x ≠ n + 3 by omega)).trans ((xset_ne _ _ (show x ≠ n + 2 by omega)).trans ((xset_ne _ _ (show x ≠ a by omega)).trans ((xset_ne _ _ (show x ≠ n by omega)).trans ((xset_ne _ _ (show x ≠ n + 1 by omega)).trans ((xset_ne _ _ (show x ≠ n by omega)).trans (rfl))))))))))))))))⟩
  show xEv _ k_L_init 0 [some (.ref a), none] [] _ _
  refine ev_aload_n d_L_init_0 rfl ?_
  refine ev_obj d_L_init_1 q_0_1 (Nat.le_of_ble_eq_true rfl) ?_
  refine ev_aload_n d_L_init_4 rfl ?_
  refine ev_new (S1 := ((xset M (n) (.inr (6, [.null, .int 0]))), n + 1, sl + 2)) d_L_init_5 rfl n_0_7 rfl ?_
  dsimp only
  refine ev_dup d_L_init_8 rfl ?_
  refine ev_i0 d_L_init_9 ⟨_, q_0_9, by decide, by decide⟩ rfl ⟨rfl, Nat.le_of_ble_eq_true rfl, Nat.le_of_ble_eq_true rfl⟩ (c_W_init (by omega) (xset_self _ _ _)) ?_
  refine ev_put (M1 := (xset (xset (xset (xset M (n) (.inr (6, [.null, .int 0]))) (n + 1) (.inl (0, 240, .inl (fun _ => 0)))) (n) (.inr (6, [.ref (n + 1), .int 0]))) (a) (.inr (0, [.ref (n), .null, .null, .null, .null, .null, .int 0, .int 0, .int 0])))) d_L_init_12 f_0_10 ((xset_ne _ _ (by omega)).trans ((xset_ne _ _ (by omega)).trans ((xset_ne _ _ (by omega)).trans (ha)))) ⟨Nat.le_of_ble_eq_true rfl, (xfit_v rfl rfl rfl), Or.inr ⟨rfl, rfl⟩⟩ rfl ?_
  refine ev_aload_n d_L_init_15 rfl ?_
  refine ev_new (S1 := ((xset (xset (xset (xset (xset M (n) (.inr (6, [.null, .int 0]))) (n + 1) (.inl (0, 240, .inl (fun _ => 0)))) (n) (.inr (6, [.ref (n + 1), .int 0]))) (a) (.inr (0, [.ref (n), .null, .null, .null, .null, .null, .int 0, .int 0, .int 0]))) (n + 2) (.inr (6, [.null, .int 0]))), n + 3, sl + 244)) d_L_init_16 rfl n_0_7 rfl ?_
  dsimp only
  refine ev_dup d_L_init_19 rfl ?_
  refine ev_i0 d_L_init_20 ⟨_, q_0_9, by decide, by decide⟩ rfl ⟨rfl, Nat.le_of_ble_eq_true rfl, Nat.le_of_ble_eq_true rfl⟩ (c_W_init (by omega) (xset_self _ _ _)) ?_
  refine ev_put (M1 := (xset (xset (xset (xset (xset (xset (xset (xset M (n) (.inr (6, [.null, .int 0]))) (n + 1) (.inl (0, 240, .inl (fun _ => 0)))) (n) (.inr (6, [.ref (n + 1), .int 0]))) (a) (.inr (0, [.ref (n), .null, .null, .null, .null, .null, .int 0, .int 0, .int 0]))) (n + 2) (.inr (6, [.null, .int 0]))) (n + 3) (.inl (0, 240, .inl (fun _ => 0)))) (n + 2) (.inr (6, [.ref (n + 3), .int 0]))) (a) (.inr (0, [.ref (n), .ref (n + 2), .null, .null, .null, .null, .int 0, .int 0, .int 0])))) d_L_init_23 f_0_16 ((xset_ne _ _ (by omega)).trans ((xset_ne _ _ (by omega)).trans ((xset_ne _ _ (by omega)).trans (xset_self _ _ _)))) ⟨Nat.le_of_ble_eq_true rfl, (xfit_v rfl rfl rfl), Or.inr ⟨rfl, rfl⟩⟩ rfl ?_
  refine ev_aload_n d_L_init_26 rfl ?_
  refine ev_bipush (v := 8) d_L_init_27 rfl ?_
  refine ev_newA (z := 8) (S1 := ((xset (xset (xset (xset (xset (xset (xset (xset (xset M (n) (.inr (6, [.null, .int 0]))) (n + 1) (.inl (0, 240, .inl (fun _ => 0)))) (n) (.inr (6, [.ref (n + 1), .int 0]))) (a) (.inr (0, [.ref (n), .null, .null, .null, .null, .null, .int 0, .int 0, .int 0]))) (n + 2) (.inr (6, [.null, .int 0]))) (n + 3) (.inl (0, 240, .inl (fun _ => 0)))) (n + 2) (.inr (6, [.ref (n + 3), .int 0]))) (a) (.inr (0, [.ref (n), .ref (n + 2), .null, .null, .null, .null, .int 0, .int 0, .int 0]))) (n + 4) (.inl (2, 8, .inr (.inr (.inr (.inr (fun _ => none))))))), n + 5, sl + 492)) d_L_init_29 a_0_19 (by decide) (by decide) rfl ?_
  dsimp only
  refine ev_put (M1 := (xset (xset (xset (xset (xset (xset (xset (xset (xset (xset M (n) (.inr (6, [.null, .int 0]))) (n + 1) (.inl (0, 240, .inl (fun _ => 0)))) (n) (.inr (6, [.ref (n + 1), .int 0]))) (a) (.inr (0, [.ref (n), .null, .null, .null, .null, .null, .int 0, .int 0, .int 0]))) (n + 2) (.inr (6, [.null, .int 0]))) (n + 3) (.inl (0, 240, .inl (fun _ => 0)))) (n + 2) (.inr (6, [.ref (n + 3), .int 0]))) (a) (.inr (0, [.ref (n), .ref (n + 2), .null, .null, .null, .null, .int 0, .int 0, .int 0]))) (n + 4) (.inl (2, 8, .inr (.inr (.inr (.inr (fun _ => none))))))) (a) (.inr (0, [.ref (n), .ref (n + 2), .ref (n + 4), .null, .null, .null, .int 0, .int 0, .int 0])))) d_L_init_32 f_0_21 ((xset_ne _ _ (by omega)).trans (xset_self _ _ _)) ⟨Nat.le_of_ble_eq_true rfl, (xfit_v rfl rfl rfl), Or.inr ⟨rfl, rfl⟩⟩ rfl ?_
  refine ev_aload_n d_L_init_35 rfl ?_
  refine ev_bipush (v := 8) d_L_init_36 rfl ?_
  refine ev_newA (z := 8) (S1 := ((xset (xset (xset (xset (xset (xset (xset (xset (xset (xset (xset M (n) (.inr (6, [.null, .int 0]))) (n + 1) (.inl (0, 240, .inl (fun _ => 0)))) (n) (.inr (6, [.ref (n + 1), .int 0]))) (a) (.inr (0, [.ref (n), .null, .null, .null, .null, .null, .int 0, .int 0, .int 0]))) (n + 2) (.inr (6, [.null, .int 0]))) (n + 3) (.inl (0, 240, .inl (fun _ => 0)))) (n + 2) (.inr (6, [.ref (n + 3), .int 0]))) (a) (.inr (0, [.ref (n), .ref (n + 2), .null, .null, .null, .null, .int 0, .int 0, .int 0]))) (n + 4) (.inl (2, 8, .inr (.inr (.inr (.inr (fun _ => none))))))) (a) (.inr (0, [.ref (n), .ref (n + 2), .ref (n + 4), .null, .null, .null, .int 0, .int 0, .int 0]))) (n + 5) (.inl (3, 8, .inr (.inr (.inr (.inr (fun _ => none))))))), n + 6, sl + 500)) d_L_init_38 a_0_25 (by decide) (by decide) rfl ?_
  dsimp only
  refine ev_put (M1 := (xset (xset (xset (xset (xset (xset (xset (xset (xset (xset (xset (xset M (n) (.inr (6, [.null, .int 0]))) (n + 1) (.inl (0, 240, .inl (fun _ => 0)))) (n) (.inr (6, [.ref (n + 1), .int 0]))) (a) (.inr (0, [.ref (n), .null, .null, .null, .null, .null, .int 0, .int 0, .int 0]))) (n + 2) (.inr (6, [.null, .int 0]))) (n + 3) (.inl (0, 240, .inl (fun _ => 0)))) (n + 2) (.inr (6, [.ref (n + 3), .int 0]))) (a) (.inr (0, [.ref (n), .ref (n + 2), .null, .null, .null, .null, .int 0, .int 0, .int 0]))) (n + 4) (.inl (2, 8, .inr (.inr (.inr (.inr (fun _ => none))))))) (a) (.inr (0, [.ref (n), .ref (n + 2), .ref (n + 4), .null, .null, .null, .int 0, .int 0, .int 0]))) (n + 5) (.inl (3, 8, .inr (.inr (.inr (.inr (fun _ => none))))))) (a) (.inr (0, [.ref (n), .ref (n + 2), .ref (n + 4), .ref (n + 5), .null, .null, .int 0, .int 0, .int 0])))) d_L_init_41 f_0_27 ((xset_ne _ _ (by omega)).trans (xset_self _ _ _)) ⟨Nat.le_of_ble_eq_true rfl, (xfit_v rfl rfl rfl), Or.inr ⟨rfl, rfl⟩⟩ rfl ?_
  refine ev_aload_n d_L_init_44 rfl ?_
  refine ev_bipush (v := 20) d_L_init_45 rfl ?_
  refine ev_newA (z := 20) (S1 := ((xset (xset (xset (xset (xset (xset (xset (xset (xset (xset (xset (xset (xset M (n) (.inr (6, [.null, .int 0]))) (n + 1) (.inl (0, 240, .inl (fun _ => 0)))) (n) (.inr (6, [.ref (n + 1), .int 0]))) (a) (.inr (0, [.ref (n), .null, .null, .null, .null, .null, .int 0, .int 0, .int 0]))) (n + 2) (.inr (6, [.null, .int 0]))) (n + 3) (.inl (0, 240, .inl (fun _ => 0)))) (n + 2) (.inr (6, [.ref (n + 3), .int 0]))) (a) (.inr (0, [.ref (n), .ref (n + 2), .null, .null, .null, .null, .int 0, .int 0, .int 0]))) (n + 4) (.inl (2, 8, .inr (.inr (.inr (.inr (fun _ => none))))))) (a) (.inr (0, [.ref (n), .ref (n + 2), .ref (n + 4), .null, .null, .null, .int 0, .int 0, .int 0]))) (n + 5) (.inl (3, 8, .inr (.inr (.inr (.inr (fun _ => none))))))) (a) (.inr (0, [.ref (n), .ref (n + 2), .ref (n + 4), .ref (n + 5), .null, .null, .int 0, .int 0, .int 0]))) (n + 6) (.inl (4, 20, .inr (.inr (.inr (.inr (fun _ => none))))))), n + 7, sl + 520)) d_L_init_47 a_0_31 (by decide) (by decide) rfl ?_
  dsimp only
  refine ev_put (M1 := (xset (xset (xset (xset (xset (xset (xset (xset (xset (xset (xset (xset (xset (xset M (n) (.inr (6, [.null, .int 0]))) (n + 1) (.inl (0, 240, .inl (fun _ => 0)))) (n) (.inr (6, [.ref (n + 1), .int 0]))) (a) (.inr (0, [.ref (n), .null, .null, .null, .null, .null, .int 0, .int 0, .int 0]))) (n + 2) (.inr (6, [.null, .int 0]))) (n + 3) (.inl (0, 240, .inl (fun _ => 0)))) (n + 2) (.inr (6, [.ref (n + 3), .int 0]))) (a) (.inr (0, [.ref (n), .ref (n + 2), .null, .null, .null, .null, .int 0, .int 0, .int 0]))) (n + 4) (.inl (2, 8, .inr (.inr (.inr (.inr (fun _ => none))))))) (a) (.inr (0, [.ref (n), .ref (n + 2), .ref (n + 4), .null, .null, .null, .int 0, .int 0, .int 0]))) (n + 5) (.inl (3, 8, .inr (.inr (.inr (.inr (fun _ => none))))))) (a) (.inr (0, [.ref (n), .ref (n + 2), .ref (n + 4), .ref (n + 5), .null, .null, .int 0, .int 0, .int 0]))) (n + 6) (.inl (4, 20, .inr (.inr (.inr (.inr (fun _ => none))))))) (a) (.inr (0, [.ref (n), .ref (n + 2), .ref (n + 4), .ref (n + 5), .ref (n + 6), .null, .int 0, .int 0, .int 0])))) d_L_init_50 f_0_33 ((xset_ne _ _ (by omega)).trans (xset_self _ _ _)) ⟨Nat.le_of_ble_eq_true rfl, (xfit_v rfl rfl rfl), Or.inr ⟨rfl, rfl⟩⟩ rfl ?_
  refine ev_aload_n d_L_init_53 rfl ?_
  refine ev_bipush (v := 30) d_L_init_54 rfl ?_
  refine ev_newA (z := 30) (S1 := ((xset (xset (xset (xset (xset (xset (xset (xset (xset (xset (xset (xset (xset (xset (xset M (n) (.inr (6, [.null, .int 0]))) (n + 1) (.inl (0, 240, .inl (fun _ => 0)))) (n) (.inr (6, [.ref (n + 1), .int 0]))) (a) (.inr (0, [.ref (n), .null, .null, .null, .null, .null, .int 0, .int 0, .int 0]))) (n + 2) (.inr (6, [.null, .int 0]))) (n + 3) (.inl (0, 240, .inl (fun _ => 0)))) (n + 2) (.inr (6, [.ref (n + 3), .int 0]))) (a) (.inr (0, [.ref (n), .ref (n + 2), .null, .null, .null, .null, .int 0, .int 0, .int 0]))) (n + 4) (.inl (2, 8, .inr (.inr (.inr (.inr (fun _ => none))))))) (a) (.inr (0, [.ref (n), .ref (n + 2), .ref (n + 4), .null, .null, .null, .int 0, .int 0, .int 0]))) (n + 5) (.inl (3, 8, .inr (.inr (.inr (.inr (fun _ => none))))))) (a) (.inr (0, [.ref (n), .ref (n + 2), .ref (n + 4), .ref (n + 5), .null, .null, .int 0, .int 0, .int 0]))) (n + 6) (.inl (4, 20, .inr (.inr (.inr (.inr (fun _ => none))))))) (a) (.inr (0, [.ref (n), .ref (n + 2), .ref (n + 4), .ref (n + 5), .ref (n + 6), .null, .int 0, .int 0, .int 0]))) (n + 7) (.inl (5, 30, .inr (.inr (.inr (.inr (fun _ => none))))))), n + 8, sl + 550)) d_L_init_56 a_0_37 (by decide) (by decide) rfl ?_
  dsimp only
  refine ev_put (M1 := (xset (xset (xset (xset (xset (xset (xset (xset (xset (xset (xset (xset (xset (xset (xset (xset M (n) (.inr (6, [.null, .int 0]))) (n + 1) (.inl (0, 240, .inl (fun _ => 0)))) (n) (.inr (6, [.ref (n + 1), .int 0]))) (a) (.inr (0, [.ref (n), .null, .null, .null, .null, .null, .int 0, .int 0, .int 0]))) (n + 2) (.inr (6, [.null, .int 0]))) (n + 3) (.inl (0, 240, .inl (fun _ => 0)))) (n + 2) (.inr (6, [.ref (n + 3), .int 0]))) (a) (.inr (0, [.ref (n), .ref (n + 2), .null, .null, .null, .null, .int 0, .int 0, .int 0]))) (n + 4) (.inl (2, 8, .inr (.inr (.inr (.inr (fun _ => none))))))) (a) (.inr (0, [.ref (n), .ref (n + 2), .ref (n + 4), .null, .null, .null, .int 0, .int 0, .int 0]))) (n + 5) (.inl (3, 8, .inr (.inr (.inr (.inr (fun _ => none))))))) (a) (.inr (0, [.ref (n), .ref (n + 2), .ref (n + 4), .ref (n + 5), .null, .null, .int 0, .int 0, .int 0]))) (n + 6) (.inl (4, 20, .inr (.inr (.inr (.inr (fun _ => none))))))) (a) (.inr (0, [.ref (n), .ref (n + 2), .ref (n + 4), .ref (n + 5), .ref (n + 6), .null, .int 0, .int 0, .int 0]))) (n + 7) (.inl (5, 30, .inr (.inr (.inr (.inr (fun _ => none))))))) (a) (.inr (0, [.ref (n), .ref (n + 2), .ref (n + 4), .ref (n + 5), .ref (n + 6), .ref (n + 7), .int 0, .int 0, .int 0])))) d_L_init_59 f_0_39 ((xset_ne _ _ (by omega)).trans (xset_self _ _ _)) ⟨Nat.le_of_ble_eq_true rfl, (xfit_v rfl rfl rfl), Or.inr ⟨rfl, rfl⟩⟩ rfl ?_
  refine ev_aload_n d_L_init_62 rfl ?_
  refine ev_iconst (v := 0) d_L_init_63 rfl ?_
  refine ev_put (M1 := (xset (xset (xset (xset (xset (xset (xset (xset (xset (xset (xset (xset (xset (xset (xset (xset M (n) (.inr (6, [.null, .int 0]))) (n + 1) (.inl (0, 240, .inl (fun _ => 0)))) (n) (.inr (6, [.ref (n + 1), .int 0]))) (a) (.inr (0, [.ref (n), .null, .null, .null, .null, .null, .int 0, .int 0, .int 0]))) (n + 2) (.inr (6, [.null, .int 0]))) (n + 3) (.inl (0, 240, .inl (fun _ => 0)))) (n + 2) (.inr (6, [.ref (n + 3), .int 0]))) (a) (.inr (0, [.ref (n), .ref (n + 2), .null, .null, .null, .null, .int 0, .int 0, .int 0]))) (n + 4) (.inl (2, 8, .inr (.inr (.inr (.inr (fun _ => none))))))) (a) (.inr (0, [.ref (n), .ref (n + 2), .ref (n + 4), .null, .null, .null, .int 0, .int 0, .int 0]))) (n + 5) (.inl (3, 8, .inr (.inr (.inr (.inr (fun _ => none))))))) (a) (.inr (0, [.ref (n), .ref (n + 2), .ref (n + 4), .ref (n + 5), .null, .null, .int 0, .int 0, .int 0]))) (n + 6) (.inl (4, 20, .inr (.inr (.inr (.inr (fun _ => none))))))) (a) (.inr (0, [.ref (n), .ref (n + 2), .ref (n + 4), .ref (n + 5), .ref (n + 6), .null, .int 0, .int 0, .int 0]))) (n + 7) (.inl (5, 30, .inr (.inr (.inr (.inr (fun _ => none))))))) (a) (.inr (0, [.ref (n), .ref (n + 2), .ref (n + 4), .ref (n + 5), .ref (n + 6), .ref (n + 7), .int 0, .int 0, .int 0])))) d_L_init_64 f_0_43 (xset_self _ _ _) ⟨Nat.le_of_ble_eq_true rfl, (xfit_i rfl), Or.inr ⟨rfl, rfl⟩⟩ (xset_xset _ _ _ _) ?_
  refine ev_aload_n d_L_init_67 rfl ?_
  refine ev_iconst (v := 0) d_L_init_68 rfl ?_
  refine ev_put (M1 := (xset (xset (xset (xset (xset (xset (xset (xset (xset (xset (xset (xset (xset (xset (xset (xset M (n) (.inr (6, [.null, .int 0]))) (n + 1) (.inl (0, 240, .inl (fun _ => 0)))) (n) (.inr (6, [.ref (n + 1), .int 0]))) (a) (.inr (0, [.ref (n), .null, .null, .null, .null, .null, .int 0, .int 0, .int 0]))) (n + 2) (.inr (6, [.null, .int 0]))) (n + 3) (.inl (0, 240, .inl (fun _ => 0)))) (n + 2) (.inr (6, [.ref (n + 3), .int 0]))) (a) (.inr (0, [.ref (n), .ref (n + 2), .null, .null, .null, .null, .int 0, .int 0, .int 0]))) (n + 4) (.inl (2, 8, .inr (.inr (.inr (.inr (fun _ => none))))))) (a) (.inr (0, [.ref (n), .ref (n + 2), .ref (n + 4), .null, .null, .null, .int 0, .int 0, .int 0]))) (n + 5) (.inl (3, 8, .inr (.inr (.inr (.inr (fun _ => none))))))) (a) (.inr (0, [.ref (n), .ref (n + 2), .ref (n + 4), .ref (n + 5), .null, .null, .int 0, .int 0, .int 0]))) (n + 6) (.inl (4, 20, .inr (.inr (.inr (.inr (fun _ => none))))))) (a) (.inr (0, [.ref (n), .ref (n + 2), .ref (n + 4), .ref (n + 5), .ref (n + 6), .null, .int 0, .int 0, .int 0]))) (n + 7) (.inl (5, 30, .inr (.inr (.inr (.inr (fun _ => none))))))) (a) (.inr (0, [.ref (n), .ref (n + 2), .ref (n + 4), .ref (n + 5), .ref (n + 6), .ref (n + 7), .int 0, .int 0, .int 0])))) d_L_init_69 f_0_47 (xset_self _ _ _) ⟨Nat.le_of_ble_eq_true rfl, (xfit_i rfl), Or.inr ⟨rfl, rfl⟩⟩ (xset_xset _ _ _ _) ?_
  refine ev_aload_n d_L_init_72 rfl ?_
  refine ev_iconst (v := 0) d_L_init_73 rfl ?_
  refine ev_put (M1 := (xset (xset (xset (xset (xset (xset (xset (xset (xset (xset (xset (xset (xset (xset (xset (xset M (n) (.inr (6, [.null, .int 0]))) (n + 1) (.inl (0, 240, .inl (fun _ => 0)))) (n) (.inr (6, [.ref (n + 1), .int 0]))) (a) (.inr (0, [.ref (n), .null, .null, .null, .null, .null, .int 0, .int 0, .int 0]))) (n + 2) (.inr (6, [.null, .int 0]))) (n + 3) (.inl (0, 240, .inl (fun _ => 0)))) (n + 2) (.inr (6, [.ref (n + 3), .int 0]))) (a) (.inr (0, [.ref (n), .ref (n + 2), .null, .null, .null, .null, .int 0, .int 0, .int 0]))) (n + 4) (.inl (2, 8, .inr (.inr (.inr (.inr (fun _ => none))))))) (a) (.inr (0, [.ref (n), .ref (n + 2), .ref (n + 4), .null, .null, .null, .int 0, .int 0, .int 0]))) (n + 5) (.inl (3, 8, .inr (.inr (.inr (.inr (fun _ => none))))))) (a) (.inr (0, [.ref (n), .ref (n + 2), .ref (n + 4), .ref (n + 5), .null, .null, .int 0, .int 0, .int 0]))) (n + 6) (.inl (4, 20, .inr (.inr (.inr (.inr (fun _ => none))))))) (a) (.inr (0, [.ref (n), .ref (n + 2), .ref (n + 4), .ref (n + 5), .ref (n + 6), .null, .int 0, .int 0, .int 0]))) (n + 7) (.inl (5, 30, .inr (.inr (.inr (.inr (fun _ => none))))))) (a) (.inr (0, [.ref (n), .ref (n + 2), .ref (n + 4), .ref (n + 5), .ref (n + 6), .ref (n + 7), .int 0, .int 0, .int 0])))) d_L_init_74 f_0_50 (xset_self _ _ _) ⟨Nat.le_of_ble_eq_true rfl, (xfit_i rfl), Or.inr ⟨rfl, rfl⟩⟩ (xset_xset _ _ _ _) ?_
  refine ev_iconst (v := 0) d_L_init_77 rfl ?_
  refine ev_istore_n (lo1 := [some (.ref a), some (.int (nI 0))]) d_L_init_78 (Nat.le_of_ble_eq_true rfl) rfl ?_
  exact hend
set_option maxRecDepth 20000 in
theorem l_L_init1 {d : Nat} {a : Nat} {n : Nat} (hn : a < n) {fl : List Value} (hf : fl[3]? = some (.ref (n + 5))) : ∀ (k i : Nat) (N : xMm) (sl : Nat), i + k = 8 → N a = some (.inr (0, fl)) → N (n + 5) = some (.inl (3, 8, .inr (.inr (.inr (.inr fun j => if j < i then some (n + 8 + 3 * j) else none))))) → ∃ N1 : xMm, xEv (d + 1) k_L_init 79 [some (.ref a), some (.int (nI i))] [] (N, n + 8 + 3 * i, sl) (.inl none, (N1, n + 32, sl + 125 * k)) ∧ N1 (n + 5) = some (.inl (3, 8, .inr (.inr (.inr (.inr fun j => if j < 8 then some (n + 8 + 3 * j) else none))))) ∧ (∀ j, i ≤ j → j < 8 → N1 (n + 8 + 3 * j) = some (.inr (2, [.ref (n + 9 + 3 * j), .ref (n + 10 + 3 * j), .int 0, .int 0, .int (-1)])) ∧ N1 (n + 9 + 3 * j) = some (.inl (0, 60, .inl fun _ => 0)) ∧ N1 (n + 10 + 3 * j) = some (.inl (0, 60, .inl fun _ => 0))) ∧ ∀ x, x < n + 8 + 3 * i → x ≠ n + 5 → N1 x = N x
  | 0, i, N, sl, hi, ha, h5 => by
    have e : i = 8 := by omega
    subst e
    refine ⟨N, ?_, h5, fun j h1 h2 => by omega, fun _ _ _ => rfl⟩
    refine ev_iload_n d_L_init_79 rfl ?_
    refine ev_bipush (v := 8) d_L_init_80 rfl ?_
    refine ev_icmp_ge (t := 104) d_L_init_82 (by decide) (fun _ => ?_) (fun c => absurd (by decide) c)
    exact ev_ret d_L_init_104 rfl
  | k + 1, i, N, sl, hi, ha, h5 => by
    have hb : (fun j => if j < i + 1 then some (n + 8 + 3 * j) else none) = va_up (fun j => if j < i then some (n + 8 + 3 * j) else none) i (some (n + 8 + 3 * i)) := by
      funext j
      by_cases e : j = i
      · subst e
        rw [va_up_self, if_pos (by omega)]
      · rw [va_up_ne _ _ e]
        by_cases e2 : j < i
        · rw [if_pos e2, if_pos (by omega)]
        · rw [if_neg e2, if_neg (by omega)]
    obtain ⟨N1, g1, g2, g3, g4⟩ := l_L_init1 hn hf k (i + 1) (xset (xset (xset (xset (xset N (n + 8 + 3 * i) (.inr (2, [.null, .null, .int 0, .int 0, .int 0]))) (n + 8 + 3 * i + 1) (.inl (0, 60, .inl fun _ => 0))) (n + 8 + 3 * i + 1 + 1) (.inl (0, 60, .inl fun _ => 0))) (n + 8 + 3 * i) (.inr (2, [.ref (n + 8 + 3 * i + 1), .ref (n + 8 + 3 * i + 1 + 1), .int 0, .int 0, .int (-1)]))) (n + 5) (.inl (3, 8, .inr (.inr (.inr (.inr (va_up (fun j => if j < i then some (n + 8 + 3 * j) else none) i (some (n + 8 + 3 * i)))))))) ) (sl + 125) (by omega) (by
      rw [xset_ne _ _ (by omega), xset_ne _ _ (by omega), xset_ne _ _ (by omega), xset_ne _ _ (by omega), xset_ne _ _ (by omega)]
      exact ha) (by rw [hb]; exact xset_self _ _ _)
    refine ⟨N1, ?_, g2, fun j h1 h2 => ?_, fun x h1 h2 => ?_⟩
    · refine ev_iload_n d_L_init_79 rfl ?_
      refine ev_bipush (v := 8) d_L_init_80 rfl ?_
      refine ev_icmp_ge (t := 104) d_L_init_82 (by decide) (fun c => absurd c (nI_ge (b := 8) (by omega) (by decide))) (fun _ => ?_)
      refine ev_aload_n d_L_init_85 rfl ?_
      refine ev_get d_L_init_86 f_0_27 ha hf ?_
      refine ev_iload_n d_L_init_89 rfl ?_
      refine ev_new (S1 := (xset N (n + 8 + 3 * i) (.inr (2, [.null, .null, .int 0, .int 0, .int 0])), n + 8 + 3 * i + 1, sl + 5)) d_L_init_90 rfl n_0_25 rfl ?_
      dsimp only
      refine ev_dup d_L_init_93 rfl ?_
      refine ev_i0 d_L_init_94 ⟨_, q_0_53, by decide, by decide⟩ rfl ⟨rfl, Nat.le_of_ble_eq_true rfl, Nat.le_of_ble_eq_true rfl⟩ (c_I_init (by omega) (xset_self _ _ _)) ?_
      refine ev_aast (M1 := _) d_L_init_97 ((xset_ne _ _ (by omega)).trans ((xset_ne _ _ (by omega)).trans ((xset_ne _ _ (by omega)).trans ((xset_ne _ _ (by omega)).trans h5)))) rfl (xset_self _ _ _) (vp_in_nI (N := 8) (by omega) (by decide)) rfl ?_
      rw [nI_clamp (show i < 2 ^ 31 by omega)]
      refine ev_iinc (v := nI (i + 1)) (lo1 := [some (.ref a), some (.int (nI (i + 1)))]) d_L_init_98 rfl (by rw [nI_succ]; rfl) rfl ?_
      refine ev_goto (t := 79) d_L_init_101 (by decide) ?_
      rw [show sl + 125 * (k + 1) = sl + 125 + 125 * k by omega]
      exact g1
    · by_cases e : j = i
      · subst e
        refine ⟨?_, ?_, ?_⟩
        · rw [g4 _ (by omega) (by omega), xset_ne _ _ (by omega), xset_self, show n + 9 + 3 * j = n + 8 + 3 * j + 1 by omega, show n + 10 + 3 * j = n + 8 + 3 * j + 1 + 1 by omega]
        · rw [g4 _ (by omega) (by omega), xset_ne _ _ (by omega), xset_ne _ _ (by omega), xset_ne _ _ (by omega), show n + 9 + 3 * j = n + 8 + 3 * j + 1 by omega, xset_self]
        · rw [g4 _ (by omega) (by omega), xset_ne _ _ (by omega), xset_ne _ _ (by omega), show n + 10 + 3 * j = n + 8 + 3 * j + 1 + 1 by omega, xset_self]
      · exact g3 j (by omega) h2
    · rw [g4 x (by omega) h2, xset_ne _ _ (by omega), xset_ne _ _ (by omega), xset_ne _ _ (by omega), xset_ne _ _ (by omega), xset_ne _ _ (by omega)]
def ctI (a n t : Nat) : Nat := if t = 0 then a else if t < 9 then n + (t - 1) else n + (t - 2)
def tgI (a n x : Nat) : Option Nat := if x = a then some 0 else if n ≤ x ∧ x < n + 8 then some (x - n + 1) else if n + 8 ≤ x ∧ x < n + 32 then some (x - n + 2) else none
def avI : Nat → Nat → Int32 := fun k => if k = 22 then (fun i => if i < 8 then -1 else 0) else fun _ => 0
theorem slc_0 (i : Nat) : slc 60 (fun _ => (0 : Int32)) i = fun _ => 0 := by
  funext j
  unfold slc
  split <;> rfl
theorem c_L_init {d : Nat} {M : xMm} {n sl a : Nat} (hn : a < n) (ha : M a = some (.inr (0, [.null, .null, .null, .null, .null, .null, .int 0, .int 0, .int 0]))) : ∃ M1 : xMm, xCl (d + 1) k_L_init [.ref a] (M, n, sl) (.inl none, (M1, n + 32, sl + 1550)) ∧ CR M1 (n + 32) (ctI a n) (tgI a n) (fun _ => none) 0 0 0 (fun _ _ => none) (fun _ => []) (fun _ => 0) avI ∧ ∀ x, x < n → x ≠ a → M1 x = M x := by
  obtain ⟨M0, h0, fa, f0, f1, f2, f3, f4, f5, f6, f7, fo⟩ := l_L_init0 (d := d) (sl := sl) hn ha
  obtain ⟨M1, g0, g1, g2, g3⟩ := l_L_init1 (d := d) hn (fl := _) rfl 8 0 M0 (sl + 550) (by omega) fa (by rw [f5]; simp)
  refine ⟨M1, h0 _ g0, ?_, fun x h1 h2 => (g3 x (by omega) (by omega)).trans (fo x h1 h2)⟩
  have k : ∀ x, x < n + 8 → x ≠ n + 5 → M1 x = M0 x := fun x h1 h2 => g3 x (by omega) h2
  have ci : ∀ i, ctI a n (10 + 3 * i) = n + 8 + 3 * i := fun i => by unfold ctI; rw [if_neg (by omega), if_neg (by omega)]; omega
  have ci1 : ∀ i, ctI a n (11 + 3 * i) = n + 9 + 3 * i := fun i => by unfold ctI; rw [if_neg (by omega), if_neg (by omega)]; omega
  have ci2 : ∀ i, ctI a n (12 + 3 * i) = n + 10 + 3 * i := fun i => by unfold ctI; rw [if_neg (by omega), if_neg (by omega)]; omega
  unfold CR
  refine ⟨?_, ?_, ?_, ⟨0, fun _ => 0, ?_, ?_⟩, ?_, ?_, ?_, ?_, fun i hi => ?_, fun i hi => ?_, fun i hi => ?_, fun r h => by omega, fun r h => by omega, fun r h => by omega, fun r h => by omega, fun r h => by omega, fun r h => by omega, fun r h => by omega, fun r h => by omega, fun r h => by omega, fun r h => by omega, fun a e h => (by cases h), fun t ht => ?_, fun a h => absurd rfl h, fun x hx => ?_, by omega, by omega, by omega, rfl, rfl, rfl⟩
  · exact (k a (by omega) (by omega)).trans fa
  · exact (k n (by omega) (by omega)).trans f0
  · exact (k (n + 1) (by omega) (by omega)).trans f1
  · exact (k (n + 2) (by omega) (by omega)).trans f2
  · exact (k (n + 3) (by omega) (by omega)).trans f3
  · refine (k (n + 4) (by omega) (by omega)).trans (f4.trans ?_)
    simp
  · refine g1.trans ?_
    have : (fun i => if i < 8 then some (ctI a n (10 + 3 * i)) else none) = fun j => if j < 8 then some (n + 8 + 3 * j) else none := by
      funext i
      rw [ci]
    rw [this]
  · refine (k (n + 6) (by omega) (by omega)).trans (f6.trans ?_)
    simp
  · refine (k (n + 7) (by omega) (by omega)).trans (f7.trans ?_)
    simp
  · rw [ci, ci1, ci2, (g2 i (by omega) hi).1]
    show _ = (some (Sum.inr (2, [_, _, .int 0, .int 0, .int (if i < 8 then -1 else 0)])) : Option xE)
    rw [if_pos hi]
  · rw [ci1, (g2 i (by omega) hi).2.1]
    show _ = (some (Sum.inl (0, 60, .inl (slc 60 (fun _ => 0) i))) : Option xE)
    rw [slc_0]
  · rw [ci2, (g2 i (by omega) hi).2.2]
    show _ = (some (Sum.inl (0, 60, .inl (slc 60 (fun _ => 0) i))) : Option xE)
    rw [slc_0]
  · unfold lvt at ht
    unfold ctI tgI
    by_cases e0 : t = 0
    · subst e0
      simp
      omega
    · rw [if_neg e0]
      by_cases e1 : t < 9
      · rw [if_pos e1, if_neg (by omega), if_pos (by omega)]
        exact ⟨by congr 1; omega, by omega⟩
      · rw [if_neg e1, if_neg (by omega), if_neg (by omega), if_pos (by omega)]
        exact ⟨by congr 1; omega, by omega⟩
  · unfold tgI at hx
    by_cases e0 : x = a
    · omega
    · rw [if_neg e0] at hx
      by_cases e1 : n ≤ x ∧ x < n + 8
      · omega
      · rw [if_neg e1] at hx
        by_cases e2 : n + 8 ≤ x ∧ x < n + 32
        · omega
        · rw [if_neg e2] at hx
          exact absurd rfl hx
