/-! the class: letters -/
set_option maxRecDepth 20000 in
theorem l_L_letter {d : Nat} {M : xMm} {n sl : Nat} {X : xO × xS} {ct : Nat → Nat} {tg : Nat → Option Nat} {Bn : xMm} {cn rq ln : Nat} {rt : Nat → Nat → Option Nat} {tx : Nat → List Int32} {iv : Nat → Int32} {av : Nat → Nat → Int32} (K : CR M n ct tg Bn cn rq ln rt tx iv av) (l m : Nat) (hl : l < ln) (tt : Nat → Nat) (ht : ∀ k, tt k < 10) (hm : m ≤ 100) (hN : av 30 l = nI m) (hT : ∀ k, k < m → av 32 (100 * l + k) = nI (tt k)) (f : Nat → Int32) (i : Int32) : ∀ (j k : Nat) (w : List Int32), k + j = m → w.length + 2 * j ≤ 240 → (∀ x : Int32, xEv (d + 2) k_L_letter 160 [some (.ref (ct 0)), some (.int (nI l)), some (.int i), some (.ref (ct (100 + 5 * l))), some (.int x)] [] (rowM M (ct 3) (ct 4) f (w ++ tp tt j k), n, sl) X) → xEv (d + 2) k_L_letter 122 [some (.ref (ct 0)), some (.int (nI l)), some (.int i), some (.ref (ct (100 + 5 * l))), some (.int (nI k))] [] (rowM M (ct 3) (ct 4) f (w), n, sl) X := by
  have hcnt := K.cnt
  intro j
  induction j with
  | zero =>
    intro k w hk hw hend
    refine ev_iload d_L_letter_122 rfl ?_
    refine ev_aload_n d_L_letter_124 rfl ?_
    refine ev_get d_L_letter_125 f_0_190 (((rowM_ne M f _ (K.ne (by unfold lvt; omega) (by unfold lvt; omega) (by omega)) (K.ne (by unfold lvt; omega) (by unfold lvt; omega) (by omega))).trans ((K.lon l hl)))) rfl ?_
    rw [hN]
    refine ev_icmp_ge (t := 160) d_L_letter_128 (by decide) (fun _ => ?_) (fun c_128 => absurd (nI_le (by omega) (by omega)) c_128)
    rw [show tp tt 0 k = [] from rfl, List.append_nil] at hend
    exact hend _
  | succ j ih =>
    intro k w hk hw hend
    refine ev_iload d_L_letter_122 rfl ?_
    refine ev_aload_n d_L_letter_124 rfl ?_
    refine ev_get d_L_letter_125 f_0_190 (((rowM_ne M f _ (K.ne (by unfold lvt; omega) (by unfold lvt; omega) (by omega)) (K.ne (by unfold lvt; omega) (by unfold lvt; omega) (by omega))).trans ((K.lon l hl)))) rfl ?_
    rw [hN]
    refine ev_icmp_ge (t := 160) d_L_letter_128 (by decide) (fun c_128 => absurd c_128 (nI_ge (by omega) (by omega))) (fun _ => ?_)
    refine ev_aload_n d_L_letter_131 rfl ?_
    refine ev_get d_L_letter_132 f_0_16 (((rowM_ne M f _ (K.ne (by unfold lvt; omega) (by unfold lvt; omega) (by omega)) (K.ne (by unfold lvt; omega) (by unfold lvt; omega) (by omega))).trans (K.lt))) rfl ?_
    refine ev_bipush (v := 33) d_L_letter_135 rfl ?_
    refine ev_v1o d_L_letter_137 q_0_69 rfl (rowM_a _ _ _ _ _) ⟨rfl, Nat.le_of_ble_eq_true rfl, Nat.le_of_ble_eq_true rfl⟩ (c_W_add (K.ne (by unfold lvt; omega) (by unfold lvt; omega) (by omega)) _ _ (by omega)) ?_
    refine ev_aload_n d_L_letter_140 rfl ?_
    refine ev_get d_L_letter_141 f_0_16 (((rowM_ne M f _ (K.ne (by unfold lvt; omega) (by unfold lvt; omega) (by omega)) (K.ne (by unfold lvt; omega) (by unfold lvt; omega) (by omega))).trans (K.lt))) rfl ?_
    refine ev_aload_n d_L_letter_144 rfl ?_
    refine ev_get d_L_letter_145 f_0_199 (((rowM_ne M f _ (K.ne (by unfold lvt; omega) (by unfold lvt; omega) (by omega)) (K.ne (by unfold lvt; omega) (by unfold lvt; omega) (by omega))).trans ((K.lon l hl)))) rfl ?_
    refine ev_iload d_L_letter_148 rfl ?_
    refine ev_iald d_L_letter_150 (((rowM_ne M f _ (K.ne (by unfold lvt; omega) (by unfold lvt; omega) (by omega)) (K.ne (by unfold lvt; omega) (by unfold lvt; omega) (by omega))).trans ((K.lonT l hl)))) ⟨rfl, vp_in_nI (N := 100) (by omega) (by decide)⟩ rfl ?_
    rw [nI_clamp (show k < 2 ^ 31 by omega), slc_at _ _ (by omega), hT k (by omega)]
    have hk9 := ht k
    have hk8 := dg_1 hk9
    refine ev_v1o d_L_letter_151 q_0_236 rfl (rowM_a _ _ _ _ _) ⟨rfl, Nat.le_of_ble_eq_true rfl, Nat.le_of_ble_eq_true rfl⟩ (c_W_addNumber (K.ne (by unfold lvt; omega) (by unfold lvt; omega) (by omega)) _ (by omega) _ (by simp; omega)) ?_
    obtain ⟨x_1, ex_1⟩ : ∃ z : Int32, z = (nI k) + 1 := ⟨_, rfl⟩
    refine ev_iinc (v := x_1) (lo1 := [some (.ref (ct 0)), some (.int (nI l)), some (.int i), some (.ref (ct (100 + 5 * l))), some (.int x_1)]) d_L_letter_154 rfl (by rw [ex_1]; rfl) rfl ?_
    refine ev_goto (t := 122) d_L_letter_157 (by decide) ?_
    rw [show x_1 = nI (k + 1) from by rw [ex_1, nI_succ]]
    refine ih (k + 1) _ (by omega) (by simp [dg_1 (ht k)]; omega) (fun x => ?_)
    have := hend x
    rw [show tp tt (j + 1) k = [33] ++ dg (tt k) ++ tp tt j (k + 1) from rfl, ← List.append_assoc, ← List.append_assoc] at this
    exact this
set_option maxRecDepth 20000 in
theorem c_L_letter_no {d : Nat} {M : xMm} {n sl : Nat} {ct : Nat → Nat} {tg : Nat → Option Nat} {Bn : xMm} {cn rq ln : Nat} {rt : Nat → Nat → Option Nat} {tx : Nat → List Int32} {iv : Nat → Int32} {av : Nat → Nat → Int32} (K : CR M n ct tg Bn cn rq ln rt tx iv av) (l m : Nat) (hl : l < ln) (tt : Nat → Nat) (ht : ∀ k, tt k < 10) (hm : m ≤ 100) (hN : av 30 l = nI m) (hT : ∀ k, k < m → av 32 (100 * l + k) = nI (tt k)) (f : Nat → Int32) (th fi la : Nat) (hc : (av 24 l).toNatClampNeg < cn) (hth : av 25 l = nI th) (h16 : th < 16) (hfi : av 26 l = nI fi) (hla : av 27 l = nI la) (hfl : fi < 1000000 ∧ la < 1000000) (fe : Nat) (hfe : 5 * (av 27 l - av 26 l + 1) + 20 * av 4 (av 24 l).toNatClampNeg + (if av 28 l = 0 then 300 else 0) + 50 * av 30 l = nI fe) (hf6 : fe < 1000000) (z : Int32) (g3 : M (ct 3) = some (.inr (6, [.ref (ct 4), .int z]))) (g4 : M (ct 4) = some (.inl (0, 240, .inl f))) (i : Int32) (h : ¬ (-1 ≤ i ∧ i < nI (ltr l th fi la fe tt m).length)) : xCl (d + 2) k_L_letter [.ref (ct 0), .int (nI l), .int i] (M, n, sl) (.inr "java/lang/IndexOutOfBoundsException", (rowM M (ct 3) (ct 4) f (ltr l th fi la fe tt m), n + 1, sl + 6)) := by
  have hcnt := K.cnt
  have hlen := ltr_len (l := l) (th := th) (fi := fi) (la := la) (fe := fe) (show l < 20 by omega) h16 ht hm
  show xEv _ k_L_letter 0 [some (.ref (ct 0)), some (.int (nI l)), some (.int i), none, none] [] _ _
  refine ev_aload_n d_L_letter_0 rfl ?_
  refine ev_iload_n d_L_letter_1 rfl ?_
  refine ev_v1r d_L_letter_2 q_0_149 rfl K.lt ⟨rfl, Nat.le_of_ble_eq_true rfl, Nat.le_of_ble_eq_true rfl⟩ (c_L_loanOf_ok K l hl) ?_
  refine ev_astore_n (lo1 := [some (.ref (ct 0)), some (.int (nI l)), some (.int i), some (.ref (ct (100 + 5 * l))), none]) d_L_letter_5 (Nat.le_of_ble_eq_true rfl) rfl ?_
  refine ev_aload_n d_L_letter_6 rfl ?_
  refine ev_get d_L_letter_7 f_0_16 (K.lt) rfl ?_
  refine ev_v0o d_L_letter_10 q_0_84 rfl g3 ⟨rfl, Nat.le_of_ble_eq_true rfl, Nat.le_of_ble_eq_true rfl⟩ (c_W_clear g3) ?_
  rw [show xset M (ct 3) (.inr (6, [.ref (ct 4), .int 0])) = rowM M (ct 3) (ct 4) f [] from by unfold rowM; rw [wrF_nil, xset_id g4]; rfl]
  refine ev_aload_n d_L_letter_13 rfl ?_
  refine ev_get d_L_letter_14 f_0_16 (((rowM_ne M f _ (K.ne (by unfold lvt; omega) (by unfold lvt; omega) (by omega)) (K.ne (by unfold lvt; omega) (by unfold lvt; omega) (by omega))).trans (K.lt))) rfl ?_
  refine ev_bipush (v := 35) d_L_letter_17 rfl ?_
  refine ev_v1o d_L_letter_19 q_0_69 rfl (rowM_a _ _ _ _ _) ⟨rfl, Nat.le_of_ble_eq_true rfl, Nat.le_of_ble_eq_true rfl⟩ (c_W_add (K.ne (by unfold lvt; omega) (by unfold lvt; omega) (by omega)) _ _ (by have a1 := dg_len l; have a2 := dg_len th; have a3 := dg_len fi; have a4 := dg_len la; have a5 := dg_len fe; simp <;> omega)) ?_
  refine ev_aload_n d_L_letter_22 rfl ?_
  refine ev_get d_L_letter_23 f_0_16 (((rowM_ne M f _ (K.ne (by unfold lvt; omega) (by unfold lvt; omega) (by omega)) (K.ne (by unfold lvt; omega) (by unfold lvt; omega) (by omega))).trans (K.lt))) rfl ?_
  refine ev_iload_n d_L_letter_26 rfl ?_
  refine ev_v1o d_L_letter_27 q_0_236 rfl (rowM_a _ _ _ _ _) ⟨rfl, Nat.le_of_ble_eq_true rfl, Nat.le_of_ble_eq_true rfl⟩ (c_W_addNumber (K.ne (by unfold lvt; omega) (by unfold lvt; omega) (by omega)) _ (by omega) _ (by have a1 := dg_len l; have a2 := dg_len th; have a3 := dg_len fi; have a4 := dg_len la; have a5 := dg_len fe; simp <;> omega)) ?_
  refine ev_aload_n d_L_letter_30 rfl ?_
  refine ev_get d_L_letter_31 f_0_16 (((rowM_ne M f _ (K.ne (by unfold lvt; omega) (by unfold lvt; omega) (by omega)) (K.ne (by unfold lvt; omega) (by unfold lvt; omega) (by omega))).trans (K.lt))) rfl ?_
  refine ev_bipush (v := 64) d_L_letter_34 rfl ?_
  refine ev_v1o d_L_letter_36 q_0_69 rfl (rowM_a _ _ _ _ _) ⟨rfl, Nat.le_of_ble_eq_true rfl, Nat.le_of_ble_eq_true rfl⟩ (c_W_add (K.ne (by unfold lvt; omega) (by unfold lvt; omega) (by omega)) _ _ (by have a1 := dg_len l; have a2 := dg_len th; have a3 := dg_len fi; have a4 := dg_len la; have a5 := dg_len fe; simp <;> omega)) ?_
  refine ev_aload_n d_L_letter_39 rfl ?_
  refine ev_get d_L_letter_40 f_0_16 (((rowM_ne M f _ (K.ne (by unfold lvt; omega) (by unfold lvt; omega) (by omega)) (K.ne (by unfold lvt; omega) (by unfold lvt; omega) (by omega))).trans (K.lt))) rfl ?_
  refine ev_aload_n d_L_letter_43 rfl ?_
  refine ev_get d_L_letter_44 f_0_160 (((rowM_ne M f _ (K.ne (by unfold lvt; omega) (by unfold lvt; omega) (by omega)) (K.ne (by unfold lvt; omega) (by unfold lvt; omega) (by omega))).trans ((K.lon l hl)))) rfl ?_
  refine ev_get d_L_letter_47 f_0_210 (((rowM_ne M f _ (K.ne (by unfold lvt; omega) (by unfold lvt; omega) (by omega)) (K.ne (by unfold lvt; omega) (by unfold lvt; omega) (by omega))).trans ((K.lonP l hl)))) rfl ?_
  rw [hth]
  refine ev_v1o d_L_letter_50 q_0_236 rfl (rowM_a _ _ _ _ _) ⟨rfl, Nat.le_of_ble_eq_true rfl, Nat.le_of_ble_eq_true rfl⟩ (c_W_addNumber (K.ne (by unfold lvt; omega) (by unfold lvt; omega) (by omega)) _ (by omega) _ (by have a1 := dg_len l; have a2 := dg_len th; have a3 := dg_len fi; have a4 := dg_len la; have a5 := dg_len fe; simp <;> omega)) ?_
  refine ev_aload_n d_L_letter_53 rfl ?_
  refine ev_get d_L_letter_54 f_0_16 (((rowM_ne M f _ (K.ne (by unfold lvt; omega) (by unfold lvt; omega) (by omega)) (K.ne (by unfold lvt; omega) (by unfold lvt; omega) (by omega))).trans (K.lt))) rfl ?_
  refine ev_bipush (v := 58) d_L_letter_57 rfl ?_
  refine ev_v1o d_L_letter_59 q_0_69 rfl (rowM_a _ _ _ _ _) ⟨rfl, Nat.le_of_ble_eq_true rfl, Nat.le_of_ble_eq_true rfl⟩ (c_W_add (K.ne (by unfold lvt; omega) (by unfold lvt; omega) (by omega)) _ _ (by have a1 := dg_len l; have a2 := dg_len th; have a3 := dg_len fi; have a4 := dg_len la; have a5 := dg_len fe; simp <;> omega)) ?_
  refine ev_aload_n d_L_letter_62 rfl ?_
  refine ev_get d_L_letter_63 f_0_16 (((rowM_ne M f _ (K.ne (by unfold lvt; omega) (by unfold lvt; omega) (by omega)) (K.ne (by unfold lvt; omega) (by unfold lvt; omega) (by omega))).trans (K.lt))) rfl ?_
  refine ev_aload_n d_L_letter_66 rfl ?_
  refine ev_get d_L_letter_67 f_0_160 (((rowM_ne M f _ (K.ne (by unfold lvt; omega) (by unfold lvt; omega) (by omega)) (K.ne (by unfold lvt; omega) (by unfold lvt; omega) (by omega))).trans ((K.lon l hl)))) rfl ?_
  refine ev_get d_L_letter_70 f_0_213 (((rowM_ne M f _ (K.ne (by unfold lvt; omega) (by unfold lvt; omega) (by omega)) (K.ne (by unfold lvt; omega) (by unfold lvt; omega) (by omega))).trans ((K.lonP l hl)))) rfl ?_
  rw [hfi]
  refine ev_v1o d_L_letter_73 q_0_236 rfl (rowM_a _ _ _ _ _) ⟨rfl, Nat.le_of_ble_eq_true rfl, Nat.le_of_ble_eq_true rfl⟩ (c_W_addNumber (K.ne (by unfold lvt; omega) (by unfold lvt; omega) (by omega)) _ (by omega) _ (by have a1 := dg_len l; have a2 := dg_len th; have a3 := dg_len fi; have a4 := dg_len la; have a5 := dg_len fe; simp <;> omega)) ?_
  refine ev_aload_n d_L_letter_76 rfl ?_
  refine ev_get d_L_letter_77 f_0_16 (((rowM_ne M f _ (K.ne (by unfold lvt; omega) (by unfold lvt; omega) (by omega)) (K.ne (by unfold lvt; omega) (by unfold lvt; omega) (by omega))).trans (K.lt))) rfl ?_
  refine ev_bipush (v := 45) d_L_letter_80 rfl ?_
  refine ev_v1o d_L_letter_82 q_0_69 rfl (rowM_a _ _ _ _ _) ⟨rfl, Nat.le_of_ble_eq_true rfl, Nat.le_of_ble_eq_true rfl⟩ (c_W_add (K.ne (by unfold lvt; omega) (by unfold lvt; omega) (by omega)) _ _ (by have a1 := dg_len l; have a2 := dg_len th; have a3 := dg_len fi; have a4 := dg_len la; have a5 := dg_len fe; simp <;> omega)) ?_
  refine ev_aload_n d_L_letter_85 rfl ?_
  refine ev_get d_L_letter_86 f_0_16 (((rowM_ne M f _ (K.ne (by unfold lvt; omega) (by unfold lvt; omega) (by omega)) (K.ne (by unfold lvt; omega) (by unfold lvt; omega) (by omega))).trans (K.lt))) rfl ?_
  refine ev_aload_n d_L_letter_89 rfl ?_
  refine ev_get d_L_letter_90 f_0_160 (((rowM_ne M f _ (K.ne (by unfold lvt; omega) (by unfold lvt; omega) (by omega)) (K.ne (by unfold lvt; omega) (by unfold lvt; omega) (by omega))).trans ((K.lon l hl)))) rfl ?_
  refine ev_get d_L_letter_93 f_0_207 (((rowM_ne M f _ (K.ne (by unfold lvt; omega) (by unfold lvt; omega) (by omega)) (K.ne (by unfold lvt; omega) (by unfold lvt; omega) (by omega))).trans ((K.lonP l hl)))) rfl ?_
  rw [hla]
  refine ev_v1o d_L_letter_96 q_0_236 rfl (rowM_a _ _ _ _ _) ⟨rfl, Nat.le_of_ble_eq_true rfl, Nat.le_of_ble_eq_true rfl⟩ (c_W_addNumber (K.ne (by unfold lvt; omega) (by unfold lvt; omega) (by omega)) _ (by omega) _ (by have a1 := dg_len l; have a2 := dg_len th; have a3 := dg_len fi; have a4 := dg_len la; have a5 := dg_len fe; simp <;> omega)) ?_
  refine ev_aload_n d_L_letter_99 rfl ?_
  refine ev_get d_L_letter_100 f_0_16 (((rowM_ne M f _ (K.ne (by unfold lvt; omega) (by unfold lvt; omega) (by omega)) (K.ne (by unfold lvt; omega) (by unfold lvt; omega) (by omega))).trans (K.lt))) rfl ?_
  refine ev_bipush (v := 61) d_L_letter_103 rfl ?_
  refine ev_v1o d_L_letter_105 q_0_69 rfl (rowM_a _ _ _ _ _) ⟨rfl, Nat.le_of_ble_eq_true rfl, Nat.le_of_ble_eq_true rfl⟩ (c_W_add (K.ne (by unfold lvt; omega) (by unfold lvt; omega) (by omega)) _ _ (by have a1 := dg_len l; have a2 := dg_len th; have a3 := dg_len fi; have a4 := dg_len la; have a5 := dg_len fe; simp <;> omega)) ?_
  refine ev_aload_n d_L_letter_108 rfl ?_
  refine ev_get d_L_letter_109 f_0_16 (((rowM_ne M f _ (K.ne (by unfold lvt; omega) (by unfold lvt; omega) (by omega)) (K.ne (by unfold lvt; omega) (by unfold lvt; omega) (by omega))).trans (K.lt))) rfl ?_
  refine ev_aload_n d_L_letter_112 rfl ?_
  refine ev_v0r d_L_letter_113 q_0_233 rfl ((rowM_ne M f _ (K.ne (by unfold lvt; omega) (by unfold lvt; omega) (by omega)) (K.ne (by unfold lvt; omega) (by unfold lvt; omega) (by omega))).trans (K.lon l hl)) ⟨rfl, Nat.le_of_ble_eq_true rfl, Nat.le_of_ble_eq_true rfl⟩ (c_O_price (fs := fun _ => 0) (ft := fun _ => 0) (fh := fun _ => 0) ((rowM_ne M f _ (K.ne (by unfold lvt; omega) (by unfold lvt; omega) (by omega)) (K.ne (by unfold lvt; omega) (by unfold lvt; omega) (by omega))).trans (K.lon l hl)) ((rowM_ne M f _ (K.ne (by unfold lvt; omega) (by unfold lvt; omega) (by omega)) (K.ne (by unfold lvt; omega) (by unfold lvt; omega) (by omega))).trans (K.lonP l hl)) ((rowM_ne M f _ (K.ne (by unfold lvt; omega) (by unfold lvt; omega) (by omega)) (K.ne (by unfold lvt; omega) (by unfold lvt; omega) (by omega))).trans (K.con _ hc))) ?_
  rw [hfe]
  refine ev_v1o d_L_letter_116 q_0_236 rfl (rowM_a _ _ _ _ _) ⟨rfl, Nat.le_of_ble_eq_true rfl, Nat.le_of_ble_eq_true rfl⟩ (c_W_addNumber (K.ne (by unfold lvt; omega) (by unfold lvt; omega) (by omega)) _ (by omega) _ (by have a1 := dg_len l; have a2 := dg_len th; have a3 := dg_len fi; have a4 := dg_len la; have a5 := dg_len fe; simp <;> omega)) ?_
  refine ev_iconst (v := 0) d_L_letter_119 rfl ?_
  refine ev_istore (lo1 := [some (.ref (ct 0)), some (.int (nI l)), some (.int i), some (.ref (ct (100 + 5 * l))), some (.int (nI 0))]) d_L_letter_120 (Nat.le_of_ble_eq_true rfl) rfl ?_
  refine l_L_letter K l m hl tt ht hm hN hT f i m 0 _ (by omega) (by have a1 := dg_2 (m := l) (by omega); have a2 := dg_2 (m := th) (by omega); have a3 := dg_len fi; have a4 := dg_len la; have a5 := dg_len fe; simp <;> omega) (fun x => ?_)
  rw [show [] ++ [35] ++ dg l ++ [64] ++ dg th ++ [58] ++ dg fi ++ [45] ++ dg la ++ [61] ++ dg fe ++ tp tt m 0 = ltr l th fi la fe tt m from rfl]
  refine ev_aload_n d_L_letter_160 rfl ?_
  refine ev_get d_L_letter_161 f_0_16 (((rowM_ne M f _ (K.ne (by unfold lvt; omega) (by unfold lvt; omega) (by omega)) (K.ne (by unfold lvt; omega) (by unfold lvt; omega) (by omega))).trans (K.lt))) rfl ?_
  refine ev_iload_n d_L_letter_164 rfl ?_
  exact ev_s2t d_L_letter_165 q_0_98 rfl ⟨rfl, Nat.le_of_ble_eq_true rfl, Nat.le_of_ble_eq_true rfl⟩ (c_L_signOrSize_no (K.ne (by unfold lvt; omega) (by unfold lvt; omega) (by omega)) (rowM_a _ _ _ _ _) (rowM_b _ _ _ (K.ne (by unfold lvt; omega) (by unfold lvt; omega) (by omega))) (nI_le (b := 240) (by omega) (by decide)) i h)
set_option maxRecDepth 20000 in
theorem c_L_letter_ok {d : Nat} {M : xMm} {n sl : Nat} {ct : Nat → Nat} {tg : Nat → Option Nat} {Bn : xMm} {cn rq ln : Nat} {rt : Nat → Nat → Option Nat} {tx : Nat → List Int32} {iv : Nat → Int32} {av : Nat → Nat → Int32} (K : CR M n ct tg Bn cn rq ln rt tx iv av) (l m : Nat) (hl : l < ln) (tt : Nat → Nat) (ht : ∀ k, tt k < 10) (hm : m ≤ 100) (hN : av 30 l = nI m) (hT : ∀ k, k < m → av 32 (100 * l + k) = nI (tt k)) (f : Nat → Int32) (th fi la : Nat) (hc : (av 24 l).toNatClampNeg < cn) (hth : av 25 l = nI th) (h16 : th < 16) (hfi : av 26 l = nI fi) (hla : av 27 l = nI la) (hfl : fi < 1000000 ∧ la < 1000000) (fe : Nat) (hfe : 5 * (av 27 l - av 26 l + 1) + 20 * av 4 (av 24 l).toNatClampNeg + (if av 28 l = 0 then 300 else 0) + 50 * av 30 l = nI fe) (hf6 : fe < 1000000) (z : Int32) (g3 : M (ct 3) = some (.inr (6, [.ref (ct 4), .int z]))) (g4 : M (ct 4) = some (.inl (0, 240, .inl f))) (i : Int32) (h : -1 ≤ i ∧ i < nI (ltr l th fi la fe tt m).length) : xCl (d + 2) k_L_letter [.ref (ct 0), .int (nI l), .int i] (M, n, sl) (.inl (some (.int (if i = -1 then nI (ltr l th fi la fe tt m).length else wrF f (ltr l th fi la fe tt m) i.toNatClampNeg))), (rowM M (ct 3) (ct 4) f (ltr l th fi la fe tt m), n, sl)) := by
  have hcnt := K.cnt
  have hlen := ltr_len (l := l) (th := th) (fi := fi) (la := la) (fe := fe) (show l < 20 by omega) h16 ht hm
  show xEv _ k_L_letter 0 [some (.ref (ct 0)), some (.int (nI l)), some (.int i), none, none] [] _ _
  refine ev_aload_n d_L_letter_0 rfl ?_
  refine ev_iload_n d_L_letter_1 rfl ?_
  refine ev_v1r d_L_letter_2 q_0_149 rfl K.lt ⟨rfl, Nat.le_of_ble_eq_true rfl, Nat.le_of_ble_eq_true rfl⟩ (c_L_loanOf_ok K l hl) ?_
  refine ev_astore_n (lo1 := [some (.ref (ct 0)), some (.int (nI l)), some (.int i), some (.ref (ct (100 + 5 * l))), none]) d_L_letter_5 (Nat.le_of_ble_eq_true rfl) rfl ?_
  refine ev_aload_n d_L_letter_6 rfl ?_
  refine ev_get d_L_letter_7 f_0_16 (K.lt) rfl ?_
  refine ev_v0o d_L_letter_10 q_0_84 rfl g3 ⟨rfl, Nat.le_of_ble_eq_true rfl, Nat.le_of_ble_eq_true rfl⟩ (c_W_clear g3) ?_
  rw [show xset M (ct 3) (.inr (6, [.ref (ct 4), .int 0])) = rowM M (ct 3) (ct 4) f [] from by unfold rowM; rw [wrF_nil, xset_id g4]; rfl]
  refine ev_aload_n d_L_letter_13 rfl ?_
  refine ev_get d_L_letter_14 f_0_16 (((rowM_ne M f _ (K.ne (by unfold lvt; omega) (by unfold lvt; omega) (by omega)) (K.ne (by unfold lvt; omega) (by unfold lvt; omega) (by omega))).trans (K.lt))) rfl ?_
  refine ev_bipush (v := 35) d_L_letter_17 rfl ?_
  refine ev_v1o d_L_letter_19 q_0_69 rfl (rowM_a _ _ _ _ _) ⟨rfl, Nat.le_of_ble_eq_true rfl, Nat.le_of_ble_eq_true rfl⟩ (c_W_add (K.ne (by unfold lvt; omega) (by unfold lvt; omega) (by omega)) _ _ (by have a1 := dg_len l; have a2 := dg_len th; have a3 := dg_len fi; have a4 := dg_len la; have a5 := dg_len fe; simp <;> omega)) ?_
  refine ev_aload_n d_L_letter_22 rfl ?_
  refine ev_get d_L_letter_23 f_0_16 (((rowM_ne M f _ (K.ne (by unfold lvt; omega) (by unfold lvt; omega) (by omega)) (K.ne (by unfold lvt; omega) (by unfold lvt; omega) (by omega))).trans (K.lt))) rfl ?_
  refine ev_iload_n d_L_letter_26 rfl ?_
  refine ev_v1o d_L_letter_27 q_0_236 rfl (rowM_a _ _ _ _ _) ⟨rfl, Nat.le_of_ble_eq_true rfl, Nat.le_of_ble_eq_true rfl⟩ (c_W_addNumber (K.ne (by unfold lvt; omega) (by unfold lvt; omega) (by omega)) _ (by omega) _ (by have a1 := dg_len l; have a2 := dg_len th; have a3 := dg_len fi; have a4 := dg_len la; have a5 := dg_len fe; simp <;> omega)) ?_
  refine ev_aload_n d_L_letter_30 rfl ?_
  refine ev_get d_L_letter_31 f_0_16 (((rowM_ne M f _ (K.ne (by unfold lvt; omega) (by unfold lvt; omega) (by omega)) (K.ne (by unfold lvt; omega) (by unfold lvt; omega) (by omega))).trans (K.lt))) rfl ?_
  refine ev_bipush (v := 64) d_L_letter_34 rfl ?_
  refine ev_v1o d_L_letter_36 q_0_69 rfl (rowM_a _ _ _ _ _) ⟨rfl, Nat.le_of_ble_eq_true rfl, Nat.le_of_ble_eq_true rfl⟩ (c_W_add (K.ne (by unfold lvt; omega) (by unfold lvt; omega) (by omega)) _ _ (by have a1 := dg_len l; have a2 := dg_len th; have a3 := dg_len fi; have a4 := dg_len la; have a5 := dg_len fe; simp <;> omega)) ?_
  refine ev_aload_n d_L_letter_39 rfl ?_
  refine ev_get d_L_letter_40 f_0_16 (((rowM_ne M f _ (K.ne (by unfold lvt; omega) (by unfold lvt; omega) (by omega)) (K.ne (by unfold lvt; omega) (by unfold lvt; omega) (by omega))).trans (K.lt))) rfl ?_
  refine ev_aload_n d_L_letter_43 rfl ?_
  refine ev_get d_L_letter_44 f_0_160 (((rowM_ne M f _ (K.ne (by unfold lvt; omega) (by unfold lvt; omega) (by omega)) (K.ne (by unfold lvt; omega) (by unfold lvt; omega) (by omega))).trans ((K.lon l hl)))) rfl ?_
  refine ev_get d_L_letter_47 f_0_210 (((rowM_ne M f _ (K.ne (by unfold lvt; omega) (by unfold lvt; omega) (by omega)) (K.ne (by unfold lvt; omega) (by unfold lvt; omega) (by omega))).trans ((K.lonP l hl)))) rfl ?_
  rw [hth]
  refine ev_v1o d_L_letter_50 q_0_236 rfl (rowM_a _ _ _ _ _) ⟨rfl, Nat.le_of_ble_eq_true rfl, Nat.le_of_ble_eq_true rfl⟩ (c_W_addNumber (K.ne (by unfold lvt; omega) (by unfold lvt; omega) (by omega)) _ (by omega) _ (by have a1 := dg_len l; have a2 := dg_len th; have a3 := dg_len fi; have a4 := dg_len la; have a5 := dg_len fe; simp <;> omega)) ?_
  refine ev_aload_n d_L_letter_53 rfl ?_
  refine ev_get d_L_letter_54 f_0_16 (((rowM_ne M f _ (K.ne (by unfold lvt; omega) (by unfold lvt; omega) (by omega)) (K.ne (by unfold lvt; omega) (by unfold lvt; omega) (by omega))).trans (K.lt))) rfl ?_
  refine ev_bipush (v := 58) d_L_letter_57 rfl ?_
  refine ev_v1o d_L_letter_59 q_0_69 rfl (rowM_a _ _ _ _ _) ⟨rfl, Nat.le_of_ble_eq_true rfl, Nat.le_of_ble_eq_true rfl⟩ (c_W_add (K.ne (by unfold lvt; omega) (by unfold lvt; omega) (by omega)) _ _ (by have a1 := dg_len l; have a2 := dg_len th; have a3 := dg_len fi; have a4 := dg_len la; have a5 := dg_len fe; simp <;> omega)) ?_
  refine ev_aload_n d_L_letter_62 rfl ?_
  refine ev_get d_L_letter_63 f_0_16 (((rowM_ne M f _ (K.ne (by unfold lvt; omega) (by unfold lvt; omega) (by omega)) (K.ne (by unfold lvt; omega) (by unfold lvt; omega) (by omega))).trans (K.lt))) rfl ?_
  refine ev_aload_n d_L_letter_66 rfl ?_
  refine ev_get d_L_letter_67 f_0_160 (((rowM_ne M f _ (K.ne (by unfold lvt; omega) (by unfold lvt; omega) (by omega)) (K.ne (by unfold lvt; omega) (by unfold lvt; omega) (by omega))).trans ((K.lon l hl)))) rfl ?_
  refine ev_get d_L_letter_70 f_0_213 (((rowM_ne M f _ (K.ne (by unfold lvt; omega) (by unfold lvt; omega) (by omega)) (K.ne (by unfold lvt; omega) (by unfold lvt; omega) (by omega))).trans ((K.lonP l hl)))) rfl ?_
  rw [hfi]
  refine ev_v1o d_L_letter_73 q_0_236 rfl (rowM_a _ _ _ _ _) ⟨rfl, Nat.le_of_ble_eq_true rfl, Nat.le_of_ble_eq_true rfl⟩ (c_W_addNumber (K.ne (by unfold lvt; omega) (by unfold lvt; omega) (by omega)) _ (by omega) _ (by have a1 := dg_len l; have a2 := dg_len th; have a3 := dg_len fi; have a4 := dg_len la; have a5 := dg_len fe; simp <;> omega)) ?_
  refine ev_aload_n d_L_letter_76 rfl ?_
  refine ev_get d_L_letter_77 f_0_16 (((rowM_ne M f _ (K.ne (by unfold lvt; omega) (by unfold lvt; omega) (by omega)) (K.ne (by unfold lvt; omega) (by unfold lvt; omega) (by omega))).trans (K.lt))) rfl ?_
  refine ev_bipush (v := 45) d_L_letter_80 rfl ?_
  refine ev_v1o d_L_letter_82 q_0_69 rfl (rowM_a _ _ _ _ _) ⟨rfl, Nat.le_of_ble_eq_true rfl, Nat.le_of_ble_eq_true rfl⟩ (c_W_add (K.ne (by unfold lvt; omega) (by unfold lvt; omega) (by omega)) _ _ (by have a1 := dg_len l; have a2 := dg_len th; have a3 := dg_len fi; have a4 := dg_len la; have a5 := dg_len fe; simp <;> omega)) ?_
  refine ev_aload_n d_L_letter_85 rfl ?_
  refine ev_get d_L_letter_86 f_0_16 (((rowM_ne M f _ (K.ne (by unfold lvt; omega) (by unfold lvt; omega) (by omega)) (K.ne (by unfold lvt; omega) (by unfold lvt; omega) (by omega))).trans (K.lt))) rfl ?_
  refine ev_aload_n d_L_letter_89 rfl ?_
  refine ev_get d_L_letter_90 f_0_160 (((rowM_ne M f _ (K.ne (by unfold lvt; omega) (by unfold lvt; omega) (by omega)) (K.ne (by unfold lvt; omega) (by unfold lvt; omega) (by omega))).trans ((K.lon l hl)))) rfl ?_
  refine ev_get d_L_letter_93 f_0_207 (((rowM_ne M f _ (K.ne (by unfold lvt; omega) (by unfold lvt; omega) (by omega)) (K.ne (by unfold lvt; omega) (by unfold lvt; omega) (by omega))).trans ((K.lonP l hl)))) rfl ?_
  rw [hla]
  refine ev_v1o d_L_letter_96 q_0_236 rfl (rowM_a _ _ _ _ _) ⟨rfl, Nat.le_of_ble_eq_true rfl, Nat.le_of_ble_eq_true rfl⟩ (c_W_addNumber (K.ne (by unfold lvt; omega) (by unfold lvt; omega) (by omega)) _ (by omega) _ (by have a1 := dg_len l; have a2 := dg_len th; have a3 := dg_len fi; have a4 := dg_len la; have a5 := dg_len fe; simp <;> omega)) ?_
  refine ev_aload_n d_L_letter_99 rfl ?_
  refine ev_get d_L_letter_100 f_0_16 (((rowM_ne M f _ (K.ne (by unfold lvt; omega) (by unfold lvt; omega) (by omega)) (K.ne (by unfold lvt; omega) (by unfold lvt; omega) (by omega))).trans (K.lt))) rfl ?_
  refine ev_bipush (v := 61) d_L_letter_103 rfl ?_
  refine ev_v1o d_L_letter_105 q_0_69 rfl (rowM_a _ _ _ _ _) ⟨rfl, Nat.le_of_ble_eq_true rfl, Nat.le_of_ble_eq_true rfl⟩ (c_W_add (K.ne (by unfold lvt; omega) (by unfold lvt; omega) (by omega)) _ _ (by have a1 := dg_len l; have a2 := dg_len th; have a3 := dg_len fi; have a4 := dg_len la; have a5 := dg_len fe; simp <;> omega)) ?_
  refine ev_aload_n d_L_letter_108 rfl ?_
  refine ev_get d_L_letter_109 f_0_16 (((rowM_ne M f _ (K.ne (by unfold lvt; omega) (by unfold lvt; omega) (by omega)) (K.ne (by unfold lvt; omega) (by unfold lvt; omega) (by omega))).trans (K.lt))) rfl ?_
  refine ev_aload_n d_L_letter_112 rfl ?_
  refine ev_v0r d_L_letter_113 q_0_233 rfl ((rowM_ne M f _ (K.ne (by unfold lvt; omega) (by unfold lvt; omega) (by omega)) (K.ne (by unfold lvt; omega) (by unfold lvt; omega) (by omega))).trans (K.lon l hl)) ⟨rfl, Nat.le_of_ble_eq_true rfl, Nat.le_of_ble_eq_true rfl⟩ (c_O_price (fs := fun _ => 0) (ft := fun _ => 0) (fh := fun _ => 0) ((rowM_ne M f _ (K.ne (by unfold lvt; omega) (by unfold lvt; omega) (by omega)) (K.ne (by unfold lvt; omega) (by unfold lvt; omega) (by omega))).trans (K.lon l hl)) ((rowM_ne M f _ (K.ne (by unfold lvt; omega) (by unfold lvt; omega) (by omega)) (K.ne (by unfold lvt; omega) (by unfold lvt; omega) (by omega))).trans (K.lonP l hl)) ((rowM_ne M f _ (K.ne (by unfold lvt; omega) (by unfold lvt; omega) (by omega)) (K.ne (by unfold lvt; omega) (by unfold lvt; omega) (by omega))).trans (K.con _ hc))) ?_
  rw [hfe]
  refine ev_v1o d_L_letter_116 q_0_236 rfl (rowM_a _ _ _ _ _) ⟨rfl, Nat.le_of_ble_eq_true rfl, Nat.le_of_ble_eq_true rfl⟩ (c_W_addNumber (K.ne (by unfold lvt; omega) (by unfold lvt; omega) (by omega)) _ (by omega) _ (by have a1 := dg_len l; have a2 := dg_len th; have a3 := dg_len fi; have a4 := dg_len la; have a5 := dg_len fe; simp <;> omega)) ?_
  refine ev_iconst (v := 0) d_L_letter_119 rfl ?_
  refine ev_istore (lo1 := [some (.ref (ct 0)), some (.int (nI l)), some (.int i), some (.ref (ct (100 + 5 * l))), some (.int (nI 0))]) d_L_letter_120 (Nat.le_of_ble_eq_true rfl) rfl ?_
  refine l_L_letter K l m hl tt ht hm hN hT f i m 0 _ (by omega) (by have a1 := dg_2 (m := l) (by omega); have a2 := dg_2 (m := th) (by omega); have a3 := dg_len fi; have a4 := dg_len la; have a5 := dg_len fe; simp <;> omega) (fun x => ?_)
  rw [show [] ++ [35] ++ dg l ++ [64] ++ dg th ++ [58] ++ dg fi ++ [45] ++ dg la ++ [61] ++ dg fe ++ tp tt m 0 = ltr l th fi la fe tt m from rfl]
  refine ev_aload_n d_L_letter_160 rfl ?_
  refine ev_get d_L_letter_161 f_0_16 (((rowM_ne M f _ (K.ne (by unfold lvt; omega) (by unfold lvt; omega) (by omega)) (K.ne (by unfold lvt; omega) (by unfold lvt; omega) (by omega))).trans (K.lt))) rfl ?_
  refine ev_iload_n d_L_letter_164 rfl ?_
  refine ev_s2r d_L_letter_165 q_0_98 rfl ⟨rfl, Nat.le_of_ble_eq_true rfl, Nat.le_of_ble_eq_true rfl⟩ (c_L_signOrSize_ok (K.ne (by unfold lvt; omega) (by unfold lvt; omega) (by omega)) (rowM_a _ _ _ _ _) (rowM_b _ _ _ (K.ne (by unfold lvt; omega) (by unfold lvt; omega) (by omega))) (nI_le (b := 240) (by omega) (by decide)) i h) ?_
  exact ev_iret d_L_letter_168 rfl
set_option maxRecDepth 20000 in
theorem c_L_letter_no0 {d : Nat} {M : xMm} {n sl : Nat} {ct : Nat → Nat} {tg : Nat → Option Nat} {Bn : xMm} {cn rq ln : Nat} {rt : Nat → Nat → Option Nat} {tx : Nat → List Int32} {iv : Nat → Int32} {av : Nat → Nat → Int32} (K : CR M n ct tg Bn cn rq ln rt tx iv av) (l i : Int32) (hx : ¬ (0 ≤ l ∧ l < nI ln)) : xCl (d + 2) k_L_letter [.ref (ct 0), .int l, .int i] (M, n, sl) (.inr "java/lang/IndexOutOfBoundsException", (M, n + 1, sl + 6)) := by
  show xEv _ k_L_letter 0 [some (.ref (ct 0)), some (.int l), some (.int i), none, none] [] _ _
  refine ev_aload_n d_L_letter_0 rfl ?_
  refine ev_iload_n d_L_letter_1 rfl ?_
  exact ev_v1t d_L_letter_2 q_0_149 rfl K.lt ⟨rfl, Nat.le_of_ble_eq_true rfl, Nat.le_of_ble_eq_true rfl⟩ (c_L_loanOf_no K _ hx)
