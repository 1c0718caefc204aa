/-! the class: counts, clashes -/
set_option maxRecDepth 20000 in
theorem l_L_inputRows {d : Nat} {M : xMm} {n sl : Nat} {ct : Nat → Nat} {tg : Nat → Option Nat} {Bn : xMm} {cn rq ln : Nat} {rt : Nat → Nat → Option Nat} {tx : Nat → List Int32} {iv : Nat → Int32} {av : Nat → Nat → Int32} (K : CR M n ct tg Bn cn rq ln rt tx iv av)  : ∀ (m i : Nat) (s : Int32), i + m = 8 → xEv (d + 1) k_L_inputRows 4 [some (.ref (ct 0)), some (.int s), some (.int (nI i))] [] (M, n, sl) (.inl (some (.int (mSum av m i s))), (M, n, sl)) := by
  intro m
  induction m with
  | zero =>
    intro i s hi
    refine ev_iload_n d_L_inputRows_4 rfl ?_
    refine ev_bipush (v := 8) d_L_inputRows_5 rfl ?_
    refine ev_icmp_ge (t := 27) d_L_inputRows_7 (by decide) (fun _ => ?_) (fun c_7 => absurd (nI_le (a := 8) (by omega) (by omega)) c_7)
    refine ev_iload_n d_L_inputRows_27 rfl ?_
    exact xEv.to (ev_iret d_L_inputRows_28 rfl) (by rfl)
  | succ m ih =>
    intro i s hi0
    have hi : i < 8 := by omega
    refine ev_iload_n d_L_inputRows_4 rfl ?_
    refine ev_bipush (v := 8) d_L_inputRows_5 rfl ?_
    refine ev_icmp_ge (t := 27) d_L_inputRows_7 (by decide) (fun c_7 => absurd c_7 (nI_ge (b := 8) (by omega) (by decide))) (fun _ => ?_)
    refine ev_iload_n d_L_inputRows_10 rfl ?_
    refine ev_aload_n d_L_inputRows_11 rfl ?_
    refine ev_iload_n d_L_inputRows_12 rfl ?_
    refine ev_v1r d_L_inputRows_13 q_0_102 rfl K.lt ⟨rfl, Nat.le_of_ble_eq_true rfl, Nat.le_of_ble_eq_true rfl⟩ (c_L_inputOf_ok K i hi) ?_
    refine ev_get d_L_inputRows_16 f_0_106 ((K.inp i hi)) rfl ?_
    refine ev_iadd d_L_inputRows_19 ?_
    refine ev_top (fun x_1 ex_1 => ?_)
    refine ev_istore_n (lo1 := [some (.ref (ct 0)), some (.int x_1), some (.int (nI i))]) d_L_inputRows_20 (Nat.le_of_ble_eq_true rfl) rfl ?_
    obtain ⟨x_2, ex_2⟩ : ∃ z : Int32, z = (nI i) + 1 := ⟨_, rfl⟩
    refine ev_iinc (v := x_2) (lo1 := [some (.ref (ct 0)), some (.int x_1), some (.int x_2)]) d_L_inputRows_21 rfl (by rw [ex_2]; rfl) rfl ?_
    refine ev_goto (t := 4) d_L_inputRows_24 (by decide) ?_
    rw [show x_2 = nI (i + 1) from by rw [ex_2, nI_succ], show x_1 = s + av 18 i from ex_1]
    exact ih (i + 1) _ (by omega)
set_option maxRecDepth 20000 in
theorem c_L_inputRows {d : Nat} {M : xMm} {n sl : Nat} {ct : Nat → Nat} {tg : Nat → Option Nat} {Bn : xMm} {cn rq ln : Nat} {rt : Nat → Nat → Option Nat} {tx : Nat → List Int32} {iv : Nat → Int32} {av : Nat → Nat → Int32} (K : CR M n ct tg Bn cn rq ln rt tx iv av)  : xCl (d + 1) k_L_inputRows [.ref (ct 0)] (M, n, sl) (.inl (some (.int (mSum av 8 0 0))), (M, n, sl)) := by
  show xEv _ k_L_inputRows 0 [some (.ref (ct 0)), none, none] [] _ _
  refine ev_iconst (v := 0) d_L_inputRows_0 rfl ?_
  refine ev_istore_n (lo1 := [some (.ref (ct 0)), some (.int 0), none]) d_L_inputRows_1 (Nat.le_of_ble_eq_true rfl) rfl ?_
  refine ev_iconst (v := 0) d_L_inputRows_2 rfl ?_
  refine ev_istore_n (lo1 := [some (.ref (ct 0)), some (.int 0), some (.int 0)]) d_L_inputRows_3 (Nat.le_of_ble_eq_true rfl) rfl ?_
  exact l_L_inputRows K 8 0 0 (by omega)
set_option maxRecDepth 20000 in
theorem c_L_count_ok {d : Nat} {M : xMm} {n sl : Nat} {ct : Nat → Nat} {tg : Nat → Option Nat} {Bn : xMm} {cn rq ln : Nat} {rt : Nat → Nat → Option Nat} {tx : Nat → List Int32} {iv : Nat → Int32} {av : Nat → Nat → Int32} (K : CR M n ct tg Bn cn rq ln rt tx iv av) (w : Int32) (h : 0 ≤ w ∧ w ≤ 4) : xCl (d + 2) k_L_count [.ref (ct 0), .int w] (M, n, sl) (.inl (some (.int (if w = 0 then iv 1 else if w = 1 then iv 3 else if w = 2 then iv 23 else if w = 3 then iv 33 else mSum av 8 0 0))), (M, n, sl)) := by
  have hw : w = 0 ∨ w = 1 ∨ w = 2 ∨ w = 3 ∨ w = 4 := by grind
  rcases hw with rfl | rfl | rfl | rfl | rfl
  · show xEv _ k_L_count 0 [some (.ref (ct 0)), some (.int 0)] [] _ _
    refine ev_iload_n d_L_count_0 rfl ?_
    refine ev_tsIn (t := 36) d_L_count_1 (by decide) rfl (by decide) ?_
    refine ev_aload_n d_L_count_36 rfl ?_
    refine ev_get d_L_count_37 f_0_10 (K.lt) rfl ?_
    refine ev_get d_L_count_40 f_0_54 (K.pad) rfl ?_
    exact xEv.to (ev_iret d_L_count_43 rfl) (by rfl)
  · show xEv _ k_L_count 0 [some (.ref (ct 0)), some (.int 1)] [] _ _
    refine ev_iload_n d_L_count_0 rfl ?_
    refine ev_tsIn (t := 44) d_L_count_1 (by decide) rfl (by decide) ?_
    refine ev_aload_n d_L_count_44 rfl ?_
    refine ev_get d_L_count_45 f_0_43 (K.lt) rfl ?_
    exact xEv.to (ev_iret d_L_count_48 rfl) (by rfl)
  · show xEv _ k_L_count 0 [some (.ref (ct 0)), some (.int 2)] [] _ _
    refine ev_iload_n d_L_count_0 rfl ?_
    refine ev_tsIn (t := 49) d_L_count_1 (by decide) rfl (by decide) ?_
    refine ev_aload_n d_L_count_49 rfl ?_
    refine ev_get d_L_count_50 f_0_47 (K.lt) rfl ?_
    exact xEv.to (ev_iret d_L_count_53 rfl) (by rfl)
  · show xEv _ k_L_count 0 [some (.ref (ct 0)), some (.int 3)] [] _ _
    refine ev_iload_n d_L_count_0 rfl ?_
    refine ev_tsIn (t := 54) d_L_count_1 (by decide) rfl (by decide) ?_
    refine ev_aload_n d_L_count_54 rfl ?_
    refine ev_get d_L_count_55 f_0_50 (K.lt) rfl ?_
    exact xEv.to (ev_iret d_L_count_58 rfl) (by rfl)
  · show xEv _ k_L_count 0 [some (.ref (ct 0)), some (.int 4)] [] _ _
    refine ev_iload_n d_L_count_0 rfl ?_
    refine ev_tsIn (t := 59) d_L_count_1 (by decide) rfl (by decide) ?_
    refine ev_aload_n d_L_count_59 rfl ?_
    refine ev_v0r d_L_count_60 q_0_239 rfl K.lt ⟨rfl, Nat.le_of_ble_eq_true rfl, Nat.le_of_ble_eq_true rfl⟩ (c_L_inputRows K) ?_
    exact xEv.to (ev_iret d_L_count_63 rfl) (by rfl)
set_option maxRecDepth 20000 in
theorem c_L_count_no {d : Nat} {M : xMm} {n sl : Nat} {ct : Nat → Nat} {tg : Nat → Option Nat} {Bn : xMm} {cn rq ln : Nat} {rt : Nat → Nat → Option Nat} {tx : Nat → List Int32} {iv : Nat → Int32} {av : Nat → Nat → Int32} (K : CR M n ct tg Bn cn rq ln rt tx iv av) (w : Int32) (h : ¬ (0 ≤ w ∧ w ≤ 4)) : xCl (d + 2) k_L_count [.ref (ct 0), .int w] (M, n, sl) (.inr "java/lang/IndexOutOfBoundsException", (M, n + 1, sl + 6)) := by
  have hw : w.toInt < 0 ∨ 4 < w.toInt := by
    by_cases g : w.toInt < 0
    · exact Or.inl g
    · by_cases g2 : 4 < w.toInt
      · exact Or.inr g2
      · exact absurd ⟨Int32.le_iff_toInt_le.mpr (by show (0 : Int) ≤ w.toInt; omega), Int32.le_iff_toInt_le.mpr (by show w.toInt ≤ (4 : Int); omega)⟩ h
  show xEv _ k_L_count 0 [some (.ref (ct 0)), some (.int w)] [] _ _
  refine ev_iload_n d_L_count_0 rfl ?_
  refine ev_tsOut (t := 64) d_L_count_1 hw (by decide) ?_
  exact ev_throw d_L_count_64 rfl (Nat.le_of_ble_eq_true rfl)
def cPair (av : Nat → Nat → Int32) (rq r q : Nat) : Bool := if q < rq then ovr av r (av 34 q) (av 35 q) (av 36 q) else ovr av r (av 25 (q - rq)) (av 26 (q - rq)) (av 27 (q - rq))
def cNum (rq q : Nat) : Nat := if q < rq then q else 100 + q - rq
set_option maxRecDepth 20000 in
theorem l_L_clash1 {d : Nat} {M : xMm} {n sl : Nat} {X : xO × xS} {ct : Nat → Nat} {tg : Nat → Option Nat} {Bn : xMm} {cn rq ln : Nat} {rt : Nat → Nat → Option Nat} {tx : Nat → List Int32} {iv : Nat → Int32} {av : Nat → Nat → Int32} (K : CR M n ct tg Bn cn rq ln rt tx iv av) (k w : Int32) (r : Nat) (hr : r < rq)  : ∀ (j q : Nat) (m : Int32), q + j = rq + ln → (∀ a b, fk (cPair av rq r) k j q m = (some a, b) → (.inl (some (.int (if w = 0 then nI r else nI (cNum rq a)))), (M, n, sl)) = X) → (∀ m1 (x : Int32), fk (cPair av rq r) k j q m = (none, m1) → xEv (d + 2) k_L_clash 105 [some (.ref (ct 0)), some (.int k), some (.int w), some (.int m1), some (.int (nI r)), some (.int x)] [] (M, n, sl) X) → xEv (d + 2) k_L_clash 43 [some (.ref (ct 0)), some (.int k), some (.int w), some (.int m), some (.int (nI r)), some (.int (nI q))] [] (M, n, sl) X := by
  have hcnt := K.cnt
  intro j
  induction j with
  | zero =>
    intro q m hq hfnd hend
    refine ev_iload d_L_clash_43 rfl ?_
    refine ev_aload_n d_L_clash_45 rfl ?_
    refine ev_get d_L_clash_46 f_0_50 (K.lt) rfl ?_
    refine ev_aload_n d_L_clash_49 rfl ?_
    refine ev_get d_L_clash_50 f_0_47 (K.lt) rfl ?_
    refine ev_iadd d_L_clash_53 ?_
    rw [hcnt.2.2.2.2.1, hcnt.2.2.2.2.2, nI_add]
    refine ev_icmp_ge (t := 105) d_L_clash_54 (by decide) (fun _ => ?_) (fun c_54 => absurd (nI_le (by omega) (by omega)) c_54)
    exact hend _ _ (by rw [fk])
  | succ j ih =>
    intro q m hqj hfnd hend
    by_cases hq : q < rq
    · have hP : xbi (av 34 r = av 34 q ∧ av 35 r ≤ av 36 q ∧ av 35 q ≤ av 36 r) = xb (cPair av rq r q) := by
          rw [cPair, if_pos hq, ovr]
          grind [xbi, xb]
      have hnum : (if nI q < iv 33 then nI q else 100 + nI q - iv 33) = nI (cNum rq q) := by rw [hcnt.2.2.2.2.1, if_pos (nI_lt hq (by omega)), cNum, if_pos hq]
      refine ev_iload d_L_clash_43 rfl ?_
      refine ev_aload_n d_L_clash_45 rfl ?_
      refine ev_get d_L_clash_46 f_0_50 (K.lt) rfl ?_
      refine ev_aload_n d_L_clash_49 rfl ?_
      refine ev_get d_L_clash_50 f_0_47 (K.lt) rfl ?_
      refine ev_iadd d_L_clash_53 ?_
      rw [hcnt.2.2.2.2.1, hcnt.2.2.2.2.2, nI_add]
      refine ev_icmp_ge (t := 105) d_L_clash_54 (by decide) (fun c_54 => absurd c_54 (nI_ge (by omega) (by omega))) (fun _ => ?_)
      refine ev_aload_n d_L_clash_57 rfl ?_
      refine ev_iload d_L_clash_58 rfl ?_
      refine ev_v1r d_L_clash_60 q_0_218 rfl K.lt ⟨rfl, Nat.le_of_ble_eq_true rfl, Nat.le_of_ble_eq_true rfl⟩ (c_L_spanAt_r K r hr) ?_
      refine ev_aload_n d_L_clash_63 rfl ?_
      refine ev_iload d_L_clash_64 rfl ?_
      refine ev_v1r d_L_clash_66 q_0_218 rfl K.lt ⟨rfl, Nat.le_of_ble_eq_true rfl, Nat.le_of_ble_eq_true rfl⟩ (c_L_spanAt_r K q hq) ?_
      refine ev_s2r d_L_clash_69 q_0_222 rfl ⟨rfl, Nat.le_of_ble_eq_true rfl, Nat.le_of_ble_eq_true rfl⟩ (c_L_areClashing (K.req r hr) (K.req q hq)) ?_
      rw [hP]
      refine ev_if_eq (t := 99) d_L_clash_72 (by decide) (fun c_72_1 => ?_) (fun c_72_1 => ?_)
      · obtain ⟨x_2, ex_2⟩ : ∃ z : Int32, z = (nI q) + 1 := ⟨_, rfl⟩
        refine ev_iinc (v := x_2) (lo1 := [some (.ref (ct 0)), some (.int k), some (.int w), some (.int m), some (.int (nI r)), some (.int x_2)]) d_L_clash_99 rfl (by rw [ex_2]; rfl) rfl ?_
        refine ev_goto (t := 43) d_L_clash_102 (by decide) ?_
        rw [show x_2 = nI (q + 1) from by rw [ex_2, nI_succ]]
        exact ih (q + 1) m (by omega) (fun a b hh => hfnd a b (by rw [fk]; grind [xb])) (fun a b hh => hend a b (by rw [fk]; grind [xb]))
      · refine ev_iload_n d_L_clash_75 rfl ?_
        refine ev_iload_n d_L_clash_76 rfl ?_
        refine ev_icmp_ne (t := 96) d_L_clash_77 (by decide) (fun c_77_3 => ?_) (fun c_77_3 => ?_)
        · obtain ⟨x_4, ex_4⟩ : ∃ z : Int32, z = m + 1 := ⟨_, rfl⟩
          refine ev_iinc (v := x_4) (lo1 := [some (.ref (ct 0)), some (.int k), some (.int w), some (.int x_4), some (.int (nI r)), some (.int (nI q))]) d_L_clash_96 rfl (by rw [ex_4]; rfl) rfl ?_
          obtain ⟨x_5, ex_5⟩ : ∃ z : Int32, z = (nI q) + 1 := ⟨_, rfl⟩
          refine ev_iinc (v := x_5) (lo1 := [some (.ref (ct 0)), some (.int k), some (.int w), some (.int x_4), some (.int (nI r)), some (.int x_5)]) d_L_clash_99 rfl (by rw [ex_5]; rfl) rfl ?_
          refine ev_goto (t := 43) d_L_clash_102 (by decide) ?_
          rw [show x_5 = nI (q + 1) from by rw [ex_5, nI_succ]]
          exact ih (q + 1) x_4 (by omega) (fun a b hh => hfnd a b (by rw [fk]; grind [xb])) (fun a b hh => hend a b (by rw [fk]; grind [xb]))
        · refine ev_iload_n d_L_clash_80 rfl ?_
          refine ev_if_ne (t := 89) d_L_clash_81 (by decide) (fun c_81_6 => ?_) (fun c_81_6 => ?_)
          · refine ev_aload_n d_L_clash_89 rfl ?_
            refine ev_iload d_L_clash_90 rfl ?_
            refine ev_v1r d_L_clash_92 q_0_226 rfl K.lt ⟨rfl, Nat.le_of_ble_eq_true rfl, Nat.le_of_ble_eq_true rfl⟩ (c_L_numberAt K _) ?_
            rw [hnum]
            have h9 := hfnd q m (by rw [fk]; grind [xb])
            exact xEv.to (ev_iret d_L_clash_95 rfl) (by rw [← h9]; grind)
          · refine ev_iload d_L_clash_84 rfl ?_
            refine ev_goto (t := 95) d_L_clash_86 (by decide) ?_
            have h9 := hfnd q m (by rw [fk]; grind [xb])
            exact xEv.to (ev_iret d_L_clash_95 rfl) (by rw [← h9]; grind)
    · have hl : q - rq < ln := by omega
      have hP : xbi (av 34 r = av 25 (q - rq) ∧ av 35 r ≤ av 27 (q - rq) ∧ av 26 (q - rq) ≤ av 36 r) = xb (cPair av rq r q) := by
          rw [cPair, if_neg hq, ovr]
          grind [xbi, xb]
      have hnum : (if nI q < iv 33 then nI q else 100 + nI q - iv 33) = nI (cNum rq q) := by rw [hcnt.2.2.2.2.1, if_neg (nI_nlt (by omega) (by omega)), cNum, if_neg hq, show (100 : Int32) = nI 100 from rfl, nI_add, pk_sub (by omega)]
      refine ev_iload d_L_clash_43 rfl ?_
      refine ev_aload_n d_L_clash_45 rfl ?_
      refine ev_get d_L_clash_46 f_0_50 (K.lt) rfl ?_
      refine ev_aload_n d_L_clash_49 rfl ?_
      refine ev_get d_L_clash_50 f_0_47 (K.lt) rfl ?_
      refine ev_iadd d_L_clash_53 ?_
      rw [hcnt.2.2.2.2.1, hcnt.2.2.2.2.2, nI_add]
      refine ev_icmp_ge (t := 105) d_L_clash_54 (by decide) (fun c_54 => absurd c_54 (nI_ge (by omega) (by omega))) (fun _ => ?_)
      refine ev_aload_n d_L_clash_57 rfl ?_
      refine ev_iload d_L_clash_58 rfl ?_
      refine ev_v1r d_L_clash_60 q_0_218 rfl K.lt ⟨rfl, Nat.le_of_ble_eq_true rfl, Nat.le_of_ble_eq_true rfl⟩ (c_L_spanAt_r K r hr) ?_
      refine ev_aload_n d_L_clash_63 rfl ?_
      refine ev_iload d_L_clash_64 rfl ?_
      rw [show nI q = nI (rq + (q - rq)) from by congr 1; omega]
      refine ev_v1r d_L_clash_66 q_0_218 rfl K.lt ⟨rfl, Nat.le_of_ble_eq_true rfl, Nat.le_of_ble_eq_true rfl⟩ (c_L_spanAt_l K (q - rq) hl) ?_
      rw [show nI (rq + (q - rq)) = nI q from by congr 1; omega]
      refine ev_s2r d_L_clash_69 q_0_222 rfl ⟨rfl, Nat.le_of_ble_eq_true rfl, Nat.le_of_ble_eq_true rfl⟩ (c_L_areClashing (K.req r hr) (K.lonP (q - rq) hl)) ?_
      rw [hP]
      refine ev_if_eq (t := 99) d_L_clash_72 (by decide) (fun c_72_1 => ?_) (fun c_72_1 => ?_)
      · obtain ⟨x_2, ex_2⟩ : ∃ z : Int32, z = (nI q) + 1 := ⟨_, rfl⟩
        refine ev_iinc (v := x_2) (lo1 := [some (.ref (ct 0)), some (.int k), some (.int w), some (.int m), some (.int (nI r)), some (.int x_2)]) d_L_clash_99 rfl (by rw [ex_2]; rfl) rfl ?_
        refine ev_goto (t := 43) d_L_clash_102 (by decide) ?_
        rw [show x_2 = nI (q + 1) from by rw [ex_2, nI_succ]]
        exact ih (q + 1) m (by omega) (fun a b hh => hfnd a b (by rw [fk]; grind [xb])) (fun a b hh => hend a b (by rw [fk]; grind [xb]))
      · refine ev_iload_n d_L_clash_75 rfl ?_
        refine ev_iload_n d_L_clash_76 rfl ?_
        refine ev_icmp_ne (t := 96) d_L_clash_77 (by decide) (fun c_77_3 => ?_) (fun c_77_3 => ?_)
        · obtain ⟨x_4, ex_4⟩ : ∃ z : Int32, z = m + 1 := ⟨_, rfl⟩
          refine ev_iinc (v := x_4) (lo1 := [some (.ref (ct 0)), some (.int k), some (.int w), some (.int x_4), some (.int (nI r)), some (.int (nI q))]) d_L_clash_96 rfl (by rw [ex_4]; rfl) rfl ?_
          obtain ⟨x_5, ex_5⟩ : ∃ z : Int32, z = (nI q) + 1 := ⟨_, rfl⟩
          refine ev_iinc (v := x_5) (lo1 := [some (.ref (ct 0)), some (.int k), some (.int w), some (.int x_4), some (.int (nI r)), some (.int x_5)]) d_L_clash_99 rfl (by rw [ex_5]; rfl) rfl ?_
          refine ev_goto (t := 43) d_L_clash_102 (by decide) ?_
          rw [show x_5 = nI (q + 1) from by rw [ex_5, nI_succ]]
          exact ih (q + 1) x_4 (by omega) (fun a b hh => hfnd a b (by rw [fk]; grind [xb])) (fun a b hh => hend a b (by rw [fk]; grind [xb]))
        · refine ev_iload_n d_L_clash_80 rfl ?_
          refine ev_if_ne (t := 89) d_L_clash_81 (by decide) (fun c_81_6 => ?_) (fun c_81_6 => ?_)
          · refine ev_aload_n d_L_clash_89 rfl ?_
            refine ev_iload d_L_clash_90 rfl ?_
            refine ev_v1r d_L_clash_92 q_0_226 rfl K.lt ⟨rfl, Nat.le_of_ble_eq_true rfl, Nat.le_of_ble_eq_true rfl⟩ (c_L_numberAt K _) ?_
            rw [hnum]
            have h9 := hfnd q m (by rw [fk]; grind [xb])
            exact xEv.to (ev_iret d_L_clash_95 rfl) (by rw [← h9]; grind)
          · refine ev_iload d_L_clash_84 rfl ?_
            refine ev_goto (t := 95) d_L_clash_86 (by decide) ?_
            have h9 := hfnd q m (by rw [fk]; grind [xb])
            exact xEv.to (ev_iret d_L_clash_95 rfl) (by rw [← h9]; grind)
def clC (w : Int32) (rq : Nat) (o : Option (Nat × Nat)) : Int32 := match o with | some (a, b) => if w = 0 then nI a else nI (cNum rq b) | none => -1
set_option maxRecDepth 20000 in
theorem l_L_clash2 {d : Nat} {M : xMm} {n sl : Nat} {ct : Nat → Nat} {tg : Nat → Option Nat} {Bn : xMm} {cn rq ln : Nat} {rt : Nat → Nat → Option Nat} {tx : Nat → List Int32} {iv : Nat → Int32} {av : Nat → Nat → Int32} (K : CR M n ct tg Bn cn rq ln rt tx iv av) (k w : Int32) : ∀ (j r : Nat) (m : Int32) (o5 : Option Value), r + j = rq → xEv (d + 2) k_L_clash 28 [some (.ref (ct 0)), some (.int k), some (.int w), some (.int m), some (.int (nI r)), o5] [] (M, n, sl) (.inl (some (.int (clC w rq (clk (cPair av rq) k (fun r => rq + ln - (r + 1)) j r m)))), (M, n, sl)) := by
  have hcnt := K.cnt
  intro j
  induction j with
  | zero =>
    intro r m o5 hr
    refine ev_iload d_L_clash_28 rfl ?_
    refine ev_aload_n d_L_clash_30 rfl ?_
    refine ev_get d_L_clash_31 f_0_50 (K.lt) rfl ?_
    refine ev_icmp_ge (t := 111) d_L_clash_34 (by decide) (fun _ => ?_) (fun c_34 => absurd (by rw [hcnt.2.2.2.2.1]; exact nI_le (by omega) (by omega)) c_34)
    refine ev_iconst (v := (-1)) d_L_clash_111 rfl ?_
    exact xEv.to (ev_iret d_L_clash_112 rfl) (by rfl)
  | succ j ih =>
    intro r m o5 hr
    refine ev_iload d_L_clash_28 rfl ?_
    refine ev_aload_n d_L_clash_30 rfl ?_
    refine ev_get d_L_clash_31 f_0_50 (K.lt) rfl ?_
    refine ev_icmp_ge (t := 111) d_L_clash_34 (by decide) (fun c_34 => absurd c_34 (by rw [hcnt.2.2.2.2.1]; exact nI_ge (by omega) (by omega))) (fun _ => ?_)
    refine ev_iload d_L_clash_37 rfl ?_
    refine ev_iconst (v := 1) d_L_clash_39 rfl ?_
    refine ev_iadd d_L_clash_40 ?_
    refine ev_top (fun x_1 ex_1 => ?_)
    refine ev_istore (lo1 := [some (.ref (ct 0)), some (.int k), some (.int w), some (.int m), some (.int (nI r)), some (.int x_1)]) d_L_clash_41 (Nat.le_of_ble_eq_true rfl) rfl ?_
    rw [show x_1 = nI (r + 1) from by rw [ex_1, nI_succ]]
    refine l_L_clash1 K k w r (by omega) (rq + ln - (r + 1)) (r + 1) m (by omega) (fun a b hh => by simp only [clk, hh, clC]) (fun m1 x hh => ?_)
    obtain ⟨x_1, ex_1⟩ : ∃ z : Int32, z = (nI r) + 1 := ⟨_, rfl⟩
    refine ev_iinc (v := x_1) (lo1 := [some (.ref (ct 0)), some (.int k), some (.int w), some (.int m1), some (.int x_1), some (.int x)]) d_L_clash_105 rfl (by rw [ex_1]; rfl) rfl ?_
    refine ev_goto (t := 28) d_L_clash_108 (by decide) ?_
    rw [show x_1 = nI (r + 1) from by rw [ex_1, nI_succ]]
    exact xEv.to (ih (r + 1) m1 _ (by omega)) (by simp only [clk, hh])
set_option maxRecDepth 20000 in
theorem c_L_clash_no {d : Nat} {M : xMm} {n sl : Nat} {ct : Nat → Nat} {tg : Nat → Option Nat} {Bn : xMm} {cn rq ln : Nat} {rt : Nat → Nat → Option Nat} {tx : Nat → List Int32} {iv : Nat → Int32} {av : Nat → Nat → Int32} (K : CR M n ct tg Bn cn rq ln rt tx iv av) (k w : Int32) (h : ¬ (0 ≤ k ∧ (w = 0 ∨ w = 1))) : xCl (d + 2) k_L_clash [.ref (ct 0), .int k, .int w] (M, n, sl) (.inr "java/lang/IndexOutOfBoundsException", (M, n + 1, sl + 6)) := by
  show xEv _ k_L_clash 0 [some (.ref (ct 0)), some (.int k), some (.int w), none, none, none] [] _ _
  refine ev_iload_n d_L_clash_0 rfl ?_
  refine ev_if_lt (t := 13) d_L_clash_1 (by decide) (fun c_1_1 => ?_) (fun c_1_1 => ?_)
  · exact ev_throw d_L_clash_13 rfl (Nat.le_of_ble_eq_true rfl)
  · refine ev_iload_n d_L_clash_4 rfl ?_
    refine ev_if_lt (t := 13) d_L_clash_5 (by decide) (fun c_5_2 => ?_) (fun c_5_2 => ?_)
    · exact ev_throw d_L_clash_13 rfl (Nat.le_of_ble_eq_true rfl)
    · refine ev_iload_n d_L_clash_8 rfl ?_
      refine ev_iconst (v := 1) d_L_clash_9 rfl ?_
      refine ev_icmp_le (t := 23) d_L_clash_10 (by decide) (fun c_10 => absurd c_10 (by grind)) (fun _ => ?_)
      exact ev_throw d_L_clash_13 rfl (Nat.le_of_ble_eq_true rfl)
set_option maxRecDepth 20000 in
theorem c_L_clash_ok {d : Nat} {M : xMm} {n sl : Nat} {ct : Nat → Nat} {tg : Nat → Option Nat} {Bn : xMm} {cn rq ln : Nat} {rt : Nat → Nat → Option Nat} {tx : Nat → List Int32} {iv : Nat → Int32} {av : Nat → Nat → Int32} (K : CR M n ct tg Bn cn rq ln rt tx iv av) (k w : Int32) (h : 0 ≤ k ∧ (w = 0 ∨ w = 1)) : xCl (d + 2) k_L_clash [.ref (ct 0), .int k, .int w] (M, n, sl) (.inl (some (.int (clC w rq (clk (cPair av rq) k (fun r => rq + ln - (r + 1)) rq 0 0)))), (M, n, sl)) := by
  show xEv _ k_L_clash 0 [some (.ref (ct 0)), some (.int k), some (.int w), none, none, none] [] _ _
  refine ev_iload_n d_L_clash_0 rfl ?_
  refine ev_if_lt (t := 13) d_L_clash_1 (by decide) (fun c_1 => absurd c_1 (by grind)) (fun _ => ?_)
  refine ev_iload_n d_L_clash_4 rfl ?_
  refine ev_if_lt (t := 13) d_L_clash_5 (by decide) (fun c_5 => absurd c_5 (by grind)) (fun _ => ?_)
  refine ev_iload_n d_L_clash_8 rfl ?_
  refine ev_iconst (v := 1) d_L_clash_9 rfl ?_
  refine ev_icmp_le (t := 23) d_L_clash_10 (by decide) (fun _ => ?_) (fun c_10 => absurd (by grind) c_10)
  refine ev_iconst (v := 0) d_L_clash_23 rfl ?_
  refine ev_istore_n (lo1 := [some (.ref (ct 0)), some (.int k), some (.int w), some (.int 0), none, none]) d_L_clash_24 (Nat.le_of_ble_eq_true rfl) rfl ?_
  refine ev_iconst (v := 0) d_L_clash_25 rfl ?_
  refine ev_istore (lo1 := [some (.ref (ct 0)), some (.int k), some (.int w), some (.int 0), some (.int 0), none]) d_L_clash_26 (Nat.le_of_ble_eq_true rfl) rfl ?_
  exact l_L_clash2 K k w rq 0 0 none (by omega)
theorem fk_add (P : Nat → Bool) (k : Int32) : ∀ a b i n, fk P k (a + b) i n = match fk P k a i n with
    | (some x, m) => (some x, m)
    | (none, m) => fk P k b (i + a) m
  | 0, b, i, n => by simp [fk]
  | a + 1, b, i, n => by
    rw [show a + 1 + b = (a + b) + 1 by omega, fk, fk]
    by_cases h : P i = true
    · rw [if_pos h, if_pos h]
      by_cases h2 : n = k
      · rw [if_pos h2, if_pos h2]
      · rw [if_neg h2, if_neg h2, fk_add P k a b (i + 1) (n + 1), show i + 1 + a = i + (a + 1) by omega]
    · rw [if_neg h, if_neg h, fk_add P k a b (i + 1) n, show i + 1 + a = i + (a + 1) by omega]
theorem fk_none (P : Nat → Bool) (k : Int32) : ∀ a i n, (∀ j, i ≤ j → j < i + a → P j = false) → fk P k a i n = (none, n)
  | 0, i, n, _ => rfl
  | a + 1, i, n, h => by
    rw [fk, if_neg (by rw [h i (Nat.le_refl _) (by omega)]; simp)]
    exact fk_none P k a (i + 1) n (fun j h1 h2 => h j (by omega) (by omega))
theorem fk_sh (P Q : Nat → Bool) (k : Int32) (s : Nat) : ∀ a i n, (∀ j, i ≤ j → j < i + a → P j = Q (j + s)) → fk Q k a (i + s) n = ((fk P k a i n).1.map (· + s), (fk P k a i n).2)
  | 0, i, n, _ => rfl
  | a + 1, i, n, h => by
    have e := h i (Nat.le_refl _) (by omega)
    have ih := fun n => fk_sh P Q k s a (i + 1) n (fun j h1 h2 => h j (by omega) (by omega))
    rw [show i + 1 + s = i + s + 1 by omega] at ih
    rw [fk, fk, ← e]
    by_cases h1 : P i = true
    · rw [if_pos h1, if_pos h1]
      by_cases h2 : n = k
      · rw [if_pos h2, if_pos h2]
        rfl
      · rw [if_neg h2, if_neg h2, ih]
    · rw [if_neg h1, if_neg h1, ih]
theorem fk_in (P : Nat → Bool) (k : Int32) : ∀ a i n x m, fk P k a i n = (some x, m) → i ≤ x ∧ x < i + a
  | 0, i, n, x, m, h => by cases h
  | a + 1, i, n, x, m, h => by
    rw [fk] at h
    split at h
    · split at h
      · cases h
        omega
      · have := fk_in P k a (i + 1) (n + 1) x m h
        omega
    · have := fk_in P k a (i + 1) n x m h
      omega
theorem fk_same (P Q : Nat → Bool) (k : Int32) : ∀ a i n, (∀ j, i ≤ j → j < i + a → P j = Q j) → fk P k a i n = fk Q k a i n
  | 0, i, n, _ => rfl
  | a + 1, i, n, h => by
    rw [fk, fk, h i (Nat.le_refl _) (by omega), fk_same P Q k a (i + 1) n (fun j h1 h2 => h j (by omega) (by omega)), fk_same P Q k a (i + 1) (n + 1) (fun j h1 h2 => h j (by omega) (by omega))]
theorem cl_row {av : Nat → Nat → Int32} {rq ln r : Nat} (k : Int32) (hr : r < rq) (hrq : rq ≤ 30) (hln : ln ≤ 20) (n : Int32) : fk (mPair av rq ln r) k (119 - r) (r + 1) n = ((fk (cPair av rq r) k (rq + ln - (r + 1)) (r + 1) n).1.map (cNum rq), (fk (cPair av rq r) k (rq + ln - (r + 1)) (r + 1) n).2) := by
  rw [show 119 - r = (rq - (r + 1)) + ((100 - rq) + (ln + (20 - ln))) by omega, show rq + ln - (r + 1) = (rq - (r + 1)) + ln by omega, fk_add, fk_add]
  have e1 : fk (mPair av rq ln r) k (rq - (r + 1)) (r + 1) n = fk (cPair av rq r) k (rq - (r + 1)) (r + 1) n := fk_same _ _ _ _ _ _ (fun j h1 h2 => by rw [mPair, cPair, if_pos (by omega), if_pos (by omega)])
  rw [e1]
  cases e2 : fk (cPair av rq r) k (rq - (r + 1)) (r + 1) n with
  | mk a m =>
    cases a with
    | some x =>
      have := fk_in _ _ _ _ _ _ _ e2
      simp [cNum, show x < rq by omega]
    | none =>
      simp only
      rw [show r + 1 + (rq - (r + 1)) = rq by omega, fk_add, fk_none (mPair av rq ln r) k (100 - rq) rq m (fun j h1 h2 => by rw [mPair, if_neg (by omega), if_neg (by omega)])]
      simp only
      rw [show rq + (100 - rq) = 100 by omega, fk_add]
      have e3 := fk_sh (cPair av rq r) (mPair av rq ln r) k (100 - rq) ln rq m (fun j h1 h2 => by rw [mPair, cPair, if_neg (by omega), if_neg (by omega), if_pos (by omega), show j + (100 - rq) - 100 = j - rq by omega])
      rw [show rq + (100 - rq) = 100 by omega] at e3
      rw [e3]
      cases e4 : fk (cPair av rq r) k ln rq m with
      | mk a m =>
        cases a with
        | some x =>
          have := fk_in _ _ _ _ _ _ _ e4
          simp [cNum, show ¬ x < rq by omega]
          omega
        | none =>
          simp only [Option.map_none]
          rw [fk_none (mPair av rq ln r) k (20 - ln) (100 + ln) m (fun j h1 h2 => by rw [mPair, if_neg (by omega), if_neg (by omega)])]
theorem cl_eq {av : Nat → Nat → Int32} {rq ln : Nat} (k w : Int32) (hrq : rq ≤ 30) (hln : ln ≤ 20) : ∀ j r n, r + j = rq → clR w (clk (mPair av rq ln) k (fun r => 119 - r) j r n) = clC w rq (clk (cPair av rq) k (fun r => rq + ln - (r + 1)) j r n)
  | 0, r, n, h => rfl
  | j + 1, r, n, h => by
    have e := cl_row (av := av) (ln := ln) k (show r < rq by omega) hrq hln n
    rw [clk, clk]
    simp only [e]
    cases e2 : fk (cPair av rq r) k (rq + ln - (r + 1)) (r + 1) n with
    | mk a m =>
      cases a with
      | some x => rfl
      | none => exact cl_eq k w hrq hln j (r + 1) m (by omega)
