/-! contracts of the law's own methods -/
set_option maxRecDepth 20000 in
theorem h_unit {D : va_G} {dT : Nat → ClassId} {l : Launch} (hl0 : l.stackTraces = false) {M M1 : xMm} {n n1 sl1 a0 ou : Nat} (p0 : Int32) {o : xO} {bv : Option Value} {code9 : Int32} {f : Nat → Int64} {fs : List Value} (hou : M ou = some (.inl (7, 1, .inr (.inl f)))) (ha0 : M a0 = some (.inr (0, fs))) (hx : xCl 600 k_L_unit (.ref a0 :: [.int p0]) (M, n, 0) (o, (M1, n1, sl1))) (hn : n1 ≤ n + 90 ∧ sl1 ≤ 0 + 800) (ho1 : M1 ou = M ou) (hR : RES false [(eS, 1), (eA, 2)] o bv code9) : vx_Met l y_unit (Jvm.Cond.codeWith y_unit method_3_code 4 (some .int) [(0, 9, 12, 13), (0, 9, 15, 15)] :: xTB) yRm (va_Pc [.ref a0, .int p0, .ref ou] (yPre D dT M n)) (yQ D dT o M1 n1 ou code9 M n) (fun _ _ _ => False) 90 800 (xA (M, n, 0)) := by
  refine vx_ofWH (cc := method_3_code) (maxL := 4) (ret := some .int) (hh := [(0, 9, 12, 13), (0, 9, 15, 15)]) (by decide) rfl ?_
  intro p e s m args below meth c s₁ B hml hv
  obtain ⟨rfl, ⟨hsz, hP, hK, hT⟩, hN⟩ := hv
  rw [lg_entry_eq]
  have hts0 := atoms_spec (ws := Jvm.Cond.codeWith y_unit method_3_code 4 (some .int) [(0, 9, 12, 13), (0, 9, 15, 15)] :: xTB) B.pre
  have hts : ∀ w ∈ xTB, w.before _ s = true := fun w hw => hts0 w (List.mem_cons_of_mem _ hw)
  have htab := vx_table (x := y_unit) B (hts0 _ List.mem_cons_self)
  have hx0 := B.exec
  have hb := B.bytes
  have hr := B.returns
  have hlocks := B.notSynchronized
  have hown : s.vm.findClass "LoanTermsLaw" = some m.cls := findClass_of_methodNamed B.named
  have hA : yAt D dT s (xA (M, n, 0)) M n s.heap [] := ⟨hP, hsz, va_S.rf, fun q hq => Or.inl hq, fun q hq => Or.inr (by rw [← hsz]; exact hq)⟩
  have C : yCx D dT l p s m _ c method_3_code 4 (xA (M, n, 0)) := ⟨hx0, hb, hml, hown, hts, hl0, hK, hT, hN⟩
  have hl := xRl.entry (as := [.ref a0, .int p0, .ref ou]) (n := 4) (by intro v hv; simp at hv; rcases hv with rfl | rfl | rfl <;> rfl) (Nat.le_of_ble_eq_true rfl)
  generalize (lg_sl [.ref a0, .int p0, .ref ou] ++ List.replicate (4 - (lg_sl [.ref a0, .int p0, .ref ou]).length) Slot.unset).toArray = ls at hl ⊢
  have hl : xRl [some (.ref a0), some (.int p0), some (.ref ou), none] ls 4 := hl
  refine lv_aload_n hx0 hb d_u_unit_0 rfl (hl.get rfl) ?_
  refine lv_iconst (v := 0) hx0 hb d_u_unit_1 rfl ?_
  refine lv_aload_n hx0 hb d_u_unit_2 rfl (hl.get rfl) ?_
  refine lv_iload_n hx0 hb d_u_unit_3 rfl (hl.get rfl) ?_
  obtain ⟨hle, hrun⟩ := y_run (e := e) (below := below) (meth := meth) (R := (headSpec (Jvm.Cond.codeWith y_unit method_3_code 4 (some .int) [(0, 9, 12, 13), (0, 9, 15, 15)] :: xTB) yRm).room) (cells := 0) (slots := 0) (ls := ls) (rest := [.int 0, .ref ou]) C hA o_L_unit li_L_unit in_L_unit se_L_unit hx (by intro v hv; simp at hv; rcases hv with rfl | rfl <;> rfl) rfl (Nat.le_of_ble_eq_true rfl) ha0 (by show 600 + 12 + 1 ≤ 613; omega) (by show 8 + (_ + 11) + (600 * 64 + 200) ≤ 38660; decide) hl.2.1 (Nat.le_of_ble_eq_true rfl) d_u_unit_4 ⟨by show 0 + _ ≤ 90; omega, by show 0 + _ ≤ 800; omega⟩
  refine y_back hrun hA (fun v H1 locs1 ho hA1 => ?_) (fun E ce q9 H1 locs1 ho hA1 hn1 hce hcv hcl => ?_)
  · rcases hR with ⟨hc0, ⟨hv1, -⟩ | ⟨-, x, hv1, hv2⟩⟩ | ⟨E, hE, -⟩
    · cases hv1
    · cases ho.symm.trans hv1
      subst hc0
      refine lv_i2l (v := x.toInt64) hx0 hb d_u_unit_7 rfl ?_
      refine y_last C hA1 (ho1.trans hou) d_u_unit_8 (fun H2 locs2 g hg hA2 => ?_)
      refine lv_goto (tgt := 18) hx0 hb d_u_unit_9 (by decide) ?_
      refine lv_iconst (v := 0) hx0 hb d_u_unit_18 rfl ?_
      refine W.widen (k := 90) (n := 800) (by omega) (by omega) ?_
      exact vx_ret (W.iret hx0 hb hr (fun t ht _ => ⟨rfl, g, fun x9 hx9 => (by cases ho.symm.trans hx9; exact hg), by rw [ht, hA2.2.1]; exact hle, fun v hv => by rw [ht]; exact hA2.2.1, by rw [ht]; exact hA2.1, hA2.2.2.2.1, hA2.2.2.1.F ht⟩) hA2.2.2.1.2.2 d_u_unit_19 hlocks)
    · cases ho.symm.trans hE
  · rcases hR with ⟨hc0, ⟨-, hv1, -⟩ | ⟨-, x, hv1, -⟩⟩ | ⟨E2, hE, hin, -⟩
    · cases ho.symm.trans hv1
    · cases ho.symm.trans hv1
    · cases ho.symm.trans hE
      simp only [List.mem_cons, Prod.mk.injEq, List.not_mem_nil, or_false] at hin
      rcases hin with ⟨rfl, rfl⟩ | ⟨rfl, rfl⟩
      · refine vx_catch (name := eS) hown [] ⟨0, 9, 12, 13⟩ [⟨0, 9, 15, 15⟩] htab (fun z hz => by cases hz) (by decide) (by decide) (hts _ w_link_eS) (va_Nw.use rfl (hT.2.2.1 _ w_cast_eS)) hce hcv hcl ?_
        refine lv_astore_n hx0 hb d_u_unit_12 rfl hl.has (hl.lt (i := 3) (Nat.le_of_ble_eq_true rfl)) rfl (fun ls2 h2 => ?_)
        refine lv_iconst (v := 1) hx0 hb d_u_unit_13 rfl ?_
        refine W.widen (k := 90) (n := 800) (by omega) (by omega) ?_
        exact vx_ret (W.iret hx0 hb hr (fun t ht _ => ⟨rfl, f, fun x hx9 => (by cases ho.symm.trans hx9), by rw [ht]; exact hn1, fun v hv => (by cases ho.symm.trans hv), by rw [ht, xset_id (ho1.trans hou)]; exact hA1.1, by rw [xset_id (ho1.trans hou)]; exact hA1.2.2.2.1, hA1.2.2.1.F ht⟩) hA1.2.2.1.2.2 d_u_unit_14 hlocks)
      · refine vx_catch (name := eA) hown [⟨0, 9, 12, 13⟩] ⟨0, 9, 15, 15⟩ [] htab (fun z hz => by simp only [List.mem_cons, List.not_mem_nil, or_false] at hz; subst hz; exact Or.inr ⟨by decide, eS, hts _ w_link_eS, hN.1⟩) (by decide) (by decide) (hts _ w_link_eA) (va_Nw.use rfl (hT.2.2.1 _ w_cast_eA)) hce hcv hcl ?_
        refine lv_astore_n hx0 hb d_u_unit_15 rfl hl.has (hl.lt (i := 3) (Nat.le_of_ble_eq_true rfl)) rfl (fun ls2 h2 => ?_)
        refine lv_iconst (v := 2) hx0 hb d_u_unit_16 rfl ?_
        refine W.widen (k := 90) (n := 800) (by omega) (by omega) ?_
        exact vx_ret (W.iret hx0 hb hr (fun t ht _ => ⟨rfl, f, fun x hx9 => (by cases ho.symm.trans hx9), by rw [ht]; exact hn1, fun v hv => (by cases ho.symm.trans hv), by rw [ht, xset_id (ho1.trans hou)]; exact hA1.1, by rw [xset_id (ho1.trans hou)]; exact hA1.2.2.2.1, hA1.2.2.1.F ht⟩) hA1.2.2.1.2.2 d_u_unit_17 hlocks)
set_option maxRecDepth 20000 in
theorem h_read {D : va_G} {dT : Nat → ClassId} {l : Launch} (hl0 : l.stackTraces = false) {M M1 : xMm} {n n1 sl1 a0 ou : Nat} {o : xO} {bv : Option Value} {code9 : Int32} {f : Nat → Int64} {fs : List Value} (hou : M ou = some (.inl (7, 1, .inr (.inl f)))) (ha0 : M a0 = some (.inr (0, fs))) (hx : xCl 600 k_L_read (.ref a0 :: []) (M, n, 0) (o, (M1, n1, sl1))) (hn : n1 ≤ n + 90 ∧ sl1 ≤ 0 + 800) (ho1 : M1 ou = M ou) (hR : RES false [(eS, 1)] o bv code9) : vx_Met l y_read (Jvm.Cond.codeWith y_read method_4_code 3 (some .int) [(0, 8, 11, 13)] :: xTB) yRm (va_Pc [.ref a0, .ref ou] (yPre D dT M n)) (yQ D dT o M1 n1 ou code9 M n) (fun _ _ _ => False) 90 800 (xA (M, n, 0)) := by
  refine vx_ofWH (cc := method_4_code) (maxL := 3) (ret := some .int) (hh := [(0, 8, 11, 13)]) (by decide) rfl ?_
  intro p e s m args below meth c s₁ B hml hv
  obtain ⟨rfl, ⟨hsz, hP, hK, hT⟩, hN⟩ := hv
  rw [lg_entry_eq]
  have hts0 := atoms_spec (ws := Jvm.Cond.codeWith y_read method_4_code 3 (some .int) [(0, 8, 11, 13)] :: xTB) B.pre
  have hts : ∀ w ∈ xTB, w.before _ s = true := fun w hw => hts0 w (List.mem_cons_of_mem _ hw)
  have htab := vx_table (x := y_read) B (hts0 _ List.mem_cons_self)
  have hx0 := B.exec
  have hb := B.bytes
  have hr := B.returns
  have hlocks := B.notSynchronized
  have hown : s.vm.findClass "LoanTermsLaw" = some m.cls := findClass_of_methodNamed B.named
  have hA : yAt D dT s (xA (M, n, 0)) M n s.heap [] := ⟨hP, hsz, va_S.rf, fun q hq => Or.inl hq, fun q hq => Or.inr (by rw [← hsz]; exact hq)⟩
  have C : yCx D dT l p s m _ c method_4_code 3 (xA (M, n, 0)) := ⟨hx0, hb, hml, hown, hts, hl0, hK, hT, hN⟩
  have hl := xRl.entry (as := [.ref a0, .ref ou]) (n := 3) (by intro v hv; simp at hv; rcases hv with rfl | rfl <;> rfl) (Nat.le_of_ble_eq_true rfl)
  generalize (lg_sl [.ref a0, .ref ou] ++ List.replicate (3 - (lg_sl [.ref a0, .ref ou]).length) Slot.unset).toArray = ls at hl ⊢
  have hl : xRl [some (.ref a0), some (.ref ou), none] ls 3 := hl
  refine lv_aload_n hx0 hb d_u_read_0 rfl (hl.get rfl) ?_
  refine lv_iconst (v := 0) hx0 hb d_u_read_1 rfl ?_
  refine lv_aload_n hx0 hb d_u_read_2 rfl (hl.get rfl) ?_
  obtain ⟨hle, hrun⟩ := y_run (e := e) (below := below) (meth := meth) (R := (headSpec (Jvm.Cond.codeWith y_read method_4_code 3 (some .int) [(0, 8, 11, 13)] :: xTB) yRm).room) (cells := 0) (slots := 0) (ls := ls) (rest := [.int 0, .ref ou]) C hA o_L_read li_L_read in_L_read se_L_read hx (by intro v hv; simp at hv; rw [hv]; rfl) rfl (Nat.le_of_ble_eq_true rfl) ha0 (by show 600 + 12 + 1 ≤ 613; omega) (by show 8 + (_ + 11) + (600 * 64 + 200) ≤ 38660; decide) hl.2.1 (Nat.le_of_ble_eq_true rfl) d_u_read_3 ⟨by show 0 + _ ≤ 90; omega, by show 0 + _ ≤ 800; omega⟩
  refine y_back hrun hA (fun v H1 locs1 ho hA1 => ?_) (fun E ce q9 H1 locs1 ho hA1 hn1 hce hcv hcl => ?_)
  · rcases hR with ⟨hc0, ⟨hv1, -⟩ | ⟨-, x, hv1, hv2⟩⟩ | ⟨E, hE, -⟩
    · cases hv1
    · cases ho.symm.trans hv1
      subst hc0
      refine lv_i2l (v := x.toInt64) hx0 hb d_u_read_6 rfl ?_
      refine y_last C hA1 (ho1.trans hou) d_u_read_7 (fun H2 locs2 g hg hA2 => ?_)
      refine lv_goto (tgt := 14) hx0 hb d_u_read_8 (by decide) ?_
      refine lv_iconst (v := 0) hx0 hb d_u_read_14 rfl ?_
      refine W.widen (k := 90) (n := 800) (by omega) (by omega) ?_
      exact vx_ret (W.iret hx0 hb hr (fun t ht _ => ⟨rfl, g, fun x9 hx9 => (by cases ho.symm.trans hx9; exact hg), by rw [ht, hA2.2.1]; exact hle, fun v hv => by rw [ht]; exact hA2.2.1, by rw [ht]; exact hA2.1, hA2.2.2.2.1, hA2.2.2.1.F ht⟩) hA2.2.2.1.2.2 d_u_read_15 hlocks)
    · cases ho.symm.trans hE
  · rcases hR with ⟨hc0, ⟨-, hv1, -⟩ | ⟨-, x, hv1, -⟩⟩ | ⟨E2, hE, hin, -⟩
    · cases ho.symm.trans hv1
    · cases ho.symm.trans hv1
    · cases ho.symm.trans hE
      simp only [List.mem_cons, Prod.mk.injEq, List.not_mem_nil, or_false] at hin
      obtain ⟨rfl, rfl⟩ := hin
      refine vx_catch (name := eS) hown [] ⟨0, 8, 11, 13⟩ [] htab (fun z hz => by cases hz) (by decide) (by decide) (hts _ w_link_eS) (va_Nw.use rfl (hT.2.2.1 _ w_cast_eS)) hce hcv hcl ?_
      refine lv_astore_n hx0 hb d_u_read_11 rfl hl.has (hl.lt (i := 2) (Nat.le_of_ble_eq_true rfl)) rfl (fun ls2 h2 => ?_)
      refine lv_iconst (v := 1) hx0 hb d_u_read_12 rfl ?_
      refine W.widen (k := 90) (n := 800) (by omega) (by omega) ?_
      exact vx_ret (W.iret hx0 hb hr (fun t ht _ => ⟨rfl, f, fun x hx9 => (by cases ho.symm.trans hx9), by rw [ht]; exact hn1, fun v hv => (by cases ho.symm.trans hv), by rw [ht, xset_id (ho1.trans hou)]; exact hA1.1, by rw [xset_id (ho1.trans hou)]; exact hA1.2.2.2.1, hA1.2.2.1.F ht⟩) hA1.2.2.1.2.2 d_u_read_13 hlocks)
set_option maxRecDepth 20000 in
theorem h_terms {D : va_G} {dT : Nat → ClassId} {l : Launch} (hl0 : l.stackTraces = false) {M M1 : xMm} {n n1 sl1 a0 ou : Nat} (p0 : Int32) {o : xO} {bv : Option Value} {code9 : Int32} {f : Nat → Int64} {fs : List Value} (hou : M ou = some (.inl (7, 1, .inr (.inl f)))) (ha0 : M a0 = some (.inr (0, fs))) (hx : xCl 600 k_L_terms (.ref a0 :: [.int p0]) (M, n, 0) (o, (M1, n1, sl1))) (hn : n1 ≤ n + 90 ∧ sl1 ≤ 0 + 800) (ho1 : M1 ou = M ou) (hR : RES false [(eB, 1)] o bv code9) : vx_Met l y_terms (Jvm.Cond.codeWith y_terms method_5_code 4 (some .int) [(0, 9, 12, 24)] :: xTB) yRm (va_Pc [.ref a0, .int p0, .ref ou] (yPre D dT M n)) (yQ D dT o M1 n1 ou code9 M n) (fun _ _ _ => False) 90 800 (xA (M, n, 0)) := by
  refine vx_ofWH (cc := method_5_code) (maxL := 4) (ret := some .int) (hh := [(0, 9, 12, 24)]) (by decide) rfl ?_
  intro p e s m args below meth c s₁ B hml hv
  obtain ⟨rfl, ⟨hsz, hP, hK, hT⟩, hN⟩ := hv
  rw [lg_entry_eq]
  have hts0 := atoms_spec (ws := Jvm.Cond.codeWith y_terms method_5_code 4 (some .int) [(0, 9, 12, 24)] :: xTB) B.pre
  have hts : ∀ w ∈ xTB, w.before _ s = true := fun w hw => hts0 w (List.mem_cons_of_mem _ hw)
  have htab := vx_table (x := y_terms) B (hts0 _ List.mem_cons_self)
  have hx0 := B.exec
  have hb := B.bytes
  have hr := B.returns
  have hlocks := B.notSynchronized
  have hown : s.vm.findClass "LoanTermsLaw" = some m.cls := findClass_of_methodNamed B.named
  have hA : yAt D dT s (xA (M, n, 0)) M n s.heap [] := ⟨hP, hsz, va_S.rf, fun q hq => Or.inl hq, fun q hq => Or.inr (by rw [← hsz]; exact hq)⟩
  have C : yCx D dT l p s m _ c method_5_code 4 (xA (M, n, 0)) := ⟨hx0, hb, hml, hown, hts, hl0, hK, hT, hN⟩
  have hl := xRl.entry (as := [.ref a0, .int p0, .ref ou]) (n := 4) (by intro v hv; simp at hv; rcases hv with rfl | rfl | rfl <;> rfl) (Nat.le_of_ble_eq_true rfl)
  generalize (lg_sl [.ref a0, .int p0, .ref ou] ++ List.replicate (4 - (lg_sl [.ref a0, .int p0, .ref ou]).length) Slot.unset).toArray = ls at hl ⊢
  have hl : xRl [some (.ref a0), some (.int p0), some (.ref ou), none] ls 4 := hl
  refine lv_aload_n hx0 hb d_u_terms_0 rfl (hl.get rfl) ?_
  refine lv_iconst (v := 0) hx0 hb d_u_terms_1 rfl ?_
  refine lv_aload_n hx0 hb d_u_terms_2 rfl (hl.get rfl) ?_
  refine lv_iload_n hx0 hb d_u_terms_3 rfl (hl.get rfl) ?_
  obtain ⟨hle, hrun⟩ := y_run (e := e) (below := below) (meth := meth) (R := (headSpec (Jvm.Cond.codeWith y_terms method_5_code 4 (some .int) [(0, 9, 12, 24)] :: xTB) yRm).room) (cells := 0) (slots := 0) (ls := ls) (rest := [.int 0, .ref ou]) C hA o_L_terms li_L_terms in_L_terms se_L_terms hx (by intro v hv; simp at hv; rcases hv with rfl | rfl <;> rfl) rfl (Nat.le_of_ble_eq_true rfl) ha0 (by show 600 + 12 + 1 ≤ 613; omega) (by show 8 + (_ + 11) + (600 * 64 + 200) ≤ 38660; decide) hl.2.1 (Nat.le_of_ble_eq_true rfl) d_u_terms_4 ⟨by show 0 + _ ≤ 90; omega, by show 0 + _ ≤ 800; omega⟩
  refine y_back hrun hA (fun v H1 locs1 ho hA1 => ?_) (fun E ce q9 H1 locs1 ho hA1 hn1 hce hcv hcl => ?_)
  · rcases hR with ⟨hc0, ⟨hv1, -⟩ | ⟨-, x, hv1, hv2⟩⟩ | ⟨E, hE, -⟩
    · cases hv1
    · cases ho.symm.trans hv1
      subst hc0
      refine lv_i2l (v := x.toInt64) hx0 hb d_u_terms_7 rfl ?_
      refine y_last C hA1 (ho1.trans hou) d_u_terms_8 (fun H2 locs2 g hg hA2 => ?_)
      refine lv_goto (tgt := 15) hx0 hb d_u_terms_9 (by decide) ?_
      refine lv_iconst (v := 0) hx0 hb d_u_terms_15 rfl ?_
      refine W.widen (k := 90) (n := 800) (by omega) (by omega) ?_
      exact vx_ret (W.iret hx0 hb hr (fun t ht _ => ⟨rfl, g, fun x9 hx9 => (by cases ho.symm.trans hx9; exact hg), by rw [ht, hA2.2.1]; exact hle, fun v hv => by rw [ht]; exact hA2.2.1, by rw [ht]; exact hA2.1, hA2.2.2.2.1, hA2.2.2.1.F ht⟩) hA2.2.2.1.2.2 d_u_terms_16 hlocks)
    · cases ho.symm.trans hE
  · rcases hR with ⟨hc0, ⟨-, hv1, -⟩ | ⟨-, x, hv1, -⟩⟩ | ⟨E2, hE, hin, -⟩
    · cases ho.symm.trans hv1
    · cases ho.symm.trans hv1
    · cases ho.symm.trans hE
      simp only [List.mem_cons, Prod.mk.injEq, List.not_mem_nil, or_false] at hin
      obtain ⟨rfl, rfl⟩ := hin
      refine vx_catch (name := eB) hown [] ⟨0, 9, 12, 24⟩ [] htab (fun z hz => by cases hz) (by decide) (by decide) (hts _ w_link_eB) (va_Nw.use rfl (hT.2.2.1 _ w_cast_eB)) hce hcv hcl ?_
      refine lv_astore_n hx0 hb d_u_terms_12 rfl hl.has (hl.lt (i := 3) (Nat.le_of_ble_eq_true rfl)) rfl (fun ls2 h2 => ?_)
      refine lv_iconst (v := 1) hx0 hb d_u_terms_13 rfl ?_
      refine W.widen (k := 90) (n := 800) (by omega) (by omega) ?_
      exact vx_ret (W.iret hx0 hb hr (fun t ht _ => ⟨rfl, f, fun x hx9 => (by cases ho.symm.trans hx9), by rw [ht]; exact hn1, fun v hv => (by cases ho.symm.trans hv), by rw [ht, xset_id (ho1.trans hou)]; exact hA1.1, by rw [xset_id (ho1.trans hou)]; exact hA1.2.2.2.1, hA1.2.2.1.F ht⟩) hA1.2.2.1.2.2 d_u_terms_14 hlocks)
set_option maxRecDepth 20000 in
theorem h_written {D : va_G} {dT : Nat → ClassId} {l : Launch} (hl0 : l.stackTraces = false) {M M1 : xMm} {n n1 sl1 a0 ou : Nat} (p0 p1 : Int32) {o : xO} {bv : Option Value} {code9 : Int32} {f : Nat → Int64} {fs : List Value} (hou : M ou = some (.inl (7, 1, .inr (.inl f)))) (ha0 : M a0 = some (.inr (0, fs))) (hx : xCl 600 k_L_written (.ref a0 :: [.int p0, .int p1]) (M, n, 0) (o, (M1, n1, sl1))) (hn : n1 ≤ n + 90 ∧ sl1 ≤ 0 + 800) (ho1 : M1 ou = M ou) (hR : RES false [(eB, 1)] o bv code9) : vx_Met l y_written (Jvm.Cond.codeWith y_written method_6_code 5 (some .int) [(0, 10, 13, 24)] :: xTB) yRm (va_Pc [.ref a0, .int p0, .int p1, .ref ou] (yPre D dT M n)) (yQ D dT o M1 n1 ou code9 M n) (fun _ _ _ => False) 90 800 (xA (M, n, 0)) := by
  refine vx_ofWH (cc := method_6_code) (maxL := 5) (ret := some .int) (hh := [(0, 10, 13, 24)]) (by decide) rfl ?_
  intro p e s m args below meth c s₁ B hml hv
  obtain ⟨rfl, ⟨hsz, hP, hK, hT⟩, hN⟩ := hv
  rw [lg_entry_eq]
  have hts0 := atoms_spec (ws := Jvm.Cond.codeWith y_written method_6_code 5 (some .int) [(0, 10, 13, 24)] :: xTB) B.pre
  have hts : ∀ w ∈ xTB, w.before _ s = true := fun w hw => hts0 w (List.mem_cons_of_mem _ hw)
  have htab := vx_table (x := y_written) B (hts0 _ List.mem_cons_self)
  have hx0 := B.exec
  have hb := B.bytes
  have hr := B.returns
  have hlocks := B.notSynchronized
  have hown : s.vm.findClass "LoanTermsLaw" = some m.cls := findClass_of_methodNamed B.named
  have hA : yAt D dT s (xA (M, n, 0)) M n s.heap [] := ⟨hP, hsz, va_S.rf, fun q hq => Or.inl hq, fun q hq => Or.inr (by rw [← hsz]; exact hq)⟩
  have C : yCx D dT l p s m _ c method_6_code 5 (xA (M, n, 0)) := ⟨hx0, hb, hml, hown, hts, hl0, hK, hT, hN⟩
  have hl := xRl.entry (as := [.ref a0, .int p0, .int p1, .ref ou]) (n := 5) (by intro v hv; simp at hv; rcases hv with rfl | rfl | rfl | rfl <;> rfl) (Nat.le_of_ble_eq_true rfl)
  generalize (lg_sl [.ref a0, .int p0, .int p1, .ref ou] ++ List.replicate (5 - (lg_sl [.ref a0, .int p0, .int p1, .ref ou]).length) Slot.unset).toArray = ls at hl ⊢
  have hl : xRl [some (.ref a0), some (.int p0), some (.int p1), some (.ref ou), none] ls 5 := hl
  refine lv_aload_n hx0 hb d_u_written_0 rfl (hl.get rfl) ?_
  refine lv_iconst (v := 0) hx0 hb d_u_written_1 rfl ?_
  refine lv_aload_n hx0 hb d_u_written_2 rfl (hl.get rfl) ?_
  refine lv_iload_n hx0 hb d_u_written_3 rfl (hl.get rfl) ?_
  refine lv_iload_n hx0 hb d_u_written_4 rfl (hl.get rfl) ?_
  obtain ⟨hle, hrun⟩ := y_run (e := e) (below := below) (meth := meth) (R := (headSpec (Jvm.Cond.codeWith y_written method_6_code 5 (some .int) [(0, 10, 13, 24)] :: xTB) yRm).room) (cells := 0) (slots := 0) (ls := ls) (rest := [.int 0, .ref ou]) C hA o_L_written li_L_written in_L_written se_L_written hx (by intro v hv; simp at hv; rcases hv with rfl | rfl | rfl <;> rfl) rfl (Nat.le_of_ble_eq_true rfl) ha0 (by show 600 + 12 + 1 ≤ 613; omega) (by show 8 + (_ + 11) + (600 * 64 + 200) ≤ 38660; decide) hl.2.1 (Nat.le_of_ble_eq_true rfl) d_u_written_5 ⟨by show 0 + _ ≤ 90; omega, by show 0 + _ ≤ 800; omega⟩
  refine y_back hrun hA (fun v H1 locs1 ho hA1 => ?_) (fun E ce q9 H1 locs1 ho hA1 hn1 hce hcv hcl => ?_)
  · rcases hR with ⟨hc0, ⟨hv1, -⟩ | ⟨-, x, hv1, hv2⟩⟩ | ⟨E, hE, -⟩
    · cases hv1
    · cases ho.symm.trans hv1
      subst hc0
      refine lv_i2l (v := x.toInt64) hx0 hb d_u_written_8 rfl ?_
      refine y_last C hA1 (ho1.trans hou) d_u_written_9 (fun H2 locs2 g hg hA2 => ?_)
      refine lv_goto (tgt := 17) hx0 hb d_u_written_10 (by decide) ?_
      refine lv_iconst (v := 0) hx0 hb d_u_written_17 rfl ?_
      refine W.widen (k := 90) (n := 800) (by omega) (by omega) ?_
      exact vx_ret (W.iret hx0 hb hr (fun t ht _ => ⟨rfl, g, fun x9 hx9 => (by cases ho.symm.trans hx9; exact hg), by rw [ht, hA2.2.1]; exact hle, fun v hv => by rw [ht]; exact hA2.2.1, by rw [ht]; exact hA2.1, hA2.2.2.2.1, hA2.2.2.1.F ht⟩) hA2.2.2.1.2.2 d_u_written_18 hlocks)
    · cases ho.symm.trans hE
  · rcases hR with ⟨hc0, ⟨-, hv1, -⟩ | ⟨-, x, hv1, -⟩⟩ | ⟨E2, hE, hin, -⟩
    · cases ho.symm.trans hv1
    · cases ho.symm.trans hv1
    · cases ho.symm.trans hE
      simp only [List.mem_cons, Prod.mk.injEq, List.not_mem_nil, or_false] at hin
      obtain ⟨rfl, rfl⟩ := hin
      refine vx_catch (name := eB) hown [] ⟨0, 10, 13, 24⟩ [] htab (fun z hz => by cases hz) (by decide) (by decide) (hts _ w_link_eB) (va_Nw.use rfl (hT.2.2.1 _ w_cast_eB)) hce hcv hcl ?_
      refine lv_astore hx0 hb d_u_written_13 hl.has (hl.lt (i := 4) (Nat.le_of_ble_eq_true rfl)) rfl (fun ls2 h2 => ?_)
      refine lv_iconst (v := 1) hx0 hb d_u_written_15 rfl ?_
      refine W.widen (k := 90) (n := 800) (by omega) (by omega) ?_
      exact vx_ret (W.iret hx0 hb hr (fun t ht _ => ⟨rfl, f, fun x hx9 => (by cases ho.symm.trans hx9), by rw [ht]; exact hn1, fun v hv => (by cases ho.symm.trans hv), by rw [ht, xset_id (ho1.trans hou)]; exact hA1.1, by rw [xset_id (ho1.trans hou)]; exact hA1.2.2.2.1, hA1.2.2.1.F ht⟩) hA1.2.2.1.2.2 d_u_written_16 hlocks)
set_option maxRecDepth 20000 in
theorem h_input {D : va_G} {dT : Nat → ClassId} {l : Launch} (hl0 : l.stackTraces = false) {M M1 : xMm} {n n1 sl1 a0 ou : Nat} (p0 p1 p2 : Int32) {o : xO} {bv : Option Value} {code9 : Int32} {f : Nat → Int64} {fs : List Value} (hou : M ou = some (.inl (7, 1, .inr (.inl f)))) (ha0 : M a0 = some (.inr (0, fs))) (hx : xCl 600 k_L_input (.ref a0 :: [.int p0, .int p1, .int p2]) (M, n, 0) (o, (M1, n1, sl1))) (hn : n1 ≤ n + 90 ∧ sl1 ≤ 0 + 800) (ho1 : M1 ou = M ou) (hR : RES false [(eB, 1), (eS, 2), (eA, 3)] o bv code9) : vx_Met l y_input (Jvm.Cond.codeWith y_input method_7_code 6 (some .int) [(0, 12, 15, 24), (0, 12, 19, 13), (0, 12, 23, 15)] :: xTB) yRm (va_Pc [.ref a0, .int p0, .int p1, .int p2, .ref ou] (yPre D dT M n)) (yQ D dT o M1 n1 ou code9 M n) (fun _ _ _ => False) 90 800 (xA (M, n, 0)) := by
  refine vx_ofWH (cc := method_7_code) (maxL := 6) (ret := some .int) (hh := [(0, 12, 15, 24), (0, 12, 19, 13), (0, 12, 23, 15)]) (by decide) rfl ?_
  intro p e s m args below meth c s₁ B hml hv
  obtain ⟨rfl, ⟨hsz, hP, hK, hT⟩, hN⟩ := hv
  rw [lg_entry_eq]
  have hts0 := atoms_spec (ws := Jvm.Cond.codeWith y_input method_7_code 6 (some .int) [(0, 12, 15, 24), (0, 12, 19, 13), (0, 12, 23, 15)] :: xTB) B.pre
  have hts : ∀ w ∈ xTB, w.before _ s = true := fun w hw => hts0 w (List.mem_cons_of_mem _ hw)
  have htab := vx_table (x := y_input) B (hts0 _ List.mem_cons_self)
  have hx0 := B.exec
  have hb := B.bytes
  have hr := B.returns
  have hlocks := B.notSynchronized
  have hown : s.vm.findClass "LoanTermsLaw" = some m.cls := findClass_of_methodNamed B.named
  have hA : yAt D dT s (xA (M, n, 0)) M n s.heap [] := ⟨hP, hsz, va_S.rf, fun q hq => Or.inl hq, fun q hq => Or.inr (by rw [← hsz]; exact hq)⟩
  have C : yCx D dT l p s m _ c method_7_code 6 (xA (M, n, 0)) := ⟨hx0, hb, hml, hown, hts, hl0, hK, hT, hN⟩
  have hl := xRl.entry (as := [.ref a0, .int p0, .int p1, .int p2, .ref ou]) (n := 6) (by intro v hv; simp at hv; rcases hv with rfl | rfl | rfl | rfl | rfl <;> rfl) (Nat.le_of_ble_eq_true rfl)
  generalize (lg_sl [.ref a0, .int p0, .int p1, .int p2, .ref ou] ++ List.replicate (6 - (lg_sl [.ref a0, .int p0, .int p1, .int p2, .ref ou]).length) Slot.unset).toArray = ls at hl ⊢
  have hl : xRl [some (.ref a0), some (.int p0), some (.int p1), some (.int p2), some (.ref ou), none] ls 6 := hl
  refine lv_aload hx0 hb d_u_input_0 (hl.get rfl) ?_
  refine lv_iconst (v := 0) hx0 hb d_u_input_2 rfl ?_
  refine lv_aload_n hx0 hb d_u_input_3 rfl (hl.get rfl) ?_
  refine lv_iload_n hx0 hb d_u_input_4 rfl (hl.get rfl) ?_
  refine lv_iload_n hx0 hb d_u_input_5 rfl (hl.get rfl) ?_
  refine lv_iload_n hx0 hb d_u_input_6 rfl (hl.get rfl) ?_
  obtain ⟨hle, hrun⟩ := y_run (e := e) (below := below) (meth := meth) (R := (headSpec (Jvm.Cond.codeWith y_input method_7_code 6 (some .int) [(0, 12, 15, 24), (0, 12, 19, 13), (0, 12, 23, 15)] :: xTB) yRm).room) (cells := 0) (slots := 0) (ls := ls) (rest := [.int 0, .ref ou]) C hA o_L_input li_L_input in_L_input se_L_input hx (by intro v hv; simp at hv; rcases hv with rfl | rfl | rfl | rfl <;> rfl) rfl (Nat.le_of_ble_eq_true rfl) ha0 (by show 600 + 12 + 1 ≤ 613; omega) (by show 8 + (_ + 11) + (600 * 64 + 200) ≤ 38660; decide) hl.2.1 (Nat.le_of_ble_eq_true rfl) d_u_input_7 ⟨by show 0 + _ ≤ 90; omega, by show 0 + _ ≤ 800; omega⟩
  refine y_back hrun hA (fun v H1 locs1 ho hA1 => ?_) (fun E ce q9 H1 locs1 ho hA1 hn1 hce hcv hcl => ?_)
  · rcases hR with ⟨hc0, ⟨hv1, -⟩ | ⟨-, x, hv1, hv2⟩⟩ | ⟨E, hE, -⟩
    · cases hv1
    · cases ho.symm.trans hv1
      subst hc0
      refine lv_i2l (v := x.toInt64) hx0 hb d_u_input_10 rfl ?_
      refine y_last C hA1 (ho1.trans hou) d_u_input_11 (fun H2 locs2 g hg hA2 => ?_)
      refine lv_goto (tgt := 27) hx0 hb d_u_input_12 (by decide) ?_
      refine lv_iconst (v := 0) hx0 hb d_u_input_27 rfl ?_
      refine W.widen (k := 90) (n := 800) (by omega) (by omega) ?_
      exact vx_ret (W.iret hx0 hb hr (fun t ht _ => ⟨rfl, g, fun x9 hx9 => (by cases ho.symm.trans hx9; exact hg), by rw [ht, hA2.2.1]; exact hle, fun v hv => by rw [ht]; exact hA2.2.1, by rw [ht]; exact hA2.1, hA2.2.2.2.1, hA2.2.2.1.F ht⟩) hA2.2.2.1.2.2 d_u_input_28 hlocks)
    · cases ho.symm.trans hE
  · rcases hR with ⟨hc0, ⟨-, hv1, -⟩ | ⟨-, x, hv1, -⟩⟩ | ⟨E2, hE, hin, -⟩
    · cases ho.symm.trans hv1
    · cases ho.symm.trans hv1
    · cases ho.symm.trans hE
      simp only [List.mem_cons, Prod.mk.injEq, List.not_mem_nil, or_false] at hin
      rcases hin with ⟨rfl, rfl⟩ | ⟨rfl, rfl⟩ | ⟨rfl, rfl⟩
      · refine vx_catch (name := eB) hown [] ⟨0, 12, 15, 24⟩ [⟨0, 12, 19, 13⟩, ⟨0, 12, 23, 15⟩] htab (fun z hz => by cases hz) (by decide) (by decide) (hts _ w_link_eB) (va_Nw.use rfl (hT.2.2.1 _ w_cast_eB)) hce hcv hcl ?_
        refine lv_astore hx0 hb d_u_input_15 hl.has (hl.lt (i := 5) (Nat.le_of_ble_eq_true rfl)) rfl (fun ls2 h2 => ?_)
        refine lv_iconst (v := 1) hx0 hb d_u_input_17 rfl ?_
        refine W.widen (k := 90) (n := 800) (by omega) (by omega) ?_
        exact vx_ret (W.iret hx0 hb hr (fun t ht _ => ⟨rfl, f, fun x hx9 => (by cases ho.symm.trans hx9), by rw [ht]; exact hn1, fun v hv => (by cases ho.symm.trans hv), by rw [ht, xset_id (ho1.trans hou)]; exact hA1.1, by rw [xset_id (ho1.trans hou)]; exact hA1.2.2.2.1, hA1.2.2.1.F ht⟩) hA1.2.2.1.2.2 d_u_input_18 hlocks)
      · refine vx_catch (name := eS) hown [⟨0, 12, 15, 24⟩] ⟨0, 12, 19, 13⟩ [⟨0, 12, 23, 15⟩] htab (fun z hz => by simp only [List.mem_cons, List.not_mem_nil, or_false] at hz; subst hz; exact Or.inr ⟨by decide, eB, hts _ w_link_eB, hN.2.2.2.2.1⟩) (by decide) (by decide) (hts _ w_link_eS) (va_Nw.use rfl (hT.2.2.1 _ w_cast_eS)) hce hcv hcl ?_
        refine lv_astore hx0 hb d_u_input_19 hl.has (hl.lt (i := 5) (Nat.le_of_ble_eq_true rfl)) rfl (fun ls2 h2 => ?_)
        refine lv_iconst (v := 2) hx0 hb d_u_input_21 rfl ?_
        refine W.widen (k := 90) (n := 800) (by omega) (by omega) ?_
        exact vx_ret (W.iret hx0 hb hr (fun t ht _ => ⟨rfl, f, fun x hx9 => (by cases ho.symm.trans hx9), by rw [ht]; exact hn1, fun v hv => (by cases ho.symm.trans hv), by rw [ht, xset_id (ho1.trans hou)]; exact hA1.1, by rw [xset_id (ho1.trans hou)]; exact hA1.2.2.2.1, hA1.2.2.1.F ht⟩) hA1.2.2.1.2.2 d_u_input_22 hlocks)
      · refine vx_catch (name := eA) hown [⟨0, 12, 15, 24⟩, ⟨0, 12, 19, 13⟩] ⟨0, 12, 23, 15⟩ [] htab (fun z hz => by simp only [List.mem_cons, List.not_mem_nil, or_false] at hz; rcases hz with rfl | rfl <;> first | (exact Or.inr ⟨by decide, eB, hts _ w_link_eB, hN.2.2.2.2.2⟩) | (exact Or.inr ⟨by decide, eS, hts _ w_link_eS, hN.1⟩)) (by decide) (by decide) (hts _ w_link_eA) (va_Nw.use rfl (hT.2.2.1 _ w_cast_eA)) hce hcv hcl ?_
        refine lv_astore hx0 hb d_u_input_23 hl.has (hl.lt (i := 5) (Nat.le_of_ble_eq_true rfl)) rfl (fun ls2 h2 => ?_)
        refine lv_iconst (v := 3) hx0 hb d_u_input_25 rfl ?_
        refine W.widen (k := 90) (n := 800) (by omega) (by omega) ?_
        exact vx_ret (W.iret hx0 hb hr (fun t ht _ => ⟨rfl, f, fun x hx9 => (by cases ho.symm.trans hx9), by rw [ht]; exact hn1, fun v hv => (by cases ho.symm.trans hv), by rw [ht, xset_id (ho1.trans hou)]; exact hA1.1, by rw [xset_id (ho1.trans hou)]; exact hA1.2.2.2.1, hA1.2.2.1.F ht⟩) hA1.2.2.1.2.2 d_u_input_26 hlocks)
set_option maxRecDepth 20000 in
theorem h_fails {D : va_G} {dT : Nat → ClassId} {l : Launch} (hl0 : l.stackTraces = false) {M M1 : xMm} {n n1 sl1 a0 ou : Nat} (p0 p1 p2 : Int32) {o : xO} {bv : Option Value} {code9 : Int32} {f : Nat → Int64} {fs : List Value} (hou : M ou = some (.inl (7, 1, .inr (.inl f)))) (ha0 : M a0 = some (.inr (0, fs))) (hx : xCl 600 k_L_fails (.ref a0 :: [.int p0, .int p1, .int p2]) (M, n, 0) (o, (M1, n1, sl1))) (hn : n1 ≤ n + 90 ∧ sl1 ≤ 0 + 800) (ho1 : M1 ou = M ou) (hR : RES true [(eB, 1), (eA, 2)] o bv code9) : vx_Met l y_fails (Jvm.Cond.codeWith y_fails method_8_code 5 (some .int) [(0, 7, 10, 24), (0, 7, 14, 15)] :: xTB) yRm (va_Pc [.ref a0, .int p0, .int p1, .int p2] (yPre D dT M n)) (yQ D dT o M1 n1 ou code9 M n) (fun _ _ _ => False) 90 800 (xA (M, n, 0)) := by
  refine vx_ofWH (cc := method_8_code) (maxL := 5) (ret := some .int) (hh := [(0, 7, 10, 24), (0, 7, 14, 15)]) (by decide) rfl ?_
  intro p e s m args below meth c s₁ B hml hv
  obtain ⟨rfl, ⟨hsz, hP, hK, hT⟩, hN⟩ := hv
  rw [lg_entry_eq]
  have hts0 := atoms_spec (ws := Jvm.Cond.codeWith y_fails method_8_code 5 (some .int) [(0, 7, 10, 24), (0, 7, 14, 15)] :: xTB) B.pre
  have hts : ∀ w ∈ xTB, w.before _ s = true := fun w hw => hts0 w (List.mem_cons_of_mem _ hw)
  have htab := vx_table (x := y_fails) B (hts0 _ List.mem_cons_self)
  have hx0 := B.exec
  have hb := B.bytes
  have hr := B.returns
  have hlocks := B.notSynchronized
  have hown : s.vm.findClass "LoanTermsLaw" = some m.cls := findClass_of_methodNamed B.named
  have hA : yAt D dT s (xA (M, n, 0)) M n s.heap [] := ⟨hP, hsz, va_S.rf, fun q hq => Or.inl hq, fun q hq => Or.inr (by rw [← hsz]; exact hq)⟩
  have C : yCx D dT l p s m _ c method_8_code 5 (xA (M, n, 0)) := ⟨hx0, hb, hml, hown, hts, hl0, hK, hT, hN⟩
  have hl := xRl.entry (as := [.ref a0, .int p0, .int p1, .int p2]) (n := 5) (by intro v hv; simp at hv; rcases hv with rfl | rfl | rfl | rfl <;> rfl) (Nat.le_of_ble_eq_true rfl)
  generalize (lg_sl [.ref a0, .int p0, .int p1, .int p2] ++ List.replicate (5 - (lg_sl [.ref a0, .int p0, .int p1, .int p2]).length) Slot.unset).toArray = ls at hl ⊢
  have hl : xRl [some (.ref a0), some (.int p0), some (.int p1), some (.int p2), none] ls 5 := hl
  refine lv_aload_n hx0 hb d_u_fails_0 rfl (hl.get rfl) ?_
  refine lv_iload_n hx0 hb d_u_fails_1 rfl (hl.get rfl) ?_
  refine lv_iload_n hx0 hb d_u_fails_2 rfl (hl.get rfl) ?_
  refine lv_iload_n hx0 hb d_u_fails_3 rfl (hl.get rfl) ?_
  obtain ⟨hle, hrun⟩ := y_run (e := e) (below := below) (meth := meth) (R := (headSpec (Jvm.Cond.codeWith y_fails method_8_code 5 (some .int) [(0, 7, 10, 24), (0, 7, 14, 15)] :: xTB) yRm).room) (cells := 0) (slots := 0) (ls := ls) (rest := []) C hA o_L_fails li_L_fails in_L_fails se_L_fails hx (by intro v hv; simp at hv; rcases hv with rfl | rfl | rfl | rfl <;> rfl) rfl (Nat.le_of_ble_eq_true rfl) ha0 (by show 600 + 12 + 1 ≤ 613; omega) (by show 8 + (_ + 11) + (600 * 64 + 200) ≤ 38660; decide) hl.2.1 (Nat.le_of_ble_eq_true rfl) d_u_fails_4 ⟨by show 0 + _ ≤ 90; omega, by show 0 + _ ≤ 800; omega⟩
  refine y_back hrun hA (fun v H1 locs1 ho hA1 => ?_) (fun E ce q9 H1 locs1 ho hA1 hn1 hce hcv hcl => ?_)
  · rcases hR with ⟨hc0, ⟨-, hv1, hv2⟩ | ⟨hv1, -⟩⟩ | ⟨E, hE, -⟩
    · cases ho.symm.trans hv1
      subst hc0
      refine lv_goto (tgt := 18) hx0 hb d_u_fails_7 (by decide) ?_
      refine lv_iconst (v := 0) hx0 hb d_u_fails_18 rfl ?_
      refine W.widen (k := 90) (n := 800) (by omega) (by omega) ?_
      refine vx_ret (W.iret hx0 hb hr (fun t ht _ => ⟨rfl, f, fun x hx9 => (by cases ho.symm.trans hx9), by rw [ht, hA1.2.1]; exact hle, fun v hv => by rw [ht]; exact hA1.2.1, by rw [ht, xset_id (ho1.trans hou)]; exact hA1.1, by rw [xset_id (ho1.trans hou)]; exact hA1.2.2.2.1, hA1.2.2.1.F ht⟩) hA1.2.2.1.2.2 d_u_fails_19 hlocks)
    · cases hv1
    · cases ho.symm.trans hE
  · rcases hR with ⟨hc0, ⟨-, hv1, -⟩ | ⟨-, x, hv1, -⟩⟩ | ⟨E2, hE, hin, -⟩
    · cases ho.symm.trans hv1
    · cases ho.symm.trans hv1
    · cases ho.symm.trans hE
      simp only [List.mem_cons, Prod.mk.injEq, List.not_mem_nil, or_false] at hin
      rcases hin with ⟨rfl, rfl⟩ | ⟨rfl, rfl⟩
      · refine vx_catch (name := eB) hown [] ⟨0, 7, 10, 24⟩ [⟨0, 7, 14, 15⟩] htab (fun z hz => by cases hz) (by decide) (by decide) (hts _ w_link_eB) (va_Nw.use rfl (hT.2.2.1 _ w_cast_eB)) hce hcv hcl ?_
        refine lv_astore hx0 hb d_u_fails_10 hl.has (hl.lt (i := 4) (Nat.le_of_ble_eq_true rfl)) rfl (fun ls2 h2 => ?_)
        refine lv_iconst (v := 1) hx0 hb d_u_fails_12 rfl ?_
        refine W.widen (k := 90) (n := 800) (by omega) (by omega) ?_
        exact vx_ret (W.iret hx0 hb hr (fun t ht _ => ⟨rfl, f, fun x hx9 => (by cases ho.symm.trans hx9), by rw [ht]; exact hn1, fun v hv => (by cases ho.symm.trans hv), by rw [ht, xset_id (ho1.trans hou)]; exact hA1.1, by rw [xset_id (ho1.trans hou)]; exact hA1.2.2.2.1, hA1.2.2.1.F ht⟩) hA1.2.2.1.2.2 d_u_fails_13 hlocks)
      · refine vx_catch (name := eA) hown [⟨0, 7, 10, 24⟩] ⟨0, 7, 14, 15⟩ [] htab (fun z hz => by simp only [List.mem_cons, List.not_mem_nil, or_false] at hz; subst hz; exact Or.inr ⟨by decide, eB, hts _ w_link_eB, hN.2.2.2.2.2⟩) (by decide) (by decide) (hts _ w_link_eA) (va_Nw.use rfl (hT.2.2.1 _ w_cast_eA)) hce hcv hcl ?_
        refine lv_astore hx0 hb d_u_fails_14 hl.has (hl.lt (i := 4) (Nat.le_of_ble_eq_true rfl)) rfl (fun ls2 h2 => ?_)
        refine lv_iconst (v := 2) hx0 hb d_u_fails_16 rfl ?_
        refine W.widen (k := 90) (n := 800) (by omega) (by omega) ?_
        exact vx_ret (W.iret hx0 hb hr (fun t ht _ => ⟨rfl, f, fun x hx9 => (by cases ho.symm.trans hx9), by rw [ht]; exact hn1, fun v hv => (by cases ho.symm.trans hv), by rw [ht, xset_id (ho1.trans hou)]; exact hA1.1, by rw [xset_id (ho1.trans hou)]; exact hA1.2.2.2.1, hA1.2.2.1.F ht⟩) hA1.2.2.1.2.2 d_u_fails_17 hlocks)
set_option maxRecDepth 20000 in
theorem h_loan {D : va_G} {dT : Nat → ClassId} {l : Launch} (hl0 : l.stackTraces = false) {M M1 : xMm} {n n1 sl1 a0 ou : Nat} (p0 p1 p2 p3 : Int32) {o : xO} {bv : Option Value} {code9 : Int32} {f : Nat → Int64} {fs : List Value} (hou : M ou = some (.inl (7, 1, .inr (.inl f)))) (ha0 : M a0 = some (.inr (0, fs))) (hx : xCl 600 k_L_loan (.ref a0 :: [.int p0, .int p1, .int p2, .int p3]) (M, n, 0) (o, (M1, n1, sl1))) (hn : n1 ≤ n + 90 ∧ sl1 ≤ 0 + 800) (ho1 : M1 ou = M ou) (hR : RES false [(eB, 1), (eS, 2), (eA, 3)] o bv code9) : vx_Met l y_loan (Jvm.Cond.codeWith y_loan method_9_code 7 (some .int) [(0, 14, 17, 24), (0, 14, 21, 13), (0, 14, 25, 15)] :: xTB) yRm (va_Pc [.ref a0, .int p0, .int p1, .int p2, .int p3, .ref ou] (yPre D dT M n)) (yQ D dT o M1 n1 ou code9 M n) (fun _ _ _ => False) 90 800 (xA (M, n, 0)) := by
  refine vx_ofWH (cc := method_9_code) (maxL := 7) (ret := some .int) (hh := [(0, 14, 17, 24), (0, 14, 21, 13), (0, 14, 25, 15)]) (by decide) rfl ?_
  intro p e s m args below meth c s₁ B hml hv
  obtain ⟨rfl, ⟨hsz, hP, hK, hT⟩, hN⟩ := hv
  rw [lg_entry_eq]
  have hts0 := atoms_spec (ws := Jvm.Cond.codeWith y_loan method_9_code 7 (some .int) [(0, 14, 17, 24), (0, 14, 21, 13), (0, 14, 25, 15)] :: xTB) B.pre
  have hts : ∀ w ∈ xTB, w.before _ s = true := fun w hw => hts0 w (List.mem_cons_of_mem _ hw)
  have htab := vx_table (x := y_loan) B (hts0 _ List.mem_cons_self)
  have hx0 := B.exec
  have hb := B.bytes
  have hr := B.returns
  have hlocks := B.notSynchronized
  have hown : s.vm.findClass "LoanTermsLaw" = some m.cls := findClass_of_methodNamed B.named
  have hA : yAt D dT s (xA (M, n, 0)) M n s.heap [] := ⟨hP, hsz, va_S.rf, fun q hq => Or.inl hq, fun q hq => Or.inr (by rw [← hsz]; exact hq)⟩
  have C : yCx D dT l p s m _ c method_9_code 7 (xA (M, n, 0)) := ⟨hx0, hb, hml, hown, hts, hl0, hK, hT, hN⟩
  have hl := xRl.entry (as := [.ref a0, .int p0, .int p1, .int p2, .int p3, .ref ou]) (n := 7) (by intro v hv; simp at hv; rcases hv with rfl | rfl | rfl | rfl | rfl | rfl <;> rfl) (Nat.le_of_ble_eq_true rfl)
  generalize (lg_sl [.ref a0, .int p0, .int p1, .int p2, .int p3, .ref ou] ++ List.replicate (7 - (lg_sl [.ref a0, .int p0, .int p1, .int p2, .int p3, .ref ou]).length) Slot.unset).toArray = ls at hl ⊢
  have hl : xRl [some (.ref a0), some (.int p0), some (.int p1), some (.int p2), some (.int p3), some (.ref ou), none] ls 7 := hl
  refine lv_aload hx0 hb d_u_loan_0 (hl.get rfl) ?_
  refine lv_iconst (v := 0) hx0 hb d_u_loan_2 rfl ?_
  refine lv_aload_n hx0 hb d_u_loan_3 rfl (hl.get rfl) ?_
  refine lv_iload_n hx0 hb d_u_loan_4 rfl (hl.get rfl) ?_
  refine lv_iload_n hx0 hb d_u_loan_5 rfl (hl.get rfl) ?_
  refine lv_iload_n hx0 hb d_u_loan_6 rfl (hl.get rfl) ?_
  refine lv_iload hx0 hb d_u_loan_7 (hl.get rfl) ?_
  obtain ⟨hle, hrun⟩ := y_run (e := e) (below := below) (meth := meth) (R := (headSpec (Jvm.Cond.codeWith y_loan method_9_code 7 (some .int) [(0, 14, 17, 24), (0, 14, 21, 13), (0, 14, 25, 15)] :: xTB) yRm).room) (cells := 0) (slots := 0) (ls := ls) (rest := [.int 0, .ref ou]) C hA o_L_loan li_L_loan in_L_loan se_L_loan hx (by intro v hv; simp at hv; rcases hv with rfl | rfl | rfl | rfl | rfl <;> rfl) rfl (Nat.le_of_ble_eq_true rfl) ha0 (by show 600 + 12 + 1 ≤ 613; omega) (by show 8 + (_ + 11) + (600 * 64 + 200) ≤ 38660; decide) hl.2.1 (Nat.le_of_ble_eq_true rfl) d_u_loan_9 ⟨by show 0 + _ ≤ 90; omega, by show 0 + _ ≤ 800; omega⟩
  refine y_back hrun hA (fun v H1 locs1 ho hA1 => ?_) (fun E ce q9 H1 locs1 ho hA1 hn1 hce hcv hcl => ?_)
  · rcases hR with ⟨hc0, ⟨hv1, -⟩ | ⟨-, x, hv1, hv2⟩⟩ | ⟨E, hE, -⟩
    · cases hv1
    · cases ho.symm.trans hv1
      subst hc0
      refine lv_i2l (v := x.toInt64) hx0 hb d_u_loan_12 rfl ?_
      refine y_last C hA1 (ho1.trans hou) d_u_loan_13 (fun H2 locs2 g hg hA2 => ?_)
      refine lv_goto (tgt := 29) hx0 hb d_u_loan_14 (by decide) ?_
      refine lv_iconst (v := 0) hx0 hb d_u_loan_29 rfl ?_
      refine W.widen (k := 90) (n := 800) (by omega) (by omega) ?_
      exact vx_ret (W.iret hx0 hb hr (fun t ht _ => ⟨rfl, g, fun x9 hx9 => (by cases ho.symm.trans hx9; exact hg), by rw [ht, hA2.2.1]; exact hle, fun v hv => by rw [ht]; exact hA2.2.1, by rw [ht]; exact hA2.1, hA2.2.2.2.1, hA2.2.2.1.F ht⟩) hA2.2.2.1.2.2 d_u_loan_30 hlocks)
    · cases ho.symm.trans hE
  · rcases hR with ⟨hc0, ⟨-, hv1, -⟩ | ⟨-, x, hv1, -⟩⟩ | ⟨E2, hE, hin, -⟩
    · cases ho.symm.trans hv1
    · cases ho.symm.trans hv1
    · cases ho.symm.trans hE
      simp only [List.mem_cons, Prod.mk.injEq, List.not_mem_nil, or_false] at hin
      rcases hin with ⟨rfl, rfl⟩ | ⟨rfl, rfl⟩ | ⟨rfl, rfl⟩
      · refine vx_catch (name := eB) hown [] ⟨0, 14, 17, 24⟩ [⟨0, 14, 21, 13⟩, ⟨0, 14, 25, 15⟩] htab (fun z hz => by cases hz) (by decide) (by decide) (hts _ w_link_eB) (va_Nw.use rfl (hT.2.2.1 _ w_cast_eB)) hce hcv hcl ?_
        refine lv_astore hx0 hb d_u_loan_17 hl.has (hl.lt (i := 6) (Nat.le_of_ble_eq_true rfl)) rfl (fun ls2 h2 => ?_)
        refine lv_iconst (v := 1) hx0 hb d_u_loan_19 rfl ?_
        refine W.widen (k := 90) (n := 800) (by omega) (by omega) ?_
        exact vx_ret (W.iret hx0 hb hr (fun t ht _ => ⟨rfl, f, fun x hx9 => (by cases ho.symm.trans hx9), by rw [ht]; exact hn1, fun v hv => (by cases ho.symm.trans hv), by rw [ht, xset_id (ho1.trans hou)]; exact hA1.1, by rw [xset_id (ho1.trans hou)]; exact hA1.2.2.2.1, hA1.2.2.1.F ht⟩) hA1.2.2.1.2.2 d_u_loan_20 hlocks)
      · refine vx_catch (name := eS) hown [⟨0, 14, 17, 24⟩] ⟨0, 14, 21, 13⟩ [⟨0, 14, 25, 15⟩] htab (fun z hz => by simp only [List.mem_cons, List.not_mem_nil, or_false] at hz; subst hz; exact Or.inr ⟨by decide, eB, hts _ w_link_eB, hN.2.2.2.2.1⟩) (by decide) (by decide) (hts _ w_link_eS) (va_Nw.use rfl (hT.2.2.1 _ w_cast_eS)) hce hcv hcl ?_
        refine lv_astore hx0 hb d_u_loan_21 hl.has (hl.lt (i := 6) (Nat.le_of_ble_eq_true rfl)) rfl (fun ls2 h2 => ?_)
        refine lv_iconst (v := 2) hx0 hb d_u_loan_23 rfl ?_
        refine W.widen (k := 90) (n := 800) (by omega) (by omega) ?_
        exact vx_ret (W.iret hx0 hb hr (fun t ht _ => ⟨rfl, f, fun x hx9 => (by cases ho.symm.trans hx9), by rw [ht]; exact hn1, fun v hv => (by cases ho.symm.trans hv), by rw [ht, xset_id (ho1.trans hou)]; exact hA1.1, by rw [xset_id (ho1.trans hou)]; exact hA1.2.2.2.1, hA1.2.2.1.F ht⟩) hA1.2.2.1.2.2 d_u_loan_24 hlocks)
      · refine vx_catch (name := eA) hown [⟨0, 14, 17, 24⟩, ⟨0, 14, 21, 13⟩] ⟨0, 14, 25, 15⟩ [] htab (fun z hz => by simp only [List.mem_cons, List.not_mem_nil, or_false] at hz; rcases hz with rfl | rfl <;> first | (exact Or.inr ⟨by decide, eB, hts _ w_link_eB, hN.2.2.2.2.2⟩) | (exact Or.inr ⟨by decide, eS, hts _ w_link_eS, hN.1⟩)) (by decide) (by decide) (hts _ w_link_eA) (va_Nw.use rfl (hT.2.2.1 _ w_cast_eA)) hce hcv hcl ?_
        refine lv_astore hx0 hb d_u_loan_25 hl.has (hl.lt (i := 6) (Nat.le_of_ble_eq_true rfl)) rfl (fun ls2 h2 => ?_)
        refine lv_iconst (v := 3) hx0 hb d_u_loan_27 rfl ?_
        refine W.widen (k := 90) (n := 800) (by omega) (by omega) ?_
        exact vx_ret (W.iret hx0 hb hr (fun t ht _ => ⟨rfl, f, fun x hx9 => (by cases ho.symm.trans hx9), by rw [ht]; exact hn1, fun v hv => (by cases ho.symm.trans hv), by rw [ht, xset_id (ho1.trans hou)]; exact hA1.1, by rw [xset_id (ho1.trans hou)]; exact hA1.2.2.2.1, hA1.2.2.1.F ht⟩) hA1.2.2.1.2.2 d_u_loan_28 hlocks)
set_option maxRecDepth 20000 in
theorem h_shield {D : va_G} {dT : Nat → ClassId} {l : Launch} (hl0 : l.stackTraces = false) {M M1 : xMm} {n n1 sl1 a0 ou : Nat} (p0 p1 : Int32) {o : xO} {bv : Option Value} {code9 : Int32} {f : Nat → Int64} {fs : List Value} (hou : M ou = some (.inl (7, 1, .inr (.inl f)))) (ha0 : M a0 = some (.inr (0, fs))) (hx : xCl 600 k_L_shield (.ref a0 :: [.int p0, .int p1]) (M, n, 0) (o, (M1, n1, sl1))) (hn : n1 ≤ n + 90 ∧ sl1 ≤ 0 + 800) (ho1 : M1 ou = M ou) (hR : RES false [(eB, 1)] o bv code9) (h01 : ∀ x : Int32, o = .inl (some (.int x)) → x = 0 ∨ x = 1) : vx_Met l y_shield (Jvm.Cond.codeWith y_shield method_10_code 5 (some .int) [(0, 17, 20, 24)] :: xTB) yRm (va_Pc [.ref a0, .int p0, .int p1, .ref ou] (yPre D dT M n)) (yQ D dT o M1 n1 ou code9 M n) (fun _ _ _ => False) 90 800 (xA (M, n, 0)) := by
  refine vx_ofWH (cc := method_10_code) (maxL := 5) (ret := some .int) (hh := [(0, 17, 20, 24)]) (by decide) rfl ?_
  intro p e s m args below meth c s₁ B hml hv
  obtain ⟨rfl, ⟨hsz, hP, hK, hT⟩, hN⟩ := hv
  rw [lg_entry_eq]
  have hts0 := atoms_spec (ws := Jvm.Cond.codeWith y_shield method_10_code 5 (some .int) [(0, 17, 20, 24)] :: xTB) B.pre
  have hts : ∀ w ∈ xTB, w.before _ s = true := fun w hw => hts0 w (List.mem_cons_of_mem _ hw)
  have htab := vx_table (x := y_shield) B (hts0 _ List.mem_cons_self)
  have hx0 := B.exec
  have hb := B.bytes
  have hr := B.returns
  have hlocks := B.notSynchronized
  have hown : s.vm.findClass "LoanTermsLaw" = some m.cls := findClass_of_methodNamed B.named
  have hA : yAt D dT s (xA (M, n, 0)) M n s.heap [] := ⟨hP, hsz, va_S.rf, fun q hq => Or.inl hq, fun q hq => Or.inr (by rw [← hsz]; exact hq)⟩
  have C : yCx D dT l p s m _ c method_10_code 5 (xA (M, n, 0)) := ⟨hx0, hb, hml, hown, hts, hl0, hK, hT, hN⟩
  have hl := xRl.entry (as := [.ref a0, .int p0, .int p1, .ref ou]) (n := 5) (by intro v hv; simp at hv; rcases hv with rfl | rfl | rfl | rfl <;> rfl) (Nat.le_of_ble_eq_true rfl)
  generalize (lg_sl [.ref a0, .int p0, .int p1, .ref ou] ++ List.replicate (5 - (lg_sl [.ref a0, .int p0, .int p1, .ref ou]).length) Slot.unset).toArray = ls at hl ⊢
  have hl : xRl [some (.ref a0), some (.int p0), some (.int p1), some (.ref ou), none] ls 5 := hl
  refine lv_aload_n hx0 hb d_u_shield_0 rfl (hl.get rfl) ?_
  refine lv_iconst (v := 0) hx0 hb d_u_shield_1 rfl ?_
  refine lv_aload_n hx0 hb d_u_shield_2 rfl (hl.get rfl) ?_
  refine lv_iload_n hx0 hb d_u_shield_3 rfl (hl.get rfl) ?_
  refine lv_iload_n hx0 hb d_u_shield_4 rfl (hl.get rfl) ?_
  obtain ⟨hle, hrun⟩ := y_run (e := e) (below := below) (meth := meth) (R := (headSpec (Jvm.Cond.codeWith y_shield method_10_code 5 (some .int) [(0, 17, 20, 24)] :: xTB) yRm).room) (cells := 0) (slots := 0) (ls := ls) (rest := [.int 0, .ref ou]) C hA o_L_shield li_L_shield in_L_shield se_L_shield hx (by intro v hv; simp at hv; rcases hv with rfl | rfl | rfl <;> rfl) rfl (Nat.le_of_ble_eq_true rfl) ha0 (by show 600 + 12 + 1 ≤ 613; omega) (by show 8 + (_ + 11) + (600 * 64 + 200) ≤ 38660; decide) hl.2.1 (Nat.le_of_ble_eq_true rfl) d_u_shield_5 ⟨by show 0 + _ ≤ 90; omega, by show 0 + _ ≤ 800; omega⟩
  refine y_back hrun hA (fun v H1 locs1 ho hA1 => ?_) (fun E ce q9 H1 locs1 ho hA1 hn1 hce hcv hcl => ?_)
  · rcases hR with ⟨hc0, ⟨hv1, -⟩ | ⟨-, x, hv1, hv2⟩⟩ | ⟨E, hE, -⟩
    · cases hv1
    · cases ho.symm.trans hv1
      subst hc0
      refine lv_if_eq (tgt := 15) hx0 hb d_u_shield_8 (by decide) (fun c1 => ?_) (fun c1 => ?_)
      · refine lv_lconst (v := 0) hx0 hb d_u_shield_15 rfl ?_
        refine y_last C hA1 (ho1.trans hou) d_u_shield_16 (fun H2 locs2 g hg hA2 => ?_)
        refine lv_goto (tgt := 24) hx0 hb d_u_shield_17 (by decide) ?_
        refine lv_iconst (v := 0) hx0 hb d_u_shield_24 rfl ?_
        refine W.widen (k := 90) (n := 800) (by omega) (by omega) ?_
        exact vx_ret (W.iret hx0 hb hr (fun t ht _ => ⟨rfl, g, fun x9 hx9 => (by cases ho.symm.trans hx9; rw [hg, c1]; rfl), by rw [ht, hA2.2.1]; exact hle, fun v hv => by rw [ht]; exact hA2.2.1, by rw [ht]; exact hA2.1, hA2.2.2.2.1, hA2.2.2.1.F ht⟩) hA2.2.2.1.2.2 d_u_shield_25 hlocks)
      · refine lv_lconst (v := 1) hx0 hb d_u_shield_11 rfl ?_
        refine lv_goto (tgt := 16) hx0 hb d_u_shield_12 (by decide) ?_
        refine y_last C hA1 (ho1.trans hou) d_u_shield_16 (fun H2 locs2 g hg hA2 => ?_)
        refine lv_goto (tgt := 24) hx0 hb d_u_shield_17 (by decide) ?_
        refine lv_iconst (v := 0) hx0 hb d_u_shield_24 rfl ?_
        refine W.widen (k := 90) (n := 800) (by omega) (by omega) ?_
        exact vx_ret (W.iret hx0 hb hr (fun t ht _ => ⟨rfl, g, fun x9 hx9 => (by cases ho.symm.trans hx9; rcases h01 x ho with g1 | g1; exact absurd g1 c1; rw [hg, g1]; rfl), by rw [ht, hA2.2.1]; exact hle, fun v hv => by rw [ht]; exact hA2.2.1, by rw [ht]; exact hA2.1, hA2.2.2.2.1, hA2.2.2.1.F ht⟩) hA2.2.2.1.2.2 d_u_shield_25 hlocks)
    · cases ho.symm.trans hE
  · rcases hR with ⟨hc0, ⟨-, hv1, -⟩ | ⟨-, x, hv1, -⟩⟩ | ⟨E2, hE, hin, -⟩
    · cases ho.symm.trans hv1
    · cases ho.symm.trans hv1
    · cases ho.symm.trans hE
      simp only [List.mem_cons, Prod.mk.injEq, List.not_mem_nil, or_false] at hin
      obtain ⟨rfl, rfl⟩ := hin
      refine vx_catch (name := eB) hown [] ⟨0, 17, 20, 24⟩ [] htab (fun z hz => by cases hz) (by decide) (by decide) (hts _ w_link_eB) (va_Nw.use rfl (hT.2.2.1 _ w_cast_eB)) hce hcv hcl ?_
      refine lv_astore hx0 hb d_u_shield_20 hl.has (hl.lt (i := 4) (Nat.le_of_ble_eq_true rfl)) rfl (fun ls2 h2 => ?_)
      refine lv_iconst (v := 1) hx0 hb d_u_shield_22 rfl ?_
      refine W.widen (k := 90) (n := 800) (by omega) (by omega) ?_
      exact vx_ret (W.iret hx0 hb hr (fun t ht _ => ⟨rfl, f, fun x hx9 => (by cases ho.symm.trans hx9), by rw [ht]; exact hn1, fun v hv => (by cases ho.symm.trans hv), by rw [ht, xset_id (ho1.trans hou)]; exact hA1.1, by rw [xset_id (ho1.trans hou)]; exact hA1.2.2.2.1, hA1.2.2.1.F ht⟩) hA1.2.2.1.2.2 d_u_shield_23 hlocks)
set_option maxRecDepth 20000 in
theorem h_ask {D : va_G} {dT : Nat → ClassId} {l : Launch} (hl0 : l.stackTraces = false) {M M1 : xMm} {n n1 sl1 a0 ou : Nat} (p0 p1 : Int32) {o : xO} {bv : Option Value} {code9 : Int32} {f : Nat → Int64} {fs : List Value} (hou : M ou = some (.inl (7, 1, .inr (.inl f)))) (ha0 : M a0 = some (.inr (0, fs))) (hx : xCl 600 k_L_ask (.ref a0 :: [.int p0, .int p1]) (M, n, 0) (o, (M1, n1, sl1))) (hn : n1 ≤ n + 90 ∧ sl1 ≤ 0 + 800) (ho1 : M1 ou = M ou) (hR : RES false [(eB, 1), (eA, 2)] o bv code9) : vx_Met l y_ask (Jvm.Cond.codeWith y_ask method_11_code 5 (some .int) [(0, 10, 13, 24), (0, 10, 17, 15)] :: xTB) yRm (va_Pc [.ref a0, .int p0, .int p1, .ref ou] (yPre D dT M n)) (yQ D dT o M1 n1 ou code9 M n) (fun _ _ _ => False) 90 800 (xA (M, n, 0)) := by
  refine vx_ofWH (cc := method_11_code) (maxL := 5) (ret := some .int) (hh := [(0, 10, 13, 24), (0, 10, 17, 15)]) (by decide) rfl ?_
  intro p e s m args below meth c s₁ B hml hv
  obtain ⟨rfl, ⟨hsz, hP, hK, hT⟩, hN⟩ := hv
  rw [lg_entry_eq]
  have hts0 := atoms_spec (ws := Jvm.Cond.codeWith y_ask method_11_code 5 (some .int) [(0, 10, 13, 24), (0, 10, 17, 15)] :: xTB) B.pre
  have hts : ∀ w ∈ xTB, w.before _ s = true := fun w hw => hts0 w (List.mem_cons_of_mem _ hw)
  have htab := vx_table (x := y_ask) B (hts0 _ List.mem_cons_self)
  have hx0 := B.exec
  have hb := B.bytes
  have hr := B.returns
  have hlocks := B.notSynchronized
  have hown : s.vm.findClass "LoanTermsLaw" = some m.cls := findClass_of_methodNamed B.named
  have hA : yAt D dT s (xA (M, n, 0)) M n s.heap [] := ⟨hP, hsz, va_S.rf, fun q hq => Or.inl hq, fun q hq => Or.inr (by rw [← hsz]; exact hq)⟩
  have C : yCx D dT l p s m _ c method_11_code 5 (xA (M, n, 0)) := ⟨hx0, hb, hml, hown, hts, hl0, hK, hT, hN⟩
  have hl := xRl.entry (as := [.ref a0, .int p0, .int p1, .ref ou]) (n := 5) (by intro v hv; simp at hv; rcases hv with rfl | rfl | rfl | rfl <;> rfl) (Nat.le_of_ble_eq_true rfl)
  generalize (lg_sl [.ref a0, .int p0, .int p1, .ref ou] ++ List.replicate (5 - (lg_sl [.ref a0, .int p0, .int p1, .ref ou]).length) Slot.unset).toArray = ls at hl ⊢
  have hl : xRl [some (.ref a0), some (.int p0), some (.int p1), some (.ref ou), none] ls 5 := hl
  refine lv_aload_n hx0 hb d_u_ask_0 rfl (hl.get rfl) ?_
  refine lv_iconst (v := 0) hx0 hb d_u_ask_1 rfl ?_
  refine lv_aload_n hx0 hb d_u_ask_2 rfl (hl.get rfl) ?_
  refine lv_iload_n hx0 hb d_u_ask_3 rfl (hl.get rfl) ?_
  refine lv_iload_n hx0 hb d_u_ask_4 rfl (hl.get rfl) ?_
  obtain ⟨hle, hrun⟩ := y_run (e := e) (below := below) (meth := meth) (R := (headSpec (Jvm.Cond.codeWith y_ask method_11_code 5 (some .int) [(0, 10, 13, 24), (0, 10, 17, 15)] :: xTB) yRm).room) (cells := 0) (slots := 0) (ls := ls) (rest := [.int 0, .ref ou]) C hA o_L_ask li_L_ask in_L_ask se_L_ask hx (by intro v hv; simp at hv; rcases hv with rfl | rfl | rfl <;> rfl) rfl (Nat.le_of_ble_eq_true rfl) ha0 (by show 600 + 12 + 1 ≤ 613; omega) (by show 8 + (_ + 11) + (600 * 64 + 200) ≤ 38660; decide) hl.2.1 (Nat.le_of_ble_eq_true rfl) d_u_ask_5 ⟨by show 0 + _ ≤ 90; omega, by show 0 + _ ≤ 800; omega⟩
  refine y_back hrun hA (fun v H1 locs1 ho hA1 => ?_) (fun E ce q9 H1 locs1 ho hA1 hn1 hce hcv hcl => ?_)
  · rcases hR with ⟨hc0, ⟨hv1, -⟩ | ⟨-, x, hv1, hv2⟩⟩ | ⟨E, hE, -⟩
    · cases hv1
    · cases ho.symm.trans hv1
      subst hc0
      refine lv_i2l (v := x.toInt64) hx0 hb d_u_ask_8 rfl ?_
      refine y_last C hA1 (ho1.trans hou) d_u_ask_9 (fun H2 locs2 g hg hA2 => ?_)
      refine lv_goto (tgt := 21) hx0 hb d_u_ask_10 (by decide) ?_
      refine lv_iconst (v := 0) hx0 hb d_u_ask_21 rfl ?_
      refine W.widen (k := 90) (n := 800) (by omega) (by omega) ?_
      exact vx_ret (W.iret hx0 hb hr (fun t ht _ => ⟨rfl, g, fun x9 hx9 => (by cases ho.symm.trans hx9; exact hg), by rw [ht, hA2.2.1]; exact hle, fun v hv => by rw [ht]; exact hA2.2.1, by rw [ht]; exact hA2.1, hA2.2.2.2.1, hA2.2.2.1.F ht⟩) hA2.2.2.1.2.2 d_u_ask_22 hlocks)
    · cases ho.symm.trans hE
  · rcases hR with ⟨hc0, ⟨-, hv1, -⟩ | ⟨-, x, hv1, -⟩⟩ | ⟨E2, hE, hin, -⟩
    · cases ho.symm.trans hv1
    · cases ho.symm.trans hv1
    · cases ho.symm.trans hE
      simp only [List.mem_cons, Prod.mk.injEq, List.not_mem_nil, or_false] at hin
      rcases hin with ⟨rfl, rfl⟩ | ⟨rfl, rfl⟩
      · refine vx_catch (name := eB) hown [] ⟨0, 10, 13, 24⟩ [⟨0, 10, 17, 15⟩] htab (fun z hz => by cases hz) (by decide) (by decide) (hts _ w_link_eB) (va_Nw.use rfl (hT.2.2.1 _ w_cast_eB)) hce hcv hcl ?_
        refine lv_astore hx0 hb d_u_ask_13 hl.has (hl.lt (i := 4) (Nat.le_of_ble_eq_true rfl)) rfl (fun ls2 h2 => ?_)
        refine lv_iconst (v := 1) hx0 hb d_u_ask_15 rfl ?_
        refine W.widen (k := 90) (n := 800) (by omega) (by omega) ?_
        exact vx_ret (W.iret hx0 hb hr (fun t ht _ => ⟨rfl, f, fun x hx9 => (by cases ho.symm.trans hx9), by rw [ht]; exact hn1, fun v hv => (by cases ho.symm.trans hv), by rw [ht, xset_id (ho1.trans hou)]; exact hA1.1, by rw [xset_id (ho1.trans hou)]; exact hA1.2.2.2.1, hA1.2.2.1.F ht⟩) hA1.2.2.1.2.2 d_u_ask_16 hlocks)
      · refine vx_catch (name := eA) hown [⟨0, 10, 13, 24⟩] ⟨0, 10, 17, 15⟩ [] htab (fun z hz => by simp only [List.mem_cons, List.not_mem_nil, or_false] at hz; subst hz; exact Or.inr ⟨by decide, eB, hts _ w_link_eB, hN.2.2.2.2.2⟩) (by decide) (by decide) (hts _ w_link_eA) (va_Nw.use rfl (hT.2.2.1 _ w_cast_eA)) hce hcv hcl ?_
        refine lv_astore hx0 hb d_u_ask_17 hl.has (hl.lt (i := 4) (Nat.le_of_ble_eq_true rfl)) rfl (fun ls2 h2 => ?_)
        refine lv_iconst (v := 2) hx0 hb d_u_ask_19 rfl ?_
        refine W.widen (k := 90) (n := 800) (by omega) (by omega) ?_
        exact vx_ret (W.iret hx0 hb hr (fun t ht _ => ⟨rfl, f, fun x hx9 => (by cases ho.symm.trans hx9), by rw [ht]; exact hn1, fun v hv => (by cases ho.symm.trans hv), by rw [ht, xset_id (ho1.trans hou)]; exact hA1.1, by rw [xset_id (ho1.trans hou)]; exact hA1.2.2.2.1, hA1.2.2.1.F ht⟩) hA1.2.2.1.2.2 d_u_ask_20 hlocks)
set_option maxRecDepth 20000 in
theorem h_open {D : va_G} {dT : Nat → ClassId} {l : Launch} (hl0 : l.stackTraces = false) {M M1 : xMm} {n n1 sl1 a0 ou : Nat} (p0 p1 p2 : Int32) {o : xO} {bv : Option Value} {code9 : Int32} {f : Nat → Int64} {fs : List Value} (hou : M ou = some (.inl (7, 1, .inr (.inl f)))) (ha0 : M a0 = some (.inr (0, fs))) (hx : xCl 600 k_L_open (.ref a0 :: [.int p0, .int p1, .int p2]) (M, n, 0) (o, (M1, n1, sl1))) (hn : n1 ≤ n + 90 ∧ sl1 ≤ 0 + 800) (ho1 : M1 ou = M ou) (hR : RES false [(eB, 1), (eA, 2)] o bv code9) : vx_Met l y_open (Jvm.Cond.codeWith y_open method_12_code 6 (some .int) [(0, 12, 15, 24), (0, 12, 19, 15)] :: xTB) yRm (va_Pc [.ref a0, .int p0, .int p1, .int p2, .ref ou] (yPre D dT M n)) (yQ D dT o M1 n1 ou code9 M n) (fun _ _ _ => False) 90 800 (xA (M, n, 0)) := by
  refine vx_ofWH (cc := method_12_code) (maxL := 6) (ret := some .int) (hh := [(0, 12, 15, 24), (0, 12, 19, 15)]) (by decide) rfl ?_
  intro p e s m args below meth c s₁ B hml hv
  obtain ⟨rfl, ⟨hsz, hP, hK, hT⟩, hN⟩ := hv
  rw [lg_entry_eq]
  have hts0 := atoms_spec (ws := Jvm.Cond.codeWith y_open method_12_code 6 (some .int) [(0, 12, 15, 24), (0, 12, 19, 15)] :: xTB) B.pre
  have hts : ∀ w ∈ xTB, w.before _ s = true := fun w hw => hts0 w (List.mem_cons_of_mem _ hw)
  have htab := vx_table (x := y_open) B (hts0 _ List.mem_cons_self)
  have hx0 := B.exec
  have hb := B.bytes
  have hr := B.returns
  have hlocks := B.notSynchronized
  have hown : s.vm.findClass "LoanTermsLaw" = some m.cls := findClass_of_methodNamed B.named
  have hA : yAt D dT s (xA (M, n, 0)) M n s.heap [] := ⟨hP, hsz, va_S.rf, fun q hq => Or.inl hq, fun q hq => Or.inr (by rw [← hsz]; exact hq)⟩
  have C : yCx D dT l p s m _ c method_12_code 6 (xA (M, n, 0)) := ⟨hx0, hb, hml, hown, hts, hl0, hK, hT, hN⟩
  have hl := xRl.entry (as := [.ref a0, .int p0, .int p1, .int p2, .ref ou]) (n := 6) (by intro v hv; simp at hv; rcases hv with rfl | rfl | rfl | rfl | rfl <;> rfl) (Nat.le_of_ble_eq_true rfl)
  generalize (lg_sl [.ref a0, .int p0, .int p1, .int p2, .ref ou] ++ List.replicate (6 - (lg_sl [.ref a0, .int p0, .int p1, .int p2, .ref ou]).length) Slot.unset).toArray = ls at hl ⊢
  have hl : xRl [some (.ref a0), some (.int p0), some (.int p1), some (.int p2), some (.ref ou), none] ls 6 := hl
  refine lv_aload hx0 hb d_u_open_0 (hl.get rfl) ?_
  refine lv_iconst (v := 0) hx0 hb d_u_open_2 rfl ?_
  refine lv_aload_n hx0 hb d_u_open_3 rfl (hl.get rfl) ?_
  refine lv_iload_n hx0 hb d_u_open_4 rfl (hl.get rfl) ?_
  refine lv_iload_n hx0 hb d_u_open_5 rfl (hl.get rfl) ?_
  refine lv_iload_n hx0 hb d_u_open_6 rfl (hl.get rfl) ?_
  obtain ⟨hle, hrun⟩ := y_run (e := e) (below := below) (meth := meth) (R := (headSpec (Jvm.Cond.codeWith y_open method_12_code 6 (some .int) [(0, 12, 15, 24), (0, 12, 19, 15)] :: xTB) yRm).room) (cells := 0) (slots := 0) (ls := ls) (rest := [.int 0, .ref ou]) C hA o_L_open li_L_open in_L_open se_L_open hx (by intro v hv; simp at hv; rcases hv with rfl | rfl | rfl | rfl <;> rfl) rfl (Nat.le_of_ble_eq_true rfl) ha0 (by show 600 + 12 + 1 ≤ 613; omega) (by show 8 + (_ + 11) + (600 * 64 + 200) ≤ 38660; decide) hl.2.1 (Nat.le_of_ble_eq_true rfl) d_u_open_7 ⟨by show 0 + _ ≤ 90; omega, by show 0 + _ ≤ 800; omega⟩
  refine y_back hrun hA (fun v H1 locs1 ho hA1 => ?_) (fun E ce q9 H1 locs1 ho hA1 hn1 hce hcv hcl => ?_)
  · rcases hR with ⟨hc0, ⟨hv1, -⟩ | ⟨-, x, hv1, hv2⟩⟩ | ⟨E, hE, -⟩
    · cases hv1
    · cases ho.symm.trans hv1
      subst hc0
      refine lv_i2l (v := x.toInt64) hx0 hb d_u_open_10 rfl ?_
      refine y_last C hA1 (ho1.trans hou) d_u_open_11 (fun H2 locs2 g hg hA2 => ?_)
      refine lv_goto (tgt := 23) hx0 hb d_u_open_12 (by decide) ?_
      refine lv_iconst (v := 0) hx0 hb d_u_open_23 rfl ?_
      refine W.widen (k := 90) (n := 800) (by omega) (by omega) ?_
      exact vx_ret (W.iret hx0 hb hr (fun t ht _ => ⟨rfl, g, fun x9 hx9 => (by cases ho.symm.trans hx9; exact hg), by rw [ht, hA2.2.1]; exact hle, fun v hv => by rw [ht]; exact hA2.2.1, by rw [ht]; exact hA2.1, hA2.2.2.2.1, hA2.2.2.1.F ht⟩) hA2.2.2.1.2.2 d_u_open_24 hlocks)
    · cases ho.symm.trans hE
  · rcases hR with ⟨hc0, ⟨-, hv1, -⟩ | ⟨-, x, hv1, -⟩⟩ | ⟨E2, hE, hin, -⟩
    · cases ho.symm.trans hv1
    · cases ho.symm.trans hv1
    · cases ho.symm.trans hE
      simp only [List.mem_cons, Prod.mk.injEq, List.not_mem_nil, or_false] at hin
      rcases hin with ⟨rfl, rfl⟩ | ⟨rfl, rfl⟩
      · refine vx_catch (name := eB) hown [] ⟨0, 12, 15, 24⟩ [⟨0, 12, 19, 15⟩] htab (fun z hz => by cases hz) (by decide) (by decide) (hts _ w_link_eB) (va_Nw.use rfl (hT.2.2.1 _ w_cast_eB)) hce hcv hcl ?_
        refine lv_astore hx0 hb d_u_open_15 hl.has (hl.lt (i := 5) (Nat.le_of_ble_eq_true rfl)) rfl (fun ls2 h2 => ?_)
        refine lv_iconst (v := 1) hx0 hb d_u_open_17 rfl ?_
        refine W.widen (k := 90) (n := 800) (by omega) (by omega) ?_
        exact vx_ret (W.iret hx0 hb hr (fun t ht _ => ⟨rfl, f, fun x hx9 => (by cases ho.symm.trans hx9), by rw [ht]; exact hn1, fun v hv => (by cases ho.symm.trans hv), by rw [ht, xset_id (ho1.trans hou)]; exact hA1.1, by rw [xset_id (ho1.trans hou)]; exact hA1.2.2.2.1, hA1.2.2.1.F ht⟩) hA1.2.2.1.2.2 d_u_open_18 hlocks)
      · refine vx_catch (name := eA) hown [⟨0, 12, 15, 24⟩] ⟨0, 12, 19, 15⟩ [] htab (fun z hz => by simp only [List.mem_cons, List.not_mem_nil, or_false] at hz; subst hz; exact Or.inr ⟨by decide, eB, hts _ w_link_eB, hN.2.2.2.2.2⟩) (by decide) (by decide) (hts _ w_link_eA) (va_Nw.use rfl (hT.2.2.1 _ w_cast_eA)) hce hcv hcl ?_
        refine lv_astore hx0 hb d_u_open_19 hl.has (hl.lt (i := 5) (Nat.le_of_ble_eq_true rfl)) rfl (fun ls2 h2 => ?_)
        refine lv_iconst (v := 2) hx0 hb d_u_open_21 rfl ?_
        refine W.widen (k := 90) (n := 800) (by omega) (by omega) ?_
        exact vx_ret (W.iret hx0 hb hr (fun t ht _ => ⟨rfl, f, fun x hx9 => (by cases ho.symm.trans hx9), by rw [ht]; exact hn1, fun v hv => (by cases ho.symm.trans hv), by rw [ht, xset_id (ho1.trans hou)]; exact hA1.1, by rw [xset_id (ho1.trans hou)]; exact hA1.2.2.2.1, hA1.2.2.1.F ht⟩) hA1.2.2.1.2.2 d_u_open_22 hlocks)
set_option maxRecDepth 20000 in
theorem h_told {D : va_G} {dT : Nat → ClassId} {l : Launch} (hl0 : l.stackTraces = false) {M M1 : xMm} {n n1 sl1 a0 ou : Nat} (p0 p1 p2 : Int32) {o : xO} {bv : Option Value} {code9 : Int32} {f : Nat → Int64} {fs : List Value} (hou : M ou = some (.inl (7, 1, .inr (.inl f)))) (ha0 : M a0 = some (.inr (0, fs))) (hx : xCl 600 k_L_told (.ref a0 :: [.int p0, .int p1, .int p2]) (M, n, 0) (o, (M1, n1, sl1))) (hn : n1 ≤ n + 90 ∧ sl1 ≤ 0 + 800) (ho1 : M1 ou = M ou) (hR : RES false [(eB, 1)] o bv code9) : vx_Met l y_told (Jvm.Cond.codeWith y_told method_13_code 6 (some .int) [(0, 12, 15, 24)] :: xTB) yRm (va_Pc [.ref a0, .int p0, .int p1, .int p2, .ref ou] (yPre D dT M n)) (yQ D dT o M1 n1 ou code9 M n) (fun _ _ _ => False) 90 800 (xA (M, n, 0)) := by
  refine vx_ofWH (cc := method_13_code) (maxL := 6) (ret := some .int) (hh := [(0, 12, 15, 24)]) (by decide) rfl ?_
  intro p e s m args below meth c s₁ B hml hv
  obtain ⟨rfl, ⟨hsz, hP, hK, hT⟩, hN⟩ := hv
  rw [lg_entry_eq]
  have hts0 := atoms_spec (ws := Jvm.Cond.codeWith y_told method_13_code 6 (some .int) [(0, 12, 15, 24)] :: xTB) B.pre
  have hts : ∀ w ∈ xTB, w.before _ s = true := fun w hw => hts0 w (List.mem_cons_of_mem _ hw)
  have htab := vx_table (x := y_told) B (hts0 _ List.mem_cons_self)
  have hx0 := B.exec
  have hb := B.bytes
  have hr := B.returns
  have hlocks := B.notSynchronized
  have hown : s.vm.findClass "LoanTermsLaw" = some m.cls := findClass_of_methodNamed B.named
  have hA : yAt D dT s (xA (M, n, 0)) M n s.heap [] := ⟨hP, hsz, va_S.rf, fun q hq => Or.inl hq, fun q hq => Or.inr (by rw [← hsz]; exact hq)⟩
  have C : yCx D dT l p s m _ c method_13_code 6 (xA (M, n, 0)) := ⟨hx0, hb, hml, hown, hts, hl0, hK, hT, hN⟩
  have hl := xRl.entry (as := [.ref a0, .int p0, .int p1, .int p2, .ref ou]) (n := 6) (by intro v hv; simp at hv; rcases hv with rfl | rfl | rfl | rfl | rfl <;> rfl) (Nat.le_of_ble_eq_true rfl)
  generalize (lg_sl [.ref a0, .int p0, .int p1, .int p2, .ref ou] ++ List.replicate (6 - (lg_sl [.ref a0, .int p0, .int p1, .int p2, .ref ou]).length) Slot.unset).toArray = ls at hl ⊢
  have hl : xRl [some (.ref a0), some (.int p0), some (.int p1), some (.int p2), some (.ref ou), none] ls 6 := hl
  refine lv_aload hx0 hb d_u_told_0 (hl.get rfl) ?_
  refine lv_iconst (v := 0) hx0 hb d_u_told_2 rfl ?_
  refine lv_aload_n hx0 hb d_u_told_3 rfl (hl.get rfl) ?_
  refine lv_iload_n hx0 hb d_u_told_4 rfl (hl.get rfl) ?_
  refine lv_iload_n hx0 hb d_u_told_5 rfl (hl.get rfl) ?_
  refine lv_iload_n hx0 hb d_u_told_6 rfl (hl.get rfl) ?_
  obtain ⟨hle, hrun⟩ := y_run (e := e) (below := below) (meth := meth) (R := (headSpec (Jvm.Cond.codeWith y_told method_13_code 6 (some .int) [(0, 12, 15, 24)] :: xTB) yRm).room) (cells := 0) (slots := 0) (ls := ls) (rest := [.int 0, .ref ou]) C hA o_L_told li_L_told in_L_told se_L_told hx (by intro v hv; simp at hv; rcases hv with rfl | rfl | rfl | rfl <;> rfl) rfl (Nat.le_of_ble_eq_true rfl) ha0 (by show 600 + 12 + 1 ≤ 613; omega) (by show 8 + (_ + 11) + (600 * 64 + 200) ≤ 38660; decide) hl.2.1 (Nat.le_of_ble_eq_true rfl) d_u_told_7 ⟨by show 0 + _ ≤ 90; omega, by show 0 + _ ≤ 800; omega⟩
  refine y_back hrun hA (fun v H1 locs1 ho hA1 => ?_) (fun E ce q9 H1 locs1 ho hA1 hn1 hce hcv hcl => ?_)
  · rcases hR with ⟨hc0, ⟨hv1, -⟩ | ⟨-, x, hv1, hv2⟩⟩ | ⟨E, hE, -⟩
    · cases hv1
    · cases ho.symm.trans hv1
      subst hc0
      refine lv_i2l (v := x.toInt64) hx0 hb d_u_told_10 rfl ?_
      refine y_last C hA1 (ho1.trans hou) d_u_told_11 (fun H2 locs2 g hg hA2 => ?_)
      refine lv_goto (tgt := 19) hx0 hb d_u_told_12 (by decide) ?_
      refine lv_iconst (v := 0) hx0 hb d_u_told_19 rfl ?_
      refine W.widen (k := 90) (n := 800) (by omega) (by omega) ?_
      exact vx_ret (W.iret hx0 hb hr (fun t ht _ => ⟨rfl, g, fun x9 hx9 => (by cases ho.symm.trans hx9; exact hg), by rw [ht, hA2.2.1]; exact hle, fun v hv => by rw [ht]; exact hA2.2.1, by rw [ht]; exact hA2.1, hA2.2.2.2.1, hA2.2.2.1.F ht⟩) hA2.2.2.1.2.2 d_u_told_20 hlocks)
    · cases ho.symm.trans hE
  · rcases hR with ⟨hc0, ⟨-, hv1, -⟩ | ⟨-, x, hv1, -⟩⟩ | ⟨E2, hE, hin, -⟩
    · cases ho.symm.trans hv1
    · cases ho.symm.trans hv1
    · cases ho.symm.trans hE
      simp only [List.mem_cons, Prod.mk.injEq, List.not_mem_nil, or_false] at hin
      obtain ⟨rfl, rfl⟩ := hin
      refine vx_catch (name := eB) hown [] ⟨0, 12, 15, 24⟩ [] htab (fun z hz => by cases hz) (by decide) (by decide) (hts _ w_link_eB) (va_Nw.use rfl (hT.2.2.1 _ w_cast_eB)) hce hcv hcl ?_
      refine lv_astore hx0 hb d_u_told_15 hl.has (hl.lt (i := 5) (Nat.le_of_ble_eq_true rfl)) rfl (fun ls2 h2 => ?_)
      refine lv_iconst (v := 1) hx0 hb d_u_told_17 rfl ?_
      refine W.widen (k := 90) (n := 800) (by omega) (by omega) ?_
      exact vx_ret (W.iret hx0 hb hr (fun t ht _ => ⟨rfl, f, fun x hx9 => (by cases ho.symm.trans hx9), by rw [ht]; exact hn1, fun v hv => (by cases ho.symm.trans hv), by rw [ht, xset_id (ho1.trans hou)]; exact hA1.1, by rw [xset_id (ho1.trans hou)]; exact hA1.2.2.2.1, hA1.2.2.1.F ht⟩) hA1.2.2.1.2.2 d_u_told_18 hlocks)
set_option maxRecDepth 20000 in
theorem h_extend {D : va_G} {dT : Nat → ClassId} {l : Launch} (hl0 : l.stackTraces = false) {M M1 : xMm} {n n1 sl1 a0 ou : Nat} (p0 p1 p2 : Int32) {o : xO} {bv : Option Value} {code9 : Int32} {f : Nat → Int64} {fs : List Value} (hou : M ou = some (.inl (7, 1, .inr (.inl f)))) (ha0 : M a0 = some (.inr (0, fs))) (hx : xCl 600 k_L_extend (.ref a0 :: [.int p0, .int p1, .int p2]) (M, n, 0) (o, (M1, n1, sl1))) (hn : n1 ≤ n + 90 ∧ sl1 ≤ 0 + 800) (ho1 : M1 ou = M ou) (hR : RES false [(eB, 1), (eA, 2)] o bv code9) : vx_Met l y_extend (Jvm.Cond.codeWith y_extend method_14_code 6 (some .int) [(0, 12, 15, 24), (0, 12, 19, 15)] :: xTB) yRm (va_Pc [.ref a0, .int p0, .int p1, .int p2, .ref ou] (yPre D dT M n)) (yQ D dT o M1 n1 ou code9 M n) (fun _ _ _ => False) 90 800 (xA (M, n, 0)) := by
  refine vx_ofWH (cc := method_14_code) (maxL := 6) (ret := some .int) (hh := [(0, 12, 15, 24), (0, 12, 19, 15)]) (by decide) rfl ?_
  intro p e s m args below meth c s₁ B hml hv
  obtain ⟨rfl, ⟨hsz, hP, hK, hT⟩, hN⟩ := hv
  rw [lg_entry_eq]
  have hts0 := atoms_spec (ws := Jvm.Cond.codeWith y_extend method_14_code 6 (some .int) [(0, 12, 15, 24), (0, 12, 19, 15)] :: xTB) B.pre
  have hts : ∀ w ∈ xTB, w.before _ s = true := fun w hw => hts0 w (List.mem_cons_of_mem _ hw)
  have htab := vx_table (x := y_extend) B (hts0 _ List.mem_cons_self)
  have hx0 := B.exec
  have hb := B.bytes
  have hr := B.returns
  have hlocks := B.notSynchronized
  have hown : s.vm.findClass "LoanTermsLaw" = some m.cls := findClass_of_methodNamed B.named
  have hA : yAt D dT s (xA (M, n, 0)) M n s.heap [] := ⟨hP, hsz, va_S.rf, fun q hq => Or.inl hq, fun q hq => Or.inr (by rw [← hsz]; exact hq)⟩
  have C : yCx D dT l p s m _ c method_14_code 6 (xA (M, n, 0)) := ⟨hx0, hb, hml, hown, hts, hl0, hK, hT, hN⟩
  have hl := xRl.entry (as := [.ref a0, .int p0, .int p1, .int p2, .ref ou]) (n := 6) (by intro v hv; simp at hv; rcases hv with rfl | rfl | rfl | rfl | rfl <;> rfl) (Nat.le_of_ble_eq_true rfl)
  generalize (lg_sl [.ref a0, .int p0, .int p1, .int p2, .ref ou] ++ List.replicate (6 - (lg_sl [.ref a0, .int p0, .int p1, .int p2, .ref ou]).length) Slot.unset).toArray = ls at hl ⊢
  have hl : xRl [some (.ref a0), some (.int p0), some (.int p1), some (.int p2), some (.ref ou), none] ls 6 := hl
  refine lv_aload hx0 hb d_u_extend_0 (hl.get rfl) ?_
  refine lv_iconst (v := 0) hx0 hb d_u_extend_2 rfl ?_
  refine lv_aload_n hx0 hb d_u_extend_3 rfl (hl.get rfl) ?_
  refine lv_iload_n hx0 hb d_u_extend_4 rfl (hl.get rfl) ?_
  refine lv_iload_n hx0 hb d_u_extend_5 rfl (hl.get rfl) ?_
  refine lv_iload_n hx0 hb d_u_extend_6 rfl (hl.get rfl) ?_
  obtain ⟨hle, hrun⟩ := y_run (e := e) (below := below) (meth := meth) (R := (headSpec (Jvm.Cond.codeWith y_extend method_14_code 6 (some .int) [(0, 12, 15, 24), (0, 12, 19, 15)] :: xTB) yRm).room) (cells := 0) (slots := 0) (ls := ls) (rest := [.int 0, .ref ou]) C hA o_L_extend li_L_extend in_L_extend se_L_extend hx (by intro v hv; simp at hv; rcases hv with rfl | rfl | rfl | rfl <;> rfl) rfl (Nat.le_of_ble_eq_true rfl) ha0 (by show 600 + 12 + 1 ≤ 613; omega) (by show 8 + (_ + 11) + (600 * 64 + 200) ≤ 38660; decide) hl.2.1 (Nat.le_of_ble_eq_true rfl) d_u_extend_7 ⟨by show 0 + _ ≤ 90; omega, by show 0 + _ ≤ 800; omega⟩
  refine y_back hrun hA (fun v H1 locs1 ho hA1 => ?_) (fun E ce q9 H1 locs1 ho hA1 hn1 hce hcv hcl => ?_)
  · rcases hR with ⟨hc0, ⟨hv1, -⟩ | ⟨-, x, hv1, hv2⟩⟩ | ⟨E, hE, -⟩
    · cases hv1
    · cases ho.symm.trans hv1
      subst hc0
      refine lv_i2l (v := x.toInt64) hx0 hb d_u_extend_10 rfl ?_
      refine y_last C hA1 (ho1.trans hou) d_u_extend_11 (fun H2 locs2 g hg hA2 => ?_)
      refine lv_goto (tgt := 23) hx0 hb d_u_extend_12 (by decide) ?_
      refine lv_iconst (v := 0) hx0 hb d_u_extend_23 rfl ?_
      refine W.widen (k := 90) (n := 800) (by omega) (by omega) ?_
      exact vx_ret (W.iret hx0 hb hr (fun t ht _ => ⟨rfl, g, fun x9 hx9 => (by cases ho.symm.trans hx9; exact hg), by rw [ht, hA2.2.1]; exact hle, fun v hv => by rw [ht]; exact hA2.2.1, by rw [ht]; exact hA2.1, hA2.2.2.2.1, hA2.2.2.1.F ht⟩) hA2.2.2.1.2.2 d_u_extend_24 hlocks)
    · cases ho.symm.trans hE
  · rcases hR with ⟨hc0, ⟨-, hv1, -⟩ | ⟨-, x, hv1, -⟩⟩ | ⟨E2, hE, hin, -⟩
    · cases ho.symm.trans hv1
    · cases ho.symm.trans hv1
    · cases ho.symm.trans hE
      simp only [List.mem_cons, Prod.mk.injEq, List.not_mem_nil, or_false] at hin
      rcases hin with ⟨rfl, rfl⟩ | ⟨rfl, rfl⟩
      · refine vx_catch (name := eB) hown [] ⟨0, 12, 15, 24⟩ [⟨0, 12, 19, 15⟩] htab (fun z hz => by cases hz) (by decide) (by decide) (hts _ w_link_eB) (va_Nw.use rfl (hT.2.2.1 _ w_cast_eB)) hce hcv hcl ?_
        refine lv_astore hx0 hb d_u_extend_15 hl.has (hl.lt (i := 5) (Nat.le_of_ble_eq_true rfl)) rfl (fun ls2 h2 => ?_)
        refine lv_iconst (v := 1) hx0 hb d_u_extend_17 rfl ?_
        refine W.widen (k := 90) (n := 800) (by omega) (by omega) ?_
        exact vx_ret (W.iret hx0 hb hr (fun t ht _ => ⟨rfl, f, fun x hx9 => (by cases ho.symm.trans hx9), by rw [ht]; exact hn1, fun v hv => (by cases ho.symm.trans hv), by rw [ht, xset_id (ho1.trans hou)]; exact hA1.1, by rw [xset_id (ho1.trans hou)]; exact hA1.2.2.2.1, hA1.2.2.1.F ht⟩) hA1.2.2.1.2.2 d_u_extend_18 hlocks)
      · refine vx_catch (name := eA) hown [⟨0, 12, 15, 24⟩] ⟨0, 12, 19, 15⟩ [] htab (fun z hz => by simp only [List.mem_cons, List.not_mem_nil, or_false] at hz; subst hz; exact Or.inr ⟨by decide, eB, hts _ w_link_eB, hN.2.2.2.2.2⟩) (by decide) (by decide) (hts _ w_link_eA) (va_Nw.use rfl (hT.2.2.1 _ w_cast_eA)) hce hcv hcl ?_
        refine lv_astore hx0 hb d_u_extend_19 hl.has (hl.lt (i := 5) (Nat.le_of_ble_eq_true rfl)) rfl (fun ls2 h2 => ?_)
        refine lv_iconst (v := 2) hx0 hb d_u_extend_21 rfl ?_
        refine W.widen (k := 90) (n := 800) (by omega) (by omega) ?_
        exact vx_ret (W.iret hx0 hb hr (fun t ht _ => ⟨rfl, f, fun x hx9 => (by cases ho.symm.trans hx9), by rw [ht]; exact hn1, fun v hv => (by cases ho.symm.trans hv), by rw [ht, xset_id (ho1.trans hou)]; exact hA1.1, by rw [xset_id (ho1.trans hou)]; exact hA1.2.2.2.1, hA1.2.2.1.F ht⟩) hA1.2.2.1.2.2 d_u_extend_22 hlocks)
set_option maxRecDepth 20000 in
theorem h_request {D : va_G} {dT : Nat → ClassId} {l : Launch} (hl0 : l.stackTraces = false) {M M1 : xMm} {n n1 sl1 a0 ou : Nat} (p0 p1 p2 : Int32) {o : xO} {bv : Option Value} {code9 : Int32} {f : Nat → Int64} {fs : List Value} (hou : M ou = some (.inl (7, 1, .inr (.inl f)))) (ha0 : M a0 = some (.inr (0, fs))) (hx : xCl 600 k_L_request (.ref a0 :: [.int p0, .int p1, .int p2]) (M, n, 0) (o, (M1, n1, sl1))) (hn : n1 ≤ n + 90 ∧ sl1 ≤ 0 + 800) (ho1 : M1 ou = M ou) (hR : RES false [(eB, 1), (eS, 2), (eA, 3)] o bv code9) : vx_Met l y_request (Jvm.Cond.codeWith y_request method_15_code 6 (some .int) [(0, 12, 15, 24), (0, 12, 19, 13), (0, 12, 23, 15)] :: xTB) yRm (va_Pc [.ref a0, .int p0, .int p1, .int p2, .ref ou] (yPre D dT M n)) (yQ D dT o M1 n1 ou code9 M n) (fun _ _ _ => False) 90 800 (xA (M, n, 0)) := by
  refine vx_ofWH (cc := method_15_code) (maxL := 6) (ret := some .int) (hh := [(0, 12, 15, 24), (0, 12, 19, 13), (0, 12, 23, 15)]) (by decide) rfl ?_
  intro p e s m args below meth c s₁ B hml hv
  obtain ⟨rfl, ⟨hsz, hP, hK, hT⟩, hN⟩ := hv
  rw [lg_entry_eq]
  have hts0 := atoms_spec (ws := Jvm.Cond.codeWith y_request method_15_code 6 (some .int) [(0, 12, 15, 24), (0, 12, 19, 13), (0, 12, 23, 15)] :: xTB) B.pre
  have hts : ∀ w ∈ xTB, w.before _ s = true := fun w hw => hts0 w (List.mem_cons_of_mem _ hw)
  have htab := vx_table (x := y_request) B (hts0 _ List.mem_cons_self)
  have hx0 := B.exec
  have hb := B.bytes
  have hr := B.returns
  have hlocks := B.notSynchronized
  have hown : s.vm.findClass "LoanTermsLaw" = some m.cls := findClass_of_methodNamed B.named
  have hA : yAt D dT s (xA (M, n, 0)) M n s.heap [] := ⟨hP, hsz, va_S.rf, fun q hq => Or.inl hq, fun q hq => Or.inr (by rw [← hsz]; exact hq)⟩
  have C : yCx D dT l p s m _ c method_15_code 6 (xA (M, n, 0)) := ⟨hx0, hb, hml, hown, hts, hl0, hK, hT, hN⟩
  have hl := xRl.entry (as := [.ref a0, .int p0, .int p1, .int p2, .ref ou]) (n := 6) (by intro v hv; simp at hv; rcases hv with rfl | rfl | rfl | rfl | rfl <;> rfl) (Nat.le_of_ble_eq_true rfl)
  generalize (lg_sl [.ref a0, .int p0, .int p1, .int p2, .ref ou] ++ List.replicate (6 - (lg_sl [.ref a0, .int p0, .int p1, .int p2, .ref ou]).length) Slot.unset).toArray = ls at hl ⊢
  have hl : xRl [some (.ref a0), some (.int p0), some (.int p1), some (.int p2), some (.ref ou), none] ls 6 := hl
  refine lv_aload hx0 hb d_u_request_0 (hl.get rfl) ?_
  refine lv_iconst (v := 0) hx0 hb d_u_request_2 rfl ?_
  refine lv_aload_n hx0 hb d_u_request_3 rfl (hl.get rfl) ?_
  refine lv_iload_n hx0 hb d_u_request_4 rfl (hl.get rfl) ?_
  refine lv_iload_n hx0 hb d_u_request_5 rfl (hl.get rfl) ?_
  refine lv_iload_n hx0 hb d_u_request_6 rfl (hl.get rfl) ?_
  obtain ⟨hle, hrun⟩ := y_run (e := e) (below := below) (meth := meth) (R := (headSpec (Jvm.Cond.codeWith y_request method_15_code 6 (some .int) [(0, 12, 15, 24), (0, 12, 19, 13), (0, 12, 23, 15)] :: xTB) yRm).room) (cells := 0) (slots := 0) (ls := ls) (rest := [.int 0, .ref ou]) C hA o_L_request li_L_request in_L_request se_L_request hx (by intro v hv; simp at hv; rcases hv with rfl | rfl | rfl | rfl <;> rfl) rfl (Nat.le_of_ble_eq_true rfl) ha0 (by show 600 + 12 + 1 ≤ 613; omega) (by show 8 + (_ + 11) + (600 * 64 + 200) ≤ 38660; decide) hl.2.1 (Nat.le_of_ble_eq_true rfl) d_u_request_7 ⟨by show 0 + _ ≤ 90; omega, by show 0 + _ ≤ 800; omega⟩
  refine y_back hrun hA (fun v H1 locs1 ho hA1 => ?_) (fun E ce q9 H1 locs1 ho hA1 hn1 hce hcv hcl => ?_)
  · rcases hR with ⟨hc0, ⟨hv1, -⟩ | ⟨-, x, hv1, hv2⟩⟩ | ⟨E, hE, -⟩
    · cases hv1
    · cases ho.symm.trans hv1
      subst hc0
      refine lv_i2l (v := x.toInt64) hx0 hb d_u_request_10 rfl ?_
      refine y_last C hA1 (ho1.trans hou) d_u_request_11 (fun H2 locs2 g hg hA2 => ?_)
      refine lv_goto (tgt := 27) hx0 hb d_u_request_12 (by decide) ?_
      refine lv_iconst (v := 0) hx0 hb d_u_request_27 rfl ?_
      refine W.widen (k := 90) (n := 800) (by omega) (by omega) ?_
      exact vx_ret (W.iret hx0 hb hr (fun t ht _ => ⟨rfl, g, fun x9 hx9 => (by cases ho.symm.trans hx9; exact hg), by rw [ht, hA2.2.1]; exact hle, fun v hv => by rw [ht]; exact hA2.2.1, by rw [ht]; exact hA2.1, hA2.2.2.2.1, hA2.2.2.1.F ht⟩) hA2.2.2.1.2.2 d_u_request_28 hlocks)
    · cases ho.symm.trans hE
  · rcases hR with ⟨hc0, ⟨-, hv1, -⟩ | ⟨-, x, hv1, -⟩⟩ | ⟨E2, hE, hin, -⟩
    · cases ho.symm.trans hv1
    · cases ho.symm.trans hv1
    · cases ho.symm.trans hE
      simp only [List.mem_cons, Prod.mk.injEq, List.not_mem_nil, or_false] at hin
      rcases hin with ⟨rfl, rfl⟩ | ⟨rfl, rfl⟩ | ⟨rfl, rfl⟩
      · refine vx_catch (name := eB) hown [] ⟨0, 12, 15, 24⟩ [⟨0, 12, 19, 13⟩, ⟨0, 12, 23, 15⟩] htab (fun z hz => by cases hz) (by decide) (by decide) (hts _ w_link_eB) (va_Nw.use rfl (hT.2.2.1 _ w_cast_eB)) hce hcv hcl ?_
        refine lv_astore hx0 hb d_u_request_15 hl.has (hl.lt (i := 5) (Nat.le_of_ble_eq_true rfl)) rfl (fun ls2 h2 => ?_)
        refine lv_iconst (v := 1) hx0 hb d_u_request_17 rfl ?_
        refine W.widen (k := 90) (n := 800) (by omega) (by omega) ?_
        exact vx_ret (W.iret hx0 hb hr (fun t ht _ => ⟨rfl, f, fun x hx9 => (by cases ho.symm.trans hx9), by rw [ht]; exact hn1, fun v hv => (by cases ho.symm.trans hv), by rw [ht, xset_id (ho1.trans hou)]; exact hA1.1, by rw [xset_id (ho1.trans hou)]; exact hA1.2.2.2.1, hA1.2.2.1.F ht⟩) hA1.2.2.1.2.2 d_u_request_18 hlocks)
      · refine vx_catch (name := eS) hown [⟨0, 12, 15, 24⟩] ⟨0, 12, 19, 13⟩ [⟨0, 12, 23, 15⟩] htab (fun z hz => by simp only [List.mem_cons, List.not_mem_nil, or_false] at hz; subst hz; exact Or.inr ⟨by decide, eB, hts _ w_link_eB, hN.2.2.2.2.1⟩) (by decide) (by decide) (hts _ w_link_eS) (va_Nw.use rfl (hT.2.2.1 _ w_cast_eS)) hce hcv hcl ?_
        refine lv_astore hx0 hb d_u_request_19 hl.has (hl.lt (i := 5) (Nat.le_of_ble_eq_true rfl)) rfl (fun ls2 h2 => ?_)
        refine lv_iconst (v := 2) hx0 hb d_u_request_21 rfl ?_
        refine W.widen (k := 90) (n := 800) (by omega) (by omega) ?_
        exact vx_ret (W.iret hx0 hb hr (fun t ht _ => ⟨rfl, f, fun x hx9 => (by cases ho.symm.trans hx9), by rw [ht]; exact hn1, fun v hv => (by cases ho.symm.trans hv), by rw [ht, xset_id (ho1.trans hou)]; exact hA1.1, by rw [xset_id (ho1.trans hou)]; exact hA1.2.2.2.1, hA1.2.2.1.F ht⟩) hA1.2.2.1.2.2 d_u_request_22 hlocks)
      · refine vx_catch (name := eA) hown [⟨0, 12, 15, 24⟩, ⟨0, 12, 19, 13⟩] ⟨0, 12, 23, 15⟩ [] htab (fun z hz => by simp only [List.mem_cons, List.not_mem_nil, or_false] at hz; rcases hz with rfl | rfl <;> first | (exact Or.inr ⟨by decide, eB, hts _ w_link_eB, hN.2.2.2.2.2⟩) | (exact Or.inr ⟨by decide, eS, hts _ w_link_eS, hN.1⟩)) (by decide) (by decide) (hts _ w_link_eA) (va_Nw.use rfl (hT.2.2.1 _ w_cast_eA)) hce hcv hcl ?_
        refine lv_astore hx0 hb d_u_request_23 hl.has (hl.lt (i := 5) (Nat.le_of_ble_eq_true rfl)) rfl (fun ls2 h2 => ?_)
        refine lv_iconst (v := 3) hx0 hb d_u_request_25 rfl ?_
        refine W.widen (k := 90) (n := 800) (by omega) (by omega) ?_
        exact vx_ret (W.iret hx0 hb hr (fun t ht _ => ⟨rfl, f, fun x hx9 => (by cases ho.symm.trans hx9), by rw [ht]; exact hn1, fun v hv => (by cases ho.symm.trans hv), by rw [ht, xset_id (ho1.trans hou)]; exact hA1.1, by rw [xset_id (ho1.trans hou)]; exact hA1.2.2.2.1, hA1.2.2.1.F ht⟩) hA1.2.2.1.2.2 d_u_request_26 hlocks)
set_option maxRecDepth 20000 in
theorem h_clash {D : va_G} {dT : Nat → ClassId} {l : Launch} (hl0 : l.stackTraces = false) {M M1 : xMm} {n n1 sl1 a0 ou : Nat} (p0 p1 : Int32) {o : xO} {bv : Option Value} {code9 : Int32} {f : Nat → Int64} {fs : List Value} (hou : M ou = some (.inl (7, 1, .inr (.inl f)))) (ha0 : M a0 = some (.inr (0, fs))) (hx : xCl 600 k_L_clash (.ref a0 :: [.int p0, .int p1]) (M, n, 0) (o, (M1, n1, sl1))) (hn : n1 ≤ n + 90 ∧ sl1 ≤ 0 + 800) (ho1 : M1 ou = M ou) (hR : RES false [(eB, 1)] o bv code9) : vx_Met l y_clash (Jvm.Cond.codeWith y_clash method_16_code 5 (some .int) [(0, 10, 13, 24)] :: xTB) yRm (va_Pc [.ref a0, .int p0, .int p1, .ref ou] (yPre D dT M n)) (yQ D dT o M1 n1 ou code9 M n) (fun _ _ _ => False) 90 800 (xA (M, n, 0)) := by
  refine vx_ofWH (cc := method_16_code) (maxL := 5) (ret := some .int) (hh := [(0, 10, 13, 24)]) (by decide) rfl ?_
  intro p e s m args below meth c s₁ B hml hv
  obtain ⟨rfl, ⟨hsz, hP, hK, hT⟩, hN⟩ := hv
  rw [lg_entry_eq]
  have hts0 := atoms_spec (ws := Jvm.Cond.codeWith y_clash method_16_code 5 (some .int) [(0, 10, 13, 24)] :: xTB) B.pre
  have hts : ∀ w ∈ xTB, w.before _ s = true := fun w hw => hts0 w (List.mem_cons_of_mem _ hw)
  have htab := vx_table (x := y_clash) B (hts0 _ List.mem_cons_self)
  have hx0 := B.exec
  have hb := B.bytes
  have hr := B.returns
  have hlocks := B.notSynchronized
  have hown : s.vm.findClass "LoanTermsLaw" = some m.cls := findClass_of_methodNamed B.named
  have hA : yAt D dT s (xA (M, n, 0)) M n s.heap [] := ⟨hP, hsz, va_S.rf, fun q hq => Or.inl hq, fun q hq => Or.inr (by rw [← hsz]; exact hq)⟩
  have C : yCx D dT l p s m _ c method_16_code 5 (xA (M, n, 0)) := ⟨hx0, hb, hml, hown, hts, hl0, hK, hT, hN⟩
  have hl := xRl.entry (as := [.ref a0, .int p0, .int p1, .ref ou]) (n := 5) (by intro v hv; simp at hv; rcases hv with rfl | rfl | rfl | rfl <;> rfl) (Nat.le_of_ble_eq_true rfl)
  generalize (lg_sl [.ref a0, .int p0, .int p1, .ref ou] ++ List.replicate (5 - (lg_sl [.ref a0, .int p0, .int p1, .ref ou]).length) Slot.unset).toArray = ls at hl ⊢
  have hl : xRl [some (.ref a0), some (.int p0), some (.int p1), some (.ref ou), none] ls 5 := hl
  refine lv_aload_n hx0 hb d_u_clash_0 rfl (hl.get rfl) ?_
  refine lv_iconst (v := 0) hx0 hb d_u_clash_1 rfl ?_
  refine lv_aload_n hx0 hb d_u_clash_2 rfl (hl.get rfl) ?_
  refine lv_iload_n hx0 hb d_u_clash_3 rfl (hl.get rfl) ?_
  refine lv_iload_n hx0 hb d_u_clash_4 rfl (hl.get rfl) ?_
  obtain ⟨hle, hrun⟩ := y_run (e := e) (below := below) (meth := meth) (R := (headSpec (Jvm.Cond.codeWith y_clash method_16_code 5 (some .int) [(0, 10, 13, 24)] :: xTB) yRm).room) (cells := 0) (slots := 0) (ls := ls) (rest := [.int 0, .ref ou]) C hA o_L_clash li_L_clash in_L_clash se_L_clash hx (by intro v hv; simp at hv; rcases hv with rfl | rfl | rfl <;> rfl) rfl (Nat.le_of_ble_eq_true rfl) ha0 (by show 600 + 12 + 1 ≤ 613; omega) (by show 8 + (_ + 11) + (600 * 64 + 200) ≤ 38660; decide) hl.2.1 (Nat.le_of_ble_eq_true rfl) d_u_clash_5 ⟨by show 0 + _ ≤ 90; omega, by show 0 + _ ≤ 800; omega⟩
  refine y_back hrun hA (fun v H1 locs1 ho hA1 => ?_) (fun E ce q9 H1 locs1 ho hA1 hn1 hce hcv hcl => ?_)
  · rcases hR with ⟨hc0, ⟨hv1, -⟩ | ⟨-, x, hv1, hv2⟩⟩ | ⟨E, hE, -⟩
    · cases hv1
    · cases ho.symm.trans hv1
      subst hc0
      refine lv_i2l (v := x.toInt64) hx0 hb d_u_clash_8 rfl ?_
      refine y_last C hA1 (ho1.trans hou) d_u_clash_9 (fun H2 locs2 g hg hA2 => ?_)
      refine lv_goto (tgt := 17) hx0 hb d_u_clash_10 (by decide) ?_
      refine lv_iconst (v := 0) hx0 hb d_u_clash_17 rfl ?_
      refine W.widen (k := 90) (n := 800) (by omega) (by omega) ?_
      exact vx_ret (W.iret hx0 hb hr (fun t ht _ => ⟨rfl, g, fun x9 hx9 => (by cases ho.symm.trans hx9; exact hg), by rw [ht, hA2.2.1]; exact hle, fun v hv => by rw [ht]; exact hA2.2.1, by rw [ht]; exact hA2.1, hA2.2.2.2.1, hA2.2.2.1.F ht⟩) hA2.2.2.1.2.2 d_u_clash_18 hlocks)
    · cases ho.symm.trans hE
  · rcases hR with ⟨hc0, ⟨-, hv1, -⟩ | ⟨-, x, hv1, -⟩⟩ | ⟨E2, hE, hin, -⟩
    · cases ho.symm.trans hv1
    · cases ho.symm.trans hv1
    · cases ho.symm.trans hE
      simp only [List.mem_cons, Prod.mk.injEq, List.not_mem_nil, or_false] at hin
      obtain ⟨rfl, rfl⟩ := hin
      refine vx_catch (name := eB) hown [] ⟨0, 10, 13, 24⟩ [] htab (fun z hz => by cases hz) (by decide) (by decide) (hts _ w_link_eB) (va_Nw.use rfl (hT.2.2.1 _ w_cast_eB)) hce hcv hcl ?_
      refine lv_astore hx0 hb d_u_clash_13 hl.has (hl.lt (i := 4) (Nat.le_of_ble_eq_true rfl)) rfl (fun ls2 h2 => ?_)
      refine lv_iconst (v := 1) hx0 hb d_u_clash_15 rfl ?_
      refine W.widen (k := 90) (n := 800) (by omega) (by omega) ?_
      exact vx_ret (W.iret hx0 hb hr (fun t ht _ => ⟨rfl, f, fun x hx9 => (by cases ho.symm.trans hx9), by rw [ht]; exact hn1, fun v hv => (by cases ho.symm.trans hv), by rw [ht, xset_id (ho1.trans hou)]; exact hA1.1, by rw [xset_id (ho1.trans hou)]; exact hA1.2.2.2.1, hA1.2.2.1.F ht⟩) hA1.2.2.1.2.2 d_u_clash_16 hlocks)
set_option maxRecDepth 20000 in
theorem h_days {D : va_G} {dT : Nat → ClassId} {l : Launch} (hl0 : l.stackTraces = false) {M M1 : xMm} {n n1 sl1 a0 ou : Nat} (p0 : Int32) {o : xO} {bv : Option Value} {code9 : Int32} {f : Nat → Int64} {fs : List Value} (hou : M ou = some (.inl (7, 1, .inr (.inl f)))) (ha0 : M a0 = some (.inr (0, fs))) (hx : xCl 600 k_L_days (.ref a0 :: [.int p0]) (M, n, 0) (o, (M1, n1, sl1))) (hn : n1 ≤ n + 90 ∧ sl1 ≤ 0 + 800) (ho1 : M1 ou = M ou) (hR : RES false [(eB, 1)] o bv code9) : vx_Met l y_days (Jvm.Cond.codeWith y_days method_17_code 4 (some .int) [(0, 9, 12, 24)] :: xTB) yRm (va_Pc [.ref a0, .int p0, .ref ou] (yPre D dT M n)) (yQ D dT o M1 n1 ou code9 M n) (fun _ _ _ => False) 90 800 (xA (M, n, 0)) := by
  refine vx_ofWH (cc := method_17_code) (maxL := 4) (ret := some .int) (hh := [(0, 9, 12, 24)]) (by decide) rfl ?_
  intro p e s m args below meth c s₁ B hml hv
  obtain ⟨rfl, ⟨hsz, hP, hK, hT⟩, hN⟩ := hv
  rw [lg_entry_eq]
  have hts0 := atoms_spec (ws := Jvm.Cond.codeWith y_days method_17_code 4 (some .int) [(0, 9, 12, 24)] :: xTB) B.pre
  have hts : ∀ w ∈ xTB, w.before _ s = true := fun w hw => hts0 w (List.mem_cons_of_mem _ hw)
  have htab := vx_table (x := y_days) B (hts0 _ List.mem_cons_self)
  have hx0 := B.exec
  have hb := B.bytes
  have hr := B.returns
  have hlocks := B.notSynchronized
  have hown : s.vm.findClass "LoanTermsLaw" = some m.cls := findClass_of_methodNamed B.named
  have hA : yAt D dT s (xA (M, n, 0)) M n s.heap [] := ⟨hP, hsz, va_S.rf, fun q hq => Or.inl hq, fun q hq => Or.inr (by rw [← hsz]; exact hq)⟩
  have C : yCx D dT l p s m _ c method_17_code 4 (xA (M, n, 0)) := ⟨hx0, hb, hml, hown, hts, hl0, hK, hT, hN⟩
  have hl := xRl.entry (as := [.ref a0, .int p0, .ref ou]) (n := 4) (by intro v hv; simp at hv; rcases hv with rfl | rfl | rfl <;> rfl) (Nat.le_of_ble_eq_true rfl)
  generalize (lg_sl [.ref a0, .int p0, .ref ou] ++ List.replicate (4 - (lg_sl [.ref a0, .int p0, .ref ou]).length) Slot.unset).toArray = ls at hl ⊢
  have hl : xRl [some (.ref a0), some (.int p0), some (.ref ou), none] ls 4 := hl
  refine lv_aload_n hx0 hb d_u_days_0 rfl (hl.get rfl) ?_
  refine lv_iconst (v := 0) hx0 hb d_u_days_1 rfl ?_
  refine lv_aload_n hx0 hb d_u_days_2 rfl (hl.get rfl) ?_
  refine lv_iload_n hx0 hb d_u_days_3 rfl (hl.get rfl) ?_
  obtain ⟨hle, hrun⟩ := y_run (e := e) (below := below) (meth := meth) (R := (headSpec (Jvm.Cond.codeWith y_days method_17_code 4 (some .int) [(0, 9, 12, 24)] :: xTB) yRm).room) (cells := 0) (slots := 0) (ls := ls) (rest := [.int 0, .ref ou]) C hA o_L_days li_L_days in_L_days se_L_days hx (by intro v hv; simp at hv; rcases hv with rfl | rfl <;> rfl) rfl (Nat.le_of_ble_eq_true rfl) ha0 (by show 600 + 12 + 1 ≤ 613; omega) (by show 8 + (_ + 11) + (600 * 64 + 200) ≤ 38660; decide) hl.2.1 (Nat.le_of_ble_eq_true rfl) d_u_days_4 ⟨by show 0 + _ ≤ 90; omega, by show 0 + _ ≤ 800; omega⟩
  refine y_back hrun hA (fun v H1 locs1 ho hA1 => ?_) (fun E ce q9 H1 locs1 ho hA1 hn1 hce hcv hcl => ?_)
  · rcases hR with ⟨hc0, ⟨hv1, -⟩ | ⟨-, x, hv1, hv2⟩⟩ | ⟨E, hE, -⟩
    · cases hv1
    · cases ho.symm.trans hv1
      subst hc0
      refine lv_i2l (v := x.toInt64) hx0 hb d_u_days_7 rfl ?_
      refine y_last C hA1 (ho1.trans hou) d_u_days_8 (fun H2 locs2 g hg hA2 => ?_)
      refine lv_goto (tgt := 15) hx0 hb d_u_days_9 (by decide) ?_
      refine lv_iconst (v := 0) hx0 hb d_u_days_15 rfl ?_
      refine W.widen (k := 90) (n := 800) (by omega) (by omega) ?_
      exact vx_ret (W.iret hx0 hb hr (fun t ht _ => ⟨rfl, g, fun x9 hx9 => (by cases ho.symm.trans hx9; exact hg), by rw [ht, hA2.2.1]; exact hle, fun v hv => by rw [ht]; exact hA2.2.1, by rw [ht]; exact hA2.1, hA2.2.2.2.1, hA2.2.2.1.F ht⟩) hA2.2.2.1.2.2 d_u_days_16 hlocks)
    · cases ho.symm.trans hE
  · rcases hR with ⟨hc0, ⟨-, hv1, -⟩ | ⟨-, x, hv1, -⟩⟩ | ⟨E2, hE, hin, -⟩
    · cases ho.symm.trans hv1
    · cases ho.symm.trans hv1
    · cases ho.symm.trans hE
      simp only [List.mem_cons, Prod.mk.injEq, List.not_mem_nil, or_false] at hin
      obtain ⟨rfl, rfl⟩ := hin
      refine vx_catch (name := eB) hown [] ⟨0, 9, 12, 24⟩ [] htab (fun z hz => by cases hz) (by decide) (by decide) (hts _ w_link_eB) (va_Nw.use rfl (hT.2.2.1 _ w_cast_eB)) hce hcv hcl ?_
      refine lv_astore_n hx0 hb d_u_days_12 rfl hl.has (hl.lt (i := 3) (Nat.le_of_ble_eq_true rfl)) rfl (fun ls2 h2 => ?_)
      refine lv_iconst (v := 1) hx0 hb d_u_days_13 rfl ?_
      refine W.widen (k := 90) (n := 800) (by omega) (by omega) ?_
      exact vx_ret (W.iret hx0 hb hr (fun t ht _ => ⟨rfl, f, fun x hx9 => (by cases ho.symm.trans hx9), by rw [ht]; exact hn1, fun v hv => (by cases ho.symm.trans hv), by rw [ht, xset_id (ho1.trans hou)]; exact hA1.1, by rw [xset_id (ho1.trans hou)]; exact hA1.2.2.2.1, hA1.2.2.1.F ht⟩) hA1.2.2.1.2.2 d_u_days_14 hlocks)
set_option maxRecDepth 20000 in
theorem h_fee {D : va_G} {dT : Nat → ClassId} {l : Launch} (hl0 : l.stackTraces = false) {M M1 : xMm} {n n1 sl1 a0 ou : Nat} (p0 : Int32) {o : xO} {bv : Option Value} {code9 : Int32} {f : Nat → Int64} {fs : List Value} (hou : M ou = some (.inl (7, 1, .inr (.inl f)))) (ha0 : M a0 = some (.inr (0, fs))) (hx : xCl 600 k_L_fee (.ref a0 :: [.int p0]) (M, n, 0) (o, (M1, n1, sl1))) (hn : n1 ≤ n + 90 ∧ sl1 ≤ 0 + 800) (ho1 : M1 ou = M ou) (hR : RES false [(eB, 1)] o bv code9) : vx_Met l y_fee (Jvm.Cond.codeWith y_fee method_18_code 4 (some .int) [(0, 9, 12, 24)] :: xTB) yRm (va_Pc [.ref a0, .int p0, .ref ou] (yPre D dT M n)) (yQ D dT o M1 n1 ou code9 M n) (fun _ _ _ => False) 90 800 (xA (M, n, 0)) := by
  refine vx_ofWH (cc := method_18_code) (maxL := 4) (ret := some .int) (hh := [(0, 9, 12, 24)]) (by decide) rfl ?_
  intro p e s m args below meth c s₁ B hml hv
  obtain ⟨rfl, ⟨hsz, hP, hK, hT⟩, hN⟩ := hv
  rw [lg_entry_eq]
  have hts0 := atoms_spec (ws := Jvm.Cond.codeWith y_fee method_18_code 4 (some .int) [(0, 9, 12, 24)] :: xTB) B.pre
  have hts : ∀ w ∈ xTB, w.before _ s = true := fun w hw => hts0 w (List.mem_cons_of_mem _ hw)
  have htab := vx_table (x := y_fee) B (hts0 _ List.mem_cons_self)
  have hx0 := B.exec
  have hb := B.bytes
  have hr := B.returns
  have hlocks := B.notSynchronized
  have hown : s.vm.findClass "LoanTermsLaw" = some m.cls := findClass_of_methodNamed B.named
  have hA : yAt D dT s (xA (M, n, 0)) M n s.heap [] := ⟨hP, hsz, va_S.rf, fun q hq => Or.inl hq, fun q hq => Or.inr (by rw [← hsz]; exact hq)⟩
  have C : yCx D dT l p s m _ c method_18_code 4 (xA (M, n, 0)) := ⟨hx0, hb, hml, hown, hts, hl0, hK, hT, hN⟩
  have hl := xRl.entry (as := [.ref a0, .int p0, .ref ou]) (n := 4) (by intro v hv; simp at hv; rcases hv with rfl | rfl | rfl <;> rfl) (Nat.le_of_ble_eq_true rfl)
  generalize (lg_sl [.ref a0, .int p0, .ref ou] ++ List.replicate (4 - (lg_sl [.ref a0, .int p0, .ref ou]).length) Slot.unset).toArray = ls at hl ⊢
  have hl : xRl [some (.ref a0), some (.int p0), some (.ref ou), none] ls 4 := hl
  refine lv_aload_n hx0 hb d_u_fee_0 rfl (hl.get rfl) ?_
  refine lv_iconst (v := 0) hx0 hb d_u_fee_1 rfl ?_
  refine lv_aload_n hx0 hb d_u_fee_2 rfl (hl.get rfl) ?_
  refine lv_iload_n hx0 hb d_u_fee_3 rfl (hl.get rfl) ?_
  obtain ⟨hle, hrun⟩ := y_run (e := e) (below := below) (meth := meth) (R := (headSpec (Jvm.Cond.codeWith y_fee method_18_code 4 (some .int) [(0, 9, 12, 24)] :: xTB) yRm).room) (cells := 0) (slots := 0) (ls := ls) (rest := [.int 0, .ref ou]) C hA o_L_fee li_L_fee in_L_fee se_L_fee hx (by intro v hv; simp at hv; rcases hv with rfl | rfl <;> rfl) rfl (Nat.le_of_ble_eq_true rfl) ha0 (by show 600 + 12 + 1 ≤ 613; omega) (by show 8 + (_ + 11) + (600 * 64 + 200) ≤ 38660; decide) hl.2.1 (Nat.le_of_ble_eq_true rfl) d_u_fee_4 ⟨by show 0 + _ ≤ 90; omega, by show 0 + _ ≤ 800; omega⟩
  refine y_back hrun hA (fun v H1 locs1 ho hA1 => ?_) (fun E ce q9 H1 locs1 ho hA1 hn1 hce hcv hcl => ?_)
  · rcases hR with ⟨hc0, ⟨hv1, -⟩ | ⟨-, x, hv1, hv2⟩⟩ | ⟨E, hE, -⟩
    · cases hv1
    · cases ho.symm.trans hv1
      subst hc0
      refine lv_i2l (v := x.toInt64) hx0 hb d_u_fee_7 rfl ?_
      refine y_last C hA1 (ho1.trans hou) d_u_fee_8 (fun H2 locs2 g hg hA2 => ?_)
      refine lv_goto (tgt := 15) hx0 hb d_u_fee_9 (by decide) ?_
      refine lv_iconst (v := 0) hx0 hb d_u_fee_15 rfl ?_
      refine W.widen (k := 90) (n := 800) (by omega) (by omega) ?_
      exact vx_ret (W.iret hx0 hb hr (fun t ht _ => ⟨rfl, g, fun x9 hx9 => (by cases ho.symm.trans hx9; exact hg), by rw [ht, hA2.2.1]; exact hle, fun v hv => by rw [ht]; exact hA2.2.1, by rw [ht]; exact hA2.1, hA2.2.2.2.1, hA2.2.2.1.F ht⟩) hA2.2.2.1.2.2 d_u_fee_16 hlocks)
    · cases ho.symm.trans hE
  · rcases hR with ⟨hc0, ⟨-, hv1, -⟩ | ⟨-, x, hv1, -⟩⟩ | ⟨E2, hE, hin, -⟩
    · cases ho.symm.trans hv1
    · cases ho.symm.trans hv1
    · cases ho.symm.trans hE
      simp only [List.mem_cons, Prod.mk.injEq, List.not_mem_nil, or_false] at hin
      obtain ⟨rfl, rfl⟩ := hin
      refine vx_catch (name := eB) hown [] ⟨0, 9, 12, 24⟩ [] htab (fun z hz => by cases hz) (by decide) (by decide) (hts _ w_link_eB) (va_Nw.use rfl (hT.2.2.1 _ w_cast_eB)) hce hcv hcl ?_
      refine lv_astore_n hx0 hb d_u_fee_12 rfl hl.has (hl.lt (i := 3) (Nat.le_of_ble_eq_true rfl)) rfl (fun ls2 h2 => ?_)
      refine lv_iconst (v := 1) hx0 hb d_u_fee_13 rfl ?_
      refine W.widen (k := 90) (n := 800) (by omega) (by omega) ?_
      exact vx_ret (W.iret hx0 hb hr (fun t ht _ => ⟨rfl, f, fun x hx9 => (by cases ho.symm.trans hx9), by rw [ht]; exact hn1, fun v hv => (by cases ho.symm.trans hv), by rw [ht, xset_id (ho1.trans hou)]; exact hA1.1, by rw [xset_id (ho1.trans hou)]; exact hA1.2.2.2.1, hA1.2.2.1.F ht⟩) hA1.2.2.1.2.2 d_u_fee_14 hlocks)
set_option maxRecDepth 20000 in
theorem h_letter {D : va_G} {dT : Nat → ClassId} {l : Launch} (hl0 : l.stackTraces = false) {M M1 : xMm} {n n1 sl1 a0 ou : Nat} (p0 p1 : Int32) {o : xO} {bv : Option Value} {code9 : Int32} {f : Nat → Int64} {fs : List Value} (hou : M ou = some (.inl (7, 1, .inr (.inl f)))) (ha0 : M a0 = some (.inr (0, fs))) (hx : xCl 600 k_L_letter (.ref a0 :: [.int p0, .int p1]) (M, n, 0) (o, (M1, n1, sl1))) (hn : n1 ≤ n + 90 ∧ sl1 ≤ 0 + 800) (ho1 : M1 ou = M ou) (hR : RES false [(eB, 1)] o bv code9) : vx_Met l y_letter (Jvm.Cond.codeWith y_letter method_19_code 5 (some .int) [(0, 10, 13, 24)] :: xTB) yRm (va_Pc [.ref a0, .int p0, .int p1, .ref ou] (yPre D dT M n)) (yQ D dT o M1 n1 ou code9 M n) (fun _ _ _ => False) 90 800 (xA (M, n, 0)) := by
  refine vx_ofWH (cc := method_19_code) (maxL := 5) (ret := some .int) (hh := [(0, 10, 13, 24)]) (by decide) rfl ?_
  intro p e s m args below meth c s₁ B hml hv
  obtain ⟨rfl, ⟨hsz, hP, hK, hT⟩, hN⟩ := hv
  rw [lg_entry_eq]
  have hts0 := atoms_spec (ws := Jvm.Cond.codeWith y_letter method_19_code 5 (some .int) [(0, 10, 13, 24)] :: xTB) B.pre
  have hts : ∀ w ∈ xTB, w.before _ s = true := fun w hw => hts0 w (List.mem_cons_of_mem _ hw)
  have htab := vx_table (x := y_letter) B (hts0 _ List.mem_cons_self)
  have hx0 := B.exec
  have hb := B.bytes
  have hr := B.returns
  have hlocks := B.notSynchronized
  have hown : s.vm.findClass "LoanTermsLaw" = some m.cls := findClass_of_methodNamed B.named
  have hA : yAt D dT s (xA (M, n, 0)) M n s.heap [] := ⟨hP, hsz, va_S.rf, fun q hq => Or.inl hq, fun q hq => Or.inr (by rw [← hsz]; exact hq)⟩
  have C : yCx D dT l p s m _ c method_19_code 5 (xA (M, n, 0)) := ⟨hx0, hb, hml, hown, hts, hl0, hK, hT, hN⟩
  have hl := xRl.entry (as := [.ref a0, .int p0, .int p1, .ref ou]) (n := 5) (by intro v hv; simp at hv; rcases hv with rfl | rfl | rfl | rfl <;> rfl) (Nat.le_of_ble_eq_true rfl)
  generalize (lg_sl [.ref a0, .int p0, .int p1, .ref ou] ++ List.replicate (5 - (lg_sl [.ref a0, .int p0, .int p1, .ref ou]).length) Slot.unset).toArray = ls at hl ⊢
  have hl : xRl [some (.ref a0), some (.int p0), some (.int p1), some (.ref ou), none] ls 5 := hl
  refine lv_aload_n hx0 hb d_u_letter_0 rfl (hl.get rfl) ?_
  refine lv_iconst (v := 0) hx0 hb d_u_letter_1 rfl ?_
  refine lv_aload_n hx0 hb d_u_letter_2 rfl (hl.get rfl) ?_
  refine lv_iload_n hx0 hb d_u_letter_3 rfl (hl.get rfl) ?_
  refine lv_iload_n hx0 hb d_u_letter_4 rfl (hl.get rfl) ?_
  obtain ⟨hle, hrun⟩ := y_run (e := e) (below := below) (meth := meth) (R := (headSpec (Jvm.Cond.codeWith y_letter method_19_code 5 (some .int) [(0, 10, 13, 24)] :: xTB) yRm).room) (cells := 0) (slots := 0) (ls := ls) (rest := [.int 0, .ref ou]) C hA o_L_letter li_L_letter in_L_letter se_L_letter hx (by intro v hv; simp at hv; rcases hv with rfl | rfl | rfl <;> rfl) rfl (Nat.le_of_ble_eq_true rfl) ha0 (by show 600 + 12 + 1 ≤ 613; omega) (by show 8 + (_ + 11) + (600 * 64 + 200) ≤ 38660; decide) hl.2.1 (Nat.le_of_ble_eq_true rfl) d_u_letter_5 ⟨by show 0 + _ ≤ 90; omega, by show 0 + _ ≤ 800; omega⟩
  refine y_back hrun hA (fun v H1 locs1 ho hA1 => ?_) (fun E ce q9 H1 locs1 ho hA1 hn1 hce hcv hcl => ?_)
  · rcases hR with ⟨hc0, ⟨hv1, -⟩ | ⟨-, x, hv1, hv2⟩⟩ | ⟨E, hE, -⟩
    · cases hv1
    · cases ho.symm.trans hv1
      subst hc0
      refine lv_i2l (v := x.toInt64) hx0 hb d_u_letter_8 rfl ?_
      refine y_last C hA1 (ho1.trans hou) d_u_letter_9 (fun H2 locs2 g hg hA2 => ?_)
      refine lv_goto (tgt := 17) hx0 hb d_u_letter_10 (by decide) ?_
      refine lv_iconst (v := 0) hx0 hb d_u_letter_17 rfl ?_
      refine W.widen (k := 90) (n := 800) (by omega) (by omega) ?_
      exact vx_ret (W.iret hx0 hb hr (fun t ht _ => ⟨rfl, g, fun x9 hx9 => (by cases ho.symm.trans hx9; exact hg), by rw [ht, hA2.2.1]; exact hle, fun v hv => by rw [ht]; exact hA2.2.1, by rw [ht]; exact hA2.1, hA2.2.2.2.1, hA2.2.2.1.F ht⟩) hA2.2.2.1.2.2 d_u_letter_18 hlocks)
    · cases ho.symm.trans hE
  · rcases hR with ⟨hc0, ⟨-, hv1, -⟩ | ⟨-, x, hv1, -⟩⟩ | ⟨E2, hE, hin, -⟩
    · cases ho.symm.trans hv1
    · cases ho.symm.trans hv1
    · cases ho.symm.trans hE
      simp only [List.mem_cons, Prod.mk.injEq, List.not_mem_nil, or_false] at hin
      obtain ⟨rfl, rfl⟩ := hin
      refine vx_catch (name := eB) hown [] ⟨0, 10, 13, 24⟩ [] htab (fun z hz => by cases hz) (by decide) (by decide) (hts _ w_link_eB) (va_Nw.use rfl (hT.2.2.1 _ w_cast_eB)) hce hcv hcl ?_
      refine lv_astore hx0 hb d_u_letter_13 hl.has (hl.lt (i := 4) (Nat.le_of_ble_eq_true rfl)) rfl (fun ls2 h2 => ?_)
      refine lv_iconst (v := 1) hx0 hb d_u_letter_15 rfl ?_
      refine W.widen (k := 90) (n := 800) (by omega) (by omega) ?_
      exact vx_ret (W.iret hx0 hb hr (fun t ht _ => ⟨rfl, f, fun x hx9 => (by cases ho.symm.trans hx9), by rw [ht]; exact hn1, fun v hv => (by cases ho.symm.trans hv), by rw [ht, xset_id (ho1.trans hou)]; exact hA1.1, by rw [xset_id (ho1.trans hou)]; exact hA1.2.2.2.1, hA1.2.2.1.F ht⟩) hA1.2.2.1.2.2 d_u_letter_16 hlocks)
set_option maxRecDepth 20000 in
theorem h_count {D : va_G} {dT : Nat → ClassId} {l : Launch} (hl0 : l.stackTraces = false) {M M1 : xMm} {n n1 sl1 a0 ou : Nat} (p0 : Int32) {o : xO} {bv : Option Value} {code9 : Int32} {f : Nat → Int64} {fs : List Value} (hou : M ou = some (.inl (7, 1, .inr (.inl f)))) (ha0 : M a0 = some (.inr (0, fs))) (hx : xCl 600 k_L_count (.ref a0 :: [.int p0]) (M, n, 0) (o, (M1, n1, sl1))) (hn : n1 ≤ n + 90 ∧ sl1 ≤ 0 + 800) (ho1 : M1 ou = M ou) (hR : RES false [(eB, 1)] o bv code9) : vx_Met l y_count (Jvm.Cond.codeWith y_count method_20_code 4 (some .int) [(0, 9, 12, 24)] :: xTB) yRm (va_Pc [.ref a0, .int p0, .ref ou] (yPre D dT M n)) (yQ D dT o M1 n1 ou code9 M n) (fun _ _ _ => False) 90 800 (xA (M, n, 0)) := by
  refine vx_ofWH (cc := method_20_code) (maxL := 4) (ret := some .int) (hh := [(0, 9, 12, 24)]) (by decide) rfl ?_
  intro p e s m args below meth c s₁ B hml hv
  obtain ⟨rfl, ⟨hsz, hP, hK, hT⟩, hN⟩ := hv
  rw [lg_entry_eq]
  have hts0 := atoms_spec (ws := Jvm.Cond.codeWith y_count method_20_code 4 (some .int) [(0, 9, 12, 24)] :: xTB) B.pre
  have hts : ∀ w ∈ xTB, w.before _ s = true := fun w hw => hts0 w (List.mem_cons_of_mem _ hw)
  have htab := vx_table (x := y_count) B (hts0 _ List.mem_cons_self)
  have hx0 := B.exec
  have hb := B.bytes
  have hr := B.returns
  have hlocks := B.notSynchronized
  have hown : s.vm.findClass "LoanTermsLaw" = some m.cls := findClass_of_methodNamed B.named
  have hA : yAt D dT s (xA (M, n, 0)) M n s.heap [] := ⟨hP, hsz, va_S.rf, fun q hq => Or.inl hq, fun q hq => Or.inr (by rw [← hsz]; exact hq)⟩
  have C : yCx D dT l p s m _ c method_20_code 4 (xA (M, n, 0)) := ⟨hx0, hb, hml, hown, hts, hl0, hK, hT, hN⟩
  have hl := xRl.entry (as := [.ref a0, .int p0, .ref ou]) (n := 4) (by intro v hv; simp at hv; rcases hv with rfl | rfl | rfl <;> rfl) (Nat.le_of_ble_eq_true rfl)
  generalize (lg_sl [.ref a0, .int p0, .ref ou] ++ List.replicate (4 - (lg_sl [.ref a0, .int p0, .ref ou]).length) Slot.unset).toArray = ls at hl ⊢
  have hl : xRl [some (.ref a0), some (.int p0), some (.ref ou), none] ls 4 := hl
  refine lv_aload_n hx0 hb d_u_count_0 rfl (hl.get rfl) ?_
  refine lv_iconst (v := 0) hx0 hb d_u_count_1 rfl ?_
  refine lv_aload_n hx0 hb d_u_count_2 rfl (hl.get rfl) ?_
  refine lv_iload_n hx0 hb d_u_count_3 rfl (hl.get rfl) ?_
  obtain ⟨hle, hrun⟩ := y_run (e := e) (below := below) (meth := meth) (R := (headSpec (Jvm.Cond.codeWith y_count method_20_code 4 (some .int) [(0, 9, 12, 24)] :: xTB) yRm).room) (cells := 0) (slots := 0) (ls := ls) (rest := [.int 0, .ref ou]) C hA o_L_count li_L_count in_L_count se_L_count hx (by intro v hv; simp at hv; rcases hv with rfl | rfl <;> rfl) rfl (Nat.le_of_ble_eq_true rfl) ha0 (by show 600 + 12 + 1 ≤ 613; omega) (by show 8 + (_ + 11) + (600 * 64 + 200) ≤ 38660; decide) hl.2.1 (Nat.le_of_ble_eq_true rfl) d_u_count_4 ⟨by show 0 + _ ≤ 90; omega, by show 0 + _ ≤ 800; omega⟩
  refine y_back hrun hA (fun v H1 locs1 ho hA1 => ?_) (fun E ce q9 H1 locs1 ho hA1 hn1 hce hcv hcl => ?_)
  · rcases hR with ⟨hc0, ⟨hv1, -⟩ | ⟨-, x, hv1, hv2⟩⟩ | ⟨E, hE, -⟩
    · cases hv1
    · cases ho.symm.trans hv1
      subst hc0
      refine lv_i2l (v := x.toInt64) hx0 hb d_u_count_7 rfl ?_
      refine y_last C hA1 (ho1.trans hou) d_u_count_8 (fun H2 locs2 g hg hA2 => ?_)
      refine lv_goto (tgt := 15) hx0 hb d_u_count_9 (by decide) ?_
      refine lv_iconst (v := 0) hx0 hb d_u_count_15 rfl ?_
      refine W.widen (k := 90) (n := 800) (by omega) (by omega) ?_
      exact vx_ret (W.iret hx0 hb hr (fun t ht _ => ⟨rfl, g, fun x9 hx9 => (by cases ho.symm.trans hx9; exact hg), by rw [ht, hA2.2.1]; exact hle, fun v hv => by rw [ht]; exact hA2.2.1, by rw [ht]; exact hA2.1, hA2.2.2.2.1, hA2.2.2.1.F ht⟩) hA2.2.2.1.2.2 d_u_count_16 hlocks)
    · cases ho.symm.trans hE
  · rcases hR with ⟨hc0, ⟨-, hv1, -⟩ | ⟨-, x, hv1, -⟩⟩ | ⟨E2, hE, hin, -⟩
    · cases ho.symm.trans hv1
    · cases ho.symm.trans hv1
    · cases ho.symm.trans hE
      simp only [List.mem_cons, Prod.mk.injEq, List.not_mem_nil, or_false] at hin
      obtain ⟨rfl, rfl⟩ := hin
      refine vx_catch (name := eB) hown [] ⟨0, 9, 12, 24⟩ [] htab (fun z hz => by cases hz) (by decide) (by decide) (hts _ w_link_eB) (va_Nw.use rfl (hT.2.2.1 _ w_cast_eB)) hce hcv hcl ?_
      refine lv_astore_n hx0 hb d_u_count_12 rfl hl.has (hl.lt (i := 3) (Nat.le_of_ble_eq_true rfl)) rfl (fun ls2 h2 => ?_)
      refine lv_iconst (v := 1) hx0 hb d_u_count_13 rfl ?_
      refine W.widen (k := 90) (n := 800) (by omega) (by omega) ?_
      exact vx_ret (W.iret hx0 hb hr (fun t ht _ => ⟨rfl, f, fun x hx9 => (by cases ho.symm.trans hx9), by rw [ht]; exact hn1, fun v hv => (by cases ho.symm.trans hv), by rw [ht, xset_id (ho1.trans hou)]; exact hA1.1, by rw [xset_id (ho1.trans hou)]; exact hA1.2.2.2.1, hA1.2.2.1.F ht⟩) hA1.2.2.1.2.2 d_u_count_14 hlocks)
