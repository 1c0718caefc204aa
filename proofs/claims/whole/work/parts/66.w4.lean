/-! contracts of the law's own methods -/
set_option maxRecDepth 20000 in
theorem h_unit {D : va_G} {dT : Nat → ClassId} {l : Launch} (hl0 : l.stackTraces = false) {M M1 : xMm} {n n1 sl1 a0 ou : Nat} (p0 : Int32) {o : xO} {bv : Option Value} {code9 : Int32} {f : Nat → Int64} {fs : List Value} (hou : M ou = some (.inl (7, 1, .inr (.inl f)))) (ha0 : M a0 = some (.inr (0, fs))) (hx : xCl 600 k_L_unit (.ref a0 :: [.int p0]) (M, n, 0) (o, (M1, n1, sl1))) (hn : n1 ≤ n + 90 ∧ sl1 ≤ 0 + 800) (ho1 : M1 ou = M ou) (hR : RES false [(eS, 1), (eA, 2)] o bv code9) : vx_Met l y_unit (Jvm.Cond.codeWith y_unit method_3_code 4 (some .int) [(0, 9, 12, 13), (0, 9, 15, 15)] :: xTB) yRm (va_Pc [.ref a0, .int p0, .ref ou] (yPre D dT M n)) (yQ D dT o M1 n1 ou code9 M n) (fun _ _ _ => False) 90 800 (xA (M, n, 0)) := by
  refine vx_ofWH (cc := method_3_code) (maxL := 4) (ret := some .int) (hh := [(0, 9, 12, 13), (0, 9, 15, 15)]) (by decide) rfl ?_
  intro p e s m args below meth c s₁ B hml hv
  obtain ⟨rfl, ⟨hsz, hP, hK, hT⟩, hN⟩ := hv
  rw [lg_entry_eq]
  have hts0 := atoms_spec (ws := Jvm.Cond.codeWith y_unit method_3_code 4 (some .int) [(0, 9, 12, 13), (0, 9, 15, 15)] :: xTB) B.pre
  have hts : ∀ w ∈ xTB, w.before _ s = true := fun w hw => hts0 w (List.mem_cons_of_mem _ hw)
  have htab := vx_table B (hts0 _ List.mem_cons_self)
  have hx0 := B.exec
  have hb := B.bytes
  have hr := B.returns
  have hlocks := B.notSynchronized
  have hown : s.vm.findClass "LoanTermsLaw" = some m.cls := findClass_of_methodNamed B.named
  have hA : yAt D dT s (xA (M, n, 0)) M n s.heap [] := ⟨hP, hsz, va_S.rf, fun q hq => Or.inl hq, fun q hq => Or.inr (by rw [← hsz]; exact hq)⟩
  have C : yCx D dT l p s m _ c method_3_code 4 (xA (M, n, 0)) := ⟨hx0, hb, hml, hown, hts, hl0, hK, hT, hN⟩
  have hl := xRl.entry (as := [.ref a0, .int p0, .ref ou]) (n := 4) (by intro v hv; simp at hv; rcases hv with rfl | rfl | rfl <;> rfl) (by decide)
  generalize (lg_sl [.ref a0, .int p0, .ref ou] ++ List.replicate (4 - (lg_sl [.ref a0, .int p0, .ref ou]).length) Slot.unset).toArray = ls at hl ⊢
  have hl : xRl [some (.ref a0), some (.int p0), some (.ref ou), none] ls 4 := hl
  refine lv_aload_n hx0 hb d_u_unit_0 rfl (hl.get rfl) ?_
  refine lv_iconst (v := 0) hx0 hb d_u_unit_1 rfl ?_
  refine lv_aload_n hx0 hb d_u_unit_2 rfl (hl.get rfl) ?_
  refine lv_iload_n hx0 hb d_u_unit_3 rfl (hl.get rfl) ?_
  obtain ⟨hle, hrun⟩ := y_run (e := e) (below := below) (meth := meth) (R := (headSpec (Jvm.Cond.codeWith y_unit method_3_code 4 (some .int) [(0, 9, 12, 13), (0, 9, 15, 15)] :: xTB) yRm).room) (cells := 0) (slots := 0) (ls := ls) (rest := [.int 0, .ref ou]) C hA o_L_unit li_L_unit in_L_unit se_L_unit hx (by intro v hv; simp at hv; rcases hv with rfl | rfl <;> rfl) rfl (by decide) ha0 (by show 600 + 12 + 1 ≤ 613; omega) (by show 8 + (_ + 11) + (600 * 64 + 200) ≤ 38660; decide) hl.2.1 (by decide) d_u_unit_4 ⟨by show 0 + _ ≤ 90; omega, by show 0 + _ ≤ 800; omega⟩
  refine y_back hrun hA (fun v H1 locs1 ho hA1 => ?_) (fun E ce q9 H1 locs1 ho hA1 hn1 hce hcv hcl => ?_)
  · rcases hR with ⟨hc0, ⟨hv1, -⟩ | ⟨-, x, hv1, hv2⟩⟩ | ⟨E, hE, -⟩
    · cases hv1
    · cases ho.symm.trans hv1
      subst hc0
      refine lv_i2l (v := x.toInt64) hx0 hb d_u_unit_7 rfl ?_
      refine y_last C hA1 (ho1.trans hou) d_u_unit_8 (fun H2 locs2 g hg hA2 => ?_)
      refine lv_goto (tgt := 18) hx0 hb d_u_unit_9 (by decide) ?_
      refine lv_iconst (v := 0) hx0 hb d_u_unit_18 rfl ?_
      refine W.widen (k := 90) (n := 800) (by omega) (by omega) ?_
      exact vx_ret (W.iret hx0 hb hr (fun t ht _ => ⟨rfl, g, fun x9 hx9 => by cases ho.symm.trans hx9; exact hg, by rw [ht, hA2.2.1]; exact hle, fun v hv => by rw [ht]; exact hA2.2.1, by rw [ht]; exact hA2.1, hA2.2.2.2.1, hA2.2.2.1.F ht⟩) hA2.2.2.1.2.2 d_u_unit_19 hlocks)
    · cases ho.symm.trans hE
  · rcases hR with ⟨hc0, ⟨-, hv1, -⟩ | ⟨-, x, hv1, -⟩⟩ | ⟨E2, hE, hin, -⟩
    · cases ho.symm.trans hv1
    · cases ho.symm.trans hv1
    · cases ho.symm.trans hE
      simp only [List.mem_cons, Prod.mk.injEq, List.not_mem_nil, or_false] at hin
      rcases hin with ⟨rfl, rfl⟩ | ⟨rfl, rfl⟩
      · refine vx_catch (name := eS) hown [] ⟨0, 9, 12, 13⟩ [⟨0, 9, 15, 15⟩] htab (fun z hz => by cases hz) (by decide) (by decide) (hts _ w_link_eS) (va_Nw.use rfl (hT.2.2.1 _ w_cast_eS)) hce hcv hcl ?_
        refine lv_astore_n hx0 hb d_u_unit_12 rfl hl.has (hl.lt (i := 3) (by decide)) rfl (fun ls2 h2 => ?_)
        refine lv_iconst (v := 1) hx0 hb d_u_unit_13 rfl ?_
        refine W.widen (k := 90) (n := 800) (by omega) (by omega) ?_
        exact vx_ret (W.iret hx0 hb hr (fun t ht _ => ⟨rfl, f, fun x hx9 => by cases ho.symm.trans hx9, by rw [ht]; exact hn1, fun v hv => by cases ho.symm.trans hv, by rw [ht, xset_id (ho1.trans hou)]; exact hA1.1, by rw [xset_id (ho1.trans hou)]; exact hA1.2.2.2.1, hA1.2.2.1.F ht⟩) hA1.2.2.1.2.2 d_u_unit_14 hlocks)
      · refine vx_catch (name := eA) hown [⟨0, 9, 12, 13⟩] ⟨0, 9, 15, 15⟩ [] htab (fun z hz => by simp only [List.mem_cons, List.not_mem_nil, or_false] at hz; subst hz; exact Or.inr ⟨by decide, eS, hts _ w_link_eS, hN.1⟩) (by decide) (by decide) (hts _ w_link_eA) (va_Nw.use rfl (hT.2.2.1 _ w_cast_eA)) hce hcv hcl ?_
        refine lv_astore_n hx0 hb d_u_unit_15 rfl hl.has (hl.lt (i := 3) (by decide)) rfl (fun ls2 h2 => ?_)
        refine lv_iconst (v := 2) hx0 hb d_u_unit_16 rfl ?_
        refine W.widen (k := 90) (n := 800) (by omega) (by omega) ?_
        exact vx_ret (W.iret hx0 hb hr (fun t ht _ => ⟨rfl, f, fun x hx9 => by cases ho.symm.trans hx9, by rw [ht]; exact hn1, fun v hv => by cases ho.symm.trans hv, by rw [ht, xset_id (ho1.trans hou)]; exact hA1.1, by rw [xset_id (ho1.trans hou)]; exact hA1.2.2.2.1, hA1.2.2.1.F ht⟩) hA1.2.2.1.2.2 d_u_unit_17 hlocks)
