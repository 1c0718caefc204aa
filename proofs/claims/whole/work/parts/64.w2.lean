/-! the law's own methods, over the machine -/
def NC (U : State) : Prop := va_Nc eA eS U ∧ va_Nc eB eS U ∧ va_Nc eS eA U ∧ va_Nc eB eA U ∧ va_Nc eS eB U ∧ va_Nc eA eB U
theorem NC.moved {u U : State} (hvm : u.vm.Alike U.vm) (h : NC u) : NC U := ⟨va_Nc.moved hvm h.1, va_Nc.moved hvm h.2.1, va_Nc.moved hvm h.2.2.1, va_Nc.moved hvm h.2.2.2.1, va_Nc.moved hvm h.2.2.2.2.1, va_Nc.moved hvm h.2.2.2.2.2⟩
def yPre (D : va_G) (dT : Nat → ClassId) (M : xMm) (n : Nat) (U : State) : Prop := xPre D dT (M, n, 0) U ∧ NC U
theorem yPre.blind {D : va_G} {dT : Nat → ClassId} {M : xMm} {n : Nat} {As : List Value} : FrameBlind (va_Pc As (yPre D dT M n)) := by
  intro a U g mk q
  obtain ⟨q0, ⟨q1, qP, qK, qT⟩, qN⟩ := q
  exact ⟨q0, ⟨q1, qP, va_K.moved (u := U) (U := U.calling g mk a) (Vm.Alike.refl U.vm) qK, xTh.same (u := U) rfl rfl qT⟩, NC.moved (u := U) (U := U.calling g mk a) (Vm.Alike.refl U.vm) qN⟩
def yAt (D : va_G) (dT : Nat → ClassId) (s : State) (A : Nat → Prop) (M : xMm) (n : Nat) (H : Heap) (locs : List Loc) : Prop := xHp D dT M H ∧ H.size = n ∧ va_S A s.heap H locs ∧ (∀ q : Nat, M q ≠ none → A q) ∧ (∀ q : Nat, s.heap.size ≤ q → A q)
def yCx (D : va_G) (dT : Nat → ClassId) (l : Launch) (p : Program) (s : State) (m : MethodId) (args : Array Value) (c : Code) (cc : ByteArray) (nL : Nat) (A : Nat → Prop) : Prop :=
  p.tables.exec = Jvm.exec ∧ c.code = cc ∧ c.maxLocals = nL ∧ s.vm.findClass "LoanTermsLaw" = some m.cls ∧ (∀ w ∈ xTB, w.before args s = true) ∧ l.stackTraces = false ∧ va_K D vwCl (xtys dT) s ∧ xTh A s ∧ NC s
def yQ (D : va_G) (dT : Nat → ClassId) (o : xO) (M1 : xMm) (n1 ou : Nat) (code9 : Int32) (M : xMm) (n : Nat) : Array Value → State → Outcome → State → Prop := fun _ st oc t => oc = .returned (some (.int code9)) ∧ ∃ (g : Nat → Int64), (∀ x : Int32, o = .inl (some (.int x)) → g 0 = x.toInt64) ∧ n ≤ t.heap.size ∧ (∀ v, o = .inl v → t.heap.size = n1) ∧ xHp D dT (xset M1 ou (.inl (7, 1, .inr (.inl g)))) t.heap ∧ (∀ q : Nat, xset M1 ou (.inl (7, 1, .inr (.inl g))) q ≠ none → xA (M, n, 0) q) ∧ va_F (xA (M, n, 0)) st t
def yRm : Room := { frames := 613, cells := 90, slots := 800, locals := 38660 }
section YS
variable {D : va_G} {dT : Nat → ClassId} {l : Launch} {p : Program} {e : Env} {R : Room} {s : State} {m : MethodId} {args : Array Value} {below : List Frame} {meth : Method} {c : Code} {cc : ByteArray} {nL : Nat} {A : Nat → Prop} {M : xMm} {n : Nat} {H : Heap} {locs : List Loc} {cells slots mc ms : Nat} {Q : State → Prop} {ls : Array Slot} {st0 rest : List Value} {pc k : Nat} {a : Array Value}
theorem yA_sub (hA : yAt D dT s A M n H locs) : ∀ q : Nat, xA (M, n, 0) q → A q := fun q h => h.elim (hA.2.2.2.1 q) (fun h => hA.2.2.2.2 q (Nat.le_trans (Nat.le_trans hA.2.2.1.1 (Nat.le_of_eq hA.2.1)) h))
theorem y_pre {As : List Value} (C : yCx D dT l p s m args c cc nL A) (hA : yAt D dT s A M n H locs) (U : State) (hU : U.heap = H) (hW : s.WarmedH U.vm) : va_Pc As (xPre D dT (M, n, 0)) As.toArray U := by
  obtain ⟨hx, hb, hml, hown, hts, hl0, hK, hT, hN⟩ := C
  exact ⟨rfl, by rw [hU]; exact hA.2.1, by rw [hU]; exact hA.1, va_K.moved hW.alike hK, hT.next hA.2.2.1 (yA_sub hA) hU hW⟩
theorem y_pre2 {As : List Value} (C : yCx D dT l p s m args c cc nL A) (hA : yAt D dT s A M n H locs) (U : State) (hU : U.heap = H) (hW : s.WarmedH U.vm) : va_Pc As (yPre D dT M n) As.toArray U := by
  obtain ⟨q0, q1⟩ := y_pre (As := As) C hA U hU hW
  exact ⟨q0, q1, NC.moved hW.alike C.2.2.2.2.2.2.2.2⟩
/-- a call that may throw -/
theorem y_run {z : xMt} {o1 : xO} {M1 : xMm} {n1 sl1 d b : Nat} {As fs : List Value} (C : yCx D dT l p s m args c cc nL A) (hA : yAt D dT s A M n H locs) (hz : xOk z) (hlink : Jvm.Cond.methodLink "LoanTermsLaw" k (xN z) ∈ xTB) (hin : Jvm.Cond.instanceMethod (xN z) ∈ xTB) (hsel : Jvm.Cond.selects (xN z).cls (xN z) (xN z) ∈ xTB) (hx : xCl d z (.ref b :: As) (M, n, 0) (o1, (M1, n1, sl1))) (hcat : ∀ v ∈ Value.ref b :: As, v.category = 1) (hlen : As.length = xnp z) (hlen2 : (Value.ref b :: As).length ≤ xm z) (hobj : M b = some (.inr (xo z, fs))) (hfr : d + 12 + 1 ≤ R.frames) (hlo : 8 + (xm z + 11) + (d * 64 + 200) ≤ R.locals) (hls : ls.size = nL) (hw : xwt rest ≤ 8) (hd : decode cc pc = .ok (.invokevirtual k, 3)) (hf : cells + (n1 - n) ≤ R.cells ∧ slots + sl1 ≤ R.slots) :
    n ≤ n1 ∧ vx_Run p l e R s m args below meth c H locs cells slots (n1 - n) sl1 (F0 m pc ls (As.reverse ++ .ref b :: rest)) rest (xQ D dT o1 (M1, n1, sl1) (M, n, 0) (Value.ref b :: As).toArray) (xX D dT o1 (M1, n1, sl1) (M, n, 0)) (xA (M, n, 0)) := by
  obtain ⟨hx0, hb, hml, hown, hts, hl0, hK, hT, hN⟩ := id C
  obtain ⟨hP, hsz, hS, hdom, hall⟩ := id hA
  obtain ⟨N, hrun⟩ := hx
  have hrec := hrun N (Nat.le_refl _)
  have hM := x_met (D := D) (dT := dT) (σ := (M, n, 0)) (l := l) hl0 (x_sound hl0 N) hz hrec hcat hlen2
  have hmono := ((x_sound (D := D) (dT := dT) hl0 N) _ _ _ _ _ _ _ _ hrec).1
  obtain ⟨-, hzn, -, -, hmh, hsig, hini, -⟩ := id hz
  have hcb : CallB R s args "LoanTermsLaw" k (xN z) (xC z) (xm z) (xR z) (xWs z) (xRm d (n1 - n) sl1) (n1 - n) sl1 (xnp z) :=
    callB_of (xnp z) hts (x_gin hz) rfl rfl rfl (hts _ hini) (hts _ hlink) ⟨hmh.1, hmh.2, hsig⟩ ⟨hfr, hlo⟩
  have hrecv : ∃ cellB : Cell, H[b]? = some cellB ∧ cellB.vm.isStatics = false ∧ s.vm.findClass (xN z).cls = some cellB.cls := by
    obtain ⟨r0, hr0, -⟩ := hP b _ hobj
    have := va_recv (q0 := 0) hK (hP.one hobj) hr0 rfl
    rw [hzn, x_cn hr0]
    exact this
  exact ⟨hmono.1, vx_runV (nL := nL) (Ts := xTB) (C := (xN z).cls) ⟨hx0, hb, hml, hown, hts⟩ hM ⟨hcb, hts _ hin, hts _ hsel⟩ ⟨xPre.blind, hrecv, fun U hU hW => y_pre C hA U hU hW⟩ rfl hlen hls rfl (by show 2 * 0 + xwt _ ≤ 8; omega) hd hf⟩
theorem y_back {o1 : xO} {M1 : xMm} {n1 sl1 : Nat} (hr : vx_Run p l e R s m args below meth c H locs cells slots mc ms (F0 m pc ls st0) rest (xQ D dT o1 (M1, n1, sl1) (M, n, 0) a) (xX D dT o1 (M1, n1, sl1) (M, n, 0)) (xA (M, n, 0))) (hA : yAt D dT s A M n H locs)
    (kk : ∀ (v : Option Value) (H1 : Heap) (locs1 : List Loc), o1 = .inl v → yAt D dT s A M1 n1 H1 locs1 → W p l e R s m args below meth c H1 locs1 (cells + mc) (slots + ms) Q (F0 m (pc + 3) ls (v.toList ++ rest)))
    (kx : ∀ (E : String) (ce : Cell) (q9 : Addr) (H1 : Heap) (locs1 : List Loc), o1 = .inr E → yAt D dT s A M1 H1.size H1 locs1 → n ≤ H1.size → H1[q9]? = some ce → ce.vm = .none → s.vm.findClass E = some ce.cls → vx_W p l e R s m args below meth c H1 locs1 (cells + mc) (slots + ms) Q (F0 m pc ls rest) q9) :
    W p l e R s m args below meth c H locs cells slots Q (F0 m pc ls st0) := by
  have hsub := yA_sub hA
  intro T hT X
  rcases hr T hT X with ⟨v, st₀, t, T', L, h0, X', hL, e1, e2, ⟨⟨w, ho, hv⟩, hP, hz, hdom, hF⟩, st⟩ | ⟨q, st₀, t, T', L, E, ce, h0, X', hL, e1, e2, ⟨ho, hP, hdom, hF⟩, hce, hcv, hcl, st⟩
  · cases hv
    obtain ⟨k1, k2, k3⟩ := vx_keep h0 e1 hA.2.2.1 (fun q _ h => hsub q h) hsub hL hF
    obtain ⟨t2, a1, b1⟩ := kk v T'.heap (locs ++ L) ho ⟨by rw [e1]; exact hP, by rw [e1]; exact hz, k3, fun q hq => hsub q (hdom q hq), hA.2.2.2.2⟩ T' rfl X'
    exact ⟨t2, st t2 a1, b1⟩
  · obtain ⟨k1, k2, k3⟩ := vx_keep h0 e1 hA.2.2.1 (fun q _ h => hsub q h) hsub hL hF
    obtain ⟨t2, a1, b1⟩ := kx E ce q T'.heap (locs ++ L) ho ⟨by rw [e1]; exact hP, rfl, k3, fun q hq => hsub q (hdom q hq), hA.2.2.2.2⟩ (by rw [← hA.2.1]; exact k1) (by rw [e1]; exact hce) hcv hcl T' rfl X'
    exact ⟨t2, st.trans a1, b1⟩
/-- a call of the reference: nothing is made -/
theorem y_callM {z : xMt} {v : Option Value} {M1 : xMm} {d b : Nat} {As fs : List Value} (C : yCx D dT l p s m args c cc nL A) (hA : yAt D dT s A M n H locs) (hz : xOk z) (hlink : Jvm.Cond.methodLink "LoanTermsLaw" k (xN z) ∈ xTB) (hin : Jvm.Cond.instanceMethod (xN z) ∈ xTB) (hsel : Jvm.Cond.selects (xN z).cls (xN z) (xN z) ∈ xTB) (hx : xCl d z (.ref b :: As) (M, n, 0) (.inl v, (M1, n, 0))) (hcat : ∀ v ∈ Value.ref b :: As, v.category = 1) (hlen : As.length = xnp z) (hlen2 : (Value.ref b :: As).length ≤ xm z) (hobj : M b = some (.inr (xo z, fs))) (hfr : d + 12 + 1 ≤ R.frames) (hlo : 8 + (xm z + 11) + (d * 64 + 200) ≤ R.locals) (hls : ls.size = nL) (hw : xwt rest ≤ 8) (hd : decode cc pc = .ok (.invokevirtual k, 3)) (hf : cells ≤ R.cells ∧ slots ≤ R.slots)
    (hst : st0 = As.reverse ++ .ref b :: rest) (kk : ∀ (H1 : Heap) (locs1 : List Loc), yAt D dT s A M1 n H1 locs1 → W p l e R s m args below meth c H1 locs1 cells slots Q (F0 m (pc + 3) ls (v.toList ++ rest))) :
    W p l e R s m args below meth c H locs cells slots Q (F0 m pc ls st0) := by
  subst hst
  refine y_back (y_run C hA hz hlink hin hsel hx hcat hlen hlen2 hobj hfr hlo hls hw hd ⟨by rw [Nat.sub_self]; exact hf.1, hf.2⟩).2 hA (fun v H1 locs1 ho hA1 => ?_) (fun E ce q9 H1 locs1 ho => by cases ho)
  cases ho
  exact W.cs (by rw [Nat.sub_self]; rfl) rfl (kk H1 locs1 hA1)
/-- a call of a method of the law -/
theorem y_help {y : MethodName} {bytes : ByteArray} {maxL np : Nat} {hh : List (Nat × Nat × Nat × Nat)} {o : xO} {M1 : xMm} {n1 ou : Nat} {code9 : Int32} {As : List Value} (C : yCx D dT l p s m args c cc nL A) (hA : yAt D dT s A M n H locs) (hM : vx_Met l y (Jvm.Cond.codeWith y bytes maxL (some .int) hh :: xTB) yRm (va_Pc As (yPre D dT M n)) (yQ D dT o M1 n1 ou code9 M n) (fun _ _ _ => False) 90 800 (xA (M, n, 0))) (hc : Jvm.Cond.codeWith y bytes maxL (some .int) hh ∈ xTB) (hlink : Jvm.Cond.methodLink "LoanTermsLaw" k y ∈ xTB) (hst9 : Jvm.Cond.static y ∈ xTB) (hini : Jvm.Cond.initialized y.cls ∈ xTB) (hy : y.cls ≠ "java/lang/invoke/MethodHandle" ∧ y.cls ≠ "java/lang/invoke/VarHandle" ∧ (parseMethodDescriptor y.desc).map (fun d => d.parameters.length) = some np) (hlen : As.length = np) (hfr : 614 ≤ R.frames) (hlo : 8 + (maxL + 11) + 38660 ≤ R.locals) (hls : ls.size = nL) (hw : xwt rest ≤ 8) (hd : decode cc pc = .ok (.invokestatic k, 3)) (hf : cells + 90 ≤ R.cells ∧ slots + 800 ≤ R.slots) (hst : st0 = As.reverse ++ rest)
    (kk : ∀ (H1 : Heap) (locs1 : List Loc) (g : Nat → Int64), (∀ x : Int32, o = .inl (some (.int x)) → g 0 = x.toInt64) → n ≤ H1.size → (∀ v, o = .inl v → H1.size = n1) → yAt D dT s A (xset M1 ou (.inl (7, 1, .inr (.inl g)))) H1.size H1 locs1 → W p l e R s m args below meth c H1 locs1 (cells + 90) (slots + 800) Q (F0 m (pc + 3) ls (.int code9 :: rest))) :
    W p l e R s m args below meth c H locs cells slots Q (F0 m pc ls st0) := by
  subst hst
  obtain ⟨hx0, hb, hml, hown, hts, hl0, hK, hT, hN⟩ := id C
  have hg : ∀ w ∈ (Jvm.Cond.codeWith y bytes maxL (some .int) hh :: xTB), w ∈ xTB := fun w hw => (List.mem_cons.mp hw).elim (fun e => by rw [e]; exact hc) id
  have hG : GoodIn xTB (va_wsS "LoanTermsLaw" k y (Jvm.Cond.codeWith y bytes maxL (some .int) hh :: xTB)) := fun w hw => by
    unfold va_wsS at hw
    have : w ∈ xTB := by
      rcases List.mem_append.mp hw with h | h
      · rcases List.mem_cons.mp h with rfl | h
        · exact hlink
        · rcases List.mem_cons.mp h with rfl | h
          · exact hst9
          · rcases List.mem_cons.mp h with rfl | h
            · exact hini
            · cases h
      · exact hg w h
    exact ⟨this, good_of_word (List.mem_filter.mp this).2⟩
  have hr := vx_runSX (p := p) (e := e) (below := below) (meth := meth) (H := H) (locs := locs) (cells := cells) (slots := slots) (g := F0 m pc ls (As.reverse ++ rest)) (nL := nL) (Ts := xTB) (rest := rest) ⟨hx0, hb, hml, hown, hts⟩ hM (vx_cwSW np hts hG rfl rfl rfl hy ⟨hfr, hlo⟩) ⟨yPre.blind, fun U hU hW => y_pre2 C hA U hU hW⟩ rfl hlen hls rfl (by show 2 * 0 + xwt _ ≤ 8; omega) hd hf
  have hsub := yA_sub hA
  intro T hT X
  rcases hr T hT X with ⟨v, st₀, t, T', L, h0, X', hL, e1, e2, ⟨hv, g, hg1, hn1, hn2, hP, hdom, hF⟩, st⟩ | ⟨q, st₀, t, T', L, E, ce, h0, X', hL, e1, e2, hF, -⟩
  · cases hv
    obtain ⟨k1, k2, k3⟩ := vx_keep h0 e1 hA.2.2.1 (fun q _ h => hsub q h) hsub hL hF
    obtain ⟨t2, a1, b1⟩ := kk T'.heap (locs ++ L) g hg1 (by rw [e1]; exact hn1) (fun v hv => by rw [e1]; exact hn2 v hv) ⟨by rw [e1]; exact hP, rfl, k3, fun q hq => hsub q (hdom q hq), hA.2.2.2.2⟩ T' rfl X'
    exact ⟨t2, st t2 a1, b1⟩
  · exact hF.elim
theorem y_last {ou : Nat} {f : Nat → Int64} {x : Int64} (C : yCx D dT l p s m args c cc nL A) (hA : yAt D dT s A M n H locs) (h : M ou = some (.inl (7, 1, .inr (.inl f)))) (hd : decode cc pc = .ok (.lastore, 1)) (kk : ∀ (H1 : Heap) (locs1 : List Loc) (g : Nat → Int64), g 0 = x → yAt D dT s A (xset M ou (.inl (7, 1, .inr (.inl g)))) n H1 locs1 → W p l e R s m args below meth c H1 locs1 cells slots Q (F0 m (pc + 1) ls rest)) : W p l e R s m args below meth c H locs cells slots Q (F0 m pc ls (.long x :: .int 0 :: .ref ou :: rest)) := by
  obtain ⟨hx, hb, hml, hown, hts, hl0, hK, hT, hN⟩ := C
  obtain ⟨hP, hsz, hS, hdom, hall⟩ := id hA
  have hcell : H[ou]? = some (vp_cell (dT 7) (1, .inr (.inl f))) := hP ou _ h
  refine W.last hx hb hcell ((hK.2 7 _ (xtys_at dT rfl)).1 1 (fun j => .long (f j))) (fun q => by cases q) (by show ¬ ((0 : Int32) < 0 ∨ (arrV _ _ _).slots.size ≤ _); rw [arrV_size]; show ¬ ((0 : Int32) < 0 ∨ 1 ≤ (0 : Int32).toNatClampNeg); decide) rfl rfl hd fun H1 e1 z oq => ?_
  refine kk H1 _ (vp_updL f 0 x) (by simp [vp_updL]) ⟨hP.set ?_ (fun q hq _ => oq q hq), z.trans hsz, hS.put z oq (hdom ou (by rw [h]; simp)), fun q hq => ?_, hall⟩
  · show H1[ou]? = some (vp_cell _ _)
    rw [e1]
    rw [vp_cell_l, vp_cell_l, arrV_store]
    congr 2
    funext q
    by_cases hq : q = (0 : Int32).toNatClampNeg
    · subst hq
      simp [updV, vp_updL]
    · have : q ≠ 0 := hq
      simp [updV, vp_updL, this]
  · by_cases e2 : q = ou
    · exact hdom q (by rw [e2, h]; simp)
    · rw [xset_ne _ _ e2] at hq
      exact hdom q hq
theorem y_lald {ou : Nat} {f : Nat → Int64} (C : yCx D dT l p s m args c cc nL A) (hA : yAt D dT s A M n H locs) (h : M ou = some (.inl (7, 1, .inr (.inl f)))) (hd : decode cc pc = .ok (.laload, 1)) (kk : W p l e R s m args below meth c H locs cells slots Q (F0 m (pc + 1) ls (.long (f 0) :: rest))) : W p l e R s m args below meth c H locs cells slots Q (F0 m pc ls (.int 0 :: .ref ou :: rest)) := by
  obtain ⟨hx, hb, hml, hown, hts, hl0, hK, hT, hN⟩ := C
  exact va_lald (ws := [(ou, .inl (dT 7, 1, .inr (.inl f)))]) (t0 := 7) (q0 := 0) hx hb hK (hA.1.one h) rfl (xtys_at dT rfl) (i := 0) (by show ¬ ((0 : Int32) < 0 ∨ 1 ≤ (0 : Int32).toNatClampNeg); decide) hd kk
end YS
