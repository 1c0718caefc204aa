/-! the law from its entry -/
section YN
variable {D : va_G} {dT : Nat → ClassId} {l : Launch} {p : Program} {e : Env} {R : Room} {s : State} {m : MethodId} {args : Array Value} {below : List Frame} {meth : Method} {c : Code} {cc : ByteArray} {nL : Nat} {A : Nat → Prop} {M : xMm} {n : Nat} {H : Heap} {locs : List Loc} {cells slots mc ms : Nat} {Q : State → Prop} {ls : Array Slot} {st0 rest : List Value} {pc k : Nat} {a : Array Value}
theorem yAt.new (hA : yAt D dT s A M n H locs) {H1 : Heap} {e9 : xE} (he : va_at D vwCl (H.size, xcv dT e9) H1) (z : H1.size = H.size + 1) (oq : ∀ q : Nat, q < H.size → H1[q]? = H[q]?) : yAt D dT s A (xset M n e9) (n + 1) H1 locs := by
  obtain ⟨h1, h2, h3, h4, h5⟩ := hA
  have hle : s.heap.size ≤ H.size := h3.1
  refine ⟨h1.set (by rw [← h2]; exact he) (fun q _ hq => oq q hq), by rw [z, h2], ⟨by omega, fun q a1 a2 => ?_, h3.2.2⟩, fun q hq => ?_, h5⟩
  · rw [oq q (by omega)]
    exact h3.2.1 q a1 a2
  · by_cases e1 : q = n
    · exact h5 q (by omega)
    · rw [xset_ne _ _ e1] at hq
      exact h4 q hq
theorem y_new {ci : Nat} {C0 : String} {T0 : u_T} {N0 : Nat} (C : yCx D dT l p s m args c cc nL A) (hA : yAt D dT s A M n H locs) (hc : vwCl[ci]? = some (C0, T0, N0)) (hlink : Jvm.Cond.classLink "LoanTermsLaw" k C0 ∈ xTB) (hd : decode cc pc = .ok (.new k, 3)) (hf : cells + 1 ≤ R.cells ∧ slots + (xdf ci).length ≤ R.slots) (hN : (xdf ci).length = N0)
    (kk : ∀ H1 : Heap, yAt D dT s A (xset M n (.inr (ci, xdf ci))) (n + 1) H1 locs → W p l e R s m args below meth c H1 locs (cells + 1) (slots + (xdf ci).length) Q (F0 m (pc + 3) ls (.ref n :: st0))) : W p l e R s m args below meth c H locs cells slots Q (F0 m pc ls st0) := by
  obtain ⟨hx, hb, hml, hown, hts, hl0, hK, hT, hNC⟩ := C
  obtain ⟨hP, hz, hS, hdom, hall⟩ := id hA
  obtain ⟨k1, k2, k3, k4, k5, k6, k7, k8⟩ := x_kd hc
  have hKn := hK.1 ci _ hc
  refine W.newcK hx hb hown (hts _ hlink) (hts _ k7) (hts _ k8) (g := F0 m pc ls st0) rfl hd (by show _ ≤ R.cells; exact hf.1) (by show _ ≤ R.slots; rw [← hN]; exact hf.2) hKn.2.1 rfl fun H1 kC hkC e1 z1 o1 => ?_
  rw [hz]
  exact W.cs rfl (by rw [hN]) (kk H1 (hA.new ⟨_, hc, (u_born (xft ci) hts k1 hKn hkC e1 k2).to k4⟩ z1 o1))
theorem y_ctor {z : xMt} {M1 : xMm} {n1 sl1 d b : Nat} (C : yCx D dT l p s m args c cc nL A) (hA : yAt D dT s A M n H locs) (hz : xOk z) (hnm : (xN z).name = "<init>") (hrt : xR z = none) (hlink : Jvm.Cond.methodLink "LoanTermsLaw" k (xN z) ∈ xTB) (hin : Jvm.Cond.instanceMethod (xN z) ∈ xTB) (hx : xCl d z [.ref b] (M, n, 0) (.inl none, (M1, n1, sl1))) (hlen : 0 = xnp z) (hlen2 : 1 ≤ xm z) (hfr : d + 12 + 1 ≤ R.frames) (hlo : 8 + (xm z + 11) + (d * 64 + 200) ≤ R.locals) (hls : ls.size = nL) (hw : xwt rest ≤ 8) (hd : decode cc pc = .ok (.invokespecial k, 3)) (hf : cells + (n1 - n) ≤ R.cells ∧ slots + sl1 ≤ R.slots)
    (kk : ∀ (H1 : Heap) (locs1 : List Loc), yAt D dT s A M1 n1 H1 locs1 → W p l e R s m args below meth c H1 locs1 (cells + (n1 - n)) (slots + sl1) Q (F0 m (pc + 3) ls rest)) :
    W p l e R s m args below meth c H locs cells slots Q (F0 m pc ls (.ref b :: rest)) := by
  obtain ⟨hx0, hb, hml, hown, hts, hl0, hK, hT, hN⟩ := id C
  obtain ⟨N, hrun⟩ := hx
  have hrec := hrun N (Nat.le_refl _)
  have hM := x_metI (x_met (D := D) (dT := dT) (σ := (M, n, 0)) (l := l) hl0 (x_sound hl0 N) hz hrec (by intro v hv; simp at hv; rw [hv]; rfl) hlen2)
  obtain ⟨-, hzn, -, -, hmh, hsig, hini, -⟩ := id hz
  have hcb : CallB R s args "LoanTermsLaw" k (xN z) (xC z) (xm z) none (xWs z) (xRm d (n1 - n) sl1) (n1 - n) sl1 (xnp z) :=
    callB_of (xnp z) hts (x_gin hz) (by unfold xWs; rw [hrt]) rfl rfl (hts _ hini) (hts _ hlink) ⟨hmh.1, hmh.2, hsig⟩ ⟨hfr, hlo⟩
  have hr := va_runI (p := p) (e := e) (below := below) (meth := meth) (H := H) (locs := locs) (cells := cells) (slots := slots) (g := F0 m pc ls (.ref b :: rest)) (b := b) (As := []) (rest := rest) (nL := nL) (Ts := xTB) ⟨hx0, hb, hml, hown, hts⟩ hM ⟨hcb, hnm, hts _ hin⟩ ⟨xPre.blind, fun U hU hW => y_pre C hA U hU hW⟩ rfl hlen hls rfl (by show 2 * 0 + xwt _ ≤ 8; omega) hd hf
  have hsub := yA_sub hA
  intro T hT9 X
  obtain ⟨v, st₀, t, T', L, h0, X', hL, e1, e2, ⟨⟨w, ho, hv⟩, hP, hz9, hdom, hF⟩, st⟩ := hr T hT9 X
  cases hv
  cases ho
  obtain ⟨k1, k2, k3⟩ := vx_keep h0 e1 hA.2.2.1 (fun q _ h => hsub q h) hsub hL hF
  obtain ⟨t2, a1, b1⟩ := kk T'.heap (locs ++ L) ⟨by rw [e1]; exact hP, by rw [e1]; exact hz9, k3, fun q hq => hsub q (hdom q hq), hA.2.2.2.2⟩ T' rfl X'
  exact ⟨t2, st t2 a1, b1⟩
theorem y_newJ (C : yCx D dT l p s m args c cc nL A) (hA : yAt D dT s A M n H locs) (hd : decode cc pc = .ok (.newarray .long, 2)) (hf : cells + 1 ≤ R.cells ∧ slots + 1 ≤ R.slots)
    (kk : ∀ H1 : Heap, yAt D dT s A (xset M n (.inl (7, 1, .inr (.inl fun _ => 0)))) (n + 1) H1 locs → W p l e R s m args below meth c H1 locs (cells + 1) (slots + 1) Q (F0 m (pc + 2) ls (.ref n :: rest))) : W p l e R s m args below meth c H locs cells slots Q (F0 m pc ls (.int 1 :: rest)) := by
  obtain ⟨hx, hb, hml, hown, hts, hl0, hK, hT, hN⟩ := id C
  obtain ⟨hP, hz, hS, hdom, hall⟩ := id hA
  refine va_newaK (atype := .long) (N := 1) hx hb (hts _ x_arr_long) (g := F0 m pc ls (.int 1 :: rest)) rfl hd rfl (by decide) rfl (by decide) hf.1 hf.2 hz fun H1 cA e1 z1 o1 hAr hNm => ?_
  have hcA : cA = dT 7 := Option.some.inj (hNm.symm.trans (hK.2 7 _ (xtys_at dT rfl)).2)
  subst hcA
  exact kk H1 (hA.new (by show H1[H.size]? = some (vp_cell _ _); rw [hz, e1]; rfl) (by rw [z1, hz]) (fun q hq => o1 q (by omega)))
end YN
theorem w_cl8 : Jvm.Cond.classLink "LoanTermsLaw" 8 "LoanTerms" ∈ xTB := x_at_in (i := 55) (by decide +kernel) rfl
theorem w_cl77 : Jvm.Cond.classLink "LoanTermsLaw" 77 "LoanTermsModel" ∈ xTB := x_at_in (i := 680) (by decide +kernel) rfl
set_option maxRecDepth 20000 in
/-- THE LAW, from its entry -/
theorem whole_start {p : Program} {e : Env} {s : State} {m : MethodId} {below : List Frame} {meth : Method} {c : Code} (l : Launch) (hl9 : l.stackTraces = false) {b L : Nat} {xs : Nat → Int32} (hL : L ≤ 2560) (C0 : lw_At p s m meth c b L xs) : W p l e room_1 s m #[Value.ref b] below meth c s.heap [] 0 0 (lw_Z below #[Value.ref b] s) (entryFrame m ([Value.ref b] : List Value).toArray 7) := by
  obtain ⟨hx0, hb, hr, hml, hown, hts, hX, hbl, hlocks, hgv⟩ := id C0
  obtain ⟨D, dT, hK⟩ := g_world hts
  have C : yCx D dT l p s m #[Value.ref b] c code 7 (fun q => s.heap.size ≤ q) := ⟨hx0, hb, hml, hown, fun w hw => hts w (List.mem_filter.mp hw).1, hl9, hK, g_th hgv hts, g_nc hgv⟩
  have hA : yAt D dT s (fun q => s.heap.size ≤ q) (fun _ => none) s.heap.size s.heap [] := ⟨fun a e h => (by cases h), rfl, va_S.rf, fun q hq => absurd rfl hq, fun q hq => hq⟩
  rw [lg_entry_eq]
  have hl := xRl.entry (as := [Value.ref b]) (n := 7) (by intro v hv; simp at hv; rw [hv]; rfl) (Nat.le_of_ble_eq_true rfl)
  generalize (lg_sl [Value.ref b] ++ List.replicate (7 - (lg_sl [Value.ref b]).length) Slot.unset).toArray = ls at hl ⊢
  have hl : xRl [some (.ref b), none, none, none, none, none, none] ls 7 := hl
  refine y_new (ci := 0) C hA rfl w_cl8 d_law_0 ⟨by show 0 + 1 ≤ 601024; omega, by show 0 + 9 ≤ 7293034; omega⟩ rfl (fun H1 hA1 => ?_)
  refine lv_dup hx0 hb d_law_3 rfl ?_
  obtain ⟨M1, hx1, K1, hf1⟩ := c_L_init (d := 599) (M := xset (fun _ => none) s.heap.size (.inr (0, xdf 0))) (n := s.heap.size + 1) (sl := 0) (a := s.heap.size) (by omega) (xset_self _ _ _)
  refine y_ctor C hA1 o_L_init rfl rfl li_L_init in_L_init hx1 rfl (Nat.le_of_ble_eq_true rfl) (by show 600 + 12 + 1 ≤ 2048; omega) (by show 8 + (_ + 11) + (600 * 64 + 200) ≤ 84000; decide) hl.2.1 (Nat.le_of_ble_eq_true rfl) d_law_4 ⟨by show 0 + 1 + _ ≤ 601024; omega, by show 0 + 9 + _ ≤ 7293034; omega⟩ (fun H2 locs2 hA2 => ?_)
  refine lv_astore_n hx0 hb d_law_7 rfl hl.has (hl.lt (i := 1) (Nat.le_of_ble_eq_true rfl)) rfl (fun ls2 h2 => ?_)
  have hl : xRl [some (.ref b), some (.ref s.heap.size), none, none, none, none, none] ls2 7 := hl.store (hl.lt (i := 1) (Nat.le_of_ble_eq_true rfl)) rfl h2
  refine y_new (ci := 8) C hA2 rfl w_cl77 d_law_8 ⟨by show 0 + 1 + _ + 1 ≤ 601024; omega, by show 0 + 9 + _ + 37 ≤ 7293034; omega⟩ rfl (fun H3 hA3 => ?_)
  refine lv_dup hx0 hb d_law_11 rfl ?_
  refine y_ctor C hA3 o_M_init rfl rfl li_M_init in_M_init (c_M_init (d := 600) (sl := 0) M1 (a := s.heap.size + 1 + 32) (n := s.heap.size + 1 + 32 + 1) (by omega)) rfl (Nat.le_of_ble_eq_true rfl) (by show 600 + 12 + 1 ≤ 2048; omega) (by show 8 + (_ + 11) + (600 * 64 + 200) ≤ 84000; decide) hl.2.1 (Nat.le_of_ble_eq_true rfl) d_law_12 ⟨by show 0 + 1 + _ + 1 + _ ≤ 601024; omega, by show 0 + 9 + _ + 37 + _ ≤ 7293034; omega⟩ (fun H4 locs4 hA4 => ?_)
  refine lv_astore_n hx0 hb d_law_15 rfl hl.has (hl.lt (i := 2) (Nat.le_of_ble_eq_true rfl)) rfl (fun ls3 h3 => ?_)
  have hl : xRl [some (.ref b), some (.ref s.heap.size), some (.ref (s.heap.size + 1 + 32)), none, none, none, none] ls3 7 := hl.store (hl.lt (i := 2) (Nat.le_of_ble_eq_true rfl)) rfl h3
  refine lv_iconst (v := 1) hx0 hb d_law_16 rfl ?_
  refine y_newJ C hA4 d_law_17 ⟨by show 0 + 1 + _ + 1 + _ + 1 ≤ 601024; omega, by show 0 + 9 + _ + 37 + _ + 1 ≤ 7293034; omega⟩ (fun H5 hA5 => ?_)
  refine lv_astore_n hx0 hb d_law_19 rfl hl.has (hl.lt (i := 3) (Nat.le_of_ble_eq_true rfl)) rfl (fun ls4 h4 => ?_)
  have hl : xRl [some (.ref b), some (.ref s.heap.size), some (.ref (s.heap.size + 1 + 32)), some (.ref (s.heap.size + 1 + 32 + 1 + 30)), none, none, none] ls4 7 := hl.store (hl.lt (i := 3) (Nat.le_of_ble_eq_true rfl)) rfl h4
  refine lv_iconst (v := 0) hx0 hb d_law_20 rfl ?_
  refine lv_istore hx0 hb d_law_21 hl.has (hl.lt (i := 4) (Nat.le_of_ble_eq_true rfl)) rfl (fun ls5 h5 => ?_)
  have hl : xRl [some (.ref b), some (.ref s.heap.size), some (.ref (s.heap.size + 1 + 32)), some (.ref (s.heap.size + 1 + 32 + 1 + 30)), some (.int (nI 0)), none, none] ls5 7 := hl.store (hl.lt (i := 4) (Nat.le_of_ble_eq_true rfl)) rfl h5
  refine law_loop C hX hbl hL hr hlocks s.heap.size (s.heap.size + 1 + 32) (s.heap.size + 1 + 32 + 1 + 30) 512 0 _ _ (fun _ => 0) H5 _ ls5 _ _ (by omega) (by omega) (by show 0 + 1 + _ + 1 + _ + 1 + 90 * 512 ≤ 601024; omega) (by show 0 + 9 + _ + 37 + _ + 1 + 800 * 512 ≤ 7293034; omega) (LI_0 (n := s.heap.size + 1) (by omega) K1 _) (xset_self _ _ _) hA5 hl
