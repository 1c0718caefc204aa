/-! the law's loop, and its start -/
def R_law : String := "LoanTermsLaw"
def lw_P (b : Addr) (xs : List Int32) (args : Array Value) (s : State) : Prop := args = #[.ref b] ∧ s.IntsAt b xs ∧ xs.length ≤ 2560 ∧ (Jvm.Cond.and given_1 narrow_1).before args s = true
def lw_Q (_ : Array Value) (s : State) (o : Outcome) (t : State) : Prop := o = .returned (some (.int 1)) ∧ Framed s o t [] 601024 7293034
def lw_Z (below : List Frame) (a : Array Value) (s : State) : State → Prop := fun t => ∃ o, t.status = .running ∧ Ended t below o ∧ lw_Q a s o t
theorem lw_ret {p : Program} {l : Launch} {e : Env} {s : State} {m : MethodId} {below : List Frame} {meth : Method} {c : Code} {b : Nat} (hx : p.tables.exec = Jvm.exec) (hb : c.code = code) (hr : meth.sig.returnType = ret) (hlocks : meth.locks = false) {pc : Nat} {H : Heap} {ls : Array Slot} (hdg : decode code pc = .ok (.ireturn, 1)) : W p l e room_1 s m #[Value.ref b] below meth c H [] 601024 7293034 (lw_Z below #[Value.ref b] s) (F0 m pc ls [.int 1]) := by
  intro T hT X
  obtain ⟨fs, hret, hrun, hended, hW, hframe⟩ := X.leave (v := some (.int 1)) (hlocks := hlocks) (fun h => by rw [hr] at h; cases h)
  have hmeth' : T.vm.method? m = some meth := X.method'
  refine ⟨T.setFrames fs, ?_, .returned (some (.int 1)), hrun, hended, rfl, ⟨_, rfl⟩, hW, hframe⟩
  jvm_step X.here [X.here.top, hx, hb, hdg, hmeth', hr, ret, narrow_b1]
  (try refine ⟨rfl, ?_⟩); (try refine ⟨rfl, ?_⟩)
  first | (intro acts; rw [hret _ acts rfl rfl rfl]) | rw [hret _ _ rfl rfl rfl]
  exact Steps.refl _
def lw_At (p : Program) (s : State) (m : MethodId) (meth : Method) (c : Code) (b L : Nat) (xs : Nat → Int32) : Prop :=
  p.tables.exec = Jvm.exec ∧ c.code = code ∧ meth.sig.returnType = ret ∧ c.maxLocals = 7 ∧ s.vm.findClass R_law = some m.cls ∧ (∀ w ∈ lw_tbl, w.before #[Value.ref b] s = true) ∧ va_X b L xs s s.heap ∧ b < s.heap.size ∧ meth.locks = false ∧ (Jvm.Cond.and given_1 narrow_1).before #[Value.ref b] s = true
theorem sub5 {L i : Nat} (hL : L ≤ 2560) (hi : i ≤ 3000) (h : ¬ i + 5 ≤ L) : nI L - 5 < nI i := by
  by_cases h5 : 5 ≤ L
  · rw [show (5 : Int32) = nI 5 from rfl, pk_sub h5]
    exact nI_lt (by omega) (by omega)
  · have hp := nI_pos' (n := i) (by omega)
    have e : L = 0 ∨ L = 1 ∨ L = 2 ∨ L = 3 ∨ L = 4 := by omega
    rcases e with rfl | rfl | rfl | rfl | rfl
    · have : nI 0 - 5 = -5 := by decide
      rw [this]; grind
    · have : nI 1 - 5 = -4 := by decide
      rw [this]; grind
    · have : nI 2 - 5 = -3 := by decide
      rw [this]; grind
    · have : nI 3 - 5 = -2 := by decide
      rw [this]; grind
    · have : nI 4 - 5 = -1 := by decide
      rw [this]; grind
section LP
variable {D : va_G} {dT : Nat → ClassId} {l : Launch} {p : Program} {e : Env} {s : State} {m : MethodId} {below : List Frame} {meth : Method} {c : Code} {b L : Nat} {xs : Nat → Int32}
set_option maxRecDepth 20000 in
theorem law_out (C : yCx D dT l p s m #[Value.ref b] c code 7 (fun q => s.heap.size ≤ q)) (hr : meth.sig.returnType = ret) (hlocks : meth.locks = false) {M : xMm} {n : Nat} {H : Heap} {locs : List Loc} {ls : Array Slot} {cells slots : Nat} (hA : yAt D dT s (fun q => s.heap.size ≤ q) M n H locs) (hc : cells ≤ 601024) (hs : slots ≤ 7293034) : W p l e room_1 s m #[Value.ref b] below meth c H locs cells slots (lw_Z below #[Value.ref b] s) (F0 m 1369 ls []) := by
  obtain ⟨hx0, hb, hml, hown, hts, hl0, hK, hT, hN⟩ := id C
  refine lv_iconst (v := 1) hx0 hb d_law_1369 rfl ?_
  refine va_forget (fun q hq => hA.2.2.1.2.2 q hq) ?_
  refine W.widen (k := 601024) (n := 7293034) hc hs ?_
  exact lw_ret hx0 hb hr hlocks d_law_1370
set_option maxRecDepth 20000 in
theorem law_loop (C : yCx D dT l p s m #[Value.ref b] c code 7 (fun q => s.heap.size ≤ q)) (hX : va_X b L xs s s.heap) (hbl : b < s.heap.size) (hL : L ≤ 2560) (hr : meth.sig.returnType = ret) (hlocks : meth.locks = false) (a0 m0 ou : Nat) : ∀ (k i : Nat) (M : xMm) (n : Nat) (f : Nat → Int64) (H : Heap) (locs : List Loc) (ls : Array Slot) (cells slots : Nat), L ≤ i + 5 * k → i + 5 * k ≤ 2600 → cells + 90 * k ≤ 601024 → slots + 800 * k ≤ 7293034 → LI M n a0 m0 ou → M ou = some (.inl (7, 1, .inr (.inl f))) → yAt D dT s (fun q => s.heap.size ≤ q) M n H locs → lRl b a0 m0 ou i ls → W p l e room_1 s m #[Value.ref b] below meth c H locs cells slots (lw_Z below #[Value.ref b] s) (F0 m 23 ls []) := by
  obtain ⟨hx0, hb, hml, hown, hts, hl0, hK, hT, hN⟩ := id C
  have hbA : ¬ (fun q : Nat => s.heap.size ≤ q) b := Nat.not_le.mpr hbl
  intro k
  induction k with
  | zero =>
    intro i M n f H locs ls cells slots h1 h2 hc hs hLI hou hA hl
    have hl : xRl [some (.ref b), some (.ref a0), some (.ref m0), some (.ref ou), some (.int (nI i)), none, none] ls 7 := hl
    refine lv_iload hx0 hb d_law_23 (hl.get rfl) ?_
    refine lv_aload_n hx0 hb d_law_25 rfl (hl.get rfl) ?_
    refine va_slen hx0 hb hX hbl hbA hA.2.2.1 d_law_26 ?_
    refine lv_iconst (v := 5) hx0 hb d_law_27 rfl ?_
    refine lv_isub hx0 hb d_law_28 ?_
    refine lv_icmp_gt (tgt := 1369) hx0 hb d_law_29 (by decide) (fun _ => law_out C hr hlocks hA (by omega) (by omega)) (fun c1 => absurd (sub5 hL (by omega) (by omega)) c1)
  | succ k ih =>
    intro i M n f H locs ls cells slots h1 h2 hc hs hLI hou hA hl
    have hl0 := hl
    have hl : xRl [some (.ref b), some (.ref a0), some (.ref m0), some (.ref ou), some (.int (nI i)), none, none] ls 7 := hl
    refine lv_iload hx0 hb d_law_23 (hl.get rfl) ?_
    refine lv_aload_n hx0 hb d_law_25 rfl (hl.get rfl) ?_
    refine va_slen hx0 hb hX hbl hbA hA.2.2.1 d_law_26 ?_
    refine lv_iconst (v := 5) hx0 hb d_law_27 rfl ?_
    refine lv_isub hx0 hb d_law_28 ?_
    refine lv_icmp_gt (tgt := 1369) hx0 hb d_law_29 (by decide) (fun _ => law_out C hr hlocks hA (by omega) (by omega)) (fun c1 => ?_)
    have hi : i + 5 ≤ L := by
      by_cases g : i + 5 ≤ L
      · exact g
      · exact absurd (sub5 hL (by omega) g) c1
    refine lv_aload_n hx0 hb d_law_32 rfl (hl.get rfl) ?_
    refine lv_iload hx0 hb d_law_33 (hl.get rfl) ?_
    refine va_sld hx0 hb hX hbl hbA hA.2.2.1 (vp_in_nI (show i < L by omega) (by omega)) d_law_35 ?_
    refine lv_bipush (v := 31) hx0 hb d_law_36 rfl ?_
    refine lv_iand hx0 hb d_law_38 ?_
    have kk : ∀ (M2 : xMm) (n2 : Nat) (g : Nat → Int64) (H2 : Heap) (locs2 : List Loc) (ls2 : Array Slot), LI M2 n2 a0 m0 ou → M2 ou = some (.inl (7, 1, .inr (.inl g))) → yAt D dT s (fun q => s.heap.size ≤ q) M2 n2 H2 locs2 → lRl b a0 m0 ou i ls2 → W p l e room_1 s m #[Value.ref b] below meth c H2 locs2 (cells + 90) (slots + 800) (lw_Z below #[Value.ref b] s) (F0 m 1363 ls2 []) := by
      intro M2 n2 g H2 locs2 ls2 hLI2 hou2 hA2 hl2
      have hl2 : xRl [some (.ref b), some (.ref a0), some (.ref m0), some (.ref ou), some (.int (nI i)), none, none] ls2 7 := hl2
      refine lv_iinc (v := nI (i + 5)) hx0 hb d_law_1363 hl2.has (k := 4) rfl (nI_add i 5) (hl2.lt (i := 4) (Nat.le_of_ble_eq_true rfl)) rfl (fun ls3 h3 => ?_)
      refine lv_goto (tgt := 23) hx0 hb d_law_1366 (by decide) ?_
      exact ih (i + 5) M2 n2 g H2 locs2 ls3 (cells + 90) (slots + 800) (by omega) (by omega) (by omega) (by omega) hLI2 hou2 hA2 (hl2.store (hl2.lt (i := 4) (Nat.le_of_ble_eq_true rfl)) rfl h3)
    generalize hv : xs (nI i).toNatClampNeg &&& 31 = v
    by_cases hout : v.toInt < 0 ∨ 17 < v.toInt
    · refine lv_tableOut (tgt := 1363) hx0 hb d_law_39 hout (by decide) ?_
      refine W.widen (k := cells + 90) (n := slots + 800) (by omega) (by omega) ?_
      exact kk M n f H locs ls hLI hou hA hl0
    · have hin1 : ¬ v.toInt < 0 := fun q => hout (Or.inl q)
      have hin2 : ¬ 17 < v.toInt := fun q => hout (Or.inr q)
      have hcs : v.toInt = 0 ∨ v.toInt = 1 ∨ v.toInt = 2 ∨ v.toInt = 3 ∨ v.toInt = 4 ∨ v.toInt = 5 ∨ v.toInt = 6 ∨ v.toInt = 7 ∨ v.toInt = 8 ∨ v.toInt = 9 ∨ v.toInt = 10 ∨ v.toInt = 11 ∨ v.toInt = 12 ∨ v.toInt = 13 ∨ v.toInt = 14 ∨ v.toInt = 15 ∨ v.toInt = 16 ∨ v.toInt = 17 := by omega
      rcases hcs with ev | ev | ev | ev | ev | ev | ev | ev | ev | ev | ev | ev | ev | ev | ev | ev | ev | ev
      · refine lv_tableIn (tgt := 124) hx0 hb d_law_39 hin1 hin2 (off := 85) (by rw [ev]; rfl) (by decide) ?_
        exact k_unit C hX hbl hL M n a0 m0 ou i f H locs ls cells slots hLI hou hA hl0 hi (by omega) (by omega) kk
      · refine lv_tableIn (tgt := 180) hx0 hb d_law_39 hin1 hin2 (off := 141) (by rw [ev]; rfl) (by decide) ?_
        exact k_read C hX hbl hL M n a0 m0 ou i f H locs ls cells slots hLI hou hA hl0 hi (by omega) (by omega) kk
      · refine lv_tableIn (tgt := 224) hx0 hb d_law_39 hin1 hin2 (off := 185) (by rw [ev]; rfl) (by decide) ?_
        exact k_terms C hX hbl hL M n a0 m0 ou i f H locs ls cells slots hLI hou hA hl0 hi (by omega) (by omega) kk
      · refine lv_tableIn (tgt := 280) hx0 hb d_law_39 hin1 hin2 (off := 241) (by rw [ev]; rfl) (by decide) ?_
        exact k_written C hX hbl hL M n a0 m0 ou i f H locs ls cells slots hLI hou hA hl0 hi (by omega) (by omega) kk
      · refine lv_tableIn (tgt := 348) hx0 hb d_law_39 hin1 hin2 (off := 309) (by rw [ev]; rfl) (by decide) ?_
        exact k_input C hX hbl hL M n a0 m0 ou i f H locs ls cells slots hLI hou hA hl0 hi (by omega) (by omega) kk
      · refine lv_tableIn (tgt := 428) hx0 hb d_law_39 hin1 hin2 (off := 389) (by rw [ev]; rfl) (by decide) ?_
        exact k_fails C hX hbl hL M n a0 m0 ou i f H locs ls cells slots hLI hou hA hl0 hi (by omega) (by omega) kk
      · refine lv_tableIn (tgt := 488) hx0 hb d_law_39 hin1 hin2 (off := 449) (by rw [ev]; rfl) (by decide) ?_
        exact k_loan C hX hbl hL M n a0 m0 ou i f H locs ls cells slots hLI hou hA hl0 hi (by omega) (by omega) kk
      · refine lv_tableIn (tgt := 580) hx0 hb d_law_39 hin1 hin2 (off := 541) (by rw [ev]; rfl) (by decide) ?_
        exact k_shield C hX hbl hL M n a0 m0 ou i f H locs ls cells slots hLI hou hA hl0 hi (by omega) (by omega) kk
      · refine lv_tableIn (tgt := 671) hx0 hb d_law_39 hin1 hin2 (off := 632) (by rw [ev]; rfl) (by decide) ?_
        exact k_ask C hX hbl hL M n a0 m0 ou i f H locs ls cells slots hLI hou hA hl0 hi (by omega) (by omega) kk
      · refine lv_tableIn (tgt := 739) hx0 hb d_law_39 hin1 hin2 (off := 700) (by rw [ev]; rfl) (by decide) ?_
        exact k_open C hX hbl hL M n a0 m0 ou i f H locs ls cells slots hLI hou hA hl0 hi (by omega) (by omega) kk
      · refine lv_tableIn (tgt := 819) hx0 hb d_law_39 hin1 hin2 (off := 780) (by rw [ev]; rfl) (by decide) ?_
        exact k_told C hX hbl hL M n a0 m0 ou i f H locs ls cells slots hLI hou hA hl0 hi (by omega) (by omega) kk
      · refine lv_tableIn (tgt := 899) hx0 hb d_law_39 hin1 hin2 (off := 860) (by rw [ev]; rfl) (by decide) ?_
        exact k_extend C hX hbl hL M n a0 m0 ou i f H locs ls cells slots hLI hou hA hl0 hi (by omega) (by omega) kk
      · refine lv_tableIn (tgt := 979) hx0 hb d_law_39 hin1 hin2 (off := 940) (by rw [ev]; rfl) (by decide) ?_
        exact k_request C hX hbl hL M n a0 m0 ou i f H locs ls cells slots hLI hou hA hl0 hi (by omega) (by omega) kk
      · refine lv_tableIn (tgt := 1059) hx0 hb d_law_39 hin1 hin2 (off := 1020) (by rw [ev]; rfl) (by decide) ?_
        exact k_clash C hX hbl hL M n a0 m0 ou i f H locs ls cells slots hLI hou hA hl0 hi (by omega) (by omega) kk
      · refine lv_tableIn (tgt := 1127) hx0 hb d_law_39 hin1 hin2 (off := 1088) (by rw [ev]; rfl) (by decide) ?_
        exact k_days C hX hbl hL M n a0 m0 ou i f H locs ls cells slots hLI hou hA hl0 hi (by omega) (by omega) kk
      · refine lv_tableIn (tgt := 1183) hx0 hb d_law_39 hin1 hin2 (off := 1144) (by rw [ev]; rfl) (by decide) ?_
        exact k_fee C hX hbl hL M n a0 m0 ou i f H locs ls cells slots hLI hou hA hl0 hi (by omega) (by omega) kk
      · refine lv_tableIn (tgt := 1239) hx0 hb d_law_39 hin1 hin2 (off := 1200) (by rw [ev]; rfl) (by decide) ?_
        exact k_letter C hX hbl hL M n a0 m0 ou i f H locs ls cells slots hLI hou hA hl0 hi (by omega) (by omega) kk
      · refine lv_tableIn (tgt := 1307) hx0 hb d_law_39 hin1 hin2 (off := 1268) (by rw [ev]; rfl) (by decide) ?_
        exact k_count C hX hbl hL M n a0 m0 ou i f H locs ls cells slots hLI hou hA hl0 hi (by omega) (by omega) kk
end LP
