/-! The reader's answer is the machine's. -/
def xQ (D : va_G) (dT : Nat → ClassId) (o : xO) (σf σ0 : xS) : Array Value → State → Outcome → State → Prop := fun _ st oc t => (∃ v : Option Value, o = .inl v ∧ oc = .returned v) ∧ xHp D dT σf.1 t.heap ∧ t.heap.size = σf.2.1 ∧ (∀ q : Nat, σf.1 q ≠ none → xA σ0 q) ∧ va_F (xA σ0) st t
def xX (D : va_G) (dT : Nat → ClassId) (o : xO) (σf σ0 : xS) : String → State → State → Prop := fun E st t => o = .inr E ∧ xHp D dT σf.1 t.heap ∧ (∀ q : Nat, σf.1 q ≠ none → xA σ0 q) ∧ va_F (xA σ0) st t
def xRm (d mc ms : Nat) : Room := { frames := d + 12, cells := mc, slots := ms, locals := d * 64 + 200 }
/-- what a body stands on -/
def xCx (D : va_G) (dT : Nat → ClassId) (l : Launch) (p : Program) (s : State) (m : MethodId) (args : Array Value) (meth : Method) (c : Code) (y : xMt) (σ0 : xS) : Prop :=
  xOk y ∧ p.tables.exec = Jvm.exec ∧ c.code = xC y ∧ meth.sig.returnType = xR y ∧ c.maxLocals = xm y ∧ s.vm.findClass (xN y).cls = some m.cls ∧ (∀ w ∈ xTB, w.before args s = true) ∧ meth.name = (xN y).name ∧ meth.locks = false ∧ (∀ x ∈ c.exceptionTable.toList, False) ∧ l.stackTraces = false ∧ va_K D vwCl (xtys dT) s ∧ xTh (xA σ0) s
abbrev xWg (D : va_G) (dT : Nat → ClassId) (p : Program) (l : Launch) (e : Env) (s : State) (m : MethodId) (args : Array Value) (below : List Frame) (meth : Method) (c : Code) (σ0 : xS) (d : Nat) (o : xO) (σf σ : xS) (H : Heap) (locs : List Loc) (g : JFrame) : Prop :=
  W p l e (xRm d (σf.2.1 - σ0.2.1) (σf.2.2 - σ0.2.2)) s m args below meth c H locs (σ.2.1 - σ0.2.1) (σ.2.2 - σ0.2.2) (vx_MQ below (xQ D dT o σf σ0) (xX D dT o σf σ0) args s (σf.2.1 - σ0.2.1) (σf.2.2 - σ0.2.2) (xA σ0)) g
def xSd (D : va_G) (dT : Nat → ClassId) (l : Launch) (d : Nat) (y : xMt) (pc : Nat) (lo : xL) (st : List Value) (σ : xS) (o : xO) (σf : xS) : Prop :=
  ∀ (p : Program) (e : Env) (s : State) (m : MethodId) (args : Array Value) (below : List Frame) (meth : Method) (c : Code) (σ0 : xS), xCx D dT l p s m args meth c y σ0 → ∀ (H : Heap) (locs : List Loc) (ls : Array Slot), xAt D dT s σ0 σ H locs → xRl lo ls (xm y) → xWg D dT p l e s m args below meth c σ0 d o σf σ H locs (F0 m pc ls st)
def xMono (σ σf : xS) : Prop := σ.2.1 ≤ σf.2.1 ∧ σ.2.2 ≤ σf.2.2
def xClaim (D : va_G) (dT : Nat → ClassId) (l : Launch) (rec : xRun) : Prop :=
  ∀ (d : Nat) (y : xMt) (pc : Nat) (lo : xL) (st : List Value) (σ : xS) (o : xO) (σf : xS), rec d y pc lo st σ = some (o, σf) → xMono σ σf ∧ xSd D dT l d y pc lo st σ o σf
section XS
variable {D : va_G} {dT : Nat → ClassId} {l : Launch} {rec : xRun} {d : Nat} {y : xMt} {pc : Nat} {lo : xL} {st : List Value} {σ : xS} {o : xO} {σf : xS} {len : Nat}
theorem xs_aconst_null (ih : xClaim D dT l rec) (hd : decode (xC y) pc = .ok (.aconst_null, len)) (h : xl len 1 (rec d y (pc + 1) lo (.null :: st) σ) = some (o, σf)) : xMono σ σf ∧ xSd D dT l d y pc lo st σ o σf := by
  obtain ⟨rfl, h_1⟩ := xl_some h
  obtain ⟨hm, hs⟩ := ih _ _ _ _ _ _ _ _ h_1
  refine ⟨hm, ?_⟩
  intro p e s m args below meth c σ0 C H locs ls hA hl
  obtain ⟨hok, hx, hb, hr, hml, hown, hts, hnm, hlocks, htab, hl0, hK, hT⟩ := id C
  exact lv_null hx hb hd (hs p e s m args below meth c σ0 C H locs ls hA hl)
theorem xs_iconst {n : Int} (ih : xClaim D dT l rec) (hd : decode (xC y) pc = .ok (.iconst n, len)) (h : xl len 1 (rec d y (pc + 1) lo (.int (Int32.ofInt n) :: st) σ) = some (o, σf)) : xMono σ σf ∧ xSd D dT l d y pc lo st σ o σf := by
  obtain ⟨rfl, h_1⟩ := xl_some h
  obtain ⟨hm, hs⟩ := ih _ _ _ _ _ _ _ _ h_1
  refine ⟨hm, ?_⟩
  intro p e s m args below meth c σ0 C H locs ls hA hl
  obtain ⟨hok, hx, hb, hr, hml, hown, hts, hnm, hlocks, htab, hl0, hK, hT⟩ := id C
  exact lv_iconst hx hb hd rfl (hs p e s m args below meth c σ0 C H locs ls hA hl)
theorem xs_bipush {n : Int} (ih : xClaim D dT l rec) (hd : decode (xC y) pc = .ok (.bipush n, len)) (h : xl len 2 (rec d y (pc + 2) lo (.int (Int8.ofInt n).toInt32 :: st) σ) = some (o, σf)) : xMono σ σf ∧ xSd D dT l d y pc lo st σ o σf := by
  obtain ⟨rfl, h_1⟩ := xl_some h
  obtain ⟨hm, hs⟩ := ih _ _ _ _ _ _ _ _ h_1
  refine ⟨hm, ?_⟩
  intro p e s m args below meth c σ0 C H locs ls hA hl
  obtain ⟨hok, hx, hb, hr, hml, hown, hts, hnm, hlocks, htab, hl0, hK, hT⟩ := id C
  exact lv_bipush hx hb hd rfl (hs p e s m args below meth c σ0 C H locs ls hA hl)
theorem xs_sipush {n : Int} (ih : xClaim D dT l rec) (hd : decode (xC y) pc = .ok (.sipush n, len)) (h : xl len 3 (rec d y (pc + 3) lo (.int (Int16.ofInt n).toInt32 :: st) σ) = some (o, σf)) : xMono σ σf ∧ xSd D dT l d y pc lo st σ o σf := by
  obtain ⟨rfl, h_1⟩ := xl_some h
  obtain ⟨hm, hs⟩ := ih _ _ _ _ _ _ _ _ h_1
  refine ⟨hm, ?_⟩
  intro p e s m args below meth c σ0 C H locs ls hA hl
  obtain ⟨hok, hx, hb, hr, hml, hown, hts, hnm, hlocks, htab, hl0, hK, hT⟩ := id C
  exact lv_sipush hx hb hd rfl (hs p e s m args below meth c σ0 C H locs ls hA hl)
theorem xs_ldc {k : Nat} (ih : xClaim D dT l rec) (hd : decode (xC y) pc = .ok (.ldc k, len)) (h : xl len 2 (xq (xldc (xo y) k) fun v => rec d y (pc + 2) lo (.int v :: st) σ) = some (o, σf)) : xMono σ σf ∧ xSd D dT l d y pc lo st σ o σf := by
  obtain ⟨rfl, h_1⟩ := xl_some h
  obtain ⟨v, hv, h_2⟩ := xq_some h_1
  obtain ⟨hm, hs⟩ := ih _ _ _ _ _ _ _ _ h_2
  refine ⟨hm, ?_⟩
  intro p e s m args below meth c σ0 C H locs ls hA hl
  obtain ⟨hok, hx, hb, hr, hml, hown, hts, hnm, hlocks, htab, hl0, hK, hT⟩ := id C
  exact W.ldc hx hb hown (by rw [hok.2.1]; exact hts _ (x_ldc_ok hv)) (g := F0 m pc ls st) rfl hd (hs p e s m args below meth c σ0 C H locs ls hA hl)
theorem xs_ldc_w {k : Nat} (ih : xClaim D dT l rec) (hd : decode (xC y) pc = .ok (.ldc_w k, len)) (h : xl len 3 (xq (xldc (xo y) k) fun v => rec d y (pc + 3) lo (.int v :: st) σ) = some (o, σf)) : xMono σ σf ∧ xSd D dT l d y pc lo st σ o σf := by
  obtain ⟨rfl, h_1⟩ := xl_some h
  obtain ⟨v, hv, h_2⟩ := xq_some h_1
  obtain ⟨hm, hs⟩ := ih _ _ _ _ _ _ _ _ h_2
  refine ⟨hm, ?_⟩
  intro p e s m args below meth c σ0 C H locs ls hA hl
  obtain ⟨hok, hx, hb, hr, hml, hown, hts, hnm, hlocks, htab, hl0, hK, hT⟩ := id C
  exact lv_ldcw hx hb hown (by rw [hok.2.1]; exact hts _ (x_ldc_ok hv)) hd (hs p e s m args below meth c σ0 C H locs ls hA hl)
theorem xs_iload {k : Nat} (ih : xClaim D dT l rec) (hd : decode (xC y) pc = .ok (.iload k, len)) (h : xl len 2 (xli lo k fun x => rec d y (pc + 2) lo (.int x :: st) σ) = some (o, σf)) : xMono σ σf ∧ xSd D dT l d y pc lo st σ o σf := by
  obtain ⟨rfl, h_1⟩ := xl_some h
  obtain ⟨x, hv, h_2⟩ := xli_some h_1
  obtain ⟨hm, hs⟩ := ih _ _ _ _ _ _ _ _ h_2
  refine ⟨hm, ?_⟩
  intro p e s m args below meth c σ0 C H locs ls hA hl
  obtain ⟨hok, hx, hb, hr, hml, hown, hts, hnm, hlocks, htab, hl0, hK, hT⟩ := id C
  exact lv_iload hx hb hd (hl.get hv) (hs p e s m args below meth c σ0 C H locs ls hA hl)
theorem xs_iload_n {k : Fin 4} (ih : xClaim D dT l rec) (hd : decode (xC y) pc = .ok (.iload_n k, len)) (h : xl len 1 (xli lo k.val fun x => rec d y (pc + 1) lo (.int x :: st) σ) = some (o, σf)) : xMono σ σf ∧ xSd D dT l d y pc lo st σ o σf := by
  obtain ⟨rfl, h_1⟩ := xl_some h
  obtain ⟨x, hv, h_2⟩ := xli_some h_1
  obtain ⟨hm, hs⟩ := ih _ _ _ _ _ _ _ _ h_2
  refine ⟨hm, ?_⟩
  intro p e s m args below meth c σ0 C H locs ls hA hl
  obtain ⟨hok, hx, hb, hr, hml, hown, hts, hnm, hlocks, htab, hl0, hK, hT⟩ := id C
  exact lv_iload_n hx hb hd rfl (hl.get hv) (hs p e s m args below meth c σ0 C H locs ls hA hl)
theorem xs_aload {k : Nat} (ih : xClaim D dT l rec) (hd : decode (xC y) pc = .ok (.aload k, len)) (h : xl len 2 (xlq lo k fun v => rec d y (pc + 2) lo (v :: st) σ) = some (o, σf)) : xMono σ σf ∧ xSd D dT l d y pc lo st σ o σf := by
  obtain ⟨rfl, h_1⟩ := xl_some h
  rcases xlq_some h_1 with ⟨hv, h_2⟩ | ⟨a, hv, h_2⟩
  · obtain ⟨hm, hs⟩ := ih _ _ _ _ _ _ _ _ h_2
    refine ⟨hm, ?_⟩
    intro p e s m args below meth c σ0 C H locs ls hA hl
    obtain ⟨hok, hx, hb, hr, hml, hown, hts, hnm, hlocks, htab, hl0, hK, hT⟩ := id C
    exact lv_aloadN hx hb hd (hl.get hv) (hs p e s m args below meth c σ0 C H locs ls hA hl)
  · obtain ⟨hm, hs⟩ := ih _ _ _ _ _ _ _ _ h_2
    refine ⟨hm, ?_⟩
    intro p e s m args below meth c σ0 C H locs ls hA hl
    obtain ⟨hok, hx, hb, hr, hml, hown, hts, hnm, hlocks, htab, hl0, hK, hT⟩ := id C
    exact lv_aload hx hb hd (hl.get hv) (hs p e s m args below meth c σ0 C H locs ls hA hl)
theorem xs_aload_n {k : Fin 4} (ih : xClaim D dT l rec) (hd : decode (xC y) pc = .ok (.aload_n k, len)) (h : xl len 1 (xlq lo k.val fun v => rec d y (pc + 1) lo (v :: st) σ) = some (o, σf)) : xMono σ σf ∧ xSd D dT l d y pc lo st σ o σf := by
  obtain ⟨rfl, h_1⟩ := xl_some h
  rcases xlq_some h_1 with ⟨hv, h_2⟩ | ⟨a, hv, h_2⟩
  · obtain ⟨hm, hs⟩ := ih _ _ _ _ _ _ _ _ h_2
    refine ⟨hm, ?_⟩
    intro p e s m args below meth c σ0 C H locs ls hA hl
    obtain ⟨hok, hx, hb, hr, hml, hown, hts, hnm, hlocks, htab, hl0, hK, hT⟩ := id C
    exact lv_aload_nN hx hb hd rfl (hl.get hv) (hs p e s m args below meth c σ0 C H locs ls hA hl)
  · obtain ⟨hm, hs⟩ := ih _ _ _ _ _ _ _ _ h_2
    refine ⟨hm, ?_⟩
    intro p e s m args below meth c σ0 C H locs ls hA hl
    obtain ⟨hok, hx, hb, hr, hml, hown, hts, hnm, hlocks, htab, hl0, hK, hT⟩ := id C
    exact lv_aload_n hx hb hd rfl (hl.get hv) (hs p e s m args below meth c σ0 C H locs ls hA hl)
theorem xs_istore {k : Nat} (ih : xClaim D dT l rec) (hd : decode (xC y) pc = .ok (.istore k, len)) (h : xl len 2 (xp (k < lo.length) (xb1 st fun x r => rec d y (pc + 2) (lo.set k (some (.int x))) r σ)) = some (o, σf)) : xMono σ σf ∧ xSd D dT l d y pc lo st σ o σf := by
  obtain ⟨rfl, h_1⟩ := xl_some h
  obtain ⟨hi, h_2⟩ := xp_some h_1
  obtain ⟨x, r, rfl, h_3⟩ := xb1_some h_2
  obtain ⟨hm, hs⟩ := ih _ _ _ _ _ _ _ _ h_3
  refine ⟨hm, ?_⟩
  intro p e s m args below meth c σ0 C H locs ls hA hl
  obtain ⟨hok, hx, hb, hr, hml, hown, hts, hnm, hlocks, htab, hl0, hK, hT⟩ := id C
  exact lv_istore hx hb hd hl.has (hl.lt hi) rfl (fun ls2 h2 => hs p e s m args below meth c σ0 C H locs ls2 hA (hl.store (hl.lt hi) rfl h2))
theorem xs_istore_n {k : Fin 4} (ih : xClaim D dT l rec) (hd : decode (xC y) pc = .ok (.istore_n k, len)) (h : xl len 1 (xp (k.val < lo.length) (xb1 st fun x r => rec d y (pc + 1) (lo.set k.val (some (.int x))) r σ)) = some (o, σf)) : xMono σ σf ∧ xSd D dT l d y pc lo st σ o σf := by
  obtain ⟨rfl, h_1⟩ := xl_some h
  obtain ⟨hi, h_2⟩ := xp_some h_1
  obtain ⟨x, r, rfl, h_3⟩ := xb1_some h_2
  obtain ⟨hm, hs⟩ := ih _ _ _ _ _ _ _ _ h_3
  refine ⟨hm, ?_⟩
  intro p e s m args below meth c σ0 C H locs ls hA hl
  obtain ⟨hok, hx, hb, hr, hml, hown, hts, hnm, hlocks, htab, hl0, hK, hT⟩ := id C
  exact lv_istore_n hx hb hd rfl hl.has (hl.lt hi) rfl (fun ls2 h2 => hs p e s m args below meth c σ0 C H locs ls2 hA (hl.store (hl.lt hi) rfl h2))
theorem xs_astore {k : Nat} (ih : xClaim D dT l rec) (hd : decode (xC y) pc = .ok (.astore k, len)) (h : xl len 2 (xp (k < lo.length) (xbq st (fun r => rec d y (pc + 2) (lo.set k (some .null)) r σ) fun a r => rec d y (pc + 2) (lo.set k (some (.ref a))) r σ)) = some (o, σf)) : xMono σ σf ∧ xSd D dT l d y pc lo st σ o σf := by
  obtain ⟨rfl, h_1⟩ := xl_some h
  obtain ⟨hi, h_2⟩ := xp_some h_1
  rcases xbq_some h_2 with ⟨r, rfl, h_3⟩ | ⟨a, r, rfl, h_3⟩
  · obtain ⟨hm, hs⟩ := ih _ _ _ _ _ _ _ _ h_3
    refine ⟨hm, ?_⟩
    intro p e s m args below meth c σ0 C H locs ls hA hl
    obtain ⟨hok, hx, hb, hr, hml, hown, hts, hnm, hlocks, htab, hl0, hK, hT⟩ := id C
    exact lv_astoreN hx hb hd hl.has (hl.lt hi) rfl (fun ls2 h2 => hs p e s m args below meth c σ0 C H locs ls2 hA (hl.store (hl.lt hi) rfl h2))
  · obtain ⟨hm, hs⟩ := ih _ _ _ _ _ _ _ _ h_3
    refine ⟨hm, ?_⟩
    intro p e s m args below meth c σ0 C H locs ls hA hl
    obtain ⟨hok, hx, hb, hr, hml, hown, hts, hnm, hlocks, htab, hl0, hK, hT⟩ := id C
    exact lv_astore hx hb hd hl.has (hl.lt hi) rfl (fun ls2 h2 => hs p e s m args below meth c σ0 C H locs ls2 hA (hl.store (hl.lt hi) rfl h2))
theorem xs_astore_n {k : Fin 4} (ih : xClaim D dT l rec) (hd : decode (xC y) pc = .ok (.astore_n k, len)) (h : xl len 1 (xp (k.val < lo.length) (xbq st (fun r => rec d y (pc + 1) (lo.set k.val (some .null)) r σ) fun a r => rec d y (pc + 1) (lo.set k.val (some (.ref a))) r σ)) = some (o, σf)) : xMono σ σf ∧ xSd D dT l d y pc lo st σ o σf := by
  obtain ⟨rfl, h_1⟩ := xl_some h
  obtain ⟨hi, h_2⟩ := xp_some h_1
  rcases xbq_some h_2 with ⟨r, rfl, h_3⟩ | ⟨a, r, rfl, h_3⟩
  · obtain ⟨hm, hs⟩ := ih _ _ _ _ _ _ _ _ h_3
    refine ⟨hm, ?_⟩
    intro p e s m args below meth c σ0 C H locs ls hA hl
    obtain ⟨hok, hx, hb, hr, hml, hown, hts, hnm, hlocks, htab, hl0, hK, hT⟩ := id C
    exact lv_astore_nN hx hb hd rfl hl.has (hl.lt hi) rfl (fun ls2 h2 => hs p e s m args below meth c σ0 C H locs ls2 hA (hl.store (hl.lt hi) rfl h2))
  · obtain ⟨hm, hs⟩ := ih _ _ _ _ _ _ _ _ h_3
    refine ⟨hm, ?_⟩
    intro p e s m args below meth c σ0 C H locs ls hA hl
    obtain ⟨hok, hx, hb, hr, hml, hown, hts, hnm, hlocks, htab, hl0, hK, hT⟩ := id C
    exact lv_astore_n hx hb hd rfl hl.has (hl.lt hi) rfl (fun ls2 h2 => hs p e s m args below meth c σ0 C H locs ls2 hA (hl.store (hl.lt hi) rfl h2))
theorem xs_iinc {k : Nat} {n : Int} (ih : xClaim D dT l rec) (hd : decode (xC y) pc = .ok (.iinc k n, len)) (h : xl len 3 (xli lo k fun x => rec d y (pc + 3) (lo.set k (some (.int (x + Int32.ofInt n)))) st σ) = some (o, σf)) : xMono σ σf ∧ xSd D dT l d y pc lo st σ o σf := by
  obtain ⟨rfl, h_1⟩ := xl_some h
  obtain ⟨x, hv, h_2⟩ := xli_some h_1
  obtain ⟨hm, hs⟩ := ih _ _ _ _ _ _ _ _ h_2
  refine ⟨hm, ?_⟩
  intro p e s m args below meth c σ0 C H locs ls hA hl
  obtain ⟨hok, hx, hb, hr, hml, hown, hts, hnm, hlocks, htab, hl0, hK, hT⟩ := id C
  have hi : k < lo.length := (List.getElem?_eq_some_iff.mp hv).1
  obtain ⟨j, hj⟩ := List.getElem?_of_mem (xloL_in hv)
  exact lv_iinc (v := x + Int32.ofInt n) hx hb hd hl.has hj rfl (hl.lt hi) rfl (fun ls2 h2 => hs p e s m args below meth c σ0 C H locs ls2 hA (hl.store (hl.lt hi) rfl h2))
theorem xs_iadd (ih : xClaim D dT l rec) (hd : decode (xC y) pc = .ok (.iadd, len)) (h : xl len 1 (xb2 st fun a b r => rec d y (pc + 1) lo (.int (a + b) :: r) σ) = some (o, σf)) : xMono σ σf ∧ xSd D dT l d y pc lo st σ o σf := by
  obtain ⟨rfl, h_1⟩ := xl_some h
  obtain ⟨a, b, r, rfl, h_2⟩ := xb2_some h_1
  obtain ⟨hm, hs⟩ := ih _ _ _ _ _ _ _ _ h_2
  refine ⟨hm, ?_⟩
  intro p e s m args below meth c σ0 C H locs ls hA hl
  obtain ⟨hok, hx, hb, hr, hml, hown, hts, hnm, hlocks, htab, hl0, hK, hT⟩ := id C
  exact lv_iadd hx hb hd (hs p e s m args below meth c σ0 C H locs ls hA hl)
theorem xs_isub (ih : xClaim D dT l rec) (hd : decode (xC y) pc = .ok (.isub, len)) (h : xl len 1 (xb2 st fun a b r => rec d y (pc + 1) lo (.int (a - b) :: r) σ) = some (o, σf)) : xMono σ σf ∧ xSd D dT l d y pc lo st σ o σf := by
  obtain ⟨rfl, h_1⟩ := xl_some h
  obtain ⟨a, b, r, rfl, h_2⟩ := xb2_some h_1
  obtain ⟨hm, hs⟩ := ih _ _ _ _ _ _ _ _ h_2
  refine ⟨hm, ?_⟩
  intro p e s m args below meth c σ0 C H locs ls hA hl
  obtain ⟨hok, hx, hb, hr, hml, hown, hts, hnm, hlocks, htab, hl0, hK, hT⟩ := id C
  exact lv_isub hx hb hd (hs p e s m args below meth c σ0 C H locs ls hA hl)
theorem xs_imul (ih : xClaim D dT l rec) (hd : decode (xC y) pc = .ok (.imul, len)) (h : xl len 1 (xb2 st fun a b r => rec d y (pc + 1) lo (.int (a * b) :: r) σ) = some (o, σf)) : xMono σ σf ∧ xSd D dT l d y pc lo st σ o σf := by
  obtain ⟨rfl, h_1⟩ := xl_some h
  obtain ⟨a, b, r, rfl, h_2⟩ := xb2_some h_1
  obtain ⟨hm, hs⟩ := ih _ _ _ _ _ _ _ _ h_2
  refine ⟨hm, ?_⟩
  intro p e s m args below meth c σ0 C H locs ls hA hl
  obtain ⟨hok, hx, hb, hr, hml, hown, hts, hnm, hlocks, htab, hl0, hK, hT⟩ := id C
  exact lv_imul hx hb hd (hs p e s m args below meth c σ0 C H locs ls hA hl)
theorem xs_iand (ih : xClaim D dT l rec) (hd : decode (xC y) pc = .ok (.iand, len)) (h : xl len 1 (xb2 st fun a b r => rec d y (pc + 1) lo (.int (a &&& b) :: r) σ) = some (o, σf)) : xMono σ σf ∧ xSd D dT l d y pc lo st σ o σf := by
  obtain ⟨rfl, h_1⟩ := xl_some h
  obtain ⟨a, b, r, rfl, h_2⟩ := xb2_some h_1
  obtain ⟨hm, hs⟩ := ih _ _ _ _ _ _ _ _ h_2
  refine ⟨hm, ?_⟩
  intro p e s m args below meth c σ0 C H locs ls hA hl
  obtain ⟨hok, hx, hb, hr, hml, hown, hts, hnm, hlocks, htab, hl0, hK, hT⟩ := id C
  exact lv_iand hx hb hd (hs p e s m args below meth c σ0 C H locs ls hA hl)
theorem xs_idiv (ih : xClaim D dT l rec) (hd : decode (xC y) pc = .ok (.idiv, len)) (h : xl len 1 (xb2 st fun a b r => xp (¬ b = 0) (rec d y (pc + 1) lo (.int (a / b) :: r) σ)) = some (o, σf)) : xMono σ σf ∧ xSd D dT l d y pc lo st σ o σf := by
  obtain ⟨rfl, h_1⟩ := xl_some h
  obtain ⟨a, b, r, rfl, h_2⟩ := xb2_some h_1
  obtain ⟨h0, h_3⟩ := xp_some h_2
  obtain ⟨hm, hs⟩ := ih _ _ _ _ _ _ _ _ h_3
  refine ⟨hm, ?_⟩
  intro p e s m args below meth c σ0 C H locs ls hA hl
  obtain ⟨hok, hx, hb, hr, hml, hown, hts, hnm, hlocks, htab, hl0, hK, hT⟩ := id C
  exact lv_idiv hx hb hd h0 (hs p e s m args below meth c σ0 C H locs ls hA hl)
theorem xs_irem (ih : xClaim D dT l rec) (hd : decode (xC y) pc = .ok (.irem, len)) (h : xl len 1 (xb2 st fun a b r => xp (¬ b = 0) (rec d y (pc + 1) lo (.int (a - a / b * b) :: r) σ)) = some (o, σf)) : xMono σ σf ∧ xSd D dT l d y pc lo st σ o σf := by
  obtain ⟨rfl, h_1⟩ := xl_some h
  obtain ⟨a, b, r, rfl, h_2⟩ := xb2_some h_1
  obtain ⟨h0, h_3⟩ := xp_some h_2
  obtain ⟨hm, hs⟩ := ih _ _ _ _ _ _ _ _ h_3
  refine ⟨hm, ?_⟩
  intro p e s m args below meth c σ0 C H locs ls hA hl
  obtain ⟨hok, hx, hb, hr, hml, hown, hts, hnm, hlocks, htab, hl0, hK, hT⟩ := id C
  exact lv_irem hx hb hd h0 (hs p e s m args below meth c σ0 C H locs ls hA hl)
theorem xs_dup (ih : xClaim D dT l rec) (hd : decode (xC y) pc = .ok (.dup, len)) (h : xl len 1 (xbv st fun v r => xp (v.category = 1) (rec d y (pc + 1) lo (v :: v :: r) σ)) = some (o, σf)) : xMono σ σf ∧ xSd D dT l d y pc lo st σ o σf := by
  obtain ⟨rfl, h_1⟩ := xl_some h
  obtain ⟨v, r, rfl, h_2⟩ := xbv_some h_1
  obtain ⟨h0, h_3⟩ := xp_some h_2
  obtain ⟨hm, hs⟩ := ih _ _ _ _ _ _ _ _ h_3
  refine ⟨hm, ?_⟩
  intro p e s m args below meth c σ0 C H locs ls hA hl
  obtain ⟨hok, hx, hb, hr, hml, hown, hts, hnm, hlocks, htab, hl0, hK, hT⟩ := id C
  exact lv_dup hx hb hd h0 (hs p e s m args below meth c σ0 C H locs ls hA hl)
theorem xs_dup2 (ih : xClaim D dT l rec) (hd : decode (xC y) pc = .ok (.dup2, len)) (h : xl len 1 (xbv st fun v r => xbv r fun w q => xp (v.category = 1 ∧ w.category = 1) (rec d y (pc + 1) lo (v :: w :: v :: w :: q) σ)) = some (o, σf)) : xMono σ σf ∧ xSd D dT l d y pc lo st σ o σf := by
  obtain ⟨rfl, h_1⟩ := xl_some h
  obtain ⟨v, r, rfl, h_2⟩ := xbv_some h_1
  obtain ⟨w, q, rfl, h_3⟩ := xbv_some h_2
  obtain ⟨h0, h_4⟩ := xp_some h_3
  obtain ⟨hm, hs⟩ := ih _ _ _ _ _ _ _ _ h_4
  refine ⟨hm, ?_⟩
  intro p e s m args below meth c σ0 C H locs ls hA hl
  obtain ⟨hok, hx, hb, hr, hml, hown, hts, hnm, hlocks, htab, hl0, hK, hT⟩ := id C
  exact lv_dup2_11 hx hb hd h0.1 h0.2 (hs p e s m args below meth c σ0 C H locs ls hA hl)
theorem xs_goto {off : Int} (ih : xClaim D dT l rec) (hd : decode (xC y) pc = .ok (.goto off, len)) (h : xl len 3 (xjmp pc off fun t => rec d y t lo st σ) = some (o, σf)) : xMono σ σf ∧ xSd D dT l d y pc lo st σ o σf := by
  obtain ⟨rfl, h_1⟩ := xl_some h
  obtain ⟨t, ht, h_2⟩ := xjmp_some h_1
  obtain ⟨hm, hs⟩ := ih _ _ _ _ _ _ _ _ h_2
  refine ⟨hm, ?_⟩
  intro p e s m args below meth c σ0 C H locs ls hA hl
  obtain ⟨hok, hx, hb, hr, hml, hown, hts, hnm, hlocks, htab, hl0, hK, hT⟩ := id C
  exact lv_goto hx hb hd ht (hs p e s m args below meth c σ0 C H locs ls hA hl)
theorem xs_icmp_eq {off : Int} (ih : xClaim D dT l rec) (hd : decode (xC y) pc = .ok (.if_icmp .eq off, len)) (h : xl len 3 (xjmp pc off fun t => xb2 st fun a b r => xif .eq a b (rec d y t lo r σ) (rec d y (pc + 3) lo r σ)) = some (o, σf)) : xMono σ σf ∧ xSd D dT l d y pc lo st σ o σf := by
  obtain ⟨rfl, h_1⟩ := xl_some h
  obtain ⟨t, ht, h_2⟩ := xjmp_some h_1
  obtain ⟨a, b, r, rfl, h_3⟩ := xb2_some h_2
  by_cases hc : a = b
  · rw [show xif .eq a b (rec d y t lo r σ) (rec d y (pc + 3) lo r σ) = (rec d y t lo r σ) from if_pos hc] at h_3
    obtain ⟨hm, hs⟩ := ih _ _ _ _ _ _ _ _ h_3
    refine ⟨hm, ?_⟩
    intro p e s m args below meth c σ0 C H locs ls hA hl
    obtain ⟨hok, hx, hb, hr, hml, hown, hts, hnm, hlocks, htab, hl0, hK, hT⟩ := id C
    exact lv_icmp_eq (tgt := t) hx hb hd ht (fun _ => hs p e s m args below meth c σ0 C H locs ls hA hl) (fun q => absurd hc q)
  · rw [show xif .eq a b (rec d y t lo r σ) (rec d y (pc + 3) lo r σ) = (rec d y (pc + 3) lo r σ) from if_neg hc] at h_3
    obtain ⟨hm, hs⟩ := ih _ _ _ _ _ _ _ _ h_3
    refine ⟨hm, ?_⟩
    intro p e s m args below meth c σ0 C H locs ls hA hl
    obtain ⟨hok, hx, hb, hr, hml, hown, hts, hnm, hlocks, htab, hl0, hK, hT⟩ := id C
    exact lv_icmp_eq (tgt := t) hx hb hd ht (fun q => absurd q hc) (fun _ => hs p e s m args below meth c σ0 C H locs ls hA hl)
theorem xs_icmp_ne {off : Int} (ih : xClaim D dT l rec) (hd : decode (xC y) pc = .ok (.if_icmp .ne off, len)) (h : xl len 3 (xjmp pc off fun t => xb2 st fun a b r => xif .ne a b (rec d y t lo r σ) (rec d y (pc + 3) lo r σ)) = some (o, σf)) : xMono σ σf ∧ xSd D dT l d y pc lo st σ o σf := by
  obtain ⟨rfl, h_1⟩ := xl_some h
  obtain ⟨t, ht, h_2⟩ := xjmp_some h_1
  obtain ⟨a, b, r, rfl, h_3⟩ := xb2_some h_2
  by_cases hc : a = b
  · rw [show xif .ne a b (rec d y t lo r σ) (rec d y (pc + 3) lo r σ) = (rec d y (pc + 3) lo r σ) from if_pos hc] at h_3
    obtain ⟨hm, hs⟩ := ih _ _ _ _ _ _ _ _ h_3
    refine ⟨hm, ?_⟩
    intro p e s m args below meth c σ0 C H locs ls hA hl
    obtain ⟨hok, hx, hb, hr, hml, hown, hts, hnm, hlocks, htab, hl0, hK, hT⟩ := id C
    exact lv_icmp_ne (tgt := t) hx hb hd ht (fun q => absurd hc q) (fun _ => hs p e s m args below meth c σ0 C H locs ls hA hl)
  · rw [show xif .ne a b (rec d y t lo r σ) (rec d y (pc + 3) lo r σ) = (rec d y t lo r σ) from if_neg hc] at h_3
    obtain ⟨hm, hs⟩ := ih _ _ _ _ _ _ _ _ h_3
    refine ⟨hm, ?_⟩
    intro p e s m args below meth c σ0 C H locs ls hA hl
    obtain ⟨hok, hx, hb, hr, hml, hown, hts, hnm, hlocks, htab, hl0, hK, hT⟩ := id C
    exact lv_icmp_ne (tgt := t) hx hb hd ht (fun _ => hs p e s m args below meth c σ0 C H locs ls hA hl) (fun q => absurd q hc)
theorem xs_icmp_lt {off : Int} (ih : xClaim D dT l rec) (hd : decode (xC y) pc = .ok (.if_icmp .lt off, len)) (h : xl len 3 (xjmp pc off fun t => xb2 st fun a b r => xif .lt a b (rec d y t lo r σ) (rec d y (pc + 3) lo r σ)) = some (o, σf)) : xMono σ σf ∧ xSd D dT l d y pc lo st σ o σf := by
  obtain ⟨rfl, h_1⟩ := xl_some h
  obtain ⟨t, ht, h_2⟩ := xjmp_some h_1
  obtain ⟨a, b, r, rfl, h_3⟩ := xb2_some h_2
  by_cases hc : a < b
  · rw [show xif .lt a b (rec d y t lo r σ) (rec d y (pc + 3) lo r σ) = (rec d y t lo r σ) from if_pos hc] at h_3
    obtain ⟨hm, hs⟩ := ih _ _ _ _ _ _ _ _ h_3
    refine ⟨hm, ?_⟩
    intro p e s m args below meth c σ0 C H locs ls hA hl
    obtain ⟨hok, hx, hb, hr, hml, hown, hts, hnm, hlocks, htab, hl0, hK, hT⟩ := id C
    exact lv_icmp_lt (tgt := t) hx hb hd ht (fun _ => hs p e s m args below meth c σ0 C H locs ls hA hl) (fun q => absurd hc q)
  · rw [show xif .lt a b (rec d y t lo r σ) (rec d y (pc + 3) lo r σ) = (rec d y (pc + 3) lo r σ) from if_neg hc] at h_3
    obtain ⟨hm, hs⟩ := ih _ _ _ _ _ _ _ _ h_3
    refine ⟨hm, ?_⟩
    intro p e s m args below meth c σ0 C H locs ls hA hl
    obtain ⟨hok, hx, hb, hr, hml, hown, hts, hnm, hlocks, htab, hl0, hK, hT⟩ := id C
    exact lv_icmp_lt (tgt := t) hx hb hd ht (fun q => absurd q hc) (fun _ => hs p e s m args below meth c σ0 C H locs ls hA hl)
theorem xs_icmp_ge {off : Int} (ih : xClaim D dT l rec) (hd : decode (xC y) pc = .ok (.if_icmp .ge off, len)) (h : xl len 3 (xjmp pc off fun t => xb2 st fun a b r => xif .ge a b (rec d y t lo r σ) (rec d y (pc + 3) lo r σ)) = some (o, σf)) : xMono σ σf ∧ xSd D dT l d y pc lo st σ o σf := by
  obtain ⟨rfl, h_1⟩ := xl_some h
  obtain ⟨t, ht, h_2⟩ := xjmp_some h_1
  obtain ⟨a, b, r, rfl, h_3⟩ := xb2_some h_2
  by_cases hc : b ≤ a
  · rw [show xif .ge a b (rec d y t lo r σ) (rec d y (pc + 3) lo r σ) = (rec d y t lo r σ) from if_pos hc] at h_3
    obtain ⟨hm, hs⟩ := ih _ _ _ _ _ _ _ _ h_3
    refine ⟨hm, ?_⟩
    intro p e s m args below meth c σ0 C H locs ls hA hl
    obtain ⟨hok, hx, hb, hr, hml, hown, hts, hnm, hlocks, htab, hl0, hK, hT⟩ := id C
    exact lv_icmp_ge (tgt := t) hx hb hd ht (fun _ => hs p e s m args below meth c σ0 C H locs ls hA hl) (fun q => absurd hc q)
  · rw [show xif .ge a b (rec d y t lo r σ) (rec d y (pc + 3) lo r σ) = (rec d y (pc + 3) lo r σ) from if_neg hc] at h_3
    obtain ⟨hm, hs⟩ := ih _ _ _ _ _ _ _ _ h_3
    refine ⟨hm, ?_⟩
    intro p e s m args below meth c σ0 C H locs ls hA hl
    obtain ⟨hok, hx, hb, hr, hml, hown, hts, hnm, hlocks, htab, hl0, hK, hT⟩ := id C
    exact lv_icmp_ge (tgt := t) hx hb hd ht (fun q => absurd q hc) (fun _ => hs p e s m args below meth c σ0 C H locs ls hA hl)
theorem xs_icmp_gt {off : Int} (ih : xClaim D dT l rec) (hd : decode (xC y) pc = .ok (.if_icmp .gt off, len)) (h : xl len 3 (xjmp pc off fun t => xb2 st fun a b r => xif .gt a b (rec d y t lo r σ) (rec d y (pc + 3) lo r σ)) = some (o, σf)) : xMono σ σf ∧ xSd D dT l d y pc lo st σ o σf := by
  obtain ⟨rfl, h_1⟩ := xl_some h
  obtain ⟨t, ht, h_2⟩ := xjmp_some h_1
  obtain ⟨a, b, r, rfl, h_3⟩ := xb2_some h_2
  by_cases hc : b < a
  · rw [show xif .gt a b (rec d y t lo r σ) (rec d y (pc + 3) lo r σ) = (rec d y t lo r σ) from if_pos hc] at h_3
    obtain ⟨hm, hs⟩ := ih _ _ _ _ _ _ _ _ h_3
    refine ⟨hm, ?_⟩
    intro p e s m args below meth c σ0 C H locs ls hA hl
    obtain ⟨hok, hx, hb, hr, hml, hown, hts, hnm, hlocks, htab, hl0, hK, hT⟩ := id C
    exact lv_icmp_gt (tgt := t) hx hb hd ht (fun _ => hs p e s m args below meth c σ0 C H locs ls hA hl) (fun q => absurd hc q)
  · rw [show xif .gt a b (rec d y t lo r σ) (rec d y (pc + 3) lo r σ) = (rec d y (pc + 3) lo r σ) from if_neg hc] at h_3
    obtain ⟨hm, hs⟩ := ih _ _ _ _ _ _ _ _ h_3
    refine ⟨hm, ?_⟩
    intro p e s m args below meth c σ0 C H locs ls hA hl
    obtain ⟨hok, hx, hb, hr, hml, hown, hts, hnm, hlocks, htab, hl0, hK, hT⟩ := id C
    exact lv_icmp_gt (tgt := t) hx hb hd ht (fun q => absurd q hc) (fun _ => hs p e s m args below meth c σ0 C H locs ls hA hl)
theorem xs_icmp_le {off : Int} (ih : xClaim D dT l rec) (hd : decode (xC y) pc = .ok (.if_icmp .le off, len)) (h : xl len 3 (xjmp pc off fun t => xb2 st fun a b r => xif .le a b (rec d y t lo r σ) (rec d y (pc + 3) lo r σ)) = some (o, σf)) : xMono σ σf ∧ xSd D dT l d y pc lo st σ o σf := by
  obtain ⟨rfl, h_1⟩ := xl_some h
  obtain ⟨t, ht, h_2⟩ := xjmp_some h_1
  obtain ⟨a, b, r, rfl, h_3⟩ := xb2_some h_2
  by_cases hc : a ≤ b
  · rw [show xif .le a b (rec d y t lo r σ) (rec d y (pc + 3) lo r σ) = (rec d y t lo r σ) from if_pos hc] at h_3
    obtain ⟨hm, hs⟩ := ih _ _ _ _ _ _ _ _ h_3
    refine ⟨hm, ?_⟩
    intro p e s m args below meth c σ0 C H locs ls hA hl
    obtain ⟨hok, hx, hb, hr, hml, hown, hts, hnm, hlocks, htab, hl0, hK, hT⟩ := id C
    exact lv_icmp_le (tgt := t) hx hb hd ht (fun _ => hs p e s m args below meth c σ0 C H locs ls hA hl) (fun q => absurd hc q)
  · rw [show xif .le a b (rec d y t lo r σ) (rec d y (pc + 3) lo r σ) = (rec d y (pc + 3) lo r σ) from if_neg hc] at h_3
    obtain ⟨hm, hs⟩ := ih _ _ _ _ _ _ _ _ h_3
    refine ⟨hm, ?_⟩
    intro p e s m args below meth c σ0 C H locs ls hA hl
    obtain ⟨hok, hx, hb, hr, hml, hown, hts, hnm, hlocks, htab, hl0, hK, hT⟩ := id C
    exact lv_icmp_le (tgt := t) hx hb hd ht (fun q => absurd q hc) (fun _ => hs p e s m args below meth c σ0 C H locs ls hA hl)
theorem xs_if_eq {off : Int} (ih : xClaim D dT l rec) (hd : decode (xC y) pc = .ok (.ifCond .eq off, len)) (h : xl len 3 (xjmp pc off fun t => xb1 st fun a r => xif .eq a 0 (rec d y t lo r σ) (rec d y (pc + 3) lo r σ)) = some (o, σf)) : xMono σ σf ∧ xSd D dT l d y pc lo st σ o σf := by
  obtain ⟨rfl, h_1⟩ := xl_some h
  obtain ⟨t, ht, h_2⟩ := xjmp_some h_1
  obtain ⟨a, r, rfl, h_3⟩ := xb1_some h_2
  by_cases hc : a = 0
  · rw [show xif .eq a 0 (rec d y t lo r σ) (rec d y (pc + 3) lo r σ) = (rec d y t lo r σ) from if_pos hc] at h_3
    obtain ⟨hm, hs⟩ := ih _ _ _ _ _ _ _ _ h_3
    refine ⟨hm, ?_⟩
    intro p e s m args below meth c σ0 C H locs ls hA hl
    obtain ⟨hok, hx, hb, hr, hml, hown, hts, hnm, hlocks, htab, hl0, hK, hT⟩ := id C
    exact lv_if_eq (tgt := t) hx hb hd ht (fun _ => hs p e s m args below meth c σ0 C H locs ls hA hl) (fun q => absurd hc q)
  · rw [show xif .eq a 0 (rec d y t lo r σ) (rec d y (pc + 3) lo r σ) = (rec d y (pc + 3) lo r σ) from if_neg hc] at h_3
    obtain ⟨hm, hs⟩ := ih _ _ _ _ _ _ _ _ h_3
    refine ⟨hm, ?_⟩
    intro p e s m args below meth c σ0 C H locs ls hA hl
    obtain ⟨hok, hx, hb, hr, hml, hown, hts, hnm, hlocks, htab, hl0, hK, hT⟩ := id C
    exact lv_if_eq (tgt := t) hx hb hd ht (fun q => absurd q hc) (fun _ => hs p e s m args below meth c σ0 C H locs ls hA hl)
theorem xs_if_ne {off : Int} (ih : xClaim D dT l rec) (hd : decode (xC y) pc = .ok (.ifCond .ne off, len)) (h : xl len 3 (xjmp pc off fun t => xb1 st fun a r => xif .ne a 0 (rec d y t lo r σ) (rec d y (pc + 3) lo r σ)) = some (o, σf)) : xMono σ σf ∧ xSd D dT l d y pc lo st σ o σf := by
  obtain ⟨rfl, h_1⟩ := xl_some h
  obtain ⟨t, ht, h_2⟩ := xjmp_some h_1
  obtain ⟨a, r, rfl, h_3⟩ := xb1_some h_2
  by_cases hc : a = 0
  · rw [show xif .ne a 0 (rec d y t lo r σ) (rec d y (pc + 3) lo r σ) = (rec d y (pc + 3) lo r σ) from if_pos hc] at h_3
    obtain ⟨hm, hs⟩ := ih _ _ _ _ _ _ _ _ h_3
    refine ⟨hm, ?_⟩
    intro p e s m args below meth c σ0 C H locs ls hA hl
    obtain ⟨hok, hx, hb, hr, hml, hown, hts, hnm, hlocks, htab, hl0, hK, hT⟩ := id C
    exact lv_if_ne (tgt := t) hx hb hd ht (fun q => absurd hc q) (fun _ => hs p e s m args below meth c σ0 C H locs ls hA hl)
  · rw [show xif .ne a 0 (rec d y t lo r σ) (rec d y (pc + 3) lo r σ) = (rec d y t lo r σ) from if_neg hc] at h_3
    obtain ⟨hm, hs⟩ := ih _ _ _ _ _ _ _ _ h_3
    refine ⟨hm, ?_⟩
    intro p e s m args below meth c σ0 C H locs ls hA hl
    obtain ⟨hok, hx, hb, hr, hml, hown, hts, hnm, hlocks, htab, hl0, hK, hT⟩ := id C
    exact lv_if_ne (tgt := t) hx hb hd ht (fun _ => hs p e s m args below meth c σ0 C H locs ls hA hl) (fun q => absurd q hc)
theorem xs_if_lt {off : Int} (ih : xClaim D dT l rec) (hd : decode (xC y) pc = .ok (.ifCond .lt off, len)) (h : xl len 3 (xjmp pc off fun t => xb1 st fun a r => xif .lt a 0 (rec d y t lo r σ) (rec d y (pc + 3) lo r σ)) = some (o, σf)) : xMono σ σf ∧ xSd D dT l d y pc lo st σ o σf := by
  obtain ⟨rfl, h_1⟩ := xl_some h
  obtain ⟨t, ht, h_2⟩ := xjmp_some h_1
  obtain ⟨a, r, rfl, h_3⟩ := xb1_some h_2
  by_cases hc : a < 0
  · rw [show xif .lt a 0 (rec d y t lo r σ) (rec d y (pc + 3) lo r σ) = (rec d y t lo r σ) from if_pos hc] at h_3
    obtain ⟨hm, hs⟩ := ih _ _ _ _ _ _ _ _ h_3
    refine ⟨hm, ?_⟩
    intro p e s m args below meth c σ0 C H locs ls hA hl
    obtain ⟨hok, hx, hb, hr, hml, hown, hts, hnm, hlocks, htab, hl0, hK, hT⟩ := id C
    exact lv_if_lt (tgt := t) hx hb hd ht (fun _ => hs p e s m args below meth c σ0 C H locs ls hA hl) (fun q => absurd hc q)
  · rw [show xif .lt a 0 (rec d y t lo r σ) (rec d y (pc + 3) lo r σ) = (rec d y (pc + 3) lo r σ) from if_neg hc] at h_3
    obtain ⟨hm, hs⟩ := ih _ _ _ _ _ _ _ _ h_3
    refine ⟨hm, ?_⟩
    intro p e s m args below meth c σ0 C H locs ls hA hl
    obtain ⟨hok, hx, hb, hr, hml, hown, hts, hnm, hlocks, htab, hl0, hK, hT⟩ := id C
    exact lv_if_lt (tgt := t) hx hb hd ht (fun q => absurd q hc) (fun _ => hs p e s m args below meth c σ0 C H locs ls hA hl)
theorem xs_if_ge {off : Int} (ih : xClaim D dT l rec) (hd : decode (xC y) pc = .ok (.ifCond .ge off, len)) (h : xl len 3 (xjmp pc off fun t => xb1 st fun a r => xif .ge a 0 (rec d y t lo r σ) (rec d y (pc + 3) lo r σ)) = some (o, σf)) : xMono σ σf ∧ xSd D dT l d y pc lo st σ o σf := by
  obtain ⟨rfl, h_1⟩ := xl_some h
  obtain ⟨t, ht, h_2⟩ := xjmp_some h_1
  obtain ⟨a, r, rfl, h_3⟩ := xb1_some h_2
  by_cases hc : 0 ≤ a
  · rw [show xif .ge a 0 (rec d y t lo r σ) (rec d y (pc + 3) lo r σ) = (rec d y t lo r σ) from if_pos hc] at h_3
    obtain ⟨hm, hs⟩ := ih _ _ _ _ _ _ _ _ h_3
    refine ⟨hm, ?_⟩
    intro p e s m args below meth c σ0 C H locs ls hA hl
    obtain ⟨hok, hx, hb, hr, hml, hown, hts, hnm, hlocks, htab, hl0, hK, hT⟩ := id C
    exact lv_if_ge (tgt := t) hx hb hd ht (fun _ => hs p e s m args below meth c σ0 C H locs ls hA hl) (fun q => absurd hc q)
  · rw [show xif .ge a 0 (rec d y t lo r σ) (rec d y (pc + 3) lo r σ) = (rec d y (pc + 3) lo r σ) from if_neg hc] at h_3
    obtain ⟨hm, hs⟩ := ih _ _ _ _ _ _ _ _ h_3
    refine ⟨hm, ?_⟩
    intro p e s m args below meth c σ0 C H locs ls hA hl
    obtain ⟨hok, hx, hb, hr, hml, hown, hts, hnm, hlocks, htab, hl0, hK, hT⟩ := id C
    exact lv_if_ge (tgt := t) hx hb hd ht (fun q => absurd q hc) (fun _ => hs p e s m args below meth c σ0 C H locs ls hA hl)
theorem xs_if_gt {off : Int} (ih : xClaim D dT l rec) (hd : decode (xC y) pc = .ok (.ifCond .gt off, len)) (h : xl len 3 (xjmp pc off fun t => xb1 st fun a r => xif .gt a 0 (rec d y t lo r σ) (rec d y (pc + 3) lo r σ)) = some (o, σf)) : xMono σ σf ∧ xSd D dT l d y pc lo st σ o σf := by
  obtain ⟨rfl, h_1⟩ := xl_some h
  obtain ⟨t, ht, h_2⟩ := xjmp_some h_1
  obtain ⟨a, r, rfl, h_3⟩ := xb1_some h_2
  by_cases hc : 0 < a
  · rw [show xif .gt a 0 (rec d y t lo r σ) (rec d y (pc + 3) lo r σ) = (rec d y t lo r σ) from if_pos hc] at h_3
    obtain ⟨hm, hs⟩ := ih _ _ _ _ _ _ _ _ h_3
    refine ⟨hm, ?_⟩
    intro p e s m args below meth c σ0 C H locs ls hA hl
    obtain ⟨hok, hx, hb, hr, hml, hown, hts, hnm, hlocks, htab, hl0, hK, hT⟩ := id C
    exact lv_if_gt (tgt := t) hx hb hd ht (fun _ => hs p e s m args below meth c σ0 C H locs ls hA hl) (fun q => absurd hc q)
  · rw [show xif .gt a 0 (rec d y t lo r σ) (rec d y (pc + 3) lo r σ) = (rec d y (pc + 3) lo r σ) from if_neg hc] at h_3
    obtain ⟨hm, hs⟩ := ih _ _ _ _ _ _ _ _ h_3
    refine ⟨hm, ?_⟩
    intro p e s m args below meth c σ0 C H locs ls hA hl
    obtain ⟨hok, hx, hb, hr, hml, hown, hts, hnm, hlocks, htab, hl0, hK, hT⟩ := id C
    exact lv_if_gt (tgt := t) hx hb hd ht (fun q => absurd q hc) (fun _ => hs p e s m args below meth c σ0 C H locs ls hA hl)
theorem xs_if_le {off : Int} (ih : xClaim D dT l rec) (hd : decode (xC y) pc = .ok (.ifCond .le off, len)) (h : xl len 3 (xjmp pc off fun t => xb1 st fun a r => xif .le a 0 (rec d y t lo r σ) (rec d y (pc + 3) lo r σ)) = some (o, σf)) : xMono σ σf ∧ xSd D dT l d y pc lo st σ o σf := by
  obtain ⟨rfl, h_1⟩ := xl_some h
  obtain ⟨t, ht, h_2⟩ := xjmp_some h_1
  obtain ⟨a, r, rfl, h_3⟩ := xb1_some h_2
  by_cases hc : a ≤ 0
  · rw [show xif .le a 0 (rec d y t lo r σ) (rec d y (pc + 3) lo r σ) = (rec d y t lo r σ) from if_pos hc] at h_3
    obtain ⟨hm, hs⟩ := ih _ _ _ _ _ _ _ _ h_3
    refine ⟨hm, ?_⟩
    intro p e s m args below meth c σ0 C H locs ls hA hl
    obtain ⟨hok, hx, hb, hr, hml, hown, hts, hnm, hlocks, htab, hl0, hK, hT⟩ := id C
    exact lv_if_le (tgt := t) hx hb hd ht (fun _ => hs p e s m args below meth c σ0 C H locs ls hA hl) (fun q => absurd hc q)
  · rw [show xif .le a 0 (rec d y t lo r σ) (rec d y (pc + 3) lo r σ) = (rec d y (pc + 3) lo r σ) from if_neg hc] at h_3
    obtain ⟨hm, hs⟩ := ih _ _ _ _ _ _ _ _ h_3
    refine ⟨hm, ?_⟩
    intro p e s m args below meth c σ0 C H locs ls hA hl
    obtain ⟨hok, hx, hb, hr, hml, hown, hts, hnm, hlocks, htab, hl0, hK, hT⟩ := id C
    exact lv_if_le (tgt := t) hx hb hd ht (fun q => absurd q hc) (fun _ => hs p e s m args below meth c σ0 C H locs ls hA hl)
end XS
section XS2
variable {D : va_G} {dT : Nat → ClassId} {l : Launch} {rec : xRun} {d : Nat} {y : xMt} {pc : Nat} {lo : xL} {st : List Value} {σ : xS} {o : xO} {σf : xS} {len : Nat}
theorem xs_ifnull {off : Int} (ih : xClaim D dT l rec) (hd : decode (xC y) pc = .ok (.ifnull off, len)) (h : xl len 3 (xbq st (fun r => xjmp pc off fun t => rec d y t lo r σ) fun _ r => rec d y (pc + 3) lo r σ) = some (o, σf)) : xMono σ σf ∧ xSd D dT l d y pc lo st σ o σf := by
  obtain ⟨rfl, h_1⟩ := xl_some h
  rcases xbq_some h_1 with ⟨r, rfl, h_2⟩ | ⟨a, r, rfl, h_2⟩
  · obtain ⟨t, ht, h_3⟩ := xjmp_some h_2
    obtain ⟨hm, hs⟩ := ih _ _ _ _ _ _ _ _ h_3
    refine ⟨hm, ?_⟩
    intro p e s m args below meth c σ0 C H locs ls hA hl
    obtain ⟨hok, hx, hb, -⟩ := id C
    exact lv_ifnullN hx hb hd ht (hs p e s m args below meth c σ0 C H locs ls hA hl)
  · obtain ⟨hm, hs⟩ := ih _ _ _ _ _ _ _ _ h_2
    refine ⟨hm, ?_⟩
    intro p e s m args below meth c σ0 C H locs ls hA hl
    obtain ⟨hok, hx, hb, -⟩ := id C
    exact lv_ifnull hx hb hd (hs p e s m args below meth c σ0 C H locs ls hA hl)
theorem xs_ifnonnull {off : Int} (ih : xClaim D dT l rec) (hd : decode (xC y) pc = .ok (.ifnonnull off, len)) (h : xl len 3 (xbq st (fun r => rec d y (pc + 3) lo r σ) fun _ r => xjmp pc off fun t => rec d y t lo r σ) = some (o, σf)) : xMono σ σf ∧ xSd D dT l d y pc lo st σ o σf := by
  obtain ⟨rfl, h_1⟩ := xl_some h
  rcases xbq_some h_1 with ⟨r, rfl, h_2⟩ | ⟨a, r, rfl, h_2⟩
  · obtain ⟨hm, hs⟩ := ih _ _ _ _ _ _ _ _ h_2
    refine ⟨hm, ?_⟩
    intro p e s m args below meth c σ0 C H locs ls hA hl
    obtain ⟨hok, hx, hb, -⟩ := id C
    exact lv_ifnonnullN hx hb hd (hs p e s m args below meth c σ0 C H locs ls hA hl)
  · obtain ⟨t, ht, h_3⟩ := xjmp_some h_2
    obtain ⟨hm, hs⟩ := ih _ _ _ _ _ _ _ _ h_3
    refine ⟨hm, ?_⟩
    intro p e s m args below meth c σ0 C H locs ls hA hl
    obtain ⟨hok, hx, hb, -⟩ := id C
    exact lv_ifnonnull hx hb hd ht (hs p e s m args below meth c σ0 C H locs ls hA hl)
theorem xs_tableswitch {df lo0 hi0 : Int} {os : Array Int} (ih : xClaim D dT l rec) (hd : decode (xC y) pc = .ok (.tableswitch df lo0 hi0 os, len)) (h : (xb1 st fun a r => if a.toInt < lo0 ∨ hi0 < a.toInt then xjmp pc df fun t => rec d y t lo r σ else xq os[(a.toInt - lo0).toNat]? fun off => xjmp pc off fun t => rec d y t lo r σ) = some (o, σf)) : xMono σ σf ∧ xSd D dT l d y pc lo st σ o σf := by
  obtain ⟨a, r, rfl, h_1⟩ := xb1_some h
  split at h_1
  · rename_i hc
    obtain ⟨t, ht, h_2⟩ := xjmp_some h_1
    obtain ⟨hm, hs⟩ := ih _ _ _ _ _ _ _ _ h_2
    refine ⟨hm, ?_⟩
    intro p e s m args below meth c σ0 C H locs ls hA hl
    obtain ⟨hok, hx, hb, -⟩ := id C
    exact lv_tableOut hx hb hd hc ht (hs p e s m args below meth c σ0 C H locs ls hA hl)
  · rename_i hc
    obtain ⟨off, ho, h_3⟩ := xq_some h_1
    obtain ⟨t, ht, h_4⟩ := xjmp_some h_3
    obtain ⟨hm, hs⟩ := ih _ _ _ _ _ _ _ _ h_4
    refine ⟨hm, ?_⟩
    intro p e s m args below meth c σ0 C H locs ls hA hl
    obtain ⟨hok, hx, hb, -⟩ := id C
    exact lv_tableIn hx hb hd (fun q => hc (Or.inl q)) (fun q => hc (Or.inr q)) ho ht (hs p e s m args below meth c σ0 C H locs ls hA hl)
theorem xs_lookupswitch {df : Int} {ps : Array (Int × Int)} (ih : xClaim D dT l rec) (hd : decode (xC y) pc = .ok (.lookupswitch df ps, len)) (h : (xb1 st fun a r => xp ((ps.toList.zip (ps.toList.drop 1)).all (fun (a, next) => a.1 < next.1) = true) (xjmp pc (Op.lookupswitch.offset ps.toList df a.toInt) fun t => rec d y t lo r σ)) = some (o, σf)) : xMono σ σf ∧ xSd D dT l d y pc lo st σ o σf := by
  obtain ⟨a, r, rfl, h_1⟩ := xb1_some h
  obtain ⟨hp, h_2⟩ := xp_some h_1
  obtain ⟨t, ht, h_3⟩ := xjmp_some h_2
  obtain ⟨hm, hs⟩ := ih _ _ _ _ _ _ _ _ h_3
  refine ⟨hm, ?_⟩
  intro p e s m args below meth c σ0 C H locs ls hA hl
  obtain ⟨hok, hx, hb, -⟩ := id C
  exact lv_lookup hx hb hd hp rfl ht (hs p e s m args below meth c σ0 C H locs ls hA hl)
theorem xs_getfield {k : Nat} (ih : xClaim D dT l rec) (hd : decode (xC y) pc = .ok (.getfield k, len)) (h : xl len 3 (xq (xfl (xo y) k) fun f => xbr st fun a r => xobj σ.1 a f.1 fun fs => xq fs[f.2]? fun v => rec d y (pc + 3) lo (v :: r) σ) = some (o, σf)) : xMono σ σf ∧ xSd D dT l d y pc lo st σ o σf := by
  obtain ⟨rfl, h_1⟩ := xl_some h
  obtain ⟨f, hf, h_2⟩ := xq_some h_1
  obtain ⟨a, r, rfl, h_3⟩ := xbr_some h_2
  obtain ⟨fs, hfs, h_4⟩ := xobj_some h_3
  obtain ⟨v, hv, h_5⟩ := xq_some h_4
  obtain ⟨hm, hs⟩ := ih _ _ _ _ _ _ _ _ h_5
  refine ⟨hm, ?_⟩
  intro p e s m args below meth c σ0 C H locs ls hA hl
  obtain ⟨hok, hx, hb, hr, hml, hown, hts, hnm, hlocks, htab, hl0, hK, hT⟩ := id C
  obtain ⟨C0, T0, N0, hc, hk, hlink, hdecl, hin, hty, hne, hfin⟩ := x_fl_ok hf
  exact va_get (ws := [(a, .inr (f.1, fs))]) (ref := C0) hx hb hts hin hown hK (hA.1.one hfs) 0 rfl hc f.2 hk (by rw [hok.2.1]; exact hts _ hlink) (by rw [hdecl]; exact fun _ q => q) hv hd (hs p e s m args below meth c σ0 C H locs ls hA hl)
theorem xs_putfield {k : Nat} (ih : xClaim D dT l rec) (hd : decode (xC y) pc = .ok (.putfield k, len)) (h : xl len 3 (xq (xfl (xo y) k) fun f => xbv st fun v q => xbr q fun a r => xobj σ.1 a f.1 fun fs => xp (f.2 < fs.length ∧ xfitb f.1 f.2 v = true ∧ (xfin f.1 f.2 = false ∨ ((xN y).name = "<init>" ∧ xo y = f.1))) (rec d y (pc + 3) lo r (xset σ.1 a (.inr (f.1, fs.set f.2 v)), σ.2))) = some (o, σf)) : xMono σ σf ∧ xSd D dT l d y pc lo st σ o σf := by
  obtain ⟨rfl, h_1⟩ := xl_some h
  obtain ⟨f, hf, h_2⟩ := xq_some h_1
  obtain ⟨v, q, rfl, h_3⟩ := xbv_some h_2
  obtain ⟨a, r, rfl, h_4⟩ := xbr_some h_3
  obtain ⟨fs, hfs, h_5⟩ := xobj_some h_4
  obtain ⟨⟨hlen, hfit, hf0⟩, h_6⟩ := xp_some h_5
  obtain ⟨hm, hs⟩ := ih _ _ _ _ _ _ _ _ h_6
  refine ⟨hm, ?_⟩
  intro p e s m args below meth c σ0 C H locs ls hA hl
  obtain ⟨hok, hx, hb, hr, hml, hown, hts, hnm, hlocks, htab, hl0, hK, hT⟩ := id C
  obtain ⟨C0, T0, N0, hc, hk, hlink, hdecl, hin, hty, hne, hfin⟩ := x_fl_ok hf
  have hap := va_apart (own := (xN y).cls) hts hin (xft f.1) hty hne hK hc
  obtain ⟨r0, h1, cell, q1, q2, q3, q4⟩ := hA.1 a _ hfs
  have hr0 : r0 = (C0, T0, N0) := Option.some.inj (h1.symm.trans hc)
  subst hr0
  obtain ⟨hS, hfc, kC, hkC, hkind⟩ := hK.1 f.1 _ hc
  obtain ⟨cf, kf, fi, fd, hi, hsl⟩ := hS f.2 hk
  have hlay := hts _ (hin _ (u_in_lay hk))
  unfold u_lay at hlay
  have hst := (u_facts hfc hkC (u_lays hts hin hk) hi).1
  have hi2 : s.fieldFound? C0 (T0 f.2).2.1 (T0 f.2).2.2.1 = some (cf, kf, fi, fd) := by rw [← hdecl]; exact hi
  have hlink2 : (Jvm.Cond.fieldLink (xN y).cls k C0 (T0 f.2).2.1 (T0 f.2).2.2.1).before args s = true := by rw [hok.2.1]; exact hts _ hlink
  obtain ⟨hn9, hf9⟩ := x_fit hfit
  have hlt : fd.slot < cell.slots.size := by rw [hsl]; exact k2_hasslot (q4 f.2 hk)
  have fin : ∀ H1 : Heap, H1[a]? = some (cell.setSlot fd.slot v) → H1.size = H.size → (∀ q, q ≠ a → H1[q]? = H[q]?) → xWg D dT p l e s m args below meth c σ0 d o σf σ H1 (locs ++ [⟨a, fd.slot⟩]) (F0 m (pc + 3) ls r) := by
    intro H1 e1 e2 e3
    rw [hsl] at e1
    exact hs p e s m args below meth c σ0 C H1 _ ls (hA.put hfs ⟨_, hc, t_OB.to (V := updV (vp_V fs) f.2 v) ⟨_, e1, q2, q3, t_set q4 hap hk v⟩ (fun j _ => vp_updV_set hlen v j)⟩ e2 e3) hl
  by_cases hfn : (T0 f.2).2.2.2 = true
  · rw [if_pos hfn] at hlay
    have hf1 : (xN y).name = "<init>" ∧ xo y = f.1 := by
      rcases hf0 with h0 | h0
      · rw [hfin, hfn] at h0; cases h0
      · exact h0
    have hcn : (xN y).cls = C0 := by rw [hok.2.1, hf1.2]; exact x_cn hc
    have hcf : m.cls = cf := by
      obtain ⟨_, _, c', _, _, _, -, -, hf', -, -, -, hown2, -⟩ := Cond.laysFinal_spec hlay
      have e1 : c' = cf := by have := hi.symm.trans hf'; simp at this; exact this.1.symm
      rw [hdecl, ← hcn] at hown2
      rw [← e1]; exact Option.some.inj (hown.symm.trans hown2)
    have h6 := u_fits hfc hkC hkind (Or.inr hlay) hi (hty f.2 hk) hn9 hf9
    exact W.putFinK hx hb hown hlink2 hi2 hst hcf (by rw [hnm]; exact hf1.1) (by rw [q2]; exact h6) q1 q3 hlt rfl rfl hd fin
  · rw [if_neg hfn] at hlay
    have h6 := u_store hfc hkC hkind hlay hi (hty f.2 hk) hn9 hf9
    exact W.putK hx hb (f := fd) ⟨hown, hlink2, ⟨_, _, _, hi2⟩, hst⟩ (by rw [q2]; exact h6) q1 q3 hlt rfl rfl hd fin
theorem xs_arraylength (ih : xClaim D dT l rec) (hd : decode (xC y) pc = .ok (.arraylength, len)) (h : xl len 1 (xbr st fun a r => xarr σ.1 a fun t x => xp (t < xty.length) (rec d y (pc + 1) lo (.int (Int32.ofNat x.1) :: r) σ)) = some (o, σf)) : xMono σ σf ∧ xSd D dT l d y pc lo st σ o σf := by
  obtain ⟨rfl, h_1⟩ := xl_some h
  obtain ⟨a, r, rfl, h_2⟩ := xbr_some h_1
  obtain ⟨t, x, hx1, h_3⟩ := xarr_some h_2
  obtain ⟨ht, h_4⟩ := xp_some h_3
  obtain ⟨hm, hs⟩ := ih _ _ _ _ _ _ _ _ h_4
  refine ⟨hm, ?_⟩
  intro p e s m args below meth c σ0 C H locs ls hA hl
  obtain ⟨hok, hx, hb, hr, hml, hown, hts, hnm, hlocks, htab, hl0, hK, hT⟩ := id C
  exact va_alen (ws := [(a, .inl (dT t, x))]) (t0 := t) (q0 := 0) hx hb hK (hA.1.one hx1) rfl (xtys_at dT (List.getElem?_eq_getElem ht)) rfl hd (hs p e s m args below meth c σ0 C H locs ls hA hl)
theorem xs_iaload (ih : xClaim D dT l rec) (hd : decode (xC y) pc = .ok (.iaload, len)) (h : xl len 1 (xb1 st fun i q => xbr q fun a r => xari σ.1 a fun t n f => xp (xty[t]? = some .int ∧ xin i n) (rec d y (pc + 1) lo (.int (f i.toNatClampNeg) :: r) σ)) = some (o, σf)) : xMono σ σf ∧ xSd D dT l d y pc lo st σ o σf := by
  obtain ⟨rfl, h_1⟩ := xl_some h
  obtain ⟨i, q, rfl, h_2⟩ := xb1_some h_1
  obtain ⟨a, r, rfl, h_3⟩ := xbr_some h_2
  obtain ⟨t, n, f, hx1, h_4⟩ := xari_some h_3
  obtain ⟨⟨ht, hi⟩, h_5⟩ := xp_some h_4
  obtain ⟨hm, hs⟩ := ih _ _ _ _ _ _ _ _ h_5
  refine ⟨hm, ?_⟩
  intro p e s m args below meth c σ0 C H locs ls hA hl
  obtain ⟨hok, hx, hb, hr, hml, hown, hts, hnm, hlocks, htab, hl0, hK, hT⟩ := id C
  exact va_iald (ws := [(a, .inl (dT t, n, .inl f))]) (t0 := t) (q0 := 0) hx hb hK (hA.1.one hx1) rfl (xtys_at dT ht) hi hd (hs p e s m args below meth c σ0 C H locs ls hA hl)
theorem xs_baload (ih : xClaim D dT l rec) (hd : decode (xC y) pc = .ok (.baload, len)) (h : xl len 1 (xb1 st fun i q => xbr q fun a r => xari σ.1 a fun t n f => xp (xty[t]? = some .boolean ∧ xin i n) (rec d y (pc + 1) lo (.int (f i.toNatClampNeg) :: r) σ)) = some (o, σf)) : xMono σ σf ∧ xSd D dT l d y pc lo st σ o σf := by
  obtain ⟨rfl, h_1⟩ := xl_some h
  obtain ⟨i, q, rfl, h_2⟩ := xb1_some h_1
  obtain ⟨a, r, rfl, h_3⟩ := xbr_some h_2
  obtain ⟨t, n, f, hx1, h_4⟩ := xari_some h_3
  obtain ⟨⟨ht, hi⟩, h_5⟩ := xp_some h_4
  obtain ⟨hm, hs⟩ := ih _ _ _ _ _ _ _ _ h_5
  refine ⟨hm, ?_⟩
  intro p e s m args below meth c σ0 C H locs ls hA hl
  obtain ⟨hok, hx, hb, hr, hml, hown, hts, hnm, hlocks, htab, hl0, hK, hT⟩ := id C
  exact va_zald (ws := [(a, .inl (dT t, n, .inl f))]) (t0 := t) (q0 := 0) hx hb hK (hA.1.one hx1) rfl (xtys_at dT ht) hi hd (hs p e s m args below meth c σ0 C H locs ls hA hl)
theorem xs_aaload (ih : xClaim D dT l rec) (hd : decode (xC y) pc = .ok (.aaload, len)) (h : xl len 1 (xb1 st fun i q => xbr q fun a r => xarq σ.1 a fun t n f => xp ((xtyo t).isSome = true ∧ xin i n) (rec d y (pc + 1) lo (va_rf (f i.toNatClampNeg) :: r) σ)) = some (o, σf)) : xMono σ σf ∧ xSd D dT l d y pc lo st σ o σf := by
  obtain ⟨rfl, h_1⟩ := xl_some h
  obtain ⟨i, q, rfl, h_2⟩ := xb1_some h_1
  obtain ⟨a, r, rfl, h_3⟩ := xbr_some h_2
  obtain ⟨t, n, f, hx1, h_4⟩ := xarq_some h_3
  obtain ⟨⟨ht, hi⟩, h_5⟩ := xp_some h_4
  obtain ⟨hm, hs⟩ := ih _ _ _ _ _ _ _ _ h_5
  refine ⟨hm, ?_⟩
  intro p e s m args below meth c σ0 C H locs ls hA hl
  obtain ⟨hok, hx, hb, hr, hml, hown, hts, hnm, hlocks, htab, hl0, hK, hT⟩ := id C
  obtain ⟨cv, hcv⟩ := Option.isSome_iff_exists.mp ht
  obtain ⟨r0, hc, hty⟩ := x_tyo_ok hcv
  exact va_aldq (ws := [(a, .inl (dT t, n, .inr (.inr (.inr (.inr f)))))]) (t0 := t) (q0 := 0) (C := r0.1) hx hb hK (hA.1.one hx1) rfl (xtys_at dT hty) hi hd (hs p e s m args below meth c σ0 C H locs ls hA hl)
theorem xs_iastore (ih : xClaim D dT l rec) (hd : decode (xC y) pc = .ok (.iastore, len)) (h : xl len 1 (xb2 st fun i x q => xbr q fun a r => xari σ.1 a fun t n f => xp (xty[t]? = some .int ∧ xin i n) (rec d y (pc + 1) lo r (xset σ.1 a (.inl (t, n, .inl (upd f i.toNatClampNeg x))), σ.2))) = some (o, σf)) : xMono σ σf ∧ xSd D dT l d y pc lo st σ o σf := by
  obtain ⟨rfl, h_1⟩ := xl_some h
  obtain ⟨i, x, q, rfl, h_2⟩ := xb2_some h_1
  obtain ⟨a, r, rfl, h_3⟩ := xbr_some h_2
  obtain ⟨t, n, f, hx1, h_4⟩ := xari_some h_3
  obtain ⟨⟨ht, hi⟩, h_5⟩ := xp_some h_4
  obtain ⟨hm, hs⟩ := ih _ _ _ _ _ _ _ _ h_5
  refine ⟨hm, ?_⟩
  intro p e s m args below meth c σ0 C H locs ls hA hl
  obtain ⟨hok, hx, hb, hr, hml, hown, hts, hnm, hlocks, htab, hl0, hK, hT⟩ := id C
  have hcell : H[a]? = some (vp_cell (dT t) (n, .inl f)) := hA.1 a _ hx1
  refine W.iast hx hb hcell ((hK.2 t _ (xtys_at dT ht)).1 n (fun j => .int (f j))) (fun q => by cases q) (by show ¬ (i < 0 ∨ (arrV _ _ _).slots.size ≤ _); rw [arrV_size]; exact hi) rfl rfl hd fun H1 e1 z oq => ?_
  refine hs p e s m args below meth c σ0 C H1 _ ls (hA.put hx1 ?_ z oq) hl
  show H1[a]? = some (vp_cell _ _)
  rw [e1]
  rw [vp_cell_i, vp_cell_i, arrV_store]
  congr 2
  funext q
  by_cases hq : q = i.toNatClampNeg
  · subst hq
    simp [updV, upd]
  · simp [updV, upd, hq]
theorem xs_bastore (ih : xClaim D dT l rec) (hd : decode (xC y) pc = .ok (.bastore, len)) (h : xl len 1 (xb2 st fun i x q => xbr q fun a r => xari σ.1 a fun t n f => xp (xty[t]? = some .boolean ∧ xin i n) (rec d y (pc + 1) lo r (xset σ.1 a (.inl (t, n, .inl (upd f i.toNatClampNeg (x &&& 1)))), σ.2))) = some (o, σf)) : xMono σ σf ∧ xSd D dT l d y pc lo st σ o σf := by
  obtain ⟨rfl, h_1⟩ := xl_some h
  obtain ⟨i, x, q, rfl, h_2⟩ := xb2_some h_1
  obtain ⟨a, r, rfl, h_3⟩ := xbr_some h_2
  obtain ⟨t, n, f, hx1, h_4⟩ := xari_some h_3
  obtain ⟨⟨ht, hi⟩, h_5⟩ := xp_some h_4
  obtain ⟨hm, hs⟩ := ih _ _ _ _ _ _ _ _ h_5
  refine ⟨hm, ?_⟩
  intro p e s m args below meth c σ0 C H locs ls hA hl
  obtain ⟨hok, hx, hb, hr, hml, hown, hts, hnm, hlocks, htab, hl0, hK, hT⟩ := id C
  have hcell : H[a]? = some (vp_cell (dT t) (n, .inl f)) := hA.1 a _ hx1
  refine W.zast hx hb hcell ((hK.2 t _ (xtys_at dT ht)).1 n (fun j => .int (f j))) (fun q => by cases q) (by show ¬ (i < 0 ∨ (arrV _ _ _).slots.size ≤ _); rw [arrV_size]; exact hi) rfl rfl hd fun H1 e1 z oq => ?_
  refine hs p e s m args below meth c σ0 C H1 _ ls (hA.put hx1 ?_ z oq) hl
  show H1[a]? = some (vp_cell _ _)
  rw [e1]
  rw [vp_cell_i, vp_cell_i, arrV_store]
  congr 2
  funext q
  by_cases hq : q = i.toNatClampNeg
  · subst hq
    simp [updV, upd]
    try rfl
  · simp [updV, upd, hq]
theorem xs_aastore (ih : xClaim D dT l rec) (hd : decode (xC y) pc = .ok (.aastore, len)) (h : xl len 1 (xbq st
      (fun q => xb1 q fun i q2 => xbr q2 fun a r => xarq σ.1 a fun t n f => xp ((xtyo t).isSome = true ∧ xin i n) (rec d y (pc + 1) lo r (xset σ.1 a (.inl (t, n, .inr (.inr (.inr (.inr (va_up f i.toNatClampNeg none)))))), σ.2)))
      fun v q => xb1 q fun i q2 => xbr q2 fun a r => xarq σ.1 a fun t n f => xq (xtyo t) fun cv => xobj σ.1 v cv fun _ => xp (xin i n) (rec d y (pc + 1) lo r (xset σ.1 a (.inl (t, n, .inr (.inr (.inr (.inr (va_up f i.toNatClampNeg (some v))))))), σ.2))) = some (o, σf)) : xMono σ σf ∧ xSd D dT l d y pc lo st σ o σf := by
  obtain ⟨rfl, h_1⟩ := xl_some h
  rcases xbq_some h_1 with ⟨q, rfl, h_2⟩ | ⟨v, q, rfl, h_2⟩
  · obtain ⟨i, q2, rfl, h_3⟩ := xb1_some h_2
    obtain ⟨a, r, rfl, h_4⟩ := xbr_some h_3
    obtain ⟨t, n, f, hx1, h_5⟩ := xarq_some h_4
    obtain ⟨⟨ht, hi⟩, h_6⟩ := xp_some h_5
    obtain ⟨hm, hs⟩ := ih _ _ _ _ _ _ _ _ h_6
    refine ⟨hm, ?_⟩
    intro p e s m args below meth c σ0 C H locs ls hA hl
    obtain ⟨hok, hx, hb, hr, hml, hown, hts, hnm, hlocks, htab, hl0, hK, hT⟩ := id C
    obtain ⟨cv, hcv⟩ := Option.isSome_iff_exists.mp ht
    obtain ⟨r0, hc, hty⟩ := x_tyo_ok hcv
    have hcell : H[a]? = some (vp_cell (dT t) (n, .inr (.inr (.inr (.inr f))))) := hA.1 a _ hx1
    refine va_WaastN (C := r0.1) hx hb hcell ((hK.2 t _ (xtys_at dT hty)).1 n (fun j => va_rf (f j))) (fun h_6 => by cases h_6) (by show ¬ (i < 0 ∨ (arrV _ _ _).slots.size ≤ _); rw [arrV_size]; exact hi) rfl rfl hd fun H1 e1 z oq => ?_
    refine hs p e s m args below meth c σ0 C H1 _ ls (hA.put hx1 ?_ z oq) hl
    show H1[a]? = some (vp_cell _ _)
    rw [e1]
    rw [vp_cell_q, vp_cell_q, arrV_store]
    congr 2
    funext q
    by_cases hq : q = i.toNatClampNeg
    · subst hq
      simp [updV, va_up, va_rf]
    · simp [updV, va_up, hq]
  · obtain ⟨i, q2, rfl, h_7⟩ := xb1_some h_2
    obtain ⟨a, r, rfl, h_8⟩ := xbr_some h_7
    obtain ⟨t, n, f, hx1, h_9⟩ := xarq_some h_8
    obtain ⟨cv, hcv, h_10⟩ := xq_some h_9
    obtain ⟨vs, hv1, h_11⟩ := xobj_some h_10
    obtain ⟨hi, h_12⟩ := xp_some h_11
    obtain ⟨hm, hs⟩ := ih _ _ _ _ _ _ _ _ h_12
    refine ⟨hm, ?_⟩
    intro p e s m args below meth c σ0 C H locs ls hA hl
    obtain ⟨hok, hx, hb, hr, hml, hown, hts, hnm, hlocks, htab, hl0, hK, hT⟩ := id C
    obtain ⟨r0, hc, hty⟩ := x_tyo_ok hcv
    have hcell : H[a]? = some (vp_cell (dT t) (n, .inr (.inr (.inr (.inr f))))) := hA.1 a _ hx1
    have hlt : i.toNatClampNeg < n := Nat.not_le.mp fun q => hi (Or.inr q)
    have h0 : ¬ i < 0 := fun q => hi (Or.inl q)
    obtain ⟨r', hr', cellV, g1, g2, g3, -⟩ := hA.1 v _ hv1
    have hcls := (hK.1 cv r0 hc).2
    obtain ⟨kA, comp, k1, k2, k3, -⟩ := (hK.2 t _ (xtys_at dT hty)).2
    have hcomp : comp = D.1 cv := Option.some.inj (k3.symm.trans hcls.1)
    subst hcomp
    obtain ⟨kC, hkC, -⟩ := hcls.2
    refine W.aast hx hb hcell (fun q h_12 => by cases h_12) (fun h_12 => by cases h_12) k1 k2 rfl hkC ⟨h0, by show _ < (arrV _ _ _).slots.size; rw [arrV_size]; exact hlt⟩ g1 (fun q h_12 => by rw [g3] at h_12; cases h_12) (by rw [g2]; exact hkC) (by rw [g2]; exact va_assign hcls) rfl rfl hd fun H1 e1 z oq => ?_
    refine hs p e s m args below meth c σ0 C H1 _ ls (hA.put hx1 ?_ z oq) hl
    show H1[a]? = some (vp_cell _ _)
    rw [e1]
    rw [vp_cell_q, vp_cell_q, arrV_store]
    congr 2
    funext q
    by_cases hq : q = i.toNatClampNeg
    · subst hq
      simp [updV, va_up, va_rf]
    · simp [updV, va_up, hq]
theorem xs_newarrayI (ih : xClaim D dT l rec) (hd : decode (xC y) pc = .ok (.newarray .int, len)) (h : xl len 2 (xb1 st fun n r => xp (¬ n < 0 ∧ n.toNatClampNeg ≤ 100000) (rec d y (pc + 2) lo (.ref σ.2.1 :: r) (xset σ.1 σ.2.1 (.inl (0, n.toNatClampNeg, .inl fun _ => 0)), σ.2.1 + 1, σ.2.2 + n.toNatClampNeg))) = some (o, σf)) : xMono σ σf ∧ xSd D dT l d y pc lo st σ o σf := by
  obtain ⟨rfl, h_1⟩ := xl_some h
  obtain ⟨n, r, rfl, h_2⟩ := xb1_some h_1
  obtain ⟨⟨hn, hN⟩, h_3⟩ := xp_some h_2
  obtain ⟨⟨hm1, hm2⟩, hs⟩ := ih _ _ _ _ _ _ _ _ h_3
  have hm1 : σ.2.1 + 1 ≤ σf.2.1 := hm1
  have hm2 : σ.2.2 + n.toNatClampNeg ≤ σf.2.2 := hm2
  refine ⟨⟨by omega, by omega⟩, ?_⟩
  intro p e s m args below meth c σ0 C H locs ls hA hl
  obtain ⟨hok, hx, hb, hr, hml, hown, hts, hnm, hlocks, htab, hl0, hK, hT⟩ := id C
  obtain ⟨hP, hz, hS, hdom, hs0, hle1, hle2⟩ := id hA
  refine va_newaK (atype := .int) (N := n.toNatClampNeg) hx hb (hts _ x_arr_int) (g := F0 m pc ls (.int n :: r)) rfl hd rfl hn rfl (by show _ * 4 ≤ _; omega) (by show _ ≤ σf.2.1 - σ0.2.1; omega) (by show _ ≤ σf.2.2 - σ0.2.2; omega) hz fun H1 cA e1 z1 o1 hAr hNm => ?_
  have hcA : cA = dT 0 := Option.some.inj (hNm.symm.trans (hK.2 0 _ (xtys_at dT x_ty_int)).2)
  subst hcA
  exact W.cs (by show _ = σ.2.1 + 1 - σ0.2.1; omega) (by show _ = σ.2.2 + _ - σ0.2.2; omega) (hs p e s m args below meth c σ0 C H1 locs ls (hA.new (by show H1[H.size]? = some (vp_cell _ _); rw [hz, e1]; rfl) (by rw [z1, hz]) (fun q hq => o1 q (by omega))) hl)
theorem xs_newarrayZ (ih : xClaim D dT l rec) (hd : decode (xC y) pc = .ok (.newarray .boolean, len)) (h : xl len 2 (xb1 st fun n r => xp (¬ n < 0 ∧ n.toNatClampNeg ≤ 100000) (rec d y (pc + 2) lo (.ref σ.2.1 :: r) (xset σ.1 σ.2.1 (.inl (1, n.toNatClampNeg, .inl fun _ => 0)), σ.2.1 + 1, σ.2.2 + n.toNatClampNeg))) = some (o, σf)) : xMono σ σf ∧ xSd D dT l d y pc lo st σ o σf := by
  obtain ⟨rfl, h_1⟩ := xl_some h
  obtain ⟨n, r, rfl, h_2⟩ := xb1_some h_1
  obtain ⟨⟨hn, hN⟩, h_3⟩ := xp_some h_2
  obtain ⟨⟨hm1, hm2⟩, hs⟩ := ih _ _ _ _ _ _ _ _ h_3
  have hm1 : σ.2.1 + 1 ≤ σf.2.1 := hm1
  have hm2 : σ.2.2 + n.toNatClampNeg ≤ σf.2.2 := hm2
  refine ⟨⟨by omega, by omega⟩, ?_⟩
  intro p e s m args below meth c σ0 C H locs ls hA hl
  obtain ⟨hok, hx, hb, hr, hml, hown, hts, hnm, hlocks, htab, hl0, hK, hT⟩ := id C
  obtain ⟨hP, hz, hS, hdom, hs0, hle1, hle2⟩ := id hA
  refine va_newaK (atype := .boolean) (N := n.toNatClampNeg) hx hb (hts _ x_arr_bool) (g := F0 m pc ls (.int n :: r)) rfl hd rfl hn rfl (by show _ * 1 ≤ _; omega) (by show _ ≤ σf.2.1 - σ0.2.1; omega) (by show _ ≤ σf.2.2 - σ0.2.2; omega) hz fun H1 cA e1 z1 o1 hAr hNm => ?_
  have hcA : cA = dT 1 := Option.some.inj (hNm.symm.trans (hK.2 1 _ (xtys_at dT x_ty_bool)).2)
  subst hcA
  exact W.cs (by show _ = σ.2.1 + 1 - σ0.2.1; omega) (by show _ = σ.2.2 + _ - σ0.2.2; omega) (hs p e s m args below meth c σ0 C H1 locs ls (hA.new (by show H1[H.size]? = some (vp_cell _ _); rw [hz, e1]; rfl) (by rw [z1, hz]) (fun q hq => o1 q (by omega))) hl)
theorem xs_anewarray {k : Nat} (ih : xClaim D dT l rec) (hd : decode (xC y) pc = .ok (.anewarray k, len)) (h : xl len 3 (xq (xac (xo y) k) fun t => xb1 st fun n r => xp (¬ n < 0 ∧ n.toNatClampNeg ≤ 100000) (rec d y (pc + 3) lo (.ref σ.2.1 :: r) (xset σ.1 σ.2.1 (.inl (t, n.toNatClampNeg, .inr (.inr (.inr (.inr fun _ => none))))), σ.2.1 + 1, σ.2.2 + n.toNatClampNeg))) = some (o, σf)) : xMono σ σf ∧ xSd D dT l d y pc lo st σ o σf := by
  obtain ⟨rfl, h_1⟩ := xl_some h
  obtain ⟨t, ht, h_2⟩ := xq_some h_1
  obtain ⟨n, r, rfl, h_3⟩ := xb1_some h_2
  obtain ⟨⟨hn, hN⟩, h_4⟩ := xp_some h_3
  obtain ⟨⟨hm1, hm2⟩, hs⟩ := ih _ _ _ _ _ _ _ _ h_4
  have hm1 : σ.2.1 + 1 ≤ σf.2.1 := hm1
  have hm2 : σ.2.2 + n.toNatClampNeg ≤ σf.2.2 := hm2
  refine ⟨⟨by omega, by omega⟩, ?_⟩
  intro p e s m args below meth c σ0 C H locs ls hA hl
  obtain ⟨hok, hx, hb, hr, hml, hown, hts, hnm, hlocks, htab, hl0, hK, hT⟩ := id C
  obtain ⟨hP, hz, hS, hdom, hs0, hle1, hle2⟩ := id hA
  obtain ⟨C0, hty, hlink⟩ := x_ac_ok ht
  have hover := hT.2.2.2.2 t C0 hty
  refine W.anew hx hb hown (by rw [hok.2.1]; exact hts _ hlink) (va_AO.use hover) (g := F0 m pc ls (.int n :: r)) rfl hd rfl hn (by omega) (by show _ ≤ σf.2.1 - σ0.2.1; omega) (by show _ ≤ σf.2.2 - σ0.2.2; omega) fun cA kA comp f1 f2 f3 f4 => ?_
  obtain ⟨kA2, comp2, g1, g2, g3, g4⟩ := (hK.2 t _ (xtys_at dT hty)).2
  have hcA : cA = dT t := Option.some.inj (f1.symm.trans g4)
  subst hcA
  generalize hH1 : H.push ({ cls := dT t, slots := Array.replicate n.toNatClampNeg .null, vm := .none } : Cell) = H1
  have z1 : H1.size = H.size + 1 := by rw [← hH1, Array.size_push]
  have e1 : H1[H.size]? = some (arrV (dT t) n.toNatClampNeg (fun _ => .null)) := by rw [← hH1, Array.getElem?_push_size, ← arrV_new]
  have o1 : ∀ q : Nat, q < H.size → H1[q]? = H[q]? := fun q hq => by rw [← hH1, Array.getElem?_push, if_neg (Nat.ne_of_lt hq)]
  rw [hz]
  exact W.cs (by show _ = σ.2.1 + 1 - σ0.2.1; omega) (by show _ = σ.2.2 + _ - σ0.2.2; omega) (hs p e s m args below meth c σ0 C H1 locs ls (hA.new (by show H1[H.size]? = some (vp_cell _ _); rw [e1]; rfl) z1 o1) hl)
theorem xs_throw {E : xTs} (hE : xth y pc = some E) (hw : xwt st ≤ 8) : xSd D dT l d y pc lo st σ (.inr E.2.1) (σ.1, σ.2.1 + 1, σ.2.2 + 6) := by
  intro p e s m args below meth c σ0 C H locs ls hA hl
  obtain ⟨hok, hx, hb, hr, hml, hown, hts, hnm, hlocks, htab, hl0, hK, hT⟩ := id C
  obtain ⟨hP, hz, hS, hdom, hs0, hle1, hle2⟩ := id hA
  have hmem : E ∈ xtl y := List.mem_of_find?_eq_some hE
  have hpc : E.1 = pc := by
    have := List.find?_some hE
    simpa using this
  have hall := List.all_eq_true.mp (List.all_eq_true.mp x_ts_all y hok.2.2.2.2.2.2.2) E hmem
  subst hpc
  simp only [x_tsC, Bool.and_eq_true, decide_eq_true_eq, List.any_eq_true] at hall
  obtain ⟨⟨⟨⟨⟨c1, c2⟩, c3⟩, c4⟩, ⟨t, ht, e1, e2, e3⟩⟩, ⟨u, hu, f1, f2⟩⟩ := hall
  have hth := x_th_all t ht
  simp only [x_thC, Bool.and_eq_true] at hth
  obtain ⟨⟨⟨⟨g1, g2⟩, g3⟩, g4⟩, g5⟩ := hth
  rw [e1] at g1 g2 g3 g4 g5
  rw [e2] at g4 g5
  rw [e3] at g2 g5
  have hown9 : s.vm.findClass "LoanTerms" = some m.cls := by rw [← c1]; exact hown
  obtain ⟨sa, hstr⟩ := hT.2.2.2.1 u hu
  rw [f1, f2] at hstr
  have hat : ∀ w ∈ vx_atS "LoanTerms" E.2.2.2.2.1 E.2.1 xnames, w.before args s = true := by
    intro w hw
    have h9 := List.all_eq_true.mp g4 w hw
    simp only [x_thW, Bool.or_eq_true, Bool.and_eq_true, decide_eq_true_eq] at h9
    rcases h9 with ⟨a1, a2⟩ | ⟨a1, a2⟩
    · exact hts w (List.mem_filter.mpr ⟨a2, a1⟩)
    · exact va_Nw.use (xk_on a1) (hT.2.2.1 w (List.mem_filter.mpr ⟨a2, a1⟩))
  have hgood : ∀ w ∈ Jvm.Cond.classLink "LoanTerms" E.2.2.1 E.2.1 :: Jvm.Cond.initialized E.2.1 :: vx_atS "LoanTerms" E.2.2.2.2.1 E.2.1 xnames, vx_ot w = true := fun w hw => List.all_eq_true.mp g5 w hw
  have hXX : ∀ t : State, s.vm.Alike t.vm → H.size ≤ t.heap.size → (∀ q : Nat, q < H.size → t.heap[q]? = H[q]?) → xX D dT (.inr E.2.1) (σ.1, σ.2.1 + 1, σ.2.2 + 6) σ0 E.2.1 s t := fun t _ hsz hq => ⟨rfl, hP.kept hq, hdom, ⟨Nat.le_trans hS.1 hsz, fun q h1 h2 => by rw [hq q (Nat.lt_of_lt_of_le h1 hS.1)]; exact hS.2.1 q h1 h2⟩⟩
  by_cases hwide : E.2.2.2.2.2.2 = true
  · rw [if_pos hwide] at c4
    simp only [Bool.and_eq_true, decide_eq_true_eq] at c4
    obtain ⟨⟨d4, d7⟩, d10⟩ := c4
    exact vx_throwSW (own := "LoanTerms") (cls := E.2.1) (names := xnames) hx hb hl0 hown9 g1 (by decide +kernel) (hts _ (x_at_in g2 rfl)) (hts _ (x_at_in g3 rfl)) hstr hat hgood hT.1 hT.2.1 hS (hl.2.1.trans hml.symm) c2 c3 d4 d7 d10 (fun x hx9 => (htab x hx9).elim) (by show 2 + 3 < d + 12; omega) (by show xwt st + (13 * (2 + 1) + 43) ≤ d * 64 + 200; omega) (by show _ ≤ σ.2.1 + 1 - σ0.2.1; omega) (by show _ ≤ σ.2.2 + 6 - σ0.2.2; omega) hlocks hXX hS.2.2 (by show _ ≤ σ.2.1 + 1 - σ0.2.1; omega) (by show _ ≤ σ.2.2 + 6 - σ0.2.2; omega)
  · rw [if_neg hwide] at c4
    simp only [Bool.and_eq_true, decide_eq_true_eq] at c4
    obtain ⟨⟨d4, d6⟩, d9⟩ := c4
    exact vx_throwS (own := "LoanTerms") (cls := E.2.1) (names := xnames) hx hb hl0 hown9 g1 (by decide +kernel) (hts _ (x_at_in g2 rfl)) (hts _ (x_at_in g3 rfl)) hstr hat hgood hT.1 hT.2.1 hS (hl.2.1.trans hml.symm) c2 c3 d4 d6 d9 (fun x hx9 => (htab x hx9).elim) (by show 2 + 3 < d + 12; omega) (by show xwt st + (13 * (2 + 1) + 43) ≤ d * 64 + 200; omega) (by show _ ≤ σ.2.1 + 1 - σ0.2.1; omega) (by show _ ≤ σ.2.2 + 6 - σ0.2.2; omega) hlocks hXX hS.2.2 (by show _ ≤ σ.2.1 + 1 - σ0.2.1; omega) (by show _ ≤ σ.2.2 + 6 - σ0.2.2; omega)
theorem xs_new {k : Nat} (ih : xClaim D dT l rec) (hd : decode (xC y) pc = .ok (.new k, len)) (h : xl len 3 (match xth y pc with
      | some q => xp (xwt st ≤ 8) (some (.inr q.2.1, (σ.1, σ.2.1 + 1, σ.2.2 + 6)))
      | none => xq (xnw (xo y) k) fun ci => rec d y (pc + 3) lo (.ref σ.2.1 :: st) (xset σ.1 σ.2.1 (.inr (ci, xdf ci)), σ.2.1 + 1, σ.2.2 + (xdf ci).length)) = some (o, σf)) : xMono σ σf ∧ xSd D dT l d y pc lo st σ o σf := by
  obtain ⟨rfl, h_1⟩ := xl_some h
  split at h_1
  · rename_i E hE
    obtain ⟨hw, h_2⟩ := xp_some h_1
    cases h_2
    refine ⟨⟨by show σ.2.1 ≤ σ.2.1 + 1; omega, by show σ.2.2 ≤ σ.2.2 + 6; omega⟩, ?_⟩
    exact xs_throw hE hw
  · obtain ⟨ci, hci, h_3⟩ := xq_some h_1
    obtain ⟨⟨hm1, hm2⟩, hs⟩ := ih _ _ _ _ _ _ _ _ h_3
    have hm1 : σ.2.1 + 1 ≤ σf.2.1 := hm1
    have hm2 : σ.2.2 + (xdf ci).length ≤ σf.2.2 := hm2
    refine ⟨⟨by omega, by omega⟩, ?_⟩
    intro p e s m args below meth c σ0 C H locs ls hA hl
    obtain ⟨hok, hx, hb, hr, hml, hown, hts, hnm, hlocks, htab, hl0, hK, hT⟩ := id C
    obtain ⟨hP, hz, hS, hdom, hs0, hle1, hle2⟩ := id hA
    obtain ⟨C0, T0, N0, hc, hlink, hins, hini, hin, hty, hdf, hlen⟩ := x_nw_ok hci
    have hKn := hK.1 ci _ hc
    refine W.newcK hx hb hown (by rw [hok.2.1]; exact hts _ hlink) (hts _ hins) (hts _ hini) (g := F0 m pc ls st) rfl hd (by show _ ≤ σf.2.1 - σ0.2.1; omega) (by show _ ≤ σf.2.2 - σ0.2.2; omega) hKn.2.1 rfl fun H1 kC hkC e1 z1 o1 => ?_
    rw [hz]
    exact W.cs (by show _ = σ.2.1 + 1 - σ0.2.1; omega) (by show _ = σ.2.2 + _ - σ0.2.2; omega) (hs p e s m args below meth c σ0 C H1 locs ls (hA.new ⟨_, hc, (u_born (xft ci) hts hin hKn hkC e1 hty).to hdf⟩ z1 o1) hl)
theorem xs_end {p : Program} {e : Env} {s : State} {m : MethodId} {args : Array Value} {below : List Frame} {meth : Method} {c : Code} {σ0 : xS} {H : Heap} {locs : List Loc} (hA : xAt D dT s σ0 σ H locs) {v : Option Value} (t : State) (ht : t.heap = H) : xQ D dT (.inl v) σ σ0 args s (.returned v) t :=
  ⟨⟨v, rfl, rfl⟩, by rw [ht]; exact hA.1, by rw [ht]; exact hA.2.1, hA.2.2.2.1, hA.2.2.1.F ht⟩
theorem xs_ireturn (hd : decode (xC y) pc = .ok (.ireturn, len)) (h : xl len 1 (match st with
      | [.int v] => (match xR y with
          | some .int => some (.inl (some (.int v)), σ)
          | some .boolean => xp (v = 0 ∨ v = 1) (some (.inl (some (.int v)), σ))
          | _ => none)
      | _ => none) = some (o, σf)) : xMono σ σf ∧ xSd D dT l d y pc lo st σ o σf := by
  obtain ⟨rfl, h_1⟩ := xl_some h
  split at h_1
  · rename_i v
    split at h_1
    · rename_i hR
      cases h_1
      refine ⟨⟨Nat.le_refl _, Nat.le_refl _⟩, ?_⟩
      intro p e s m args below meth c σ0 C H locs ls hA hl
      obtain ⟨hok, hx, hb, hr, hml, hown, hts, hnm, hlocks, htab, hl0, hK, hT⟩ := id C
      exact vx_ret (W.iret hx hb (by rw [hr, hR]) (fun t ht _ => xs_end (p := p) (e := e) (m := m) (below := below) (meth := meth) (c := c) hA t ht) hA.2.2.1.2.2 hd hlocks)
    · rename_i hR
      obtain ⟨hv, h_2⟩ := xp_some h_1
      cases h_2
      refine ⟨⟨Nat.le_refl _, Nat.le_refl _⟩, ?_⟩
      intro p e s m args below meth c σ0 C H locs ls hA hl
      obtain ⟨hok, hx, hb, hr, hml, hown, hts, hnm, hlocks, htab, hl0, hK, hT⟩ := id C
      exact vx_ret (W.zret (ty := .boolean) hx hb (by rw [hr, hR]) (by rcases hv with rfl | rfl <;> rfl) (fun t ht _ => xs_end (p := p) (e := e) (m := m) (below := below) (meth := meth) (c := c) hA t ht) hA.2.2.1.2.2 hd hlocks)
    · cases h_1
  · cases h_1
theorem xs_areturn (hd : decode (xC y) pc = .ok (.areturn, len)) (h : xl len 1 (match st with
      | [.null] => xp (xrq (xR y) = true) (some (.inl (some .null), σ))
      | [.ref a] => xp (xrq (xR y) = true) (some (.inl (some (.ref a)), σ))
      | _ => none) = some (o, σf)) : xMono σ σf ∧ xSd D dT l d y pc lo st σ o σf := by
  obtain ⟨rfl, h_1⟩ := xl_some h
  have key : ∀ r : Option FieldType, xrq r = true → ∃ rt, r = some rt ∧ ((∃ n, rt = .object n) ∨ ∃ t, rt = .array t) := by
    intro r hr
    unfold xrq at hr
    split at hr
    · exact ⟨_, rfl, Or.inl ⟨_, rfl⟩⟩
    · exact ⟨_, rfl, Or.inr ⟨_, rfl⟩⟩
    · cases hr
  split at h_1
  · obtain ⟨hq, h_2⟩ := xp_some h_1
    cases h_2
    refine ⟨⟨Nat.le_refl _, Nat.le_refl _⟩, ?_⟩
    intro p e s m args below meth c σ0 C H locs ls hA hl
    obtain ⟨hok, hx, hb, hr, hml, hown, hts, hnm, hlocks, htab, hl0, hK, hT⟩ := id C
    obtain ⟨rt, h1, h2⟩ := key _ hq
    exact vx_ret (W.aret (v := .null) hx hb (by rw [hr, h1]) h2 (Or.inl rfl) (fun t ht _ => xs_end (p := p) (e := e) (m := m) (below := below) (meth := meth) (c := c) hA t ht) hA.2.2.1.2.2 hd hlocks)
  · rename_i a
    obtain ⟨hq, h_3⟩ := xp_some h_1
    cases h_3
    refine ⟨⟨Nat.le_refl _, Nat.le_refl _⟩, ?_⟩
    intro p e s m args below meth c σ0 C H locs ls hA hl
    obtain ⟨hok, hx, hb, hr, hml, hown, hts, hnm, hlocks, htab, hl0, hK, hT⟩ := id C
    obtain ⟨rt, h1, h2⟩ := key _ hq
    exact vx_ret (W.aret (v := .ref a) hx hb (by rw [hr, h1]) h2 (Or.inr ⟨_, rfl⟩) (fun t ht _ => xs_end (p := p) (e := e) (m := m) (below := below) (meth := meth) (c := c) hA t ht) hA.2.2.1.2.2 hd hlocks)
  · cases h_1
theorem xs_return (hd : decode (xC y) pc = .ok (.return_, len)) (h : xl len 1 (match st with
      | [] => xp (xR y = none) (some (.inl none, σ))
      | _ => none) = some (o, σf)) : xMono σ σf ∧ xSd D dT l d y pc lo st σ o σf := by
  obtain ⟨rfl, h_1⟩ := xl_some h
  split at h_1
  · obtain ⟨hR, h_2⟩ := xp_some h_1
    cases h_2
    refine ⟨⟨Nat.le_refl _, Nat.le_refl _⟩, ?_⟩
    intro p e s m args below meth c σ0 C H locs ls hA hl
    obtain ⟨hok, hx, hb, hr, hml, hown, hts, hnm, hlocks, htab, hl0, hK, hT⟩ := id C
    exact vx_ret (W.vret hx hb (by rw [hr, hR]) (fun t ht _ => xs_end (p := p) (e := e) (m := m) (below := below) (meth := meth) (c := c) hA t ht) hA.2.2.1.2.2 hd hlocks)
  · cases h_1
/-! calls -/
def xWs (z : xMt) : List Jvm.Cond := Jvm.Cond.code (xN z) (xC z) (xm z) (xR z) :: xTB
def xPre (D : va_G) (dT : Nat → ClassId) (σ : xS) (U : State) : Prop := U.heap.size = σ.2.1 ∧ xHp D dT σ.1 U.heap ∧ va_K D vwCl (xtys dT) U ∧ xTh (xA σ) U
theorem x_met (hl0 : l.stackTraces = false) (ih : xClaim D dT l rec) {z : xMt} {As : List Value} {o1 : xO} {σ1 : xS} (hz : xOk z) (h : rec d z 0 (xlo As (xm z)) [] σ = some (o1, σ1)) (hc : ∀ v ∈ As, v.category = 1) (hn : As.length ≤ xm z) :
    vx_Met l (xN z) (xWs z) (xRm d (σ1.2.1 - σ.2.1) (σ1.2.2 - σ.2.2)) (va_Pc As (xPre D dT σ)) (xQ D dT o1 σ1 σ) (xX D dT o1 σ1 σ) (σ1.2.1 - σ.2.1) (σ1.2.2 - σ.2.2) (xA σ) := by
  refine vx_ofW (cc := xC z) (maxL := xm z) (ret := xR z) hz.2.2.2.1 rfl ?_
  intro p e s m args below meth c s₁ B hml htab hv
  obtain ⟨rfl, hsz, hP, hK, hT⟩ := hv
  rw [lg_entry_eq]
  have hts := atoms_spec (ws := xWs z) B.pre
  obtain ⟨-, hs⟩ := ih _ _ _ _ _ _ _ _ h
  have hA : xAt D dT s σ σ s.heap [] := ⟨hP, hsz, va_S.rf, fun q hq => Or.inl hq, hsz, Nat.le_refl _, Nat.le_refl _⟩
  have C : xCx D dT l p s m As.toArray meth c z σ := ⟨hz, B.exec, B.bytes, B.returns, hml, findClass_of_methodNamed B.named, fun w hw => hts w (List.mem_cons_of_mem _ hw), (name_of_methodNamed B.named B.method).1, B.notSynchronized, htab, hl0, hK, hT⟩
  exact W.cs (Nat.sub_self _).symm (Nat.sub_self _).symm (hs p e s m _ below meth c σ C s.heap [] _ hA (xRl.entry hc hn))
theorem x_metI {y9 : MethodName} {ws : List Jvm.Cond} {rm : Room} {Pc : Array Value → State → Prop} {v : Option Value} {σ1 : xS} {mc ms : Nat} {free : Addr → Prop} (h : vx_Met l y9 ws rm Pc (xQ D dT (.inl v) σ1 σ) (xX D dT (.inl v) σ1 σ) mc ms free) : Met l y9 ws rm Pc (xQ D dT (.inl v) σ1 σ) mc ms free := by
  intro p e ha hc hk s m args below hf happ hP hKK
  obtain ⟨n, oc, h1, h2, h3, h4⟩ := h p e ha hc hk s m args below hf happ hP hKK
  refine ⟨n, oc, h1, h2, h3, ?_⟩
  rcases h4 with h4 | ⟨q, -, E, ce, L, hX, -⟩
  · exact h4
  · exact absurd hX.1 (fun h => by cases h)
theorem xPre.blind {As : List Value} : FrameBlind (va_Pc As (xPre D dT σ)) := by
  intro a U g mk q
  obtain ⟨q0, q1, qP, qK, qT⟩ := q
  exact ⟨q0, q1, qP, va_K.moved (u := U) (U := U.calling g mk a) (Vm.Alike.refl U.vm) qK, xTh.same (u := U) rfl rfl qT⟩
section Back9
variable {p : Program} {e : Env} {s : State} {m : MethodId} {args : Array Value} {below : List Frame} {meth : Method} {c : Code} {σ0 : xS} {R : Room} {Q : State → Prop} {H : Heap} {locs : List Loc} {cells slots mc ms : Nat} {ls : Array Slot} {st0 rest : List Value} {a : Array Value} {o1 : xO} {σ1 : xS}
theorem xA_sub (hA : xAt D dT s σ0 σ H locs) : ∀ q : Nat, xA σ q → xA σ0 q := fun q h => h.elim (hA.2.2.2.1 q) (fun h => Or.inr (Nat.le_trans hA.2.2.2.2.2.1 h))
theorem xs_back (hr : vx_Run p l e R s m args below meth c H locs cells slots mc ms (F0 m pc ls st0) rest (xQ D dT o1 σ1 σ a) (xX D dT o1 σ1 σ) (xA σ)) (hA : xAt D dT s σ0 σ H locs) (hle : xMono σ σ1)
    (kk : ∀ (v : Option Value) (H1 : Heap) (locs1 : List Loc), o1 = .inl v → xAt D dT s σ0 σ1 H1 locs1 → W p l e R s m args below meth c H1 locs1 (cells + mc) (slots + ms) Q (F0 m (pc + 3) ls (v.toList ++ rest)))
    (kx : ∀ (E : String) (ce : Cell) (q9 : Addr) (H1 : Heap) (locs1 : List Loc), o1 = .inr E → xHp D dT σ1.1 H1 → (∀ q : Nat, σ1.1 q ≠ none → xA σ0 q) → va_S (xA σ0) s.heap H1 locs1 → H1[q9]? = some ce → ce.vm = .none → s.vm.findClass E = some ce.cls → vx_W p l e R s m args below meth c H1 locs1 (cells + mc) (slots + ms) Q (F0 m pc ls rest) q9) :
    W p l e R s m args below meth c H locs cells slots Q (F0 m pc ls st0) := by
  have hsub := xA_sub hA
  intro T hT X
  rcases hr T hT X with ⟨v, st₀, t, T', L, h0, X', hL, e1, e2, ⟨⟨w, ho, hv⟩, hP, hz, hdom, hF⟩, st⟩ | ⟨q, st₀, t, T', L, E, ce, h0, X', hL, e1, e2, ⟨ho, hP, hdom, hF⟩, hce, hcv, hcl, st⟩
  · cases hv
    obtain ⟨k1, k2, k3⟩ := vx_keep h0 e1 hA.2.2.1 (fun q _ h => hsub q h) hsub hL hF
    obtain ⟨t2, a1, b1⟩ := kk v T'.heap (locs ++ L) ho ⟨by rw [e1]; exact hP, by rw [e1]; exact hz, k3, fun q hq => hsub q (hdom q hq), hA.2.2.2.2.1, Nat.le_trans hA.2.2.2.2.2.1 hle.1, Nat.le_trans hA.2.2.2.2.2.2 hle.2⟩ T' rfl X'
    exact ⟨t2, st t2 a1, b1⟩
  · obtain ⟨k1, k2, k3⟩ := vx_keep h0 e1 hA.2.2.1 (fun q _ h => hsub q h) hsub hL hF
    obtain ⟨t2, a1, b1⟩ := kx E ce q T'.heap (locs ++ L) ho (by rw [e1]; exact hP) (fun q hq => hsub q (hdom q hq)) k3 (by rw [e1]; exact hce) hcv hcl T' rfl X'
    exact ⟨t2, st.trans a1, b1⟩
theorem xs_backI (hr : va_Run p l e R s m args below meth c H locs cells slots mc ms (F0 m pc ls st0) rest (xQ D dT o1 σ1 σ a) (xA σ)) (hA : xAt D dT s σ0 σ H locs) (hle : xMono σ σ1)
    (kk : ∀ (v : Option Value) (H1 : Heap) (locs1 : List Loc), o1 = .inl v → xAt D dT s σ0 σ1 H1 locs1 → W p l e R s m args below meth c H1 locs1 (cells + mc) (slots + ms) Q (F0 m (pc + 3) ls (v.toList ++ rest))) :
    W p l e R s m args below meth c H locs cells slots Q (F0 m pc ls st0) := by
  have hsub := xA_sub hA
  intro T hT X
  obtain ⟨v, st₀, t, T', L, h0, X', hL, e1, e2, ⟨⟨w, ho, hv⟩, hP, hz, hdom, hF⟩, st⟩ := hr T hT X
  cases hv
  obtain ⟨k1, k2, k3⟩ := vx_keep h0 e1 hA.2.2.1 (fun q _ h => hsub q h) hsub hL hF
  obtain ⟨t2, a1, b1⟩ := kk v T'.heap (locs ++ L) ho ⟨by rw [e1]; exact hP, by rw [e1]; exact hz, k3, fun q hq => hsub q (hdom q hq), hA.2.2.2.2.1, Nat.le_trans hA.2.2.2.2.2.1 hle.1, Nat.le_trans hA.2.2.2.2.2.2 hle.2⟩ T' rfl X'
  exact ⟨t2, st t2 a1, b1⟩
theorem xs_pre {As : List Value} (C : xCx D dT l p s m args meth c y σ0) (hA : xAt D dT s σ0 σ H locs) (U : State) (hU : U.heap = H) (hW : s.WarmedH U.vm) : va_Pc As (xPre D dT σ) As.toArray U := by
  obtain ⟨hok, hx, hb, hr, hml, hown, hts, hnm, hlocks, htab, hl0, hK, hT⟩ := C
  exact ⟨rfl, by rw [hU]; exact hA.2.1, by rw [hU]; exact hA.1, va_K.moved hW.alike hK, hT.next hA.2.2.1 (xA_sub hA) hU hW⟩
end Back9
theorem xall {as : List Value} (h : (as.all fun v => v.category == 1) = true) : ∀ v ∈ as, v.category = 1 := fun v hv => by
  have := List.all_eq_true.mp h v hv
  simpa using this
theorem x_gin {z : xMt} (hz : xOk z) : GoodIn xTB (xWs z) := by
  intro w hw
  rcases List.mem_cons.mp hw with rfl | hw
  · exact ⟨hz.1, Or.inl rfl⟩
  · exact x_good w hw
/-- the room of a callee in its caller's -/
theorem x_room {d1 mc ms mc2 ms2 : Nat} {z : xMt} (hz : xOk z) : (xRm d1 mc ms).frames + 1 ≤ (xRm (d1 + 1) mc2 ms2).frames ∧ 8 + (xm z + 11) + (xRm d1 mc ms).locals ≤ (xRm (d1 + 1) mc2 ms2).locals := by
  have h := hz.2.2.1
  refine ⟨?_, ?_⟩
  · show d1 + 12 + 1 ≤ d1 + 1 + 12
    omega
  · show 8 + (xm z + 11) + (d1 * 64 + 200) ≤ (d1 + 1) * 64 + 200
    omega
/-- behind a call, the two ways on -/
theorem xs_after {d1 : Nat} {o1 : xO} {σ1 : xS} {rest : List Value} (ih : xClaim D dT l rec) (h : (match o1 with
      | .inl v => rec (d1 + 1) y (pc + 3) lo (v.toList ++ rest) σ1
      | .inr E => some (.inr E, σ1)) = some (o, σf)) : (∃ v, o1 = .inl v ∧ xMono σ1 σf ∧ xSd D dT l (d1 + 1) y (pc + 3) lo (v.toList ++ rest) σ1 o σf) ∨ ∃ E, o1 = .inr E ∧ o = .inr E ∧ σf = σ1 := by
  split at h
  · exact Or.inl ⟨_, rfl, ih _ _ _ _ _ _ _ _ h⟩
  · cases h
    exact Or.inr ⟨_, rfl, rfl, rfl⟩
theorem xs_call {z : xMt} {as rest : List Value} (ih : xClaim D dT l rec) (h : xcall rec d y pc lo σ z as rest = some (o, σf)) :
    ∃ d1 o1 σ1, d = d1 + 1 ∧ (∀ v ∈ as, v.category = 1) ∧ as.length ≤ xm z ∧ xwt rest ≤ 8 ∧ rec d1 z 0 (xlo as (xm z)) [] σ = some (o1, σ1) ∧ xMono σ σ1 ∧ ((∃ v, o1 = .inl v ∧ xMono σ1 σf ∧ xSd D dT l d y (pc + 3) lo (v.toList ++ rest) σ1 o σf) ∨ ∃ E, o1 = .inr E ∧ o = .inr E ∧ σf = σ1) := by
  unfold xcall at h
  split at h
  · cases h
  · rename_i d2
    obtain ⟨⟨h1, h2, h3⟩, h_1⟩ := xp_some h
    obtain ⟨⟨o1, σ1⟩, hw, h_2⟩ := xq_some h_1
    exact ⟨d2, o1, σ1, rfl, xall h1, h2, h3, hw, (ih _ _ _ _ _ _ _ _ hw).1, xs_after ih h_2⟩
/-- the walk through a call that is on its way -/
theorem xs_through {o1 : xO} {σ1 : xS} {rest st0 : List Value} {p : Program} {e : Env} {s : State} {m : MethodId} {args : Array Value} {below : List Frame} {meth : Method} {c : Code} {σ0 : xS} {H : Heap} {locs : List Loc} {ls : Array Slot} {a : Array Value} (C : xCx D dT l p s m args meth c y σ0) (hA : xAt D dT s σ0 σ H locs) (hl : xRl lo ls (xm y)) (hle : xMono σ σ1)
    (haf : (∃ v, o1 = .inl v ∧ xMono σ1 σf ∧ xSd D dT l d y (pc + 3) lo (v.toList ++ rest) σ1 o σf) ∨ ∃ E, o1 = .inr E ∧ o = .inr E ∧ σf = σ1)
    (hr : vx_Run p l e (xRm d (σf.2.1 - σ0.2.1) (σf.2.2 - σ0.2.2)) s m args below meth c H locs (σ.2.1 - σ0.2.1) (σ.2.2 - σ0.2.2) (σ1.2.1 - σ.2.1) (σ1.2.2 - σ.2.2) (F0 m pc ls st0) rest (xQ D dT o1 σ1 σ a) (xX D dT o1 σ1 σ) (xA σ)) :
    xWg D dT p l e s m args below meth c σ0 d o σf σ H locs (F0 m pc ls st0) := by
  obtain ⟨hok, hx, hb, hr0, hml, hown, hts, hnm, hlocks, htab, hl0, hK, hT⟩ := id C
  obtain ⟨hP, hz, hS, hdom, hs0, hle1, hle2⟩ := id hA
  obtain ⟨hm1, hm2⟩ := id hle
  refine xs_back hr hA hle (fun v H1 locs1 ho hA1 => ?_) (fun E ce q9 H1 locs1 ho hP1 hd1 hS1 hce hcv hcl => ?_)
  · rcases haf with ⟨w, ho2, hmm, hs⟩ | ⟨E, ho2, -⟩
    · cases ho.symm.trans ho2
      exact W.cs (by omega) (by omega) (hs p e s m args below meth c σ0 C H1 locs1 ls hA1 hl)
    · cases ho.symm.trans ho2
  · rcases haf with ⟨w, ho2, -⟩ | ⟨E2, ho2, rfl, rfl⟩
    · cases ho.symm.trans ho2
    · cases ho.symm.trans ho2
      exact vx_out (fun x hx9 => (htab x hx9).elim) hlocks hce hcv hcl (fun t ht _ => ⟨rfl, by rw [ht]; exact hP1, hd1, hS1.F ht⟩) hS1.2.2 (by omega) (by omega)
theorem xs_invokestatic {k : Nat} (hl9 : l.stackTraces = false) (ih : xClaim D dT l rec) (hd : decode (xC y) pc = .ok (.invokestatic k, len)) (h : xl len 3 (xq (xca (xo y) k) fun q => xp (q.1 = 0 ∧ xnp q.2 ≤ st.length) (xcall rec d y pc lo σ q.2 (st.take (xnp q.2)).reverse (st.drop (xnp q.2)))) = some (o, σf)) : xMono σ σf ∧ xSd D dT l d y pc lo st σ o σf := by
  obtain ⟨rfl, h_1⟩ := xl_some h
  obtain ⟨⟨kd, z⟩, hq, h_2⟩ := xq_some h_1
  dsimp only at h_2
  obtain ⟨⟨hkd, hnp⟩, h_3⟩ := xp_some h_2
  have hkd : kd = 0 := hkd
  subst hkd
  have hnp : xnp z ≤ st.length := hnp
  obtain ⟨d1, o1, σ1, rfl, hcat, hlen, hwt, hrec, hle, haf⟩ := xs_call ih h_3
  obtain ⟨hz, hlink, h0, -, -, -⟩ := x_ca_ok hq (by decide)
  obtain ⟨-, hzn, -, -, hmh, hsig, hini, -⟩ := id hz
  have hmono : xMono σ σf := by
    rcases haf with ⟨v, -, hmm, -⟩ | ⟨E, -, -, rfl⟩
    · exact ⟨Nat.le_trans hle.1 hmm.1, Nat.le_trans hle.2 hmm.2⟩
    · exact hle
  have hf1 : σ1.2.1 ≤ σf.2.1 ∧ σ1.2.2 ≤ σf.2.2 := by
    rcases haf with ⟨v, -, hmm, -⟩ | ⟨E, -, -, rfl⟩
    · exact hmm
    · exact ⟨Nat.le_refl _, Nat.le_refl _⟩
  refine ⟨hmono, ?_⟩
  intro p e s m args below meth c σ0 C H locs ls hA hl
  obtain ⟨hok, hx, hb, hr, hml, hown, hts, hnm, hlocks, htab, hl0, hK, hT⟩ := id C
  obtain ⟨hP, hz1, hS, hdom, hs0, hle1, hle2⟩ := id hA
  obtain ⟨hm1, hm2⟩ := id hle
  have hM := x_met (D := D) (dT := dT) (σ := σ) hl0 ih hz hrec hcat hlen
  have hcb : CallB (xRm (d1 + 1) (σf.2.1 - σ0.2.1) (σf.2.2 - σ0.2.2)) s args (xN y).cls k (xN z) (xC z) (xm z) (xR z) (xWs z) (xRm d1 (σ1.2.1 - σ.2.1) (σ1.2.2 - σ.2.2)) (σ1.2.1 - σ.2.1) (σ1.2.2 - σ.2.2) (xnp z) :=
    callB_of (xnp z) hts (x_gin hz) rfl rfl rfl (hts _ hini) (by rw [hok.2.1]; exact hts _ (hlink (by decide))) ⟨hmh.1, hmh.2, hsig⟩ (x_room hz)
  exact xs_through (st0 := st) C hA hl hle haf (vx_runS (nL := xm y) (Ts := xTB) ⟨hx, hb, hml, hown, hts⟩ hM ⟨hcb, hts _ (h0 rfl)⟩ ⟨xPre.blind, fun U hU hW => xs_pre C hA U hU hW⟩ rfl (by rw [List.length_reverse, List.length_take]; omega) hl.2.1 (by show st = _; rw [List.reverse_reverse, List.take_append_drop]) (by show 2 * 0 + xwt _ ≤ 8; omega) hd ⟨by show _ ≤ σf.2.1 - σ0.2.1; omega, by show _ ≤ σf.2.2 - σ0.2.2; omega⟩)
theorem xs_invokevirtual {k : Nat} (hl9 : l.stackTraces = false) (ih : xClaim D dT l rec) (hd : decode (xC y) pc = .ok (.invokevirtual k, len)) (h : xl len 3 (xq (xca (xo y) k) fun q => xp (q.1 = 1 ∧ xnp q.2 ≤ st.length) (xbr (st.drop (xnp q.2)) fun b r => xobj σ.1 b (xo q.2) fun _ => xcall rec d y pc lo σ q.2 (.ref b :: (st.take (xnp q.2)).reverse) r)) = some (o, σf)) : xMono σ σf ∧ xSd D dT l d y pc lo st σ o σf := by
  obtain ⟨rfl, h_1⟩ := xl_some h
  obtain ⟨⟨kd, z⟩, hq, h_2⟩ := xq_some h_1
  dsimp only at h_2
  obtain ⟨⟨hkd, hnp⟩, h_3⟩ := xp_some h_2
  have hkd : kd = 1 := hkd
  subst hkd
  have hnp : xnp z ≤ st.length := hnp
  obtain ⟨b, r, hdr, h_4⟩ := xbr_some h_3
  obtain ⟨fs, hfs, h_5⟩ := xobj_some h_4
  obtain ⟨d1, o1, σ1, rfl, hcat, hlen, hwt, hrec, hle, haf⟩ := xs_call ih h_5
  obtain ⟨hz, hlink, -, h1, -, -⟩ := x_ca_ok hq (by decide)
  obtain ⟨-, hzn, -, -, hmh, hsig, hini, -⟩ := id hz
  have hmono : xMono σ σf := by
    rcases haf with ⟨v, -, hmm, -⟩ | ⟨E, -, -, rfl⟩
    · exact ⟨Nat.le_trans hle.1 hmm.1, Nat.le_trans hle.2 hmm.2⟩
    · exact hle
  have hf1 : σ1.2.1 ≤ σf.2.1 ∧ σ1.2.2 ≤ σf.2.2 := by
    rcases haf with ⟨v, -, hmm, -⟩ | ⟨E, -, -, rfl⟩
    · exact hmm
    · exact ⟨Nat.le_refl _, Nat.le_refl _⟩
  refine ⟨hmono, ?_⟩
  intro p e s m args below meth c σ0 C H locs ls hA hl
  obtain ⟨hok, hx, hb, hr, hml, hown, hts, hnm, hlocks, htab, hl0, hK, hT⟩ := id C
  obtain ⟨hP, hz1, hS, hdom, hs0, hle1, hle2⟩ := id hA
  obtain ⟨hm1, hm2⟩ := id hle
  have hM := x_met (D := D) (dT := dT) (σ := σ) hl0 ih hz hrec hcat hlen
  have hcb : CallB (xRm (d1 + 1) (σf.2.1 - σ0.2.1) (σf.2.2 - σ0.2.2)) s args (xN y).cls k (xN z) (xC z) (xm z) (xR z) (xWs z) (xRm d1 (σ1.2.1 - σ.2.1) (σ1.2.2 - σ.2.2)) (σ1.2.1 - σ.2.1) (σ1.2.2 - σ.2.2) (xnp z) :=
    callB_of (xnp z) hts (x_gin hz) rfl rfl rfl (hts _ hini) (by rw [hok.2.1]; exact hts _ (hlink (by decide))) ⟨hmh.1, hmh.2, hsig⟩ (x_room hz)
  have hrecv : ∃ cellB : Cell, H[b]? = some cellB ∧ cellB.vm.isStatics = false ∧ s.vm.findClass (xN z).cls = some cellB.cls := by
    obtain ⟨r0, hr0, -⟩ := hP b _ hfs
    have := va_recv (q0 := 0) hK (hP.one hfs) hr0 rfl
    rw [hzn, x_cn hr0]
    exact this
  exact xs_through (st0 := st) C hA hl hle haf (vx_runV (nL := xm y) (Ts := xTB) (C := (xN z).cls) ⟨hx, hb, hml, hown, hts⟩ hM ⟨hcb, hts _ (h1 rfl).1, hts _ (h1 rfl).2⟩ ⟨xPre.blind, hrecv, fun U hU hW => xs_pre C hA U hU hW⟩ rfl (by rw [List.length_reverse, List.length_take]; omega) hl.2.1 (by show st = _; rw [List.reverse_reverse, ← hdr, List.take_append_drop]) (by show 2 * 0 + xwt _ ≤ 8; omega) hd ⟨by show _ ≤ σf.2.1 - σ0.2.1; omega, by show _ ≤ σf.2.2 - σ0.2.2; omega⟩)
theorem xs_invokespecial {k : Nat} (hl9 : l.stackTraces = false) (ih : xClaim D dT l rec) (hd : decode (xC y) pc = .ok (.invokespecial k, len)) (h : xl len 3 (xq (xca (xo y) k) fun q => if q.1 = 3 then xbr st fun _ r => xp (xwt r ≤ 8) (rec d y (pc + 3) lo r σ) else xp ((q.1 = 2 ∨ q.1 = 4) ∧ xnp q.2 ≤ st.length) (xbr (st.drop (xnp q.2)) fun b r => xcallI rec d y pc lo σ q.2 (.ref b :: (st.take (xnp q.2)).reverse) r)) = some (o, σf)) : xMono σ σf ∧ xSd D dT l d y pc lo st σ o σf := by
  obtain ⟨rfl, h_1⟩ := xl_some h
  obtain ⟨⟨kd, z⟩, hq, h_2⟩ := xq_some h_1
  dsimp only at h_2
  by_cases h3 : kd = 3
  · subst h3
    rw [if_pos (show ((3, z) : Nat × xMt).1 = 3 from rfl)] at h_2
    obtain ⟨b, r, rfl, h_3⟩ := xbr_some h_2
    obtain ⟨hwt, h_4⟩ := xp_some h_3
    obtain ⟨hm, hs⟩ := ih _ _ _ _ _ _ _ _ h_4
    refine ⟨hm, ?_⟩
    intro p e s m args below meth c σ0 C H locs ls hA hl
    obtain ⟨hok, hx, hb, hr, hml, hown, hts, hnm, hlocks, htab, hl0, hK, hT⟩ := id C
    obtain ⟨hlink, hinst, hcode⟩ := x_ca_obj hq
    exact W.objInit hx hb hown (by rw [hok.2.1]; exact hts _ hlink) (hts _ hinst) (hts _ hcode) (g := F0 m pc ls (.ref b :: r)) rfl (by rw [hml]; exact hl.2.1) rfl hd (by show 1 ≤ d + 12; omega) (by show 2 * 0 + xwt r + 12 ≤ d * 64 + 200; omega) (hs p e s m args below meth c σ0 C H locs ls hA hl)
  · rw [if_neg (show ¬ ((kd, z) : Nat × xMt).1 = 3 from h3)] at h_2
    obtain ⟨⟨hkd, hnp⟩, h_5⟩ := xp_some h_2
    have hkd : kd = 2 ∨ kd = 4 := hkd
    have hnp : xnp z ≤ st.length := hnp
    obtain ⟨b, r, hdr, h_6⟩ := xbr_some h_5
    unfold xcallI at h_6
    split at h_6
    · cases h_6
    · rename_i d1
      obtain ⟨⟨hc9, hlen, hwt⟩, h_7⟩ := xp_some h_6
      have hcat := xall hc9
      obtain ⟨⟨o1, σ1⟩, hrec, h_8⟩ := xq_some h_7
      have hle := (ih _ _ _ _ _ _ _ _ hrec).1
      have ho1 : o1 = .inl none := by
        cases o1 with
        | inl v =>
          cases v with
          | none => rfl
          | some w => exact absurd (show (none : xZ) = some (o, σf) from h_8) (fun q => nomatch q)
        | inr E => exact absurd (show (none : xZ) = some (o, σf) from h_8) (fun q => nomatch q)
      subst ho1
      · have h9 : rec (d1 + 1) y (pc + 3) lo r σ1 = some (o, σf) := h_8
        obtain ⟨hmm, hs⟩ := ih _ _ _ _ _ _ _ _ h9
        obtain ⟨hz, hlink, -, -, h2, h4⟩ := x_ca_ok hq h3
        obtain ⟨-, hzn, -, -, hmh, hsig, hini, -⟩ := id hz
        obtain ⟨hnm9, hin9, hrt9⟩ := h2 hkd
        refine ⟨⟨Nat.le_trans hle.1 hmm.1, Nat.le_trans hle.2 hmm.2⟩, ?_⟩
        intro p e s m args below meth c σ0 C H locs ls hA hl
        obtain ⟨hok, hx, hb, hr, hml, hown, hts, hnm, hlocks, htab, hl0, hK, hT⟩ := id C
        obtain ⟨hP, hz1, hS, hdom, hs0, hle1, hle2⟩ := id hA
        obtain ⟨hm1, hm2⟩ := id hle
        obtain ⟨hm3, hm4⟩ := id hmm
        have hm3 : σ1.2.1 ≤ σf.2.1 := hm3
        have hm4 : σ1.2.2 ≤ σf.2.2 := hm4
        have hM := x_metI (x_met (D := D) (dT := dT) (σ := σ) hl0 ih hz hrec hcat hlen)
        have fin : va_Run p l e (xRm (d1 + 1) (σf.2.1 - σ0.2.1) (σf.2.2 - σ0.2.2)) s m args below meth c H locs (σ.2.1 - σ0.2.1) (σ.2.2 - σ0.2.2) (σ1.2.1 - σ.2.1) (σ1.2.2 - σ.2.2) (F0 m pc ls st) r (xQ D dT (.inl none) σ1 σ (Value.ref b :: (st.take (xnp z)).reverse).toArray) (xA σ) := by
          by_cases hk4 : kd = 4
          · have hcb : va_CN (xRm (d1 + 1) (σf.2.1 - σ0.2.1) (σf.2.2 - σ0.2.2)) s args (xN y).cls k (xN z) "LoanTerms" (xC z) (xm z) none (xWs z) (xRm d1 (σ1.2.1 - σ.2.1) (σ1.2.2 - σ.2.2)) (σ1.2.1 - σ.2.1) (σ1.2.2 - σ.2.2) (xnp z) :=
              va_cnB (xnp z) hts (x_gin hz) (by unfold xWs; rw [hrt9]) rfl rfl (by rw [hok.2.1]; exact hT.2.2.1 _ (h4 hk4)) (hts _ hini) ⟨hmh.1, hmh.2, hsig⟩ (x_room hz)
            exact va_runIN (nL := xm y) (Ts := xTB) ⟨hx, hb, hml, hown, hts⟩ hM ⟨hcb, hnm9, hts _ hin9⟩ ⟨xPre.blind, fun U hU hW => xs_pre C hA U hU hW⟩ rfl (by rw [List.length_reverse, List.length_take]; omega) hl.2.1 (by show st = _; rw [List.reverse_reverse, ← hdr, List.take_append_drop]) (by show 2 * 0 + xwt _ ≤ 8; omega) hd ⟨by show _ ≤ σf.2.1 - σ0.2.1; omega, by show _ ≤ σf.2.2 - σ0.2.2; omega⟩
          · have hcb : CallB (xRm (d1 + 1) (σf.2.1 - σ0.2.1) (σf.2.2 - σ0.2.2)) s args (xN y).cls k (xN z) (xC z) (xm z) none (xWs z) (xRm d1 (σ1.2.1 - σ.2.1) (σ1.2.2 - σ.2.2)) (σ1.2.1 - σ.2.1) (σ1.2.2 - σ.2.2) (xnp z) :=
              callB_of (xnp z) hts (x_gin hz) (by unfold xWs; rw [hrt9]) rfl rfl (hts _ hini) (by rw [hok.2.1]; exact hts _ (hlink hk4)) ⟨hmh.1, hmh.2, hsig⟩ (x_room hz)
            exact va_runI (nL := xm y) (Ts := xTB) ⟨hx, hb, hml, hown, hts⟩ hM ⟨hcb, hnm9, hts _ hin9⟩ ⟨xPre.blind, fun U hU hW => xs_pre C hA U hU hW⟩ rfl (by rw [List.length_reverse, List.length_take]; omega) hl.2.1 (by show st = _; rw [List.reverse_reverse, ← hdr, List.take_append_drop]) (by show 2 * 0 + xwt _ ≤ 8; omega) hd ⟨by show _ ≤ σf.2.1 - σ0.2.1; omega, by show _ ≤ σf.2.2 - σ0.2.2; omega⟩
        refine xs_backI (st0 := st) fin hA hle (fun v H1 locs1 ho hA1 => ?_)
        cases ho
        exact W.cs (by omega) (by omega) (hs p e s m args below meth c σ0 C H1 locs1 ls hA1 hl)
end XS2
set_option maxHeartbeats 4000000 in
theorem x_step {D : va_G} {dT : Nat → ClassId} {l : Launch} {rec : xRun} {d : Nat} {y : xMt} {pc : Nat} {lo : xL} {st : List Value} {σ : xS} {o : xO} {σf : xS} {len : Nat} {i : Instr} (hl0 : l.stackTraces = false) (ih : xClaim D dT l rec) (hd : decode (xC y) pc = .ok (i, len)) (h : xstep rec d y pc lo st σ len i = some (o, σf)) : xMono σ σf ∧ xSd D dT l d y pc lo st σ o σf := by
  cases i
  case aconst_null => exact xs_aconst_null ih hd h
  case iconst => exact xs_iconst ih hd h
  case bipush => exact xs_bipush ih hd h
  case sipush => exact xs_sipush ih hd h
  case ldc => exact xs_ldc ih hd h
  case ldc_w => exact xs_ldc_w ih hd h
  case iload => exact xs_iload ih hd h
  case iload_n => exact xs_iload_n ih hd h
  case aload => exact xs_aload ih hd h
  case aload_n => exact xs_aload_n ih hd h
  case istore => exact xs_istore ih hd h
  case istore_n => exact xs_istore_n ih hd h
  case astore => exact xs_astore ih hd h
  case astore_n => exact xs_astore_n ih hd h
  case iinc => exact xs_iinc ih hd h
  case iadd => exact xs_iadd ih hd h
  case isub => exact xs_isub ih hd h
  case imul => exact xs_imul ih hd h
  case iand => exact xs_iand ih hd h
  case idiv => exact xs_idiv ih hd h
  case irem => exact xs_irem ih hd h
  case dup => exact xs_dup ih hd h
  case dup2 => exact xs_dup2 ih hd h
  case goto => exact xs_goto ih hd h
  case ifnull => exact xs_ifnull ih hd h
  case ifnonnull => exact xs_ifnonnull ih hd h
  case tableswitch => exact xs_tableswitch ih hd h
  case lookupswitch => exact xs_lookupswitch ih hd h
  case getfield => exact xs_getfield ih hd h
  case putfield => exact xs_putfield ih hd h
  case arraylength => exact xs_arraylength ih hd h
  case iaload => exact xs_iaload ih hd h
  case baload => exact xs_baload ih hd h
  case aaload => exact xs_aaload ih hd h
  case iastore => exact xs_iastore ih hd h
  case bastore => exact xs_bastore ih hd h
  case aastore => exact xs_aastore ih hd h
  case anewarray => exact xs_anewarray ih hd h
  case new => exact xs_new ih hd h
  case if_icmp c off => cases c <;> first | exact xs_icmp_eq ih hd h | exact xs_icmp_ne ih hd h | exact xs_icmp_lt ih hd h | exact xs_icmp_ge ih hd h | exact xs_icmp_gt ih hd h | exact xs_icmp_le ih hd h
  case ifCond c off => cases c <;> first | exact xs_if_eq ih hd h | exact xs_if_ne ih hd h | exact xs_if_lt ih hd h | exact xs_if_ge ih hd h | exact xs_if_gt ih hd h | exact xs_if_le ih hd h
  case newarray t =>
    cases t
    case int => exact xs_newarrayI ih hd h
    case boolean => exact xs_newarrayZ ih hd h
    all_goals exact absurd (show (none : xZ) = some (o, σf) from h) (fun h => nomatch h)
  case ireturn => exact xs_ireturn hd h
  case areturn => exact xs_areturn hd h
  case return_ => exact xs_return hd h
  case invokestatic => exact xs_invokestatic hl0 ih hd h
  case invokevirtual => exact xs_invokevirtual hl0 ih hd h
  case invokespecial => exact xs_invokespecial hl0 ih hd h
  all_goals exact absurd (show (none : xZ) = some (o, σf) from h) (fun h => nomatch h)
theorem x_sound {D : va_G} {dT : Nat → ClassId} {l : Launch} (hl0 : l.stackTraces = false) : ∀ n : Nat, xClaim D dT l (xrun n)
  | 0 => fun _ _ _ _ _ _ _ _ h => nomatch (show (none : xZ) = some _ from h)
  | n + 1 => fun d y pc lo st σ o σf h => by
    have h : (match decode (xC y) pc with
      | .ok (i, len) => xstep (xrun n) d y pc lo st σ len i
      | .error _ => none) = some (o, σf) := h
    split at h
    · rename_i i len hd
      exact x_step hl0 (x_sound hl0 n) hd h
    · cases h
