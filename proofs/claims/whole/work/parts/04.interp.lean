/-! A small reader of bytecode over a picture of the heap: cells by address (M), the next address, the slots made so far. -/
abbrev xE : Type := (Nat × vp_A) ⊕ (Nat × List Value)
abbrev xMm : Type := Nat → Option xE
abbrev xS : Type := xMm × Nat × Nat
abbrev xO : Type := (Option Value) ⊕ String
abbrev xL : Type := List (Option Value)
abbrev xZ : Type := Option (xO × xS)
abbrev xRun : Type := Nat → xMt → Nat → xL → List Value → xS → xZ
def xset (M : xMm) (a : Nat) (e : xE) : xMm := fun q => if q = a then some e else M q
theorem xset_self (M : xMm) (a : Nat) (e : xE) : xset M a e a = some e := if_pos rfl
theorem xset_ne (M : xMm) {a q : Nat} (e : xE) (h : q ≠ a) : xset M a e q = M q := if_neg h
/-- the length that the reader found -/
def xl (len k : Nat) (r : xZ) : xZ := if len = k then r else none
theorem xl_some {len k : Nat} {r : xZ} {z : xO × xS} (h : xl len k r = some z) : len = k ∧ r = some z := by
  unfold xl at h
  split at h
  · exact ⟨by assumption, h⟩
  · cases h
def xjmp (pc : Nat) (off : Int) (k : Nat → xZ) : xZ := if 0 ≤ (pc : Int) + off then k ((pc : Int) + off).toNat else none
theorem xjmp_some {pc : Nat} {off : Int} {k : Nat → xZ} {z : xO × xS} (h : xjmp pc off k = some z) : ∃ t : Nat, (pc : Int) + off = (t : Int) ∧ k t = some z := by
  unfold xjmp at h
  split at h
  · rename_i h0
    exact ⟨((pc : Int) + off).toNat, (Int.toNat_of_nonneg h0).symm, h⟩
  · cases h
theorem xjmp_to {pc : Nat} {off : Int} {k : Nat → xZ} {t : Nat} (h : (pc : Int) + off = (t : Int)) : xjmp pc off k = k t := by
  unfold xjmp
  rw [h, if_pos (Int.natCast_nonneg t), Int.toNat_natCast]
def xif (c : Jvm.ClassFile.Cond) (x y : Int32) (A B : xZ) : xZ := match c with
  | .eq => if x = y then A else B
  | .ne => if x = y then B else A
  | .lt => if x < y then A else B
  | .ge => if y ≤ x then A else B
  | .gt => if y < x then A else B
  | .le => if x ≤ y then A else B
def xb2 (st : List Value) (k : Int32 → Int32 → List Value → xZ) : xZ := match st with
  | .int b :: .int a :: r => k a b r
  | _ => none
theorem xb2_some {st : List Value} {k : Int32 → Int32 → List Value → xZ} {z : xO × xS} (h : xb2 st k = some z) : ∃ a b r, st = .int b :: .int a :: r ∧ k a b r = some z := by
  unfold xb2 at h
  split at h
  · exact ⟨_, _, _, rfl, h⟩
  · cases h
def xb1 (st : List Value) (k : Int32 → List Value → xZ) : xZ := match st with
  | .int a :: r => k a r
  | _ => none
theorem xb1_some {st : List Value} {k : Int32 → List Value → xZ} {z : xO × xS} (h : xb1 st k = some z) : ∃ a r, st = .int a :: r ∧ k a r = some z := by
  unfold xb1 at h
  split at h
  · exact ⟨_, _, rfl, h⟩
  · cases h
/-- a reference on top: null or not -/
def xbq (st : List Value) (kn : List Value → xZ) (k : Nat → List Value → xZ) : xZ := match st with
  | .null :: r => kn r
  | .ref a :: r => k a r
  | _ => none
theorem xbq_some {st : List Value} {kn : List Value → xZ} {k : Nat → List Value → xZ} {z : xO × xS} (h : xbq st kn k = some z) : (∃ r, st = .null :: r ∧ kn r = some z) ∨ ∃ a r, st = .ref a :: r ∧ k a r = some z := by
  unfold xbq at h
  split at h
  · exact Or.inl ⟨_, rfl, h⟩
  · exact Or.inr ⟨_, _, rfl, h⟩
  · cases h
def xbr (st : List Value) (k : Nat → List Value → xZ) : xZ := match st with
  | .ref a :: r => k a r
  | _ => none
theorem xbr_some {st : List Value} {k : Nat → List Value → xZ} {z : xO × xS} (h : xbr st k = some z) : ∃ a r, st = .ref a :: r ∧ k a r = some z := by
  unfold xbr at h
  split at h
  · exact ⟨_, _, rfl, h⟩
  · cases h
def xbv (st : List Value) (k : Value → List Value → xZ) : xZ := match st with
  | v :: r => k v r
  | _ => none
theorem xbv_some {st : List Value} {k : Value → List Value → xZ} {z : xO × xS} (h : xbv st k = some z) : ∃ v r, st = v :: r ∧ k v r = some z := by
  unfold xbv at h
  split at h
  · exact ⟨_, _, rfl, h⟩
  · cases h
/-- an int of the locals -/
def xli (lo : xL) (i : Nat) (k : Int32 → xZ) : xZ := match lo[i]? with
  | some (some (.int x)) => k x
  | _ => none
theorem xli_some {lo : xL} {i : Nat} {k : Int32 → xZ} {z : xO × xS} (h : xli lo i k = some z) : ∃ x, lo[i]? = some (some (.int x)) ∧ k x = some z := by
  unfold xli at h
  split at h
  · exact ⟨_, by assumption, h⟩
  · cases h
/-- a reference of the locals -/
def xlq (lo : xL) (i : Nat) (k : Value → xZ) : xZ := match lo[i]? with
  | some (some .null) => k .null
  | some (some (.ref a)) => k (.ref a)
  | _ => none
theorem xlq_some {lo : xL} {i : Nat} {k : Value → xZ} {z : xO × xS} (h : xlq lo i k = some z) : (lo[i]? = some (some .null) ∧ k .null = some z) ∨ ∃ a, lo[i]? = some (some (.ref a)) ∧ k (.ref a) = some z := by
  unfold xlq at h
  split at h
  · exact Or.inl ⟨by assumption, h⟩
  · exact Or.inr ⟨_, by assumption, h⟩
  · cases h
def xp (c : Prop) [Decidable c] (r : xZ) : xZ := if c then r else none
theorem xp_some {c : Prop} {r : xZ} {z : xO × xS} {i : Decidable c} (h : @xp c i r = some z) : c ∧ r = some z := by
  unfold xp at h
  split at h
  · exact ⟨by assumption, h⟩
  · cases h
def xq {α : Type} (o : Option α) (k : α → xZ) : xZ := match o with
  | some a => k a
  | none => none
theorem xq_some {α : Type} {o : Option α} {k : α → xZ} {z : xO × xS} (h : xq o k = some z) : ∃ a, o = some a ∧ k a = some z := by
  unfold xq at h
  split at h
  · exact ⟨_, rfl, h⟩
  · cases h
/-- an object of the kind ci -/
def xobj (M : xMm) (a ci : Nat) (k : List Value → xZ) : xZ := match M a with
  | some (.inr (cj, fs)) => if cj = ci then k fs else none
  | _ => none
theorem xobj_some {M : xMm} {a ci : Nat} {k : List Value → xZ} {z : xO × xS} (h : xobj M a ci k = some z) : ∃ fs, M a = some (.inr (ci, fs)) ∧ k fs = some z := by
  unfold xobj at h
  split at h
  · rename_i e0
    split at h
    · rename_i e1
      subst e1
      exact ⟨_, e0, h⟩
    · cases h
  · cases h
theorem xobj_at {M : xMm} {a ci : Nat} {k : List Value → xZ} {fs : List Value} (h : M a = some (.inr (ci, fs))) : xobj M a ci k = k fs := by
  unfold xobj
  rw [h]
  exact if_pos rfl
/-- an array of ints (of the kind t), of references -/
def xari (M : xMm) (a : Nat) (k : Nat → Nat → (Nat → Int32) → xZ) : xZ := match M a with
  | some (.inl (t, n, .inl f)) => k t n f
  | _ => none
theorem xari_some {M : xMm} {a : Nat} {k : Nat → Nat → (Nat → Int32) → xZ} {z : xO × xS} (h : xari M a k = some z) : ∃ t n f, M a = some (.inl (t, n, .inl f)) ∧ k t n f = some z := by
  unfold xari at h
  split at h
  · exact ⟨_, _, _, by assumption, h⟩
  · cases h
theorem xari_at {M : xMm} {a t n : Nat} {f : Nat → Int32} {k : Nat → Nat → (Nat → Int32) → xZ} (h : M a = some (.inl (t, n, .inl f))) : xari M a k = k t n f := by
  unfold xari
  rw [h]
def xarq (M : xMm) (a : Nat) (k : Nat → Nat → (Nat → Option Nat) → xZ) : xZ := match M a with
  | some (.inl (t, n, .inr (.inr (.inr (.inr f))))) => k t n f
  | _ => none
theorem xarq_some {M : xMm} {a : Nat} {k : Nat → Nat → (Nat → Option Nat) → xZ} {z : xO × xS} (h : xarq M a k = some z) : ∃ t n f, M a = some (.inl (t, n, .inr (.inr (.inr (.inr f))))) ∧ k t n f = some z := by
  unfold xarq at h
  split at h
  · exact ⟨_, _, _, by assumption, h⟩
  · cases h
theorem xarq_at {M : xMm} {a t n : Nat} {f : Nat → Option Nat} {k : Nat → Nat → (Nat → Option Nat) → xZ} (h : M a = some (.inl (t, n, .inr (.inr (.inr (.inr f)))))) : xarq M a k = k t n f := by
  unfold xarq
  rw [h]
def xarr (M : xMm) (a : Nat) (k : Nat → vp_A → xZ) : xZ := match M a with
  | some (.inl (t, x)) => k t x
  | _ => none
theorem xarr_some {M : xMm} {a : Nat} {k : Nat → vp_A → xZ} {z : xO × xS} (h : xarr M a k = some z) : ∃ t x, M a = some (.inl (t, x)) ∧ k t x = some z := by
  unfold xarr at h
  split at h
  · exact ⟨_, _, by assumption, h⟩
  · cases h
theorem xarr_at {M : xMm} {a t : Nat} {x : vp_A} {k : Nat → vp_A → xZ} (h : M a = some (.inl (t, x))) : xarr M a k = k t x := by
  unfold xarr
  rw [h]
abbrev xin (i : Int32) (n : Nat) : Prop := ¬ (i < 0 ∨ n ≤ i.toNatClampNeg)
/-- the words of a list of values -/
def xwt (st : List Value) : Nat := (st.map fun v => v.category).sum
/-- the locals of a method that begins -/
def xlo (as : List Value) (n : Nat) : xL := as.map some ++ List.replicate (n - as.length) none
/-- a call: the callee by the same reader, one level deeper -/
def xcall (rec : xRun) (d : Nat) (y : xMt) (pc : Nat) (lo : xL) (σ : xS) (z : xMt) (as rest : List Value) : xZ := match d with
  | 0 => none
  | d1 + 1 => xp ((as.all fun v => v.category == 1) = true ∧ as.length ≤ xm z ∧ xwt rest ≤ 8) (xq (rec d1 z 0 (xlo as (xm z)) [] σ) fun w => match w.1 with
      | .inl v => rec (d1 + 1) y (pc + 3) lo (v.toList ++ rest) w.2
      | .inr E => some (.inr E, w.2))
/-- a constructor's call -/
def xcallI (rec : xRun) (d : Nat) (y : xMt) (pc : Nat) (lo : xL) (σ : xS) (z : xMt) (as rest : List Value) : xZ := match d with
  | 0 => none
  | d1 + 1 => xp ((as.all fun v => v.category == 1) = true ∧ as.length ≤ xm z ∧ xwt rest ≤ 8) (xq (rec d1 z 0 (xlo as (xm z)) [] σ) fun w => match w.1 with
      | .inl none => rec (d1 + 1) y (pc + 3) lo rest w.2
      | _ => none)
def xrq (r : Option FieldType) : Bool := match r with
  | some (.object _) => true
  | some (.array _) => true
  | _ => false
/-- one instruction -/
def xstep (rec : xRun) (d : Nat) (y : xMt) (pc : Nat) (lo : xL) (st : List Value) (σ : xS) (len : Nat) (i : Instr) : xZ := match i with
  | .aconst_null => xl len 1 (rec d y (pc + 1) lo (.null :: st) σ)
  | .iconst n => xl len 1 (rec d y (pc + 1) lo (.int (Int32.ofInt n) :: st) σ)
  | .bipush n => xl len 2 (rec d y (pc + 2) lo (.int (Int8.ofInt n).toInt32 :: st) σ)
  | .sipush n => xl len 3 (rec d y (pc + 3) lo (.int (Int16.ofInt n).toInt32 :: st) σ)
  | .ldc k => xl len 2 (xq (xldc (xo y) k) fun v => rec d y (pc + 2) lo (.int v :: st) σ)
  | .ldc_w k => xl len 3 (xq (xldc (xo y) k) fun v => rec d y (pc + 3) lo (.int v :: st) σ)
  | .iload k => xl len 2 (xli lo k fun x => rec d y (pc + 2) lo (.int x :: st) σ)
  | .iload_n k => xl len 1 (xli lo k.val fun x => rec d y (pc + 1) lo (.int x :: st) σ)
  | .aload k => xl len 2 (xlq lo k fun v => rec d y (pc + 2) lo (v :: st) σ)
  | .aload_n k => xl len 1 (xlq lo k.val fun v => rec d y (pc + 1) lo (v :: st) σ)
  | .istore k => xl len 2 (xp (k < lo.length) (xb1 st fun x r => rec d y (pc + 2) (lo.set k (some (.int x))) r σ))
  | .istore_n k => xl len 1 (xp (k.val < lo.length) (xb1 st fun x r => rec d y (pc + 1) (lo.set k.val (some (.int x))) r σ))
  | .astore k => xl len 2 (xp (k < lo.length) (xbq st (fun r => rec d y (pc + 2) (lo.set k (some .null)) r σ) fun a r => rec d y (pc + 2) (lo.set k (some (.ref a))) r σ))
  | .astore_n k => xl len 1 (xp (k.val < lo.length) (xbq st (fun r => rec d y (pc + 1) (lo.set k.val (some .null)) r σ) fun a r => rec d y (pc + 1) (lo.set k.val (some (.ref a))) r σ))
  | .iinc k n => xl len 3 (xli lo k fun x => rec d y (pc + 3) (lo.set k (some (.int (x + Int32.ofInt n)))) st σ)
  | .iadd => xl len 1 (xb2 st fun a b r => rec d y (pc + 1) lo (.int (a + b) :: r) σ)
  | .isub => xl len 1 (xb2 st fun a b r => rec d y (pc + 1) lo (.int (a - b) :: r) σ)
  | .imul => xl len 1 (xb2 st fun a b r => rec d y (pc + 1) lo (.int (a * b) :: r) σ)
  | .idiv => xl len 1 (xb2 st fun a b r => xp (¬ b = 0) (rec d y (pc + 1) lo (.int (a / b) :: r) σ))
  | .irem => xl len 1 (xb2 st fun a b r => xp (¬ b = 0) (rec d y (pc + 1) lo (.int (a - a / b * b) :: r) σ))
  | .iand => xl len 1 (xb2 st fun a b r => rec d y (pc + 1) lo (.int (a &&& b) :: r) σ)
  | .dup => xl len 1 (xbv st fun v r => xp (v.category = 1) (rec d y (pc + 1) lo (v :: v :: r) σ))
  | .dup2 => xl len 1 (xbv st fun v r => xbv r fun w q => xp (v.category = 1 ∧ w.category = 1) (rec d y (pc + 1) lo (v :: w :: v :: w :: q) σ))
  | .goto off => xl len 3 (xjmp pc off fun t => rec d y t lo st σ)
  | .if_icmp c off => xl len 3 (xjmp pc off fun t => xb2 st fun a b r => xif c a b (rec d y t lo r σ) (rec d y (pc + 3) lo r σ))
  | .ifCond c off => xl len 3 (xjmp pc off fun t => xb1 st fun a r => xif c a 0 (rec d y t lo r σ) (rec d y (pc + 3) lo r σ))
  | .ifnull off => xl len 3 (xbq st (fun r => xjmp pc off fun t => rec d y t lo r σ) fun _ r => rec d y (pc + 3) lo r σ)
  | .ifnonnull off => xl len 3 (xbq st (fun r => rec d y (pc + 3) lo r σ) fun _ r => xjmp pc off fun t => rec d y t lo r σ)
  | .tableswitch df l h os => xb1 st fun a r => if a.toInt < l ∨ h < a.toInt then xjmp pc df fun t => rec d y t lo r σ else xq os[(a.toInt - l).toNat]? fun off => xjmp pc off fun t => rec d y t lo r σ
  | .lookupswitch df ps => xb1 st fun a r => xp ((ps.toList.zip (ps.toList.drop 1)).all (fun (a, next) => a.1 < next.1) = true) (xjmp pc (Op.lookupswitch.offset ps.toList df a.toInt) fun t => rec d y t lo r σ)
  | .getfield k => xl len 3 (xq (xfl (xo y) k) fun f => xbr st fun a r => xobj σ.1 a f.1 fun fs => xq fs[f.2]? fun v => rec d y (pc + 3) lo (v :: r) σ)
  | .putfield k => xl len 3 (xq (xfl (xo y) k) fun f => xbv st fun v q => xbr q fun a r => xobj σ.1 a f.1 fun fs => xp (f.2 < fs.length ∧ xfitb f.1 f.2 v = true ∧ (xfin f.1 f.2 = false ∨ ((xN y).name = "<init>" ∧ xo y = f.1))) (rec d y (pc + 3) lo r (xset σ.1 a (.inr (f.1, fs.set f.2 v)), σ.2)))
  | .arraylength => xl len 1 (xbr st fun a r => xarr σ.1 a fun t x => xp (t < xty.length) (rec d y (pc + 1) lo (.int (Int32.ofNat x.1) :: r) σ))
  | .iaload => xl len 1 (xb1 st fun i q => xbr q fun a r => xari σ.1 a fun t n f => xp (xty[t]? = some .int ∧ xin i n) (rec d y (pc + 1) lo (.int (f i.toNatClampNeg) :: r) σ))
  | .baload => xl len 1 (xb1 st fun i q => xbr q fun a r => xari σ.1 a fun t n f => xp (xty[t]? = some .boolean ∧ xin i n) (rec d y (pc + 1) lo (.int (f i.toNatClampNeg) :: r) σ))
  | .aaload => xl len 1 (xb1 st fun i q => xbr q fun a r => xarq σ.1 a fun t n f => xp ((xtyo t).isSome = true ∧ xin i n) (rec d y (pc + 1) lo (va_rf (f i.toNatClampNeg) :: r) σ))
  | .iastore => xl len 1 (xb2 st fun i x q => xbr q fun a r => xari σ.1 a fun t n f => xp (xty[t]? = some .int ∧ xin i n) (rec d y (pc + 1) lo r (xset σ.1 a (.inl (t, n, .inl (upd f i.toNatClampNeg x))), σ.2)))
  | .bastore => xl len 1 (xb2 st fun i x q => xbr q fun a r => xari σ.1 a fun t n f => xp (xty[t]? = some .boolean ∧ xin i n) (rec d y (pc + 1) lo r (xset σ.1 a (.inl (t, n, .inl (upd f i.toNatClampNeg (x &&& 1)))), σ.2)))
  | .aastore => xl len 1 (xbq st
      (fun q => xb1 q fun i q2 => xbr q2 fun a r => xarq σ.1 a fun t n f => xp ((xtyo t).isSome = true ∧ xin i n) (rec d y (pc + 1) lo r (xset σ.1 a (.inl (t, n, .inr (.inr (.inr (.inr (va_up f i.toNatClampNeg none)))))), σ.2)))
      fun v q => xb1 q fun i q2 => xbr q2 fun a r => xarq σ.1 a fun t n f => xq (xtyo t) fun cv => xobj σ.1 v cv fun _ => xp (xin i n) (rec d y (pc + 1) lo r (xset σ.1 a (.inl (t, n, .inr (.inr (.inr (.inr (va_up f i.toNatClampNeg (some v))))))), σ.2)))
  | .newarray .int => xl len 2 (xb1 st fun n r => xp (¬ n < 0 ∧ n.toNatClampNeg ≤ 100000) (rec d y (pc + 2) lo (.ref σ.2.1 :: r) (xset σ.1 σ.2.1 (.inl (0, n.toNatClampNeg, .inl fun _ => 0)), σ.2.1 + 1, σ.2.2 + n.toNatClampNeg)))
  | .newarray .boolean => xl len 2 (xb1 st fun n r => xp (¬ n < 0 ∧ n.toNatClampNeg ≤ 100000) (rec d y (pc + 2) lo (.ref σ.2.1 :: r) (xset σ.1 σ.2.1 (.inl (1, n.toNatClampNeg, .inl fun _ => 0)), σ.2.1 + 1, σ.2.2 + n.toNatClampNeg)))
  | .anewarray k => xl len 3 (xq (xac (xo y) k) fun t => xb1 st fun n r => xp (¬ n < 0 ∧ n.toNatClampNeg ≤ 100000) (rec d y (pc + 3) lo (.ref σ.2.1 :: r) (xset σ.1 σ.2.1 (.inl (t, n.toNatClampNeg, .inr (.inr (.inr (.inr fun _ => none))))), σ.2.1 + 1, σ.2.2 + n.toNatClampNeg)))
  | .new k => xl len 3 (match xth y pc with
      | some q => xp (xwt st ≤ 8) (some (.inr q.2.1, (σ.1, σ.2.1 + 1, σ.2.2 + 6)))
      | none => xq (xnw (xo y) k) fun ci => rec d y (pc + 3) lo (.ref σ.2.1 :: st) (xset σ.1 σ.2.1 (.inr (ci, xdf ci)), σ.2.1 + 1, σ.2.2 + (xdf ci).length))
  | .ireturn => xl len 1 (match st with
      | [.int v] => (match xR y with
          | some .int => some (.inl (some (.int v)), σ)
          | some .boolean => xp (v = 0 ∨ v = 1) (some (.inl (some (.int v)), σ))
          | _ => none)
      | _ => none)
  | .areturn => xl len 1 (match st with
      | [.null] => xp (xrq (xR y) = true) (some (.inl (some .null), σ))
      | [.ref a] => xp (xrq (xR y) = true) (some (.inl (some (.ref a)), σ))
      | _ => none)
  | .return_ => xl len 1 (match st with
      | [] => xp (xR y = none) (some (.inl none, σ))
      | _ => none)
  | .invokestatic k => xl len 3 (xq (xca (xo y) k) fun q => xp (q.1 = 0 ∧ xnp q.2 ≤ st.length) (xcall rec d y pc lo σ q.2 (st.take (xnp q.2)).reverse (st.drop (xnp q.2))))
  | .invokevirtual k => xl len 3 (xq (xca (xo y) k) fun q => xp (q.1 = 1 ∧ xnp q.2 ≤ st.length) (xbr (st.drop (xnp q.2)) fun b r => xobj σ.1 b (xo q.2) fun _ => xcall rec d y pc lo σ q.2 (.ref b :: (st.take (xnp q.2)).reverse) r))
  | .invokespecial k => xl len 3 (xq (xca (xo y) k) fun q => if q.1 = 3 then xbr st fun _ r => xp (xwt r ≤ 8) (rec d y (pc + 3) lo r σ) else xp ((q.1 = 2 ∨ q.1 = 4) ∧ xnp q.2 ≤ st.length) (xbr (st.drop (xnp q.2)) fun b r => xcallI rec d y pc lo σ q.2 (.ref b :: (st.take (xnp q.2)).reverse) r))
  | _ => none
def xrun : Nat → xRun
  | 0 => fun _ _ _ _ _ _ => none
  | n + 1 => fun d y pc lo st σ => match decode (xC y) pc with
    | .ok (i, len) => xstep (xrun n) d y pc lo st σ len i
    | .error _ => none
