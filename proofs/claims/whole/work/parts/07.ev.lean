/-! rows over the reader -/
def xEv (d : Nat) (y : xMt) (pc : Nat) (lo : xL) (st : List Value) (σ : xS) (r : xO × xS) : Prop := ∃ N, ∀ n, N ≤ n → xrun n d y pc lo st σ = some r
theorem xl_self (k : Nat) (r : xZ) : xl k k r = r := if_pos rfl
theorem xq_at {α : Type} {q : Option α} {a : α} {k : α → xZ} (h : q = some a) : xq q k = k a := by rw [h]; rfl
theorem xp_at {c : Prop} {i : Decidable c} {r : xZ} (h : c) : @xp c i r = r := if_pos h
theorem xli_at {lo : xL} {i : Nat} {k : Int32 → xZ} {x : Int32} (h : lo[i]? = some (some (.int x))) : xli lo i k = k x := by unfold xli; rw [h]
theorem xlq_n {lo : xL} {i : Nat} {k : Value → xZ} (h : lo[i]? = some (some .null)) : xlq lo i k = k .null := by unfold xlq; rw [h]
theorem xlq_r {lo : xL} {i : Nat} {k : Value → xZ} {a : Nat} (h : lo[i]? = some (some (.ref a))) : xlq lo i k = k (.ref a) := by unfold xlq; rw [h]
theorem xlq_q {lo : xL} {i : Nat} {k : Value → xZ} {q : Option Nat} (h : lo[i]? = some (some (va_rf q))) : xlq lo i k = k (va_rf q) := by
  cases q with
  | none => exact xlq_n h
  | some a => exact xlq_r h
theorem xEv.step {d : Nat} {y : xMt} {pc : Nat} {lo : xL} {st : List Value} {σ : xS} {r : xO × xS} {i : Instr} {len : Nat} (hd : decode (xC y) pc = .ok (i, len)) (h : ∃ N, ∀ n, N ≤ n → xstep (xrun n) d y pc lo st σ len i = some r) : xEv d y pc lo st σ r := by
  obtain ⟨N, h⟩ := h
  refine ⟨N + 1, fun n hn => ?_⟩
  obtain ⟨k, rfl⟩ : ∃ k, n = k + 1 := ⟨n - 1, by omega⟩
  show (match decode (xC y) pc with
    | .ok (i, len) => xstep (xrun k) d y pc lo st σ len i
    | .error _ => none) = some r
  rw [hd]
  exact h k (by omega)
section EV
variable {d : Nat} {y : xMt} {pc : Nat} {lo : xL} {st : List Value} {σ : xS} {r : xO × xS}
theorem ev_null (hd : decode (xC y) pc = .ok (.aconst_null, 1)) (h : xEv d y (pc + 1) lo (.null :: st) σ r) : xEv d y pc lo st σ r := by
  refine xEv.step hd ?_
  obtain ⟨N, h⟩ := h
  refine ⟨N, fun n hn => ?_⟩
  show xl 1 1 (xrun n d y (pc + 1) lo (.null :: st) σ) = some r
  rw [xl_self]
  exact h n hn
theorem ev_iconst {k : Int} {v : Int32} (hd : decode (xC y) pc = .ok (.iconst k, 1)) (hv : Int32.ofInt k = v) (h : xEv d y (pc + 1) lo (.int v :: st) σ r) : xEv d y pc lo st σ r := by
  refine xEv.step hd ?_
  obtain ⟨N, h⟩ := h
  refine ⟨N, fun n hn => ?_⟩
  show xl 1 1 (xrun n d y (pc + 1) lo (.int (Int32.ofInt k) :: st) σ) = some r
  rw [xl_self, hv]
  exact h n hn
theorem ev_bipush {k : Int} {v : Int32} (hd : decode (xC y) pc = .ok (.bipush k, 2)) (hv : (Int8.ofInt k).toInt32 = v) (h : xEv d y (pc + 2) lo (.int v :: st) σ r) : xEv d y pc lo st σ r := by
  refine xEv.step hd ?_
  obtain ⟨N, h⟩ := h
  refine ⟨N, fun n hn => ?_⟩
  show xl 2 2 (xrun n d y (pc + 2) lo (.int (Int8.ofInt k).toInt32 :: st) σ) = some r
  rw [xl_self, hv]
  exact h n hn
theorem ev_sipush {k : Int} {v : Int32} (hd : decode (xC y) pc = .ok (.sipush k, 3)) (hv : (Int16.ofInt k).toInt32 = v) (h : xEv d y (pc + 3) lo (.int v :: st) σ r) : xEv d y pc lo st σ r := by
  refine xEv.step hd ?_
  obtain ⟨N, h⟩ := h
  refine ⟨N, fun n hn => ?_⟩
  show xl 3 3 (xrun n d y (pc + 3) lo (.int (Int16.ofInt k).toInt32 :: st) σ) = some r
  rw [xl_self, hv]
  exact h n hn
theorem ev_ldc {k : Nat} {v : Int32} (hd : decode (xC y) pc = .ok (.ldc k, 2)) (hv : xldc (xo y) k = some v) (h : xEv d y (pc + 2) lo (.int v :: st) σ r) : xEv d y pc lo st σ r := by
  refine xEv.step hd ?_
  obtain ⟨N, h⟩ := h
  refine ⟨N, fun n hn => ?_⟩
  show xl 2 2 (xq (xldc (xo y) k) fun v => xrun n d y (pc + 2) lo (.int v :: st) σ) = some r
  rw [xl_self, xq_at hv]
  exact h n hn
theorem ev_ldcw {k : Nat} {v : Int32} (hd : decode (xC y) pc = .ok (.ldc_w k, 3)) (hv : xldc (xo y) k = some v) (h : xEv d y (pc + 3) lo (.int v :: st) σ r) : xEv d y pc lo st σ r := by
  refine xEv.step hd ?_
  obtain ⟨N, h⟩ := h
  refine ⟨N, fun n hn => ?_⟩
  show xl 3 3 (xq (xldc (xo y) k) fun v => xrun n d y (pc + 3) lo (.int v :: st) σ) = some r
  rw [xl_self, xq_at hv]
  exact h n hn
theorem ev_iload {k : Nat} {x : Int32} (hd : decode (xC y) pc = .ok (.iload k, 2)) (hv : lo[k]? = some (some (.int x))) (h : xEv d y (pc + 2) lo (.int x :: st) σ r) : xEv d y pc lo st σ r := by
  refine xEv.step hd ?_
  obtain ⟨N, h⟩ := h
  refine ⟨N, fun n hn => ?_⟩
  show xl 2 2 (xli lo k fun x => xrun n d y (pc + 2) lo (.int x :: st) σ) = some r
  rw [xl_self, xli_at hv]
  exact h n hn
theorem ev_iload_n {k : Fin 4} {x : Int32} (hd : decode (xC y) pc = .ok (.iload_n k, 1)) (hv : lo[k.val]? = some (some (.int x))) (h : xEv d y (pc + 1) lo (.int x :: st) σ r) : xEv d y pc lo st σ r := by
  refine xEv.step hd ?_
  obtain ⟨N, h⟩ := h
  refine ⟨N, fun n hn => ?_⟩
  show xl 1 1 (xli lo k.val fun x => xrun n d y (pc + 1) lo (.int x :: st) σ) = some r
  rw [xl_self, xli_at hv]
  exact h n hn
theorem ev_aload {k : Nat} {a : Nat} (hd : decode (xC y) pc = .ok (.aload k, 2)) (hv : lo[k]? = some (some (.ref a))) (h : xEv d y (pc + 2) lo (.ref a :: st) σ r) : xEv d y pc lo st σ r := by
  refine xEv.step hd ?_
  obtain ⟨N, h⟩ := h
  refine ⟨N, fun n hn => ?_⟩
  show xl 2 2 (xlq lo k fun v => xrun n d y (pc + 2) lo (v :: st) σ) = some r
  rw [xl_self, xlq_r hv]
  exact h n hn
theorem ev_aload_n {k : Fin 4} {a : Nat} (hd : decode (xC y) pc = .ok (.aload_n k, 1)) (hv : lo[k.val]? = some (some (.ref a))) (h : xEv d y (pc + 1) lo (.ref a :: st) σ r) : xEv d y pc lo st σ r := by
  refine xEv.step hd ?_
  obtain ⟨N, h⟩ := h
  refine ⟨N, fun n hn => ?_⟩
  show xl 1 1 (xlq lo k.val fun v => xrun n d y (pc + 1) lo (v :: st) σ) = some r
  rw [xl_self, xlq_r hv]
  exact h n hn
theorem ev_aloadN {k : Nat} (hd : decode (xC y) pc = .ok (.aload k, 2)) (hv : lo[k]? = some (some (.null))) (h : xEv d y (pc + 2) lo (.null :: st) σ r) : xEv d y pc lo st σ r := by
  refine xEv.step hd ?_
  obtain ⟨N, h⟩ := h
  refine ⟨N, fun n hn => ?_⟩
  show xl 2 2 (xlq lo k fun v => xrun n d y (pc + 2) lo (v :: st) σ) = some r
  rw [xl_self, xlq_n hv]
  exact h n hn
theorem ev_aload_nN {k : Fin 4} (hd : decode (xC y) pc = .ok (.aload_n k, 1)) (hv : lo[k.val]? = some (some (.null))) (h : xEv d y (pc + 1) lo (.null :: st) σ r) : xEv d y pc lo st σ r := by
  refine xEv.step hd ?_
  obtain ⟨N, h⟩ := h
  refine ⟨N, fun n hn => ?_⟩
  show xl 1 1 (xlq lo k.val fun v => xrun n d y (pc + 1) lo (v :: st) σ) = some r
  rw [xl_self, xlq_n hv]
  exact h n hn
theorem ev_aloadQ {k : Nat} {a : Option Nat} (hd : decode (xC y) pc = .ok (.aload k, 2)) (hv : lo[k]? = some (some (va_rf a))) (h : xEv d y (pc + 2) lo (va_rf a :: st) σ r) : xEv d y pc lo st σ r := by
  refine xEv.step hd ?_
  obtain ⟨N, h⟩ := h
  refine ⟨N, fun n hn => ?_⟩
  show xl 2 2 (xlq lo k fun v => xrun n d y (pc + 2) lo (v :: st) σ) = some r
  rw [xl_self, xlq_q hv]
  exact h n hn
theorem ev_aload_nQ {k : Fin 4} {a : Option Nat} (hd : decode (xC y) pc = .ok (.aload_n k, 1)) (hv : lo[k.val]? = some (some (va_rf a))) (h : xEv d y (pc + 1) lo (va_rf a :: st) σ r) : xEv d y pc lo st σ r := by
  refine xEv.step hd ?_
  obtain ⟨N, h⟩ := h
  refine ⟨N, fun n hn => ?_⟩
  show xl 1 1 (xlq lo k.val fun v => xrun n d y (pc + 1) lo (v :: st) σ) = some r
  rw [xl_self, xlq_q hv]
  exact h n hn
theorem ev_istore {k : Nat} {x : Int32} {lo1 : xL} (hd : decode (xC y) pc = .ok (.istore k, 2)) (hk : k < lo.length) (hs : lo.set k (some (.int x)) = lo1) (h : xEv d y (pc + 2) lo1 st σ r) : xEv d y pc lo (.int x :: st) σ r := by
  refine xEv.step hd ?_
  obtain ⟨N, h⟩ := h
  refine ⟨N, fun n hn => ?_⟩
  show xl 2 2 (xp (k < lo.length) (xrun n d y (pc + 2) (lo.set k (some (.int x))) st σ)) = some r
  rw [xl_self, xp_at hk, hs]
  exact h n hn
theorem ev_istore_n {k : Fin 4} {x : Int32} {lo1 : xL} (hd : decode (xC y) pc = .ok (.istore_n k, 1)) (hk : k.val < lo.length) (hs : lo.set k.val (some (.int x)) = lo1) (h : xEv d y (pc + 1) lo1 st σ r) : xEv d y pc lo (.int x :: st) σ r := by
  refine xEv.step hd ?_
  obtain ⟨N, h⟩ := h
  refine ⟨N, fun n hn => ?_⟩
  show xl 1 1 (xp (k.val < lo.length) (xrun n d y (pc + 1) (lo.set k.val (some (.int x))) st σ)) = some r
  rw [xl_self, xp_at hk, hs]
  exact h n hn
theorem ev_astore {k : Nat} {a : Nat} {lo1 : xL} (hd : decode (xC y) pc = .ok (.astore k, 2)) (hk : k < lo.length) (hs : lo.set k (some (.ref a)) = lo1) (h : xEv d y (pc + 2) lo1 st σ r) : xEv d y pc lo (.ref a :: st) σ r := by
  refine xEv.step hd ?_
  obtain ⟨N, h⟩ := h
  refine ⟨N, fun n hn => ?_⟩
  show xl 2 2 (xp (k < lo.length) (xrun n d y (pc + 2) (lo.set k (some (.ref a))) st σ)) = some r
  rw [xl_self, xp_at hk, hs]
  exact h n hn
theorem ev_astore_n {k : Fin 4} {a : Nat} {lo1 : xL} (hd : decode (xC y) pc = .ok (.astore_n k, 1)) (hk : k.val < lo.length) (hs : lo.set k.val (some (.ref a)) = lo1) (h : xEv d y (pc + 1) lo1 st σ r) : xEv d y pc lo (.ref a :: st) σ r := by
  refine xEv.step hd ?_
  obtain ⟨N, h⟩ := h
  refine ⟨N, fun n hn => ?_⟩
  show xl 1 1 (xp (k.val < lo.length) (xrun n d y (pc + 1) (lo.set k.val (some (.ref a))) st σ)) = some r
  rw [xl_self, xp_at hk, hs]
  exact h n hn
theorem ev_astoreN {k : Nat} {lo1 : xL} (hd : decode (xC y) pc = .ok (.astore k, 2)) (hk : k < lo.length) (hs : lo.set k (some (.null)) = lo1) (h : xEv d y (pc + 2) lo1 st σ r) : xEv d y pc lo (.null :: st) σ r := by
  refine xEv.step hd ?_
  obtain ⟨N, h⟩ := h
  refine ⟨N, fun n hn => ?_⟩
  show xl 2 2 (xp (k < lo.length) (xrun n d y (pc + 2) (lo.set k (some (.null))) st σ)) = some r
  rw [xl_self, xp_at hk, hs]
  exact h n hn
theorem ev_astore_nN {k : Fin 4} {lo1 : xL} (hd : decode (xC y) pc = .ok (.astore_n k, 1)) (hk : k.val < lo.length) (hs : lo.set k.val (some (.null)) = lo1) (h : xEv d y (pc + 1) lo1 st σ r) : xEv d y pc lo (.null :: st) σ r := by
  refine xEv.step hd ?_
  obtain ⟨N, h⟩ := h
  refine ⟨N, fun n hn => ?_⟩
  show xl 1 1 (xp (k.val < lo.length) (xrun n d y (pc + 1) (lo.set k.val (some (.null))) st σ)) = some r
  rw [xl_self, xp_at hk, hs]
  exact h n hn
theorem ev_iinc {k : Nat} {x v : Int32} {c : Int} {lo1 : xL} (hd : decode (xC y) pc = .ok (.iinc k c, 3)) (hv : lo[k]? = some (some (.int x))) (hx : x + Int32.ofInt c = v) (hs : lo.set k (some (.int v)) = lo1) (h : xEv d y (pc + 3) lo1 st σ r) : xEv d y pc lo st σ r := by
  refine xEv.step hd ?_
  obtain ⟨N, h⟩ := h
  refine ⟨N, fun n hn => ?_⟩
  show xl 3 3 (xli lo k fun x => xrun n d y (pc + 3) (lo.set k (some (.int (x + Int32.ofInt c)))) st σ) = some r
  rw [xl_self, xli_at hv, hx, hs]
  exact h n hn
theorem ev_iadd {a b : Int32} (hd : decode (xC y) pc = .ok (.iadd, 1)) (h : xEv d y (pc + 1) lo (.int (a + b) :: st) σ r) : xEv d y pc lo (.int b :: .int a :: st) σ r := by
  refine xEv.step hd ?_
  obtain ⟨N, h⟩ := h
  refine ⟨N, fun n hn => ?_⟩
  show xl 1 1 (xrun n d y (pc + 1) lo (.int (a + b) :: st) σ) = some r
  rw [xl_self]
  exact h n hn
theorem ev_isub {a b : Int32} (hd : decode (xC y) pc = .ok (.isub, 1)) (h : xEv d y (pc + 1) lo (.int (a - b) :: st) σ r) : xEv d y pc lo (.int b :: .int a :: st) σ r := by
  refine xEv.step hd ?_
  obtain ⟨N, h⟩ := h
  refine ⟨N, fun n hn => ?_⟩
  show xl 1 1 (xrun n d y (pc + 1) lo (.int (a - b) :: st) σ) = some r
  rw [xl_self]
  exact h n hn
theorem ev_imul {a b : Int32} (hd : decode (xC y) pc = .ok (.imul, 1)) (h : xEv d y (pc + 1) lo (.int (a * b) :: st) σ r) : xEv d y pc lo (.int b :: .int a :: st) σ r := by
  refine xEv.step hd ?_
  obtain ⟨N, h⟩ := h
  refine ⟨N, fun n hn => ?_⟩
  show xl 1 1 (xrun n d y (pc + 1) lo (.int (a * b) :: st) σ) = some r
  rw [xl_self]
  exact h n hn
theorem ev_iand {a b : Int32} (hd : decode (xC y) pc = .ok (.iand, 1)) (h : xEv d y (pc + 1) lo (.int (a &&& b) :: st) σ r) : xEv d y pc lo (.int b :: .int a :: st) σ r := by
  refine xEv.step hd ?_
  obtain ⟨N, h⟩ := h
  refine ⟨N, fun n hn => ?_⟩
  show xl 1 1 (xrun n d y (pc + 1) lo (.int (a &&& b) :: st) σ) = some r
  rw [xl_self]
  exact h n hn
theorem ev_idiv {a b : Int32} (hd : decode (xC y) pc = .ok (.idiv, 1)) (h0 : ¬ b = 0) (h : xEv d y (pc + 1) lo (.int (a / b) :: st) σ r) : xEv d y pc lo (.int b :: .int a :: st) σ r := by
  refine xEv.step hd ?_
  obtain ⟨N, h⟩ := h
  refine ⟨N, fun n hn => ?_⟩
  show xl 1 1 (xp (¬ b = 0) (xrun n d y (pc + 1) lo (.int (a / b) :: st) σ)) = some r
  rw [xl_self, xp_at h0]
  exact h n hn
theorem ev_irem {a b : Int32} (hd : decode (xC y) pc = .ok (.irem, 1)) (h0 : ¬ b = 0) (h : xEv d y (pc + 1) lo (.int (a - a / b * b) :: st) σ r) : xEv d y pc lo (.int b :: .int a :: st) σ r := by
  refine xEv.step hd ?_
  obtain ⟨N, h⟩ := h
  refine ⟨N, fun n hn => ?_⟩
  show xl 1 1 (xp (¬ b = 0) (xrun n d y (pc + 1) lo (.int (a - a / b * b) :: st) σ)) = some r
  rw [xl_self, xp_at h0]
  exact h n hn
theorem ev_dup {v : Value} (hd : decode (xC y) pc = .ok (.dup, 1)) (hv : v.category = 1) (h : xEv d y (pc + 1) lo (v :: v :: st) σ r) : xEv d y pc lo (v :: st) σ r := by
  refine xEv.step hd ?_
  obtain ⟨N, h⟩ := h
  refine ⟨N, fun n hn => ?_⟩
  show xl 1 1 (xp (v.category = 1) (xrun n d y (pc + 1) lo (v :: v :: st) σ)) = some r
  rw [xl_self, xp_at hv]
  exact h n hn
theorem ev_dup2 {v u : Value} (hd : decode (xC y) pc = .ok (.dup2, 1)) (hv : v.category = 1 ∧ u.category = 1) (h : xEv d y (pc + 1) lo (v :: u :: v :: u :: st) σ r) : xEv d y pc lo (v :: u :: st) σ r := by
  refine xEv.step hd ?_
  obtain ⟨N, h⟩ := h
  refine ⟨N, fun n hn => ?_⟩
  show xl 1 1 (xp (v.category = 1 ∧ u.category = 1) (xrun n d y (pc + 1) lo (v :: u :: v :: u :: st) σ)) = some r
  rw [xl_self, xp_at hv]
  exact h n hn
theorem ev_goto {off : Int} {t : Nat} (hd : decode (xC y) pc = .ok (.goto off, 3)) (ht : (pc : Int) + off = (t : Int)) (h : xEv d y t lo st σ r) : xEv d y pc lo st σ r := by
  refine xEv.step hd ?_
  obtain ⟨N, h⟩ := h
  refine ⟨N, fun n hn => ?_⟩
  show xl 3 3 (xjmp pc off fun t => xrun n d y t lo st σ) = some r
  rw [xl_self, xjmp_to ht]
  exact h n hn
theorem ev_icmp_eq {a b : Int32} {off : Int} {t : Nat} (hd : decode (xC y) pc = .ok (.if_icmp .eq off, 3)) (ht : (pc : Int) + off = (t : Int)) (h1 : a = b → xEv d y t lo st σ r) (h2 : ¬ a = b → xEv d y (pc + 3) lo st σ r) : xEv d y pc lo (.int b :: .int a :: st) σ r := by
  refine xEv.step hd ?_
  by_cases hc : a = b
  · obtain ⟨N, h⟩ := h1 hc
    refine ⟨N, fun n hn => ?_⟩
    show xl 3 3 (xjmp pc off fun t => xif .eq a b (xrun n d y t lo st σ) (xrun n d y (pc + 3) lo st σ)) = some r
    rw [xl_self, xjmp_to ht]
    exact (if_pos hc).trans (h n hn)
  · obtain ⟨N, h⟩ := h2 hc
    refine ⟨N, fun n hn => ?_⟩
    show xl 3 3 (xjmp pc off fun t => xif .eq a b (xrun n d y t lo st σ) (xrun n d y (pc + 3) lo st σ)) = some r
    rw [xl_self, xjmp_to ht]
    exact (if_neg hc).trans (h n hn)
theorem ev_icmp_ne {a b : Int32} {off : Int} {t : Nat} (hd : decode (xC y) pc = .ok (.if_icmp .ne off, 3)) (ht : (pc : Int) + off = (t : Int)) (h1 : ¬ a = b → xEv d y t lo st σ r) (h2 : a = b → xEv d y (pc + 3) lo st σ r) : xEv d y pc lo (.int b :: .int a :: st) σ r := by
  refine xEv.step hd ?_
  by_cases hc : a = b
  · obtain ⟨N, h⟩ := h2 hc
    refine ⟨N, fun n hn => ?_⟩
    show xl 3 3 (xjmp pc off fun t => xif .ne a b (xrun n d y t lo st σ) (xrun n d y (pc + 3) lo st σ)) = some r
    rw [xl_self, xjmp_to ht]
    exact (if_pos hc).trans (h n hn)
  · obtain ⟨N, h⟩ := h1 hc
    refine ⟨N, fun n hn => ?_⟩
    show xl 3 3 (xjmp pc off fun t => xif .ne a b (xrun n d y t lo st σ) (xrun n d y (pc + 3) lo st σ)) = some r
    rw [xl_self, xjmp_to ht]
    exact (if_neg hc).trans (h n hn)
theorem ev_icmp_lt {a b : Int32} {off : Int} {t : Nat} (hd : decode (xC y) pc = .ok (.if_icmp .lt off, 3)) (ht : (pc : Int) + off = (t : Int)) (h1 : a < b → xEv d y t lo st σ r) (h2 : ¬ a < b → xEv d y (pc + 3) lo st σ r) : xEv d y pc lo (.int b :: .int a :: st) σ r := by
  refine xEv.step hd ?_
  by_cases hc : a < b
  · obtain ⟨N, h⟩ := h1 hc
    refine ⟨N, fun n hn => ?_⟩
    show xl 3 3 (xjmp pc off fun t => xif .lt a b (xrun n d y t lo st σ) (xrun n d y (pc + 3) lo st σ)) = some r
    rw [xl_self, xjmp_to ht]
    exact (if_pos hc).trans (h n hn)
  · obtain ⟨N, h⟩ := h2 hc
    refine ⟨N, fun n hn => ?_⟩
    show xl 3 3 (xjmp pc off fun t => xif .lt a b (xrun n d y t lo st σ) (xrun n d y (pc + 3) lo st σ)) = some r
    rw [xl_self, xjmp_to ht]
    exact (if_neg hc).trans (h n hn)
theorem ev_icmp_ge {a b : Int32} {off : Int} {t : Nat} (hd : decode (xC y) pc = .ok (.if_icmp .ge off, 3)) (ht : (pc : Int) + off = (t : Int)) (h1 : b ≤ a → xEv d y t lo st σ r) (h2 : ¬ b ≤ a → xEv d y (pc + 3) lo st σ r) : xEv d y pc lo (.int b :: .int a :: st) σ r := by
  refine xEv.step hd ?_
  by_cases hc : b ≤ a
  · obtain ⟨N, h⟩ := h1 hc
    refine ⟨N, fun n hn => ?_⟩
    show xl 3 3 (xjmp pc off fun t => xif .ge a b (xrun n d y t lo st σ) (xrun n d y (pc + 3) lo st σ)) = some r
    rw [xl_self, xjmp_to ht]
    exact (if_pos hc).trans (h n hn)
  · obtain ⟨N, h⟩ := h2 hc
    refine ⟨N, fun n hn => ?_⟩
    show xl 3 3 (xjmp pc off fun t => xif .ge a b (xrun n d y t lo st σ) (xrun n d y (pc + 3) lo st σ)) = some r
    rw [xl_self, xjmp_to ht]
    exact (if_neg hc).trans (h n hn)
theorem ev_icmp_gt {a b : Int32} {off : Int} {t : Nat} (hd : decode (xC y) pc = .ok (.if_icmp .gt off, 3)) (ht : (pc : Int) + off = (t : Int)) (h1 : b < a → xEv d y t lo st σ r) (h2 : ¬ b < a → xEv d y (pc + 3) lo st σ r) : xEv d y pc lo (.int b :: .int a :: st) σ r := by
  refine xEv.step hd ?_
  by_cases hc : b < a
  · obtain ⟨N, h⟩ := h1 hc
    refine ⟨N, fun n hn => ?_⟩
    show xl 3 3 (xjmp pc off fun t => xif .gt a b (xrun n d y t lo st σ) (xrun n d y (pc + 3) lo st σ)) = some r
    rw [xl_self, xjmp_to ht]
    exact (if_pos hc).trans (h n hn)
  · obtain ⟨N, h⟩ := h2 hc
    refine ⟨N, fun n hn => ?_⟩
    show xl 3 3 (xjmp pc off fun t => xif .gt a b (xrun n d y t lo st σ) (xrun n d y (pc + 3) lo st σ)) = some r
    rw [xl_self, xjmp_to ht]
    exact (if_neg hc).trans (h n hn)
theorem ev_icmp_le {a b : Int32} {off : Int} {t : Nat} (hd : decode (xC y) pc = .ok (.if_icmp .le off, 3)) (ht : (pc : Int) + off = (t : Int)) (h1 : a ≤ b → xEv d y t lo st σ r) (h2 : ¬ a ≤ b → xEv d y (pc + 3) lo st σ r) : xEv d y pc lo (.int b :: .int a :: st) σ r := by
  refine xEv.step hd ?_
  by_cases hc : a ≤ b
  · obtain ⟨N, h⟩ := h1 hc
    refine ⟨N, fun n hn => ?_⟩
    show xl 3 3 (xjmp pc off fun t => xif .le a b (xrun n d y t lo st σ) (xrun n d y (pc + 3) lo st σ)) = some r
    rw [xl_self, xjmp_to ht]
    exact (if_pos hc).trans (h n hn)
  · obtain ⟨N, h⟩ := h2 hc
    refine ⟨N, fun n hn => ?_⟩
    show xl 3 3 (xjmp pc off fun t => xif .le a b (xrun n d y t lo st σ) (xrun n d y (pc + 3) lo st σ)) = some r
    rw [xl_self, xjmp_to ht]
    exact (if_neg hc).trans (h n hn)
theorem ev_if_eq {a : Int32} {off : Int} {t : Nat} (hd : decode (xC y) pc = .ok (.ifCond .eq off, 3)) (ht : (pc : Int) + off = (t : Int)) (h1 : a = 0 → xEv d y t lo st σ r) (h2 : ¬ a = 0 → xEv d y (pc + 3) lo st σ r) : xEv d y pc lo (.int a :: st) σ r := by
  refine xEv.step hd ?_
  by_cases hc : a = 0
  · obtain ⟨N, h⟩ := h1 hc
    refine ⟨N, fun n hn => ?_⟩
    show xl 3 3 (xjmp pc off fun t => xif .eq a 0 (xrun n d y t lo st σ) (xrun n d y (pc + 3) lo st σ)) = some r
    rw [xl_self, xjmp_to ht]
    exact (if_pos hc).trans (h n hn)
  · obtain ⟨N, h⟩ := h2 hc
    refine ⟨N, fun n hn => ?_⟩
    show xl 3 3 (xjmp pc off fun t => xif .eq a 0 (xrun n d y t lo st σ) (xrun n d y (pc + 3) lo st σ)) = some r
    rw [xl_self, xjmp_to ht]
    exact (if_neg hc).trans (h n hn)
theorem ev_if_ne {a : Int32} {off : Int} {t : Nat} (hd : decode (xC y) pc = .ok (.ifCond .ne off, 3)) (ht : (pc : Int) + off = (t : Int)) (h1 : ¬ a = 0 → xEv d y t lo st σ r) (h2 : a = 0 → xEv d y (pc + 3) lo st σ r) : xEv d y pc lo (.int a :: st) σ r := by
  refine xEv.step hd ?_
  by_cases hc : a = 0
  · obtain ⟨N, h⟩ := h2 hc
    refine ⟨N, fun n hn => ?_⟩
    show xl 3 3 (xjmp pc off fun t => xif .ne a 0 (xrun n d y t lo st σ) (xrun n d y (pc + 3) lo st σ)) = some r
    rw [xl_self, xjmp_to ht]
    exact (if_pos hc).trans (h n hn)
  · obtain ⟨N, h⟩ := h1 hc
    refine ⟨N, fun n hn => ?_⟩
    show xl 3 3 (xjmp pc off fun t => xif .ne a 0 (xrun n d y t lo st σ) (xrun n d y (pc + 3) lo st σ)) = some r
    rw [xl_self, xjmp_to ht]
    exact (if_neg hc).trans (h n hn)
theorem ev_if_lt {a : Int32} {off : Int} {t : Nat} (hd : decode (xC y) pc = .ok (.ifCond .lt off, 3)) (ht : (pc : Int) + off = (t : Int)) (h1 : a < 0 → xEv d y t lo st σ r) (h2 : ¬ a < 0 → xEv d y (pc + 3) lo st σ r) : xEv d y pc lo (.int a :: st) σ r := by
  refine xEv.step hd ?_
  by_cases hc : a < 0
  · obtain ⟨N, h⟩ := h1 hc
    refine ⟨N, fun n hn => ?_⟩
    show xl 3 3 (xjmp pc off fun t => xif .lt a 0 (xrun n d y t lo st σ) (xrun n d y (pc + 3) lo st σ)) = some r
    rw [xl_self, xjmp_to ht]
    exact (if_pos hc).trans (h n hn)
  · obtain ⟨N, h⟩ := h2 hc
    refine ⟨N, fun n hn => ?_⟩
    show xl 3 3 (xjmp pc off fun t => xif .lt a 0 (xrun n d y t lo st σ) (xrun n d y (pc + 3) lo st σ)) = some r
    rw [xl_self, xjmp_to ht]
    exact (if_neg hc).trans (h n hn)
theorem ev_if_ge {a : Int32} {off : Int} {t : Nat} (hd : decode (xC y) pc = .ok (.ifCond .ge off, 3)) (ht : (pc : Int) + off = (t : Int)) (h1 : 0 ≤ a → xEv d y t lo st σ r) (h2 : ¬ 0 ≤ a → xEv d y (pc + 3) lo st σ r) : xEv d y pc lo (.int a :: st) σ r := by
  refine xEv.step hd ?_
  by_cases hc : 0 ≤ a
  · obtain ⟨N, h⟩ := h1 hc
    refine ⟨N, fun n hn => ?_⟩
    show xl 3 3 (xjmp pc off fun t => xif .ge a 0 (xrun n d y t lo st σ) (xrun n d y (pc + 3) lo st σ)) = some r
    rw [xl_self, xjmp_to ht]
    exact (if_pos hc).trans (h n hn)
  · obtain ⟨N, h⟩ := h2 hc
    refine ⟨N, fun n hn => ?_⟩
    show xl 3 3 (xjmp pc off fun t => xif .ge a 0 (xrun n d y t lo st σ) (xrun n d y (pc + 3) lo st σ)) = some r
    rw [xl_self, xjmp_to ht]
    exact (if_neg hc).trans (h n hn)
theorem ev_if_gt {a : Int32} {off : Int} {t : Nat} (hd : decode (xC y) pc = .ok (.ifCond .gt off, 3)) (ht : (pc : Int) + off = (t : Int)) (h1 : 0 < a → xEv d y t lo st σ r) (h2 : ¬ 0 < a → xEv d y (pc + 3) lo st σ r) : xEv d y pc lo (.int a :: st) σ r := by
  refine xEv.step hd ?_
  by_cases hc : 0 < a
  · obtain ⟨N, h⟩ := h1 hc
    refine ⟨N, fun n hn => ?_⟩
    show xl 3 3 (xjmp pc off fun t => xif .gt a 0 (xrun n d y t lo st σ) (xrun n d y (pc + 3) lo st σ)) = some r
    rw [xl_self, xjmp_to ht]
    exact (if_pos hc).trans (h n hn)
  · obtain ⟨N, h⟩ := h2 hc
    refine ⟨N, fun n hn => ?_⟩
    show xl 3 3 (xjmp pc off fun t => xif .gt a 0 (xrun n d y t lo st σ) (xrun n d y (pc + 3) lo st σ)) = some r
    rw [xl_self, xjmp_to ht]
    exact (if_neg hc).trans (h n hn)
theorem ev_if_le {a : Int32} {off : Int} {t : Nat} (hd : decode (xC y) pc = .ok (.ifCond .le off, 3)) (ht : (pc : Int) + off = (t : Int)) (h1 : a ≤ 0 → xEv d y t lo st σ r) (h2 : ¬ a ≤ 0 → xEv d y (pc + 3) lo st σ r) : xEv d y pc lo (.int a :: st) σ r := by
  refine xEv.step hd ?_
  by_cases hc : a ≤ 0
  · obtain ⟨N, h⟩ := h1 hc
    refine ⟨N, fun n hn => ?_⟩
    show xl 3 3 (xjmp pc off fun t => xif .le a 0 (xrun n d y t lo st σ) (xrun n d y (pc + 3) lo st σ)) = some r
    rw [xl_self, xjmp_to ht]
    exact (if_pos hc).trans (h n hn)
  · obtain ⟨N, h⟩ := h2 hc
    refine ⟨N, fun n hn => ?_⟩
    show xl 3 3 (xjmp pc off fun t => xif .le a 0 (xrun n d y t lo st σ) (xrun n d y (pc + 3) lo st σ)) = some r
    rw [xl_self, xjmp_to ht]
    exact (if_neg hc).trans (h n hn)
theorem ev_ifnullN {off : Int} {t : Nat} (hd : decode (xC y) pc = .ok (.ifnull off, 3)) (ht : (pc : Int) + off = (t : Int)) (h : xEv d y t lo st σ r) : xEv d y pc lo (.null :: st) σ r := by
  refine xEv.step hd ?_
  obtain ⟨N, h⟩ := h
  refine ⟨N, fun n hn => ?_⟩
  show xl 3 3 (xjmp pc off fun t => xrun n d y t lo st σ) = some r
  rw [xl_self, xjmp_to ht]
  exact h n hn
theorem ev_ifnull {off : Int} {a : Nat} (hd : decode (xC y) pc = .ok (.ifnull off, 3)) (h : xEv d y (pc + 3) lo st σ r) : xEv d y pc lo (.ref a :: st) σ r := by
  refine xEv.step hd ?_
  obtain ⟨N, h⟩ := h
  refine ⟨N, fun n hn => ?_⟩
  show xl 3 3 (xrun n d y (pc + 3) lo st σ) = some r
  rw [xl_self]
  exact h n hn
theorem ev_ifnonnullN {off : Int} (hd : decode (xC y) pc = .ok (.ifnonnull off, 3)) (h : xEv d y (pc + 3) lo st σ r) : xEv d y pc lo (.null :: st) σ r := by
  refine xEv.step hd ?_
  obtain ⟨N, h⟩ := h
  refine ⟨N, fun n hn => ?_⟩
  show xl 3 3 (xrun n d y (pc + 3) lo st σ) = some r
  rw [xl_self]
  exact h n hn
theorem ev_ifnonnull {off : Int} {t a : Nat} (hd : decode (xC y) pc = .ok (.ifnonnull off, 3)) (ht : (pc : Int) + off = (t : Int)) (h : xEv d y t lo st σ r) : xEv d y pc lo (.ref a :: st) σ r := by
  refine xEv.step hd ?_
  obtain ⟨N, h⟩ := h
  refine ⟨N, fun n hn => ?_⟩
  show xl 3 3 (xjmp pc off fun t => xrun n d y t lo st σ) = some r
  rw [xl_self, xjmp_to ht]
  exact h n hn
theorem ev_tsOut {a : Int32} {df l0 h0 : Int} {os : Array Int} {len t : Nat} (hd : decode (xC y) pc = .ok (.tableswitch df l0 h0 os, len)) (hc : a.toInt < l0 ∨ h0 < a.toInt) (ht : (pc : Int) + df = (t : Int)) (h : xEv d y t lo st σ r) : xEv d y pc lo (.int a :: st) σ r := by
  refine xEv.step hd ?_
  obtain ⟨N, h⟩ := h
  refine ⟨N, fun n hn => ?_⟩
  show (if a.toInt < l0 ∨ h0 < a.toInt then xjmp pc df fun t => xrun n d y t lo st σ else xq os[(a.toInt - l0).toNat]? fun off => xjmp pc off fun t => xrun n d y t lo st σ) = some r
  rw [if_pos hc, xjmp_to ht]
  exact h n hn
theorem ev_tsIn {a : Int32} {df l0 h0 off : Int} {os : Array Int} {len t : Nat} (hd : decode (xC y) pc = .ok (.tableswitch df l0 h0 os, len)) (hc : ¬ (a.toInt < l0 ∨ h0 < a.toInt)) (ho : os[(a.toInt - l0).toNat]? = some off) (ht : (pc : Int) + off = (t : Int)) (h : xEv d y t lo st σ r) : xEv d y pc lo (.int a :: st) σ r := by
  refine xEv.step hd ?_
  obtain ⟨N, h⟩ := h
  refine ⟨N, fun n hn => ?_⟩
  show (if a.toInt < l0 ∨ h0 < a.toInt then xjmp pc df fun t => xrun n d y t lo st σ else xq os[(a.toInt - l0).toNat]? fun off => xjmp pc off fun t => xrun n d y t lo st σ) = some r
  rw [if_neg hc, xq_at ho, xjmp_to ht]
  exact h n hn
theorem ev_ls {a : Int32} {df off : Int} {ps : Array (Int × Int)} {len t : Nat} (hd : decode (xC y) pc = .ok (.lookupswitch df ps, len)) (hp : (ps.toList.zip (ps.toList.drop 1)).all (fun (a, next) => a.1 < next.1) = true) (ho : Op.lookupswitch.offset ps.toList df a.toInt = off) (ht : (pc : Int) + off = (t : Int)) (h : xEv d y t lo st σ r) : xEv d y pc lo (.int a :: st) σ r := by
  refine xEv.step hd ?_
  obtain ⟨N, h⟩ := h
  refine ⟨N, fun n hn => ?_⟩
  show xp ((ps.toList.zip (ps.toList.drop 1)).all (fun (a, next) => a.1 < next.1) = true) (xjmp pc (Op.lookupswitch.offset ps.toList df a.toInt) fun t => xrun n d y t lo st σ) = some r
  rw [xp_at hp, ho, xjmp_to ht]
  exact h n hn
theorem ev_get {k a ci j : Nat} {fs : List Value} {v : Value} (hd : decode (xC y) pc = .ok (.getfield k, 3)) (hf : xfl (xo y) k = some (ci, j)) (ha : σ.1 a = some (.inr (ci, fs))) (hv : fs[j]? = some v) (h : xEv d y (pc + 3) lo (v :: st) σ r) : xEv d y pc lo (.ref a :: st) σ r := by
  refine xEv.step hd ?_
  obtain ⟨N, h⟩ := h
  refine ⟨N, fun n hn => ?_⟩
  show xl 3 3 (xq (xfl (xo y) k) fun f => xobj σ.1 a f.1 fun fs => xq fs[f.2]? fun v => xrun n d y (pc + 3) lo (v :: st) σ) = some r
  rw [xl_self, xq_at hf, xobj_at ha, xq_at hv]
  exact h n hn
theorem ev_put {k a ci j : Nat} {fs : List Value} {v : Value} {M1 : xMm} (hd : decode (xC y) pc = .ok (.putfield k, 3)) (hf : xfl (xo y) k = some (ci, j)) (ha : σ.1 a = some (.inr (ci, fs))) (hc : j < fs.length ∧ xfitb ci j v = true ∧ (xfin ci j = false ∨ ((xN y).name = "<init>" ∧ xo y = ci))) (hM : xset σ.1 a (.inr (ci, fs.set j v)) = M1) (h : xEv d y (pc + 3) lo st (M1, σ.2) r) : xEv d y pc lo (v :: .ref a :: st) σ r := by
  refine xEv.step hd ?_
  obtain ⟨N, h⟩ := h
  refine ⟨N, fun n hn => ?_⟩
  show xl 3 3 (xq (xfl (xo y) k) fun f => xobj σ.1 a f.1 fun fs => xp (f.2 < fs.length ∧ xfitb f.1 f.2 v = true ∧ (xfin f.1 f.2 = false ∨ ((xN y).name = "<init>" ∧ xo y = f.1))) (xrun n d y (pc + 3) lo st (xset σ.1 a (.inr (f.1, fs.set f.2 v)), σ.2))) = some r
  rw [xl_self, xq_at hf, xobj_at ha, xp_at hc, hM]
  exact h n hn
theorem ev_alen {a t : Nat} {x : vp_A} {v : Int32} (hd : decode (xC y) pc = .ok (.arraylength, 1)) (ha : σ.1 a = some (.inl (t, x))) (ht : t < xty.length) (hv : Int32.ofNat x.1 = v) (h : xEv d y (pc + 1) lo (.int v :: st) σ r) : xEv d y pc lo (.ref a :: st) σ r := by
  refine xEv.step hd ?_
  obtain ⟨N, h⟩ := h
  refine ⟨N, fun n hn => ?_⟩
  show xl 1 1 (xarr σ.1 a fun t x => xp (t < xty.length) (xrun n d y (pc + 1) lo (.int (Int32.ofNat x.1) :: st) σ)) = some r
  rw [xl_self, xarr_at ha, xp_at ht, hv]
  exact h n hn
theorem ev_iald {a t k : Nat} {f : Nat → Int32} {i v : Int32} (hd : decode (xC y) pc = .ok (.iaload, 1)) (ha : σ.1 a = some (.inl (t, k, .inl f))) (ht : xty[t]? = some .int ∧ xin i k) (hv : f i.toNatClampNeg = v) (h : xEv d y (pc + 1) lo (.int v :: st) σ r) : xEv d y pc lo (.int i :: .ref a :: st) σ r := by
  refine xEv.step hd ?_
  obtain ⟨N, h⟩ := h
  refine ⟨N, fun n hn => ?_⟩
  show xl 1 1 (xari σ.1 a fun t k f => xp (xty[t]? = some .int ∧ xin i k) (xrun n d y (pc + 1) lo (.int (f i.toNatClampNeg) :: st) σ)) = some r
  rw [xl_self, xari_at ha, xp_at ht, hv]
  exact h n hn
theorem ev_zald {a t k : Nat} {f : Nat → Int32} {i v : Int32} (hd : decode (xC y) pc = .ok (.baload, 1)) (ha : σ.1 a = some (.inl (t, k, .inl f))) (ht : xty[t]? = some .boolean ∧ xin i k) (hv : f i.toNatClampNeg = v) (h : xEv d y (pc + 1) lo (.int v :: st) σ r) : xEv d y pc lo (.int i :: .ref a :: st) σ r := by
  refine xEv.step hd ?_
  obtain ⟨N, h⟩ := h
  refine ⟨N, fun n hn => ?_⟩
  show xl 1 1 (xari σ.1 a fun t k f => xp (xty[t]? = some .boolean ∧ xin i k) (xrun n d y (pc + 1) lo (.int (f i.toNatClampNeg) :: st) σ)) = some r
  rw [xl_self, xari_at ha, xp_at ht, hv]
  exact h n hn
theorem ev_aald {a t k : Nat} {f : Nat → Option Nat} {i : Int32} {v : Value} (hd : decode (xC y) pc = .ok (.aaload, 1)) (ha : σ.1 a = some (.inl (t, k, .inr (.inr (.inr (.inr f)))))) (ht : (xtyo t).isSome = true ∧ xin i k) (hv : va_rf (f i.toNatClampNeg) = v) (h : xEv d y (pc + 1) lo (v :: st) σ r) : xEv d y pc lo (.int i :: .ref a :: st) σ r := by
  refine xEv.step hd ?_
  obtain ⟨N, h⟩ := h
  refine ⟨N, fun n hn => ?_⟩
  show xl 1 1 (xarq σ.1 a fun t k f => xp ((xtyo t).isSome = true ∧ xin i k) (xrun n d y (pc + 1) lo (va_rf (f i.toNatClampNeg) :: st) σ)) = some r
  rw [xl_self, xarq_at ha, xp_at ht, hv]
  exact h n hn
theorem ev_iast {a t k : Nat} {f : Nat → Int32} {i x : Int32} {M1 : xMm} (hd : decode (xC y) pc = .ok (.iastore, 1)) (ha : σ.1 a = some (.inl (t, k, .inl f))) (ht : xty[t]? = some .int ∧ xin i k) (hM : xset σ.1 a (.inl (t, k, .inl (upd f i.toNatClampNeg x))) = M1) (h : xEv d y (pc + 1) lo st (M1, σ.2) r) : xEv d y pc lo (.int x :: .int i :: .ref a :: st) σ r := by
  refine xEv.step hd ?_
  obtain ⟨N, h⟩ := h
  refine ⟨N, fun n hn => ?_⟩
  show xl 1 1 (xari σ.1 a fun t k f => xp (xty[t]? = some .int ∧ xin i k) (xrun n d y (pc + 1) lo st (xset σ.1 a (.inl (t, k, .inl (upd f i.toNatClampNeg x))), σ.2))) = some r
  rw [xl_self, xari_at ha, xp_at ht, hM]
  exact h n hn
theorem ev_zast {a t k : Nat} {f : Nat → Int32} {i x : Int32} {M1 : xMm} (hd : decode (xC y) pc = .ok (.bastore, 1)) (ha : σ.1 a = some (.inl (t, k, .inl f))) (ht : xty[t]? = some .boolean ∧ xin i k) (hM : xset σ.1 a (.inl (t, k, .inl (upd f i.toNatClampNeg (x &&& 1)))) = M1) (h : xEv d y (pc + 1) lo st (M1, σ.2) r) : xEv d y pc lo (.int x :: .int i :: .ref a :: st) σ r := by
  refine xEv.step hd ?_
  obtain ⟨N, h⟩ := h
  refine ⟨N, fun n hn => ?_⟩
  show xl 1 1 (xari σ.1 a fun t k f => xp (xty[t]? = some .boolean ∧ xin i k) (xrun n d y (pc + 1) lo st (xset σ.1 a (.inl (t, k, .inl (upd f i.toNatClampNeg (x &&& 1)))), σ.2))) = some r
  rw [xl_self, xari_at ha, xp_at ht, hM]
  exact h n hn
theorem ev_aast {a t k v cv : Nat} {f : Nat → Option Nat} {i : Int32} {vs : List Value} {M1 : xMm} (hd : decode (xC y) pc = .ok (.aastore, 1)) (ha : σ.1 a = some (.inl (t, k, .inr (.inr (.inr (.inr f)))))) (ht : xtyo t = some cv) (hv : σ.1 v = some (.inr (cv, vs))) (hi : xin i k) (hM : xset σ.1 a (.inl (t, k, .inr (.inr (.inr (.inr (va_up f i.toNatClampNeg (some v))))))) = M1) (h : xEv d y (pc + 1) lo st (M1, σ.2) r) : xEv d y pc lo (.ref v :: .int i :: .ref a :: st) σ r := by
  refine xEv.step hd ?_
  obtain ⟨N, h⟩ := h
  refine ⟨N, fun n hn => ?_⟩
  show xl 1 1 (xarq σ.1 a fun t k f => xq (xtyo t) fun cv => xobj σ.1 v cv fun _ => xp (xin i k) (xrun n d y (pc + 1) lo st (xset σ.1 a (.inl (t, k, .inr (.inr (.inr (.inr (va_up f i.toNatClampNeg (some v))))))), σ.2))) = some r
  rw [xl_self, xarq_at ha, xq_at ht, xobj_at hv, xp_at hi, hM]
  exact h n hn
theorem ev_newI {k : Int32} {z : Nat} {S1 : xS} (hd : decode (xC y) pc = .ok (.newarray .int, 2)) (hk : ¬ k < 0 ∧ k.toNatClampNeg ≤ 100000) (hz : k.toNatClampNeg = z) (hS : (xset σ.1 σ.2.1 (.inl (0, z, .inl fun _ => 0)), σ.2.1 + 1, σ.2.2 + z) = S1) (h : xEv d y (pc + 2) lo (.ref σ.2.1 :: st) S1 r) : xEv d y pc lo (.int k :: st) σ r := by
  refine xEv.step hd ?_
  obtain ⟨N, h⟩ := h
  refine ⟨N, fun n hn => ?_⟩
  show xl 2 2 (xp (¬ k < 0 ∧ k.toNatClampNeg ≤ 100000) (xrun n d y (pc + 2) lo (.ref σ.2.1 :: st) (xset σ.1 σ.2.1 (.inl (0, k.toNatClampNeg, .inl fun _ => 0)), σ.2.1 + 1, σ.2.2 + k.toNatClampNeg))) = some r
  rw [xl_self, xp_at hk, hz, hS]
  exact h n hn
theorem ev_newZ {k : Int32} {z : Nat} {S1 : xS} (hd : decode (xC y) pc = .ok (.newarray .boolean, 2)) (hk : ¬ k < 0 ∧ k.toNatClampNeg ≤ 100000) (hz : k.toNatClampNeg = z) (hS : (xset σ.1 σ.2.1 (.inl (1, z, .inl fun _ => 0)), σ.2.1 + 1, σ.2.2 + z) = S1) (h : xEv d y (pc + 2) lo (.ref σ.2.1 :: st) S1 r) : xEv d y pc lo (.int k :: st) σ r := by
  refine xEv.step hd ?_
  obtain ⟨N, h⟩ := h
  refine ⟨N, fun n hn => ?_⟩
  show xl 2 2 (xp (¬ k < 0 ∧ k.toNatClampNeg ≤ 100000) (xrun n d y (pc + 2) lo (.ref σ.2.1 :: st) (xset σ.1 σ.2.1 (.inl (1, k.toNatClampNeg, .inl fun _ => 0)), σ.2.1 + 1, σ.2.2 + k.toNatClampNeg))) = some r
  rw [xl_self, xp_at hk, hz, hS]
  exact h n hn
theorem ev_newA {j t : Nat} {k : Int32} {z : Nat} {S1 : xS} (hd : decode (xC y) pc = .ok (.anewarray j, 3)) (ht : xac (xo y) j = some t) (hk : ¬ k < 0 ∧ k.toNatClampNeg ≤ 100000) (hz : k.toNatClampNeg = z) (hS : (xset σ.1 σ.2.1 (.inl (t, z, .inr (.inr (.inr (.inr fun _ => none))))), σ.2.1 + 1, σ.2.2 + z) = S1) (h : xEv d y (pc + 3) lo (.ref σ.2.1 :: st) S1 r) : xEv d y pc lo (.int k :: st) σ r := by
  refine xEv.step hd ?_
  obtain ⟨N, h⟩ := h
  refine ⟨N, fun n hn => ?_⟩
  show xl 3 3 (xq (xac (xo y) j) fun t => xp (¬ k < 0 ∧ k.toNatClampNeg ≤ 100000) (xrun n d y (pc + 3) lo (.ref σ.2.1 :: st) (xset σ.1 σ.2.1 (.inl (t, k.toNatClampNeg, .inr (.inr (.inr (.inr fun _ => none))))), σ.2.1 + 1, σ.2.2 + k.toNatClampNeg))) = some r
  rw [xl_self, xq_at ht, xp_at hk, hz, hS]
  exact h n hn
theorem ev_new {j ci : Nat} {S1 : xS} (hd : decode (xC y) pc = .ok (.new j, 3)) (h0 : xth y pc = none) (hc : xnw (xo y) j = some ci) (hS : (xset σ.1 σ.2.1 (.inr (ci, xdf ci)), σ.2.1 + 1, σ.2.2 + (xdf ci).length) = S1) (h : xEv d y (pc + 3) lo (.ref σ.2.1 :: st) S1 r) : xEv d y pc lo st σ r := by
  refine xEv.step hd ?_
  obtain ⟨N, h⟩ := h
  refine ⟨N, fun n hn => ?_⟩
  show xl 3 3 (match xth y pc with
      | some q => xp (xwt st ≤ 8) (some (.inr q.2.1, (σ.1, σ.2.1 + 1, σ.2.2 + 6)))
      | none => xq (xnw (xo y) j) fun ci => xrun n d y (pc + 3) lo (.ref σ.2.1 :: st) (xset σ.1 σ.2.1 (.inr (ci, xdf ci)), σ.2.1 + 1, σ.2.2 + (xdf ci).length)) = some r
  rw [xl_self, h0]
  show xq (xnw (xo y) j) _ = some r
  rw [xq_at hc, hS]
  exact h n hn
theorem ev_throw {j : Nat} {E : xTs} (hd : decode (xC y) pc = .ok (.new j, 3)) (h0 : xth y pc = some E) (hw : xwt st ≤ 8) : xEv d y pc lo st σ (.inr E.2.1, (σ.1, σ.2.1 + 1, σ.2.2 + 6)) := by
  refine xEv.step hd ⟨0, fun n _ => ?_⟩
  show xl 3 3 (match xth y pc with
      | some q => xp (xwt st ≤ 8) (some (.inr q.2.1, (σ.1, σ.2.1 + 1, σ.2.2 + 6)))
      | none => xq (xnw (xo y) j) fun ci => xrun n d y (pc + 3) lo (.ref σ.2.1 :: st) (xset σ.1 σ.2.1 (.inr (ci, xdf ci)), σ.2.1 + 1, σ.2.2 + (xdf ci).length)) = _
  rw [xl_self, h0]
  exact if_pos hw
theorem ev_iret {v : Int32} (hd : decode (xC y) pc = .ok (.ireturn, 1)) (hr : xR y = some .int) : xEv d y pc lo [.int v] σ (.inl (some (.int v)), σ) := by
  refine xEv.step hd ⟨0, fun n _ => ?_⟩
  show xl 1 1 (match xR y with
          | some .int => some (.inl (some (.int v)), σ)
          | some .boolean => xp (v = 0 ∨ v = 1) (some (.inl (some (.int v)), σ))
          | _ => none) = _
  rw [xl_self, hr]
theorem ev_zret {v : Int32} (hd : decode (xC y) pc = .ok (.ireturn, 1)) (hr : xR y = some .boolean) (hv : v = 0 ∨ v = 1) : xEv d y pc lo [.int v] σ (.inl (some (.int v)), σ) := by
  refine xEv.step hd ⟨0, fun n _ => ?_⟩
  show xl 1 1 (match xR y with
          | some .int => some (.inl (some (.int v)), σ)
          | some .boolean => xp (v = 0 ∨ v = 1) (some (.inl (some (.int v)), σ))
          | _ => none) = _
  rw [xl_self, hr]
  exact if_pos hv
theorem ev_aret {a : Nat} (hd : decode (xC y) pc = .ok (.areturn, 1)) (hr : xrq (xR y) = true) : xEv d y pc lo [.ref a] σ (.inl (some (.ref a)), σ) := by
  refine xEv.step hd ⟨0, fun n _ => ?_⟩
  show xl 1 1 (xp (xrq (xR y) = true) (some (.inl (some (.ref a)), σ))) = _
  rw [xl_self, xp_at hr]
theorem ev_aretN (hd : decode (xC y) pc = .ok (.areturn, 1)) (hr : xrq (xR y) = true) : xEv d y pc lo [.null] σ (.inl (some .null), σ) := by
  refine xEv.step hd ⟨0, fun n _ => ?_⟩
  show xl 1 1 (xp (xrq (xR y) = true) (some (.inl (some .null), σ))) = _
  rw [xl_self, xp_at hr]
theorem ev_ret (hd : decode (xC y) pc = .ok (.return_, 1)) (hr : xR y = none) : xEv d y pc lo [] σ (.inl none, σ) := by
  refine xEv.step hd ⟨0, fun n _ => ?_⟩
  show xl 1 1 (xp (xR y = none) (some (.inl none, σ))) = _
  rw [xl_self, xp_at hr]
/-- a method's run from its entry -/
def xCl (d : Nat) (z : xMt) (as : List Value) (σ : xS) (r : xO × xS) : Prop := xEv d z 0 (xlo as (xm z)) [] σ r
theorem ev_call {z : xMt} {as rest : List Value} {r1 : xO × xS} (hc : (as.all fun v => v.category == 1) = true ∧ as.length ≤ xm z ∧ xwt rest ≤ 8) (h1 : xCl d z as σ r1) (h2 : match r1.1 with
      | .inl v => xEv (d + 1) y (pc + 3) lo (v.toList ++ rest) r1.2 r
      | .inr E => r = (.inr E, r1.2)) : ∃ N, ∀ n, N ≤ n → xcall (xrun n) (d + 1) y pc lo σ z as rest = some r := by
  obtain ⟨o1, σ1⟩ := r1
  obtain ⟨N1, h1⟩ := h1
  cases o1 with
  | inl v =>
    obtain ⟨N2, h2⟩ := h2
    refine ⟨N1 + N2, fun n hn => ?_⟩
    show xp _ (xq (xrun n d z 0 (xlo as (xm z)) [] σ) _) = some r
    rw [xp_at hc, xq_at (h1 n (by omega))]
    exact h2 n (by omega)
  | inr E =>
    refine ⟨N1, fun n hn => ?_⟩
    show xp _ (xq (xrun n d z 0 (xlo as (xm z)) [] σ) _) = some r
    rw [xp_at hc, xq_at (h1 n (by omega))]
    exact congrArg some (show r = (.inr E, σ1) from h2).symm
theorem ev_s0 {k : Nat} {z : xMt} {r1 : xO × xS} (hd : decode (xC y) pc = .ok (.invokestatic k, 3)) (hq : xca (xo y) k = some (0, z)) (hn : xnp z = 0) (hc : (([] : List Value).all fun v => v.category == 1) = true ∧ 0 ≤ xm z ∧ xwt st ≤ 8) (h1 : xCl d z [] σ r1) (h2 : match r1.1 with
      | .inl v => xEv (d + 1) y (pc + 3) lo (v.toList ++ st) r1.2 r
      | .inr E => r = (.inr E, r1.2)) : xEv (d + 1) y pc lo (st) σ r := by
  refine xEv.step hd ?_
  obtain ⟨N, h⟩ := ev_call (y := y) (pc := pc) (lo := lo) (rest := st) hc h1 h2
  refine ⟨N, fun n hge => ?_⟩
  show xl 3 3 (xq (xca (xo y) k) fun q => xp (q.1 = 0 ∧ xnp q.2 ≤ (st).length) (xcall (xrun n) (d + 1) y pc lo σ q.2 ((st).take (xnp q.2)).reverse ((st).drop (xnp q.2)))) = some r
  rw [xl_self, xq_at hq, xp_at ⟨rfl, by rw [hn]; simp⟩]
  show xcall (xrun n) (d + 1) y pc lo σ z ((st).take (xnp z)).reverse ((st).drop (xnp z)) = some r
  rw [hn]
  exact h n hge
theorem ev_v0 {k b : Nat} {z : xMt} {fs : List Value} {r1 : xO × xS} (hd : decode (xC y) pc = .ok (.invokevirtual k, 3)) (hq : xca (xo y) k = some (1, z)) (hn : xnp z = 0) (hb : σ.1 b = some (.inr (xo z, fs))) (hc : (((.ref b : Value) :: []).all fun v => v.category == 1) = true ∧ 1 ≤ xm z ∧ xwt st ≤ 8) (h1 : xCl d z (.ref b :: []) σ r1) (h2 : match r1.1 with
      | .inl v => xEv (d + 1) y (pc + 3) lo (v.toList ++ st) r1.2 r
      | .inr E => r = (.inr E, r1.2)) : xEv (d + 1) y pc lo (.ref b :: st) σ r := by
  refine xEv.step hd ?_
  obtain ⟨N, h⟩ := ev_call (y := y) (pc := pc) (lo := lo) (rest := st) hc h1 h2
  refine ⟨N, fun n hge => ?_⟩
  show xl 3 3 (xq (xca (xo y) k) fun q => xp (q.1 = 1 ∧ xnp q.2 ≤ (.ref b :: st).length) (xbr ((.ref b :: st).drop (xnp q.2)) fun b9 r9 => xobj σ.1 b9 (xo q.2) fun _ => xcall (xrun n) (d + 1) y pc lo σ q.2 (.ref b9 :: ((.ref b :: st).take (xnp q.2)).reverse) r9)) = some r
  rw [xl_self, xq_at hq, xp_at ⟨rfl, by rw [hn]; simp⟩]
  show xbr ((.ref b :: st).drop (xnp z)) (fun b9 r9 => xobj σ.1 b9 (xo z) fun _ => xcall (xrun n) (d + 1) y pc lo σ z (.ref b9 :: ((.ref b :: st).take (xnp z)).reverse) r9) = some r
  rw [hn]
  show xobj σ.1 b (xo z) (fun _ => xcall (xrun n) (d + 1) y pc lo σ z (.ref b :: []) st) = some r
  rw [xobj_at hb]
  exact h n hge
theorem ev_i0 {k b : Nat} {z : xMt} {σ1 : xS} (hd : decode (xC y) pc = .ok (.invokespecial k, 3)) (hq : ∃ kd, xca (xo y) k = some (kd, z) ∧ ¬ kd = 3 ∧ (kd = 2 ∨ kd = 4)) (hn : xnp z = 0) (hc : (((.ref b : Value) :: []).all fun v => v.category == 1) = true ∧ 1 ≤ xm z ∧ xwt st ≤ 8) (h1 : xCl d z (.ref b :: []) σ (.inl none, σ1)) (h2 : xEv (d + 1) y (pc + 3) lo st σ1 r) : xEv (d + 1) y pc lo (.ref b :: st) σ r := by
  refine xEv.step hd ?_
  obtain ⟨N1, h1⟩ := h1
  obtain ⟨N2, h2⟩ := h2
  refine ⟨N1 + N2, fun n hn9 => ?_⟩
  show xl 3 3 (xq (xca (xo y) k) fun q => if q.1 = 3 then xbr (.ref b :: st) fun _ r9 => xp (xwt r9 ≤ 8) (xrun n (d + 1) y (pc + 3) lo r9 σ) else xp ((q.1 = 2 ∨ q.1 = 4) ∧ xnp q.2 ≤ (.ref b :: st).length) (xbr ((.ref b :: st).drop (xnp q.2)) fun b9 r9 => xcallI (xrun n) (d + 1) y pc lo σ q.2 (.ref b9 :: ((.ref b :: st).take (xnp q.2)).reverse) r9)) = some r
  obtain ⟨kd, hq1, hq2, hq3⟩ := hq
  rw [xl_self, xq_at hq1, if_neg (show ¬ ((kd, z) : Nat × xMt).1 = 3 from hq2), xp_at ⟨hq3, by rw [hn]; simp⟩]
  show xbr ((.ref b :: st).drop (xnp z)) (fun b9 r9 => xcallI (xrun n) (d + 1) y pc lo σ z (.ref b9 :: ((.ref b :: st).take (xnp z)).reverse) r9) = some r
  rw [hn]
  show xp ((((.ref b : Value) :: []).all fun v => v.category == 1) = true ∧ 1 ≤ xm z ∧ xwt st ≤ 8) (xq (xrun n d z 0 (xlo (.ref b :: []) (xm z)) [] σ) _) = some r
  rw [xp_at hc, xq_at (h1 n (by omega))]
  exact h2 n (by omega)
theorem ev_s1 {k : Nat} {z : xMt} {v1 : Value} {r1 : xO × xS} (hd : decode (xC y) pc = .ok (.invokestatic k, 3)) (hq : xca (xo y) k = some (0, z)) (hn : xnp z = 1) (hc : (([v1] : List Value).all fun v => v.category == 1) = true ∧ 1 ≤ xm z ∧ xwt st ≤ 8) (h1 : xCl d z [v1] σ r1) (h2 : match r1.1 with
      | .inl v => xEv (d + 1) y (pc + 3) lo (v.toList ++ st) r1.2 r
      | .inr E => r = (.inr E, r1.2)) : xEv (d + 1) y pc lo (v1 :: st) σ r := by
  refine xEv.step hd ?_
  obtain ⟨N, h⟩ := ev_call (y := y) (pc := pc) (lo := lo) (rest := st) hc h1 h2
  refine ⟨N, fun n hge => ?_⟩
  show xl 3 3 (xq (xca (xo y) k) fun q => xp (q.1 = 0 ∧ xnp q.2 ≤ (v1 :: st).length) (xcall (xrun n) (d + 1) y pc lo σ q.2 ((v1 :: st).take (xnp q.2)).reverse ((v1 :: st).drop (xnp q.2)))) = some r
  rw [xl_self, xq_at hq, xp_at ⟨rfl, by rw [hn]; simp⟩]
  show xcall (xrun n) (d + 1) y pc lo σ z ((v1 :: st).take (xnp z)).reverse ((v1 :: st).drop (xnp z)) = some r
  rw [hn]
  exact h n hge
theorem ev_v1 {k b : Nat} {z : xMt} {fs : List Value} {v1 : Value} {r1 : xO × xS} (hd : decode (xC y) pc = .ok (.invokevirtual k, 3)) (hq : xca (xo y) k = some (1, z)) (hn : xnp z = 1) (hb : σ.1 b = some (.inr (xo z, fs))) (hc : (((.ref b : Value) :: [v1]).all fun v => v.category == 1) = true ∧ 2 ≤ xm z ∧ xwt st ≤ 8) (h1 : xCl d z (.ref b :: [v1]) σ r1) (h2 : match r1.1 with
      | .inl v => xEv (d + 1) y (pc + 3) lo (v.toList ++ st) r1.2 r
      | .inr E => r = (.inr E, r1.2)) : xEv (d + 1) y pc lo (v1 :: .ref b :: st) σ r := by
  refine xEv.step hd ?_
  obtain ⟨N, h⟩ := ev_call (y := y) (pc := pc) (lo := lo) (rest := st) hc h1 h2
  refine ⟨N, fun n hge => ?_⟩
  show xl 3 3 (xq (xca (xo y) k) fun q => xp (q.1 = 1 ∧ xnp q.2 ≤ (v1 :: .ref b :: st).length) (xbr ((v1 :: .ref b :: st).drop (xnp q.2)) fun b9 r9 => xobj σ.1 b9 (xo q.2) fun _ => xcall (xrun n) (d + 1) y pc lo σ q.2 (.ref b9 :: ((v1 :: .ref b :: st).take (xnp q.2)).reverse) r9)) = some r
  rw [xl_self, xq_at hq, xp_at ⟨rfl, by rw [hn]; simp⟩]
  show xbr ((v1 :: .ref b :: st).drop (xnp z)) (fun b9 r9 => xobj σ.1 b9 (xo z) fun _ => xcall (xrun n) (d + 1) y pc lo σ z (.ref b9 :: ((v1 :: .ref b :: st).take (xnp z)).reverse) r9) = some r
  rw [hn]
  show xobj σ.1 b (xo z) (fun _ => xcall (xrun n) (d + 1) y pc lo σ z (.ref b :: [v1]) st) = some r
  rw [xobj_at hb]
  exact h n hge
theorem ev_i1 {k b : Nat} {z : xMt} {v1 : Value} {σ1 : xS} (hd : decode (xC y) pc = .ok (.invokespecial k, 3)) (hq : ∃ kd, xca (xo y) k = some (kd, z) ∧ ¬ kd = 3 ∧ (kd = 2 ∨ kd = 4)) (hn : xnp z = 1) (hc : (((.ref b : Value) :: [v1]).all fun v => v.category == 1) = true ∧ 2 ≤ xm z ∧ xwt st ≤ 8) (h1 : xCl d z (.ref b :: [v1]) σ (.inl none, σ1)) (h2 : xEv (d + 1) y (pc + 3) lo st σ1 r) : xEv (d + 1) y pc lo (v1 :: .ref b :: st) σ r := by
  refine xEv.step hd ?_
  obtain ⟨N1, h1⟩ := h1
  obtain ⟨N2, h2⟩ := h2
  refine ⟨N1 + N2, fun n hn9 => ?_⟩
  show xl 3 3 (xq (xca (xo y) k) fun q => if q.1 = 3 then xbr (v1 :: .ref b :: st) fun _ r9 => xp (xwt r9 ≤ 8) (xrun n (d + 1) y (pc + 3) lo r9 σ) else xp ((q.1 = 2 ∨ q.1 = 4) ∧ xnp q.2 ≤ (v1 :: .ref b :: st).length) (xbr ((v1 :: .ref b :: st).drop (xnp q.2)) fun b9 r9 => xcallI (xrun n) (d + 1) y pc lo σ q.2 (.ref b9 :: ((v1 :: .ref b :: st).take (xnp q.2)).reverse) r9)) = some r
  obtain ⟨kd, hq1, hq2, hq3⟩ := hq
  rw [xl_self, xq_at hq1, if_neg (show ¬ ((kd, z) : Nat × xMt).1 = 3 from hq2), xp_at ⟨hq3, by rw [hn]; simp⟩]
  show xbr ((v1 :: .ref b :: st).drop (xnp z)) (fun b9 r9 => xcallI (xrun n) (d + 1) y pc lo σ z (.ref b9 :: ((v1 :: .ref b :: st).take (xnp z)).reverse) r9) = some r
  rw [hn]
  show xp ((((.ref b : Value) :: [v1]).all fun v => v.category == 1) = true ∧ 2 ≤ xm z ∧ xwt st ≤ 8) (xq (xrun n d z 0 (xlo (.ref b :: [v1]) (xm z)) [] σ) _) = some r
  rw [xp_at hc, xq_at (h1 n (by omega))]
  exact h2 n (by omega)
theorem ev_s2 {k : Nat} {z : xMt} {v1 v2 : Value} {r1 : xO × xS} (hd : decode (xC y) pc = .ok (.invokestatic k, 3)) (hq : xca (xo y) k = some (0, z)) (hn : xnp z = 2) (hc : (([v1, v2] : List Value).all fun v => v.category == 1) = true ∧ 2 ≤ xm z ∧ xwt st ≤ 8) (h1 : xCl d z [v1, v2] σ r1) (h2 : match r1.1 with
      | .inl v => xEv (d + 1) y (pc + 3) lo (v.toList ++ st) r1.2 r
      | .inr E => r = (.inr E, r1.2)) : xEv (d + 1) y pc lo (v2 :: v1 :: st) σ r := by
  refine xEv.step hd ?_
  obtain ⟨N, h⟩ := ev_call (y := y) (pc := pc) (lo := lo) (rest := st) hc h1 h2
  refine ⟨N, fun n hge => ?_⟩
  show xl 3 3 (xq (xca (xo y) k) fun q => xp (q.1 = 0 ∧ xnp q.2 ≤ (v2 :: v1 :: st).length) (xcall (xrun n) (d + 1) y pc lo σ q.2 ((v2 :: v1 :: st).take (xnp q.2)).reverse ((v2 :: v1 :: st).drop (xnp q.2)))) = some r
  rw [xl_self, xq_at hq, xp_at ⟨rfl, by rw [hn]; simp⟩]
  show xcall (xrun n) (d + 1) y pc lo σ z ((v2 :: v1 :: st).take (xnp z)).reverse ((v2 :: v1 :: st).drop (xnp z)) = some r
  rw [hn]
  exact h n hge
theorem ev_v2 {k b : Nat} {z : xMt} {fs : List Value} {v1 v2 : Value} {r1 : xO × xS} (hd : decode (xC y) pc = .ok (.invokevirtual k, 3)) (hq : xca (xo y) k = some (1, z)) (hn : xnp z = 2) (hb : σ.1 b = some (.inr (xo z, fs))) (hc : (((.ref b : Value) :: [v1, v2]).all fun v => v.category == 1) = true ∧ 3 ≤ xm z ∧ xwt st ≤ 8) (h1 : xCl d z (.ref b :: [v1, v2]) σ r1) (h2 : match r1.1 with
      | .inl v => xEv (d + 1) y (pc + 3) lo (v.toList ++ st) r1.2 r
      | .inr E => r = (.inr E, r1.2)) : xEv (d + 1) y pc lo (v2 :: v1 :: .ref b :: st) σ r := by
  refine xEv.step hd ?_
  obtain ⟨N, h⟩ := ev_call (y := y) (pc := pc) (lo := lo) (rest := st) hc h1 h2
  refine ⟨N, fun n hge => ?_⟩
  show xl 3 3 (xq (xca (xo y) k) fun q => xp (q.1 = 1 ∧ xnp q.2 ≤ (v2 :: v1 :: .ref b :: st).length) (xbr ((v2 :: v1 :: .ref b :: st).drop (xnp q.2)) fun b9 r9 => xobj σ.1 b9 (xo q.2) fun _ => xcall (xrun n) (d + 1) y pc lo σ q.2 (.ref b9 :: ((v2 :: v1 :: .ref b :: st).take (xnp q.2)).reverse) r9)) = some r
  rw [xl_self, xq_at hq, xp_at ⟨rfl, by rw [hn]; simp⟩]
  show xbr ((v2 :: v1 :: .ref b :: st).drop (xnp z)) (fun b9 r9 => xobj σ.1 b9 (xo z) fun _ => xcall (xrun n) (d + 1) y pc lo σ z (.ref b9 :: ((v2 :: v1 :: .ref b :: st).take (xnp z)).reverse) r9) = some r
  rw [hn]
  show xobj σ.1 b (xo z) (fun _ => xcall (xrun n) (d + 1) y pc lo σ z (.ref b :: [v1, v2]) st) = some r
  rw [xobj_at hb]
  exact h n hge
theorem ev_i2 {k b : Nat} {z : xMt} {v1 v2 : Value} {σ1 : xS} (hd : decode (xC y) pc = .ok (.invokespecial k, 3)) (hq : ∃ kd, xca (xo y) k = some (kd, z) ∧ ¬ kd = 3 ∧ (kd = 2 ∨ kd = 4)) (hn : xnp z = 2) (hc : (((.ref b : Value) :: [v1, v2]).all fun v => v.category == 1) = true ∧ 3 ≤ xm z ∧ xwt st ≤ 8) (h1 : xCl d z (.ref b :: [v1, v2]) σ (.inl none, σ1)) (h2 : xEv (d + 1) y (pc + 3) lo st σ1 r) : xEv (d + 1) y pc lo (v2 :: v1 :: .ref b :: st) σ r := by
  refine xEv.step hd ?_
  obtain ⟨N1, h1⟩ := h1
  obtain ⟨N2, h2⟩ := h2
  refine ⟨N1 + N2, fun n hn9 => ?_⟩
  show xl 3 3 (xq (xca (xo y) k) fun q => if q.1 = 3 then xbr (v2 :: v1 :: .ref b :: st) fun _ r9 => xp (xwt r9 ≤ 8) (xrun n (d + 1) y (pc + 3) lo r9 σ) else xp ((q.1 = 2 ∨ q.1 = 4) ∧ xnp q.2 ≤ (v2 :: v1 :: .ref b :: st).length) (xbr ((v2 :: v1 :: .ref b :: st).drop (xnp q.2)) fun b9 r9 => xcallI (xrun n) (d + 1) y pc lo σ q.2 (.ref b9 :: ((v2 :: v1 :: .ref b :: st).take (xnp q.2)).reverse) r9)) = some r
  obtain ⟨kd, hq1, hq2, hq3⟩ := hq
  rw [xl_self, xq_at hq1, if_neg (show ¬ ((kd, z) : Nat × xMt).1 = 3 from hq2), xp_at ⟨hq3, by rw [hn]; simp⟩]
  show xbr ((v2 :: v1 :: .ref b :: st).drop (xnp z)) (fun b9 r9 => xcallI (xrun n) (d + 1) y pc lo σ z (.ref b9 :: ((v2 :: v1 :: .ref b :: st).take (xnp z)).reverse) r9) = some r
  rw [hn]
  show xp ((((.ref b : Value) :: [v1, v2]).all fun v => v.category == 1) = true ∧ 3 ≤ xm z ∧ xwt st ≤ 8) (xq (xrun n d z 0 (xlo (.ref b :: [v1, v2]) (xm z)) [] σ) _) = some r
  rw [xp_at hc, xq_at (h1 n (by omega))]
  exact h2 n (by omega)
theorem ev_s3 {k : Nat} {z : xMt} {v1 v2 v3 : Value} {r1 : xO × xS} (hd : decode (xC y) pc = .ok (.invokestatic k, 3)) (hq : xca (xo y) k = some (0, z)) (hn : xnp z = 3) (hc : (([v1, v2, v3] : List Value).all fun v => v.category == 1) = true ∧ 3 ≤ xm z ∧ xwt st ≤ 8) (h1 : xCl d z [v1, v2, v3] σ r1) (h2 : match r1.1 with
      | .inl v => xEv (d + 1) y (pc + 3) lo (v.toList ++ st) r1.2 r
      | .inr E => r = (.inr E, r1.2)) : xEv (d + 1) y pc lo (v3 :: v2 :: v1 :: st) σ r := by
  refine xEv.step hd ?_
  obtain ⟨N, h⟩ := ev_call (y := y) (pc := pc) (lo := lo) (rest := st) hc h1 h2
  refine ⟨N, fun n hge => ?_⟩
  show xl 3 3 (xq (xca (xo y) k) fun q => xp (q.1 = 0 ∧ xnp q.2 ≤ (v3 :: v2 :: v1 :: st).length) (xcall (xrun n) (d + 1) y pc lo σ q.2 ((v3 :: v2 :: v1 :: st).take (xnp q.2)).reverse ((v3 :: v2 :: v1 :: st).drop (xnp q.2)))) = some r
  rw [xl_self, xq_at hq, xp_at ⟨rfl, by rw [hn]; simp⟩]
  show xcall (xrun n) (d + 1) y pc lo σ z ((v3 :: v2 :: v1 :: st).take (xnp z)).reverse ((v3 :: v2 :: v1 :: st).drop (xnp z)) = some r
  rw [hn]
  exact h n hge
theorem ev_v3 {k b : Nat} {z : xMt} {fs : List Value} {v1 v2 v3 : Value} {r1 : xO × xS} (hd : decode (xC y) pc = .ok (.invokevirtual k, 3)) (hq : xca (xo y) k = some (1, z)) (hn : xnp z = 3) (hb : σ.1 b = some (.inr (xo z, fs))) (hc : (((.ref b : Value) :: [v1, v2, v3]).all fun v => v.category == 1) = true ∧ 4 ≤ xm z ∧ xwt st ≤ 8) (h1 : xCl d z (.ref b :: [v1, v2, v3]) σ r1) (h2 : match r1.1 with
      | .inl v => xEv (d + 1) y (pc + 3) lo (v.toList ++ st) r1.2 r
      | .inr E => r = (.inr E, r1.2)) : xEv (d + 1) y pc lo (v3 :: v2 :: v1 :: .ref b :: st) σ r := by
  refine xEv.step hd ?_
  obtain ⟨N, h⟩ := ev_call (y := y) (pc := pc) (lo := lo) (rest := st) hc h1 h2
  refine ⟨N, fun n hge => ?_⟩
  show xl 3 3 (xq (xca (xo y) k) fun q => xp (q.1 = 1 ∧ xnp q.2 ≤ (v3 :: v2 :: v1 :: .ref b :: st).length) (xbr ((v3 :: v2 :: v1 :: .ref b :: st).drop (xnp q.2)) fun b9 r9 => xobj σ.1 b9 (xo q.2) fun _ => xcall (xrun n) (d + 1) y pc lo σ q.2 (.ref b9 :: ((v3 :: v2 :: v1 :: .ref b :: st).take (xnp q.2)).reverse) r9)) = some r
  rw [xl_self, xq_at hq, xp_at ⟨rfl, by rw [hn]; simp⟩]
  show xbr ((v3 :: v2 :: v1 :: .ref b :: st).drop (xnp z)) (fun b9 r9 => xobj σ.1 b9 (xo z) fun _ => xcall (xrun n) (d + 1) y pc lo σ z (.ref b9 :: ((v3 :: v2 :: v1 :: .ref b :: st).take (xnp z)).reverse) r9) = some r
  rw [hn]
  show xobj σ.1 b (xo z) (fun _ => xcall (xrun n) (d + 1) y pc lo σ z (.ref b :: [v1, v2, v3]) st) = some r
  rw [xobj_at hb]
  exact h n hge
theorem ev_i3 {k b : Nat} {z : xMt} {v1 v2 v3 : Value} {σ1 : xS} (hd : decode (xC y) pc = .ok (.invokespecial k, 3)) (hq : ∃ kd, xca (xo y) k = some (kd, z) ∧ ¬ kd = 3 ∧ (kd = 2 ∨ kd = 4)) (hn : xnp z = 3) (hc : (((.ref b : Value) :: [v1, v2, v3]).all fun v => v.category == 1) = true ∧ 4 ≤ xm z ∧ xwt st ≤ 8) (h1 : xCl d z (.ref b :: [v1, v2, v3]) σ (.inl none, σ1)) (h2 : xEv (d + 1) y (pc + 3) lo st σ1 r) : xEv (d + 1) y pc lo (v3 :: v2 :: v1 :: .ref b :: st) σ r := by
  refine xEv.step hd ?_
  obtain ⟨N1, h1⟩ := h1
  obtain ⟨N2, h2⟩ := h2
  refine ⟨N1 + N2, fun n hn9 => ?_⟩
  show xl 3 3 (xq (xca (xo y) k) fun q => if q.1 = 3 then xbr (v3 :: v2 :: v1 :: .ref b :: st) fun _ r9 => xp (xwt r9 ≤ 8) (xrun n (d + 1) y (pc + 3) lo r9 σ) else xp ((q.1 = 2 ∨ q.1 = 4) ∧ xnp q.2 ≤ (v3 :: v2 :: v1 :: .ref b :: st).length) (xbr ((v3 :: v2 :: v1 :: .ref b :: st).drop (xnp q.2)) fun b9 r9 => xcallI (xrun n) (d + 1) y pc lo σ q.2 (.ref b9 :: ((v3 :: v2 :: v1 :: .ref b :: st).take (xnp q.2)).reverse) r9)) = some r
  obtain ⟨kd, hq1, hq2, hq3⟩ := hq
  rw [xl_self, xq_at hq1, if_neg (show ¬ ((kd, z) : Nat × xMt).1 = 3 from hq2), xp_at ⟨hq3, by rw [hn]; simp⟩]
  show xbr ((v3 :: v2 :: v1 :: .ref b :: st).drop (xnp z)) (fun b9 r9 => xcallI (xrun n) (d + 1) y pc lo σ z (.ref b9 :: ((v3 :: v2 :: v1 :: .ref b :: st).take (xnp z)).reverse) r9) = some r
  rw [hn]
  show xp ((((.ref b : Value) :: [v1, v2, v3]).all fun v => v.category == 1) = true ∧ 4 ≤ xm z ∧ xwt st ≤ 8) (xq (xrun n d z 0 (xlo (.ref b :: [v1, v2, v3]) (xm z)) [] σ) _) = some r
  rw [xp_at hc, xq_at (h1 n (by omega))]
  exact h2 n (by omega)
theorem ev_s4 {k : Nat} {z : xMt} {v1 v2 v3 v4 : Value} {r1 : xO × xS} (hd : decode (xC y) pc = .ok (.invokestatic k, 3)) (hq : xca (xo y) k = some (0, z)) (hn : xnp z = 4) (hc : (([v1, v2, v3, v4] : List Value).all fun v => v.category == 1) = true ∧ 4 ≤ xm z ∧ xwt st ≤ 8) (h1 : xCl d z [v1, v2, v3, v4] σ r1) (h2 : match r1.1 with
      | .inl v => xEv (d + 1) y (pc + 3) lo (v.toList ++ st) r1.2 r
      | .inr E => r = (.inr E, r1.2)) : xEv (d + 1) y pc lo (v4 :: v3 :: v2 :: v1 :: st) σ r := by
  refine xEv.step hd ?_
  obtain ⟨N, h⟩ := ev_call (y := y) (pc := pc) (lo := lo) (rest := st) hc h1 h2
  refine ⟨N, fun n hge => ?_⟩
  show xl 3 3 (xq (xca (xo y) k) fun q => xp (q.1 = 0 ∧ xnp q.2 ≤ (v4 :: v3 :: v2 :: v1 :: st).length) (xcall (xrun n) (d + 1) y pc lo σ q.2 ((v4 :: v3 :: v2 :: v1 :: st).take (xnp q.2)).reverse ((v4 :: v3 :: v2 :: v1 :: st).drop (xnp q.2)))) = some r
  rw [xl_self, xq_at hq, xp_at ⟨rfl, by rw [hn]; simp⟩]
  show xcall (xrun n) (d + 1) y pc lo σ z ((v4 :: v3 :: v2 :: v1 :: st).take (xnp z)).reverse ((v4 :: v3 :: v2 :: v1 :: st).drop (xnp z)) = some r
  rw [hn]
  exact h n hge
theorem ev_v4 {k b : Nat} {z : xMt} {fs : List Value} {v1 v2 v3 v4 : Value} {r1 : xO × xS} (hd : decode (xC y) pc = .ok (.invokevirtual k, 3)) (hq : xca (xo y) k = some (1, z)) (hn : xnp z = 4) (hb : σ.1 b = some (.inr (xo z, fs))) (hc : (((.ref b : Value) :: [v1, v2, v3, v4]).all fun v => v.category == 1) = true ∧ 5 ≤ xm z ∧ xwt st ≤ 8) (h1 : xCl d z (.ref b :: [v1, v2, v3, v4]) σ r1) (h2 : match r1.1 with
      | .inl v => xEv (d + 1) y (pc + 3) lo (v.toList ++ st) r1.2 r
      | .inr E => r = (.inr E, r1.2)) : xEv (d + 1) y pc lo (v4 :: v3 :: v2 :: v1 :: .ref b :: st) σ r := by
  refine xEv.step hd ?_
  obtain ⟨N, h⟩ := ev_call (y := y) (pc := pc) (lo := lo) (rest := st) hc h1 h2
  refine ⟨N, fun n hge => ?_⟩
  show xl 3 3 (xq (xca (xo y) k) fun q => xp (q.1 = 1 ∧ xnp q.2 ≤ (v4 :: v3 :: v2 :: v1 :: .ref b :: st).length) (xbr ((v4 :: v3 :: v2 :: v1 :: .ref b :: st).drop (xnp q.2)) fun b9 r9 => xobj σ.1 b9 (xo q.2) fun _ => xcall (xrun n) (d + 1) y pc lo σ q.2 (.ref b9 :: ((v4 :: v3 :: v2 :: v1 :: .ref b :: st).take (xnp q.2)).reverse) r9)) = some r
  rw [xl_self, xq_at hq, xp_at ⟨rfl, by rw [hn]; simp⟩]
  show xbr ((v4 :: v3 :: v2 :: v1 :: .ref b :: st).drop (xnp z)) (fun b9 r9 => xobj σ.1 b9 (xo z) fun _ => xcall (xrun n) (d + 1) y pc lo σ z (.ref b9 :: ((v4 :: v3 :: v2 :: v1 :: .ref b :: st).take (xnp z)).reverse) r9) = some r
  rw [hn]
  show xobj σ.1 b (xo z) (fun _ => xcall (xrun n) (d + 1) y pc lo σ z (.ref b :: [v1, v2, v3, v4]) st) = some r
  rw [xobj_at hb]
  exact h n hge
theorem ev_i4 {k b : Nat} {z : xMt} {v1 v2 v3 v4 : Value} {σ1 : xS} (hd : decode (xC y) pc = .ok (.invokespecial k, 3)) (hq : ∃ kd, xca (xo y) k = some (kd, z) ∧ ¬ kd = 3 ∧ (kd = 2 ∨ kd = 4)) (hn : xnp z = 4) (hc : (((.ref b : Value) :: [v1, v2, v3, v4]).all fun v => v.category == 1) = true ∧ 5 ≤ xm z ∧ xwt st ≤ 8) (h1 : xCl d z (.ref b :: [v1, v2, v3, v4]) σ (.inl none, σ1)) (h2 : xEv (d + 1) y (pc + 3) lo st σ1 r) : xEv (d + 1) y pc lo (v4 :: v3 :: v2 :: v1 :: .ref b :: st) σ r := by
  refine xEv.step hd ?_
  obtain ⟨N1, h1⟩ := h1
  obtain ⟨N2, h2⟩ := h2
  refine ⟨N1 + N2, fun n hn9 => ?_⟩
  show xl 3 3 (xq (xca (xo y) k) fun q => if q.1 = 3 then xbr (v4 :: v3 :: v2 :: v1 :: .ref b :: st) fun _ r9 => xp (xwt r9 ≤ 8) (xrun n (d + 1) y (pc + 3) lo r9 σ) else xp ((q.1 = 2 ∨ q.1 = 4) ∧ xnp q.2 ≤ (v4 :: v3 :: v2 :: v1 :: .ref b :: st).length) (xbr ((v4 :: v3 :: v2 :: v1 :: .ref b :: st).drop (xnp q.2)) fun b9 r9 => xcallI (xrun n) (d + 1) y pc lo σ q.2 (.ref b9 :: ((v4 :: v3 :: v2 :: v1 :: .ref b :: st).take (xnp q.2)).reverse) r9)) = some r
  obtain ⟨kd, hq1, hq2, hq3⟩ := hq
  rw [xl_self, xq_at hq1, if_neg (show ¬ ((kd, z) : Nat × xMt).1 = 3 from hq2), xp_at ⟨hq3, by rw [hn]; simp⟩]
  show xbr ((v4 :: v3 :: v2 :: v1 :: .ref b :: st).drop (xnp z)) (fun b9 r9 => xcallI (xrun n) (d + 1) y pc lo σ z (.ref b9 :: ((v4 :: v3 :: v2 :: v1 :: .ref b :: st).take (xnp z)).reverse) r9) = some r
  rw [hn]
  show xp ((((.ref b : Value) :: [v1, v2, v3, v4]).all fun v => v.category == 1) = true ∧ 5 ≤ xm z ∧ xwt st ≤ 8) (xq (xrun n d z 0 (xlo (.ref b :: [v1, v2, v3, v4]) (xm z)) [] σ) _) = some r
  rw [xp_at hc, xq_at (h1 n (by omega))]
  exact h2 n (by omega)
theorem ev_s5 {k : Nat} {z : xMt} {v1 v2 v3 v4 v5 : Value} {r1 : xO × xS} (hd : decode (xC y) pc = .ok (.invokestatic k, 3)) (hq : xca (xo y) k = some (0, z)) (hn : xnp z = 5) (hc : (([v1, v2, v3, v4, v5] : List Value).all fun v => v.category == 1) = true ∧ 5 ≤ xm z ∧ xwt st ≤ 8) (h1 : xCl d z [v1, v2, v3, v4, v5] σ r1) (h2 : match r1.1 with
      | .inl v => xEv (d + 1) y (pc + 3) lo (v.toList ++ st) r1.2 r
      | .inr E => r = (.inr E, r1.2)) : xEv (d + 1) y pc lo (v5 :: v4 :: v3 :: v2 :: v1 :: st) σ r := by
  refine xEv.step hd ?_
  obtain ⟨N, h⟩ := ev_call (y := y) (pc := pc) (lo := lo) (rest := st) hc h1 h2
  refine ⟨N, fun n hge => ?_⟩
  show xl 3 3 (xq (xca (xo y) k) fun q => xp (q.1 = 0 ∧ xnp q.2 ≤ (v5 :: v4 :: v3 :: v2 :: v1 :: st).length) (xcall (xrun n) (d + 1) y pc lo σ q.2 ((v5 :: v4 :: v3 :: v2 :: v1 :: st).take (xnp q.2)).reverse ((v5 :: v4 :: v3 :: v2 :: v1 :: st).drop (xnp q.2)))) = some r
  rw [xl_self, xq_at hq, xp_at ⟨rfl, by rw [hn]; simp⟩]
  show xcall (xrun n) (d + 1) y pc lo σ z ((v5 :: v4 :: v3 :: v2 :: v1 :: st).take (xnp z)).reverse ((v5 :: v4 :: v3 :: v2 :: v1 :: st).drop (xnp z)) = some r
  rw [hn]
  exact h n hge
theorem ev_v5 {k b : Nat} {z : xMt} {fs : List Value} {v1 v2 v3 v4 v5 : Value} {r1 : xO × xS} (hd : decode (xC y) pc = .ok (.invokevirtual k, 3)) (hq : xca (xo y) k = some (1, z)) (hn : xnp z = 5) (hb : σ.1 b = some (.inr (xo z, fs))) (hc : (((.ref b : Value) :: [v1, v2, v3, v4, v5]).all fun v => v.category == 1) = true ∧ 6 ≤ xm z ∧ xwt st ≤ 8) (h1 : xCl d z (.ref b :: [v1, v2, v3, v4, v5]) σ r1) (h2 : match r1.1 with
      | .inl v => xEv (d + 1) y (pc + 3) lo (v.toList ++ st) r1.2 r
      | .inr E => r = (.inr E, r1.2)) : xEv (d + 1) y pc lo (v5 :: v4 :: v3 :: v2 :: v1 :: .ref b :: st) σ r := by
  refine xEv.step hd ?_
  obtain ⟨N, h⟩ := ev_call (y := y) (pc := pc) (lo := lo) (rest := st) hc h1 h2
  refine ⟨N, fun n hge => ?_⟩
  show xl 3 3 (xq (xca (xo y) k) fun q => xp (q.1 = 1 ∧ xnp q.2 ≤ (v5 :: v4 :: v3 :: v2 :: v1 :: .ref b :: st).length) (xbr ((v5 :: v4 :: v3 :: v2 :: v1 :: .ref b :: st).drop (xnp q.2)) fun b9 r9 => xobj σ.1 b9 (xo q.2) fun _ => xcall (xrun n) (d + 1) y pc lo σ q.2 (.ref b9 :: ((v5 :: v4 :: v3 :: v2 :: v1 :: .ref b :: st).take (xnp q.2)).reverse) r9)) = some r
  rw [xl_self, xq_at hq, xp_at ⟨rfl, by rw [hn]; simp⟩]
  show xbr ((v5 :: v4 :: v3 :: v2 :: v1 :: .ref b :: st).drop (xnp z)) (fun b9 r9 => xobj σ.1 b9 (xo z) fun _ => xcall (xrun n) (d + 1) y pc lo σ z (.ref b9 :: ((v5 :: v4 :: v3 :: v2 :: v1 :: .ref b :: st).take (xnp z)).reverse) r9) = some r
  rw [hn]
  show xobj σ.1 b (xo z) (fun _ => xcall (xrun n) (d + 1) y pc lo σ z (.ref b :: [v1, v2, v3, v4, v5]) st) = some r
  rw [xobj_at hb]
  exact h n hge
theorem ev_i5 {k b : Nat} {z : xMt} {v1 v2 v3 v4 v5 : Value} {σ1 : xS} (hd : decode (xC y) pc = .ok (.invokespecial k, 3)) (hq : ∃ kd, xca (xo y) k = some (kd, z) ∧ ¬ kd = 3 ∧ (kd = 2 ∨ kd = 4)) (hn : xnp z = 5) (hc : (((.ref b : Value) :: [v1, v2, v3, v4, v5]).all fun v => v.category == 1) = true ∧ 6 ≤ xm z ∧ xwt st ≤ 8) (h1 : xCl d z (.ref b :: [v1, v2, v3, v4, v5]) σ (.inl none, σ1)) (h2 : xEv (d + 1) y (pc + 3) lo st σ1 r) : xEv (d + 1) y pc lo (v5 :: v4 :: v3 :: v2 :: v1 :: .ref b :: st) σ r := by
  refine xEv.step hd ?_
  obtain ⟨N1, h1⟩ := h1
  obtain ⟨N2, h2⟩ := h2
  refine ⟨N1 + N2, fun n hn9 => ?_⟩
  show xl 3 3 (xq (xca (xo y) k) fun q => if q.1 = 3 then xbr (v5 :: v4 :: v3 :: v2 :: v1 :: .ref b :: st) fun _ r9 => xp (xwt r9 ≤ 8) (xrun n (d + 1) y (pc + 3) lo r9 σ) else xp ((q.1 = 2 ∨ q.1 = 4) ∧ xnp q.2 ≤ (v5 :: v4 :: v3 :: v2 :: v1 :: .ref b :: st).length) (xbr ((v5 :: v4 :: v3 :: v2 :: v1 :: .ref b :: st).drop (xnp q.2)) fun b9 r9 => xcallI (xrun n) (d + 1) y pc lo σ q.2 (.ref b9 :: ((v5 :: v4 :: v3 :: v2 :: v1 :: .ref b :: st).take (xnp q.2)).reverse) r9)) = some r
  obtain ⟨kd, hq1, hq2, hq3⟩ := hq
  rw [xl_self, xq_at hq1, if_neg (show ¬ ((kd, z) : Nat × xMt).1 = 3 from hq2), xp_at ⟨hq3, by rw [hn]; simp⟩]
  show xbr ((v5 :: v4 :: v3 :: v2 :: v1 :: .ref b :: st).drop (xnp z)) (fun b9 r9 => xcallI (xrun n) (d + 1) y pc lo σ z (.ref b9 :: ((v5 :: v4 :: v3 :: v2 :: v1 :: .ref b :: st).take (xnp z)).reverse) r9) = some r
  rw [hn]
  show xp ((((.ref b : Value) :: [v1, v2, v3, v4, v5]).all fun v => v.category == 1) = true ∧ 6 ≤ xm z ∧ xwt st ≤ 8) (xq (xrun n d z 0 (xlo (.ref b :: [v1, v2, v3, v4, v5]) (xm z)) [] σ) _) = some r
  rw [xp_at hc, xq_at (h1 n (by omega))]
  exact h2 n (by omega)
theorem ev_obj {k b : Nat} {z : xMt} (hd : decode (xC y) pc = .ok (.invokespecial k, 3)) (hq : xca (xo y) k = some (3, z)) (hw : xwt st ≤ 8) (h : xEv d y (pc + 3) lo st σ r) : xEv d y pc lo (.ref b :: st) σ r := by
  refine xEv.step hd ?_
  obtain ⟨N, h⟩ := h
  refine ⟨N, fun n hge => ?_⟩
  show xl 3 3 (xq (xca (xo y) k) fun q => if q.1 = 3 then xp (xwt st ≤ 8) (xrun n d y (pc + 3) lo st σ) else xp ((q.1 = 2 ∨ q.1 = 4) ∧ xnp q.2 ≤ (.ref b :: st).length) (xbr ((.ref b :: st).drop (xnp q.2)) fun b9 r9 => xcallI (xrun n) d y pc lo σ q.2 (.ref b9 :: ((.ref b :: st).take (xnp q.2)).reverse) r9)) = some r
  rw [xl_self, xq_at hq, if_pos (show ((3, z) : Nat × xMt).1 = 3 from rfl), xp_at hw]
  exact h n hge
end EV
