/-! The picture and the machine's heap. D: the numbers of the kinds of objects and their slots; dT: the numbers of the kinds of arrays. -/
def xcv (dT : Nat → ClassId) (e : xE) : va_E := match e with
  | .inl (t, x) => .inl (dT t, x)
  | .inr o => .inr o
def xHp (D : va_G) (dT : Nat → ClassId) (M : xMm) (H : Heap) : Prop := ∀ (a : Nat) (e : xE), M a = some e → va_at D vwCl (a, xcv dT e) H
/-- the cells that a method may change: the known ones, and those that it makes -/
def xA (σ : xS) : Nat → Prop := fun q => σ.1 q ≠ none ∨ σ.2.1 ≤ q
def xAt (D : va_G) (dT : Nat → ClassId) (s : State) (σ0 σ : xS) (H : Heap) (locs : List Loc) : Prop :=
  xHp D dT σ.1 H ∧ H.size = σ.2.1 ∧ va_S (xA σ0) s.heap H locs ∧ (∀ q : Nat, σ.1 q ≠ none → xA σ0 q) ∧ s.heap.size = σ0.2.1 ∧ σ0.2.1 ≤ σ.2.1 ∧ σ0.2.2 ≤ σ.2.2
theorem xHp.one {D : va_G} {dT : Nat → ClassId} {M : xMm} {H : Heap} (h : xHp D dT M H) {a : Nat} {e : xE} (ha : M a = some e) : va_P D vwCl [(a, xcv dT e)] H := by
  intro k q hk
  have hz : k < 1 := (List.getElem?_eq_some_iff.mp hk).1
  rw [show k = 0 by omega] at hk
  cases hk
  exact h a e ha
theorem xHp.lt {D : va_G} {dT : Nat → ClassId} {M : xMm} {H : Heap} (h : xHp D dT M H) {a : Nat} {e : xE} (ha : M a = some e) : a < H.size := (h a e ha).lt
theorem xHp.set {D : va_G} {dT : Nat → ClassId} {M : xMm} {H H1 : Heap} (h : xHp D dT M H) {a : Nat} {e : xE} (he : va_at D vwCl (a, xcv dT e) H1) (oq : ∀ q : Nat, q ≠ a → q < H.size → H1[q]? = H[q]?) : xHp D dT (xset M a e) H1 := by
  intro b e1 hb
  by_cases hq : b = a
  · subst hq
    rw [xset_self] at hb
    cases hb
    exact he
  · rw [xset_ne M e hq] at hb
    exact (h b e1 hb).kept (oq b hq (h.lt hb))
theorem xHp.kept {D : va_G} {dT : Nat → ClassId} {M : xMm} {H H1 : Heap} (h : xHp D dT M H) (oq : ∀ q : Nat, q < H.size → H1[q]? = H[q]?) : xHp D dT M H1 := fun a e ha => (h a e ha).kept (oq a (h.lt ha))
theorem xAt.put {D : va_G} {dT : Nat → ClassId} {s : State} {σ0 σ : xS} {H H1 : Heap} {locs : List Loc} (h : xAt D dT s σ0 σ H locs) {a k : Nat} {e0 e : xE} (ha : σ.1 a = some e0) (he : va_at D vwCl (a, xcv dT e) H1) (z : H1.size = H.size) (oq : ∀ q : Nat, q ≠ a → H1[q]? = H[q]?) :
    xAt D dT s σ0 (xset σ.1 a e, σ.2) H1 (locs ++ [⟨a, k⟩]) := by
  obtain ⟨h1, h2, h3, h4, h5, h6, h7⟩ := h
  refine ⟨h1.set he (fun q hq _ => oq q hq), z.trans h2, h3.put z oq (h4 a (by rw [ha]; exact fun c => by cases c)), fun q hq => ?_, h5, h6, h7⟩
  by_cases e1 : q = a
  · exact h4 q (by rw [e1, ha]; exact fun c => by cases c)
  · exact h4 q (by rw [show (xset σ.1 a e, σ.2).1 q = σ.1 q from xset_ne σ.1 e e1] at hq; exact hq)
theorem xAt.new {D : va_G} {dT : Nat → ClassId} {s : State} {σ0 σ : xS} {H H1 : Heap} {locs : List Loc} (h : xAt D dT s σ0 σ H locs) {n : Nat} {e : xE} (he : va_at D vwCl (H.size, xcv dT e) H1) (z : H1.size = H.size + 1) (oq : ∀ q : Nat, q < H.size → H1[q]? = H[q]?) :
    xAt D dT s σ0 (xset σ.1 σ.2.1 e, σ.2.1 + 1, σ.2.2 + n) H1 locs := by
  obtain ⟨h1, h2, h3, h4, h5, h6, h7⟩ := h
  have hle : s.heap.size ≤ H.size := h3.1
  refine ⟨h1.set (by rw [← h2]; exact he) (fun q _ hq => oq q hq), by rw [z, h2], ⟨by omega, fun q a1 a2 => ?_, h3.2.2⟩, fun q hq => ?_, h5, by show σ0.2.1 ≤ σ.2.1 + 1; omega, by show σ0.2.2 ≤ σ.2.2 + n; omega⟩
  · rw [oq q (by omega)]
    exact h3.2.1 q a1 a2
  · by_cases e1 : q = σ.2.1
    · exact Or.inr (by omega)
    · exact h4 q (by rw [show (xset σ.1 σ.2.1 e, σ.2.1 + 1, σ.2.2 + n).1 q = σ.1 q from xset_ne σ.1 e e1] at hq; exact hq)
/-! the locals -/
def xloL (lo : xL) : List (Nat × Value) := (List.range lo.length).filterMap fun i => match lo[i]? with
  | some (some v) => some (i, v)
  | _ => none
theorem xloL_in {lo : xL} {i : Nat} {v : Value} (h : lo[i]? = some (some v)) : (i, v) ∈ xloL lo := by
  refine List.mem_filterMap.mpr ⟨i, List.mem_range.mpr (List.getElem?_eq_some_iff.mp h).1, ?_⟩
  rw [h]
theorem xloL_of {lo : xL} {i : Nat} {v : Value} (h : (i, v) ∈ xloL lo) : lo[i]? = some (some v) := by
  obtain ⟨j, -, hj⟩ := List.mem_filterMap.mp h
  split at hj
  · rename_i w e0
    cases hj
    exact e0
  · cases hj
def xRl (lo : xL) (ls : Array Slot) (nL : Nat) : Prop := lo.length = nL ∧ ls.size = nL ∧ lv_wf ls ∧ ∀ (i : Nat) (v : Value), lo[i]? = some (some v) → ls[i]? = some (.val v) ∧ v.category = 1
theorem xRl.has {lo : xL} {ls : Array Slot} {nL : Nat} (h : xRl lo ls nL) : lv_has ls nL (xloL lo) := ⟨h.2.1, h.2.2.1, fun q hq => (h.2.2.2 q.1 q.2 (xloL_of hq)).1⟩
theorem xRl.get {lo : xL} {ls : Array Slot} {nL : Nat} (h : xRl lo ls nL) {i : Nat} {v : Value} (hi : lo[i]? = some (some v)) : ls[i]? = some (.val v) := (h.2.2.2 i v hi).1
theorem xRl.store {lo : xL} {ls ls' : Array Slot} {nL i : Nat} {v : Value} (h : xRl lo ls nL) (hi : i < nL) (hv : v.category = 1) (h' : lv_has ls' nL ((i, v) :: (xloL lo).filter (fun q => !(q.1 == i) && !(q.1 + 1 == i && q.2.category == 2)))) : xRl (lo.set i (some v)) ls' nL := by
  refine ⟨by rw [List.length_set]; exact h.1, h'.1, h'.2.1, fun j w hj => ?_⟩
  by_cases e1 : j = i
  · subst e1
    rw [List.getElem?_set_self (by rw [h.1]; exact hi)] at hj
    cases hj
    exact ⟨h'.2.2 (j, v) List.mem_cons_self, hv⟩
  · rw [List.getElem?_set_ne (Ne.symm e1)] at hj
    have hc := (h.2.2.2 j w hj).2
    refine ⟨h'.2.2 (j, w) (List.mem_cons_of_mem _ (List.mem_filter.mpr ⟨xloL_in hj, ?_⟩)), hc⟩
    simp [e1, hc]
theorem xRl.lt {lo : xL} {ls : Array Slot} {nL : Nat} (h : xRl lo ls nL) {i : Nat} (hi : i < lo.length) : i < nL := by rw [← h.1]; exact hi
theorem xlv_args : ∀ (vs : List Value) (i : Nat), (∀ v ∈ vs, v.category = 1) → ∀ (j : Nat) (v : Value), vs[j]? = some v → (i + j, v) ∈ lv_args i vs
  | [], _, _, j, v, h => by simp at h
  | w :: vs, i, hc, j, v, h => by
    have h1 : ¬ w.category = 2 := by rw [hc w List.mem_cons_self]; decide
    rw [show lv_args i (w :: vs) = (i, w) :: lv_args (if w.category = 2 then i + 2 else i + 1) vs from rfl, if_neg h1]
    cases j with
    | zero =>
      rw [List.getElem?_cons_zero] at h
      cases h
      exact List.mem_cons_self
    | succ j =>
      rw [List.getElem?_cons_succ] at h
      have := xlv_args vs (i + 1) (fun v hv => hc v (List.mem_cons_of_mem _ hv)) j v h
      rw [show i + (j + 1) = i + 1 + j by omega]
      exact List.mem_cons_of_mem _ this
theorem xlg_len : ∀ (vs : List Value), (∀ v ∈ vs, v.category = 1) → (lg_sl vs).length = vs.length
  | [], _ => rfl
  | w :: vs, hc => by
    have h1 : ¬ w.category = 2 := by rw [hc w List.mem_cons_self]; decide
    have ih := xlg_len vs (fun v hv => hc v (List.mem_cons_of_mem _ hv))
    simp only [lg_sl, List.flatMap_cons, if_neg h1, List.length_append, List.length_cons, List.length_nil] at ih ⊢
    omega
theorem xRl.entry {as : List Value} {n : Nat} (hc : ∀ v ∈ as, v.category = 1) (hn : as.length ≤ n) : xRl (xlo as n) ((lg_sl as ++ List.replicate (n - (lg_sl as).length) Slot.unset).toArray) n := by
  have hL := xlg_len as hc
  obtain ⟨h1, h2, h3⟩ := lv_entry as (n := n) (by omega)
  refine ⟨by simp [xlo]; omega, h1, h2, fun i v hi => ?_⟩
  by_cases hl : i < as.length
  · have e1 : (xlo as n)[i]? = some (some as[i]) := by
      unfold xlo
      rw [List.getElem?_append_left (by simp; exact hl)]
      simp [hl]
    rw [e1] at hi
    cases hi
    have := h3 _ (xlv_args as 0 hc i as[i] (List.getElem?_eq_getElem hl))
    rw [Nat.zero_add] at this
    exact ⟨this, hc _ (List.getElem_mem hl)⟩
  · exfalso
    unfold xlo at hi
    rw [List.getElem?_append_right (by simp; omega)] at hi
    have := List.mem_of_getElem? hi
    rw [List.mem_replicate] at this
    exact absurd this.2 (fun c => by cases c)
/-! what is carried beside the picture: two statics of Throwable, words that are no good ones, texts, arrays over kinds -/
def xTh (A : Nat → Prop) (U : State) : Prop :=
  vx_Zq Bundle.tN "UNASSIGNED_STACK" Bundle.steD A U U.heap ∧ vx_Zq Bundle.tN "SUPPRESSED_SENTINEL" Bundle.listD A U U.heap ∧ (∀ w ∈ xTB2, va_Nw w U) ∧ (∀ q ∈ xStr, ∃ sa, vk_R "LoanTerms" q.1 q.2.1 sa U) ∧ ∀ (t : Nat) (C : String), xty[t]? = some (.object C) → va_AO C U
theorem xk_on {w : Jvm.Cond} (h : xk w = true) : w.onTables = true := by
  cases w <;> first | rfl | exact absurd (show false = true from h) (by decide)
theorem xTh.same {A : Nat → Prop} {u U : State} (hv : U.vm = u.vm) (hh : U.heap = u.heap) (h : xTh A u) : xTh A U := by
  obtain ⟨h1, h2, h3, h4, h5⟩ := h
  have hal : u.vm.Alike U.vm := by rw [hv]; exact Vm.Alike.refl _
  refine ⟨by rw [hh]; exact vx_Zq.moved hal h1, by rw [hh]; exact vx_Zq.moved hal h2, fun w hw => va_Nw.same (xk_on (List.mem_filter.mp hw).2) hv.symm (h3 w hw), fun q hq => ?_, fun t C ht => va_AO.moved hal (h5 t C ht)⟩
  obtain ⟨sa, hs⟩ := h4 q hq
  exact ⟨sa, vk_R.same hv hs⟩
theorem xTh.next {A0 A : Nat → Prop} {s U : State} {H : Heap} {locs : List Loc} (h : xTh A0 s) (hS : va_S A0 s.heap H locs) (hAB : ∀ q, A q → A0 q) (hU : U.heap = H) (hW : s.WarmedH U.vm) : xTh A U := by
  obtain ⟨h1, h2, h3, h4, h5⟩ := h
  refine ⟨?_, ?_, fun w hw => ?_, fun q hq => ?_, fun t C ht => va_AO.moved hW.alike (h5 t C ht)⟩
  · rw [hU]
    exact vx_Zq.moved hW.alike ((h1.kept (fun a ha hn => hS.2.1 a ha hn)).narrow hAB)
  · rw [hU]
    exact vx_Zq.moved hW.alike ((h2.kept (fun a ha hn => hS.2.1 a ha hn)).narrow hAB)
  · have hk := (List.mem_filter.mp hw).2
    have h9 := h3 w hw
    cases w <;> first | exact va_Nw.warmM hW h9 | exact va_Nw.warmC hW h9 | exact va_Nw.warmD hW h9 | exact absurd (show false = true from hk) (by decide)
  · obtain ⟨sa, hs⟩ := h4 q hq
    exact ⟨sa, vk_R.warm hW hs⟩
