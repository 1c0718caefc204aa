/-! the heap of CR through one step -/
set_option maxRecDepth 20000 in
theorem CR_fresh {M : xMm} {n : Nat} {ct : Nat → Nat} {tg : Nat → Option Nat} {Bn : xMm} {cn rq ln : Nat} {rt : Nat → Nat → Option Nat} {tx : Nat → List Int32} {iv : Nat → Int32} {av : Nat → Nat → Int32} (K : CR M n ct tg Bn cn rq ln rt tx iv av) (e : xE) : CR (xset M (n) (e)) (n + 1) ct tg Bn cn rq ln rt tx (iv) (av) := by
  have hcnt := K.cnt
  unfold CR
  refine ⟨?_, ?_, ?_, ?_, ?_, ?_, ?_, ?_, ?_, ?_, ?_, ?_, ?_, ?_, ?_, ?_, ?_, ?_, ?_, ?_, ?_, ?_, ?_, ?_, ?_, ?_⟩
  · exact (xset_ne _ _ (Nat.ne_of_lt (Nat.lt_of_lt_of_le (K.tag _ (by unfold lvt; omega)).2 (by omega)))).trans (K.lt)
  · exact (xset_ne _ _ (Nat.ne_of_lt (Nat.lt_of_lt_of_le (K.tag _ (by unfold lvt; omega)).2 (by omega)))).trans (K.pad)
  · exact (xset_ne _ _ (Nat.ne_of_lt (Nat.lt_of_lt_of_le (K.tag _ (by unfold lvt; omega)).2 (by omega)))).trans (K.padA)
  · obtain ⟨z, f, g3, g4⟩ := K.lets
    exact ⟨z, f, (xset_ne _ _ (Nat.ne_of_lt (Nat.lt_of_lt_of_le (K.tag _ (by unfold lvt; omega)).2 (by omega)))).trans (g3), (xset_ne _ _ (Nat.ne_of_lt (Nat.lt_of_lt_of_le (K.tag _ (by unfold lvt; omega)).2 (by omega)))).trans (g4)⟩
  · exact (xset_ne _ _ (Nat.ne_of_lt (Nat.lt_of_lt_of_le (K.tag _ (by unfold lvt; omega)).2 (by omega)))).trans (K.cons)
  · exact (xset_ne _ _ (Nat.ne_of_lt (Nat.lt_of_lt_of_le (K.tag _ (by unfold lvt; omega)).2 (by omega)))).trans (K.inps)
  · exact (xset_ne _ _ (Nat.ne_of_lt (Nat.lt_of_lt_of_le (K.tag _ (by unfold lvt; omega)).2 (by omega)))).trans (K.lons)
  · exact (xset_ne _ _ (Nat.ne_of_lt (Nat.lt_of_lt_of_le (K.tag _ (by unfold lvt; omega)).2 (by omega)))).trans (K.reqs)
  · intro i0 hi0
    exact (xset_ne _ _ (Nat.ne_of_lt (Nat.lt_of_lt_of_le (K.tag _ (by unfold lvt; omega)).2 (by omega)))).trans (K.inp i0 hi0)
  · intro i0 hi0
    exact (xset_ne _ _ (Nat.ne_of_lt (Nat.lt_of_lt_of_le (K.tag _ (by unfold lvt; omega)).2 (by omega)))).trans (K.inpH i0 hi0)
  · intro i0 hi0
    exact (xset_ne _ _ (Nat.ne_of_lt (Nat.lt_of_lt_of_le (K.tag _ (by unfold lvt; omega)).2 (by omega)))).trans (K.inpV i0 hi0)
  · intro r0 hr0
    exact (xset_ne _ _ (Nat.ne_of_lt (Nat.lt_of_lt_of_le (K.tag _ (by unfold lvt; omega)).2 (by omega)))).trans (K.req r0 hr0)
  · intro l0 hl0
    exact (xset_ne _ _ (Nat.ne_of_lt (Nat.lt_of_lt_of_le (K.tag _ (by unfold lvt; omega)).2 (by omega)))).trans (K.lon l0 hl0)
  · intro l0 hl0
    exact (xset_ne _ _ (Nat.ne_of_lt (Nat.lt_of_lt_of_le (K.tag _ (by unfold lvt; omega)).2 (by omega)))).trans (K.lonH l0 hl0)
  · intro l0 hl0
    exact (xset_ne _ _ (Nat.ne_of_lt (Nat.lt_of_lt_of_le (K.tag _ (by unfold lvt; omega)).2 (by omega)))).trans (K.lonT l0 hl0)
  · intro l0 hl0
    exact (xset_ne _ _ (Nat.ne_of_lt (Nat.lt_of_lt_of_le (K.tag _ (by unfold lvt; omega)).2 (by omega)))).trans (K.lonS l0 hl0)
  · intro l0 hl0
    exact (xset_ne _ _ (Nat.ne_of_lt (Nat.lt_of_lt_of_le (K.tag _ (by unfold lvt; omega)).2 (by omega)))).trans (K.lonP l0 hl0)
  · intro c0 hc0
    exact (xset_ne _ _ (Nat.ne_of_lt (Nat.lt_of_lt_of_le (K.tag _ (by unfold lvt; omega)).2 (by omega)))).trans (K.con c0 hc0)
  · intro c0 hc0
    exact (xset_ne _ _ (Nat.ne_of_lt (Nat.lt_of_lt_of_le (K.tag _ (by unfold lvt; omega)).2 (by omega)))).trans (K.conR c0 hc0)
  · intro c0 hc0
    exact (xset_ne _ _ (Nat.ne_of_lt (Nat.lt_of_lt_of_le (K.tag _ (by unfold lvt; omega)).2 (by omega)))).trans (K.conT c0 hc0)
  · intro c0 hc0
    exact (xset_ne _ _ (Nat.ne_of_lt (Nat.lt_of_lt_of_le (K.tag _ (by unfold lvt; omega)).2 (by omega)))).trans (K.conA c0 hc0)
  · intro a e h
    exact (xset_ne _ _ (Nat.ne_of_lt (Nat.lt_of_lt_of_le (K.tgn a (by rw [h]; simp)).2 (by omega)))).trans (K.nod a e h)
  · exact fun t ht => ⟨(K.tag t ht).1, Nat.lt_of_lt_of_le (K.tag t ht).2 (by omega)⟩
  · exact fun t ht => ⟨(K.tgn t ht).1, Nat.lt_of_lt_of_le (K.tgn t ht).2 (by omega)⟩
  · exact fun t ht => Nat.lt_of_lt_of_le (K.tgo t ht) (by omega)
  · exact K.cnt
set_option maxRecDepth 20000 in
theorem CR_waste {M : xMm} {n : Nat} {ct : Nat → Nat} {tg : Nat → Option Nat} {Bn : xMm} {cn rq ln : Nat} {rt : Nat → Nat → Option Nat} {tx : Nat → List Int32} {iv : Nat → Int32} {av : Nat → Nat → Int32} (K : CR M n ct tg Bn cn rq ln rt tx iv av)  : CR M (n + 1) ct tg Bn cn rq ln rt tx (iv) (av) := by
  have hcnt := K.cnt
  unfold CR
  refine ⟨?_, ?_, ?_, ?_, ?_, ?_, ?_, ?_, ?_, ?_, ?_, ?_, ?_, ?_, ?_, ?_, ?_, ?_, ?_, ?_, ?_, ?_, ?_, ?_, ?_, ?_⟩
  · exact K.lt
  · exact K.pad
  · exact K.padA
  · obtain ⟨z, f, g3, g4⟩ := K.lets
    exact ⟨z, f, g3, g4⟩
  · exact K.cons
  · exact K.inps
  · exact K.lons
  · exact K.reqs
  · intro i0 hi0
    exact K.inp i0 hi0
  · intro i0 hi0
    exact K.inpH i0 hi0
  · intro i0 hi0
    exact K.inpV i0 hi0
  · intro r0 hr0
    exact K.req r0 hr0
  · intro l0 hl0
    exact K.lon l0 hl0
  · intro l0 hl0
    exact K.lonH l0 hl0
  · intro l0 hl0
    exact K.lonT l0 hl0
  · intro l0 hl0
    exact K.lonS l0 hl0
  · intro l0 hl0
    exact K.lonP l0 hl0
  · intro c0 hc0
    exact K.con c0 hc0
  · intro c0 hc0
    exact K.conR c0 hc0
  · intro c0 hc0
    exact K.conT c0 hc0
  · intro c0 hc0
    exact K.conA c0 hc0
  · intro a e h
    exact K.nod a e h
  · exact fun t ht => ⟨(K.tag t ht).1, Nat.lt_of_lt_of_le (K.tag t ht).2 (by omega)⟩
  · exact fun t ht => ⟨(K.tgn t ht).1, Nat.lt_of_lt_of_le (K.tgn t ht).2 (by omega)⟩
  · exact fun t ht => Nat.lt_of_lt_of_le (K.tgo t ht) (by omega)
  · exact K.cnt
set_option maxRecDepth 20000 in
theorem CR_iv0 {M : xMm} {n : Nat} {ct : Nat → Nat} {tg : Nat → Option Nat} {Bn : xMm} {cn rq ln : Nat} {rt : Nat → Nat → Option Nat} {tx : Nat → List Int32} {iv : Nat → Int32} {av : Nat → Nat → Int32} (K : CR M n ct tg Bn cn rq ln rt tx iv av) (x : Int32) : CR M (n) ct tg Bn cn rq ln rt tx (upd iv 0 x) (av) := by
  have hcnt := K.cnt
  unfold CR
  refine ⟨?_, ?_, ?_, ?_, ?_, ?_, ?_, ?_, ?_, ?_, ?_, ?_, ?_, ?_, ?_, ?_, ?_, ?_, ?_, ?_, ?_, ?_, ?_, ?_, ?_, ?_⟩
  · exact K.lt
  · exact K.pad
  · exact K.padA
  · obtain ⟨z, f, g3, g4⟩ := K.lets
    exact ⟨z, f, g3, g4⟩
  · exact K.cons
  · exact K.inps
  · exact K.lons
  · exact K.reqs
  · intro i0 hi0
    exact K.inp i0 hi0
  · intro i0 hi0
    exact K.inpH i0 hi0
  · intro i0 hi0
    exact K.inpV i0 hi0
  · intro r0 hr0
    exact K.req r0 hr0
  · intro l0 hl0
    exact K.lon l0 hl0
  · intro l0 hl0
    exact K.lonH l0 hl0
  · intro l0 hl0
    exact K.lonT l0 hl0
  · intro l0 hl0
    exact K.lonS l0 hl0
  · intro l0 hl0
    exact K.lonP l0 hl0
  · intro c0 hc0
    exact K.con c0 hc0
  · intro c0 hc0
    exact K.conR c0 hc0
  · intro c0 hc0
    exact K.conT c0 hc0
  · intro c0 hc0
    exact K.conA c0 hc0
  · intro a e h
    exact K.nod a e h
  · exact K.tag
  · exact K.tgn
  · exact K.tgo
  · exact K.cnt
set_option maxRecDepth 20000 in
theorem CR_scr {M : xMm} {n : Nat} {ct : Nat → Nat} {tg : Nat → Option Nat} {Bn : xMm} {cn rq ln : Nat} {rt : Nat → Nat → Option Nat} {tx : Nat → List Int32} {iv : Nat → Int32} {av : Nat → Nat → Int32} (K : CR M n ct tg Bn cn rq ln rt tx iv av) (iv' : Nat → Int32) (av' : Nat → Nat → Int32) (hi : iv' 1 = iv 1 ∧ iv' 3 = iv 3 ∧ iv' 23 = iv 23 ∧ iv' 33 = iv 33) (ha : ∀ k, k ≠ 13 → k ≠ 14 → k ≠ 16 → av' k = av k) : CR M (n) ct tg Bn cn rq ln rt tx (iv') (av') := by
  have hcnt := K.cnt
  unfold CR
  refine ⟨?_, ?_, ?_, ?_, ?_, ?_, ?_, ?_, ?_, ?_, ?_, ?_, ?_, ?_, ?_, ?_, ?_, ?_, ?_, ?_, ?_, ?_, ?_, ?_, ?_, ?_⟩
  · rw [hi.2.1, hi.2.2.1, hi.2.2.2]
    exact K.lt
  · rw [hi.1]
    exact K.pad
  · rw [ha 2 (by decide) (by decide) (by decide)]
    exact K.padA
  · obtain ⟨z, f, g3, g4⟩ := K.lets
    exact ⟨z, f, g3, g4⟩
  · exact K.cons
  · exact K.inps
  · exact K.lons
  · exact K.reqs
  · intro i0 hi0
    rw [ha 18 (by decide) (by decide) (by decide), ha 21 (by decide) (by decide) (by decide), ha 22 (by decide) (by decide) (by decide)]
    exact K.inp i0 hi0
  · intro i0 hi0
    rw [ha 19 (by decide) (by decide) (by decide)]
    exact K.inpH i0 hi0
  · intro i0 hi0
    rw [ha 20 (by decide) (by decide) (by decide)]
    exact K.inpV i0 hi0
  · intro i0 hi0
    rw [ha 34 (by decide) (by decide) (by decide), ha 35 (by decide) (by decide) (by decide), ha 36 (by decide) (by decide) (by decide)]
    exact K.req i0 hi0
  · intro i0 hi0
    rw [ha 24 (by decide) (by decide) (by decide), ha 28 (by decide) (by decide) (by decide), ha 30 (by decide) (by decide) (by decide)]
    exact K.lon i0 hi0
  · intro i0 hi0
    rw [ha 31 (by decide) (by decide) (by decide)]
    exact K.lonH i0 hi0
  · intro i0 hi0
    rw [ha 32 (by decide) (by decide) (by decide)]
    exact K.lonT i0 hi0
  · intro i0 hi0
    rw [ha 29 (by decide) (by decide) (by decide)]
    exact K.lonS i0 hi0
  · intro i0 hi0
    rw [ha 25 (by decide) (by decide) (by decide), ha 26 (by decide) (by decide) (by decide), ha 27 (by decide) (by decide) (by decide)]
    exact K.lonP i0 hi0
  · intro i0 hi0
    rw [ha 4 (by decide) (by decide) (by decide)]
    exact K.con i0 hi0
  · intro c0 hc0
    exact K.conR c0 hc0
  · intro c0 hc0
    exact K.conT c0 hc0
  · intro c0 hc0
    exact K.conA c0 hc0
  · intro a e h
    exact K.nod a e h
  · exact K.tag
  · exact K.tgn
  · exact K.tgo
  · rw [hi.2.1, hi.2.2.1, hi.2.2.2]
    exact K.cnt

theorem mM_out0 {B : xMm} {ad : Nat → Nat} {ix : Nat → Option Nat} {iv : Nat → Int32} {av : Nat → Nat → Int32} {q : Nat} (h : ix q = none) : mM B ad ix iv av q = B q := by
  unfold mM
  rw [h]
set_option maxRecDepth 20000 in
theorem CR_mM {M : xMm} {n : Nat} {ct : Nat → Nat} {tg : Nat → Option Nat} {Bn : xMm} {cn rq ln : Nat} {rt : Nat → Nat → Option Nat} {tx : Nat → List Int32} {iv : Nat → Int32} {av : Nat → Nat → Int32} (K : CR M n ct tg Bn cn rq ln rt tx iv av) {mx : Nat → Option Nat} (md : Nat → Nat) (hd : ∀ q, mx q = none ∨ tg q = none) (iv2 : Nat → Int32) (av2 : Nat → Nat → Int32) : CR (mM M md mx iv2 av2) n ct tg Bn cn rq ln rt tx iv av := by
  have hne : ∀ t, lvt cn rq ln t → mx (ct t) = none := fun t ht => by
    rcases hd (ct t) with h | h
    · exact h
    · rw [(K.tag t ht).1] at h; cases h
  have hnn : ∀ a, Bn a ≠ none → mx a = none := fun a ha => by
    rcases hd a with h | h
    · exact h
    · rw [(K.tgn a ha).1] at h; cases h
  have hcnt := K.cnt
  unfold CR
  refine ⟨?_, ?_, ?_, ?_, ?_, ?_, ?_, ?_, ?_, ?_, ?_, ?_, ?_, ?_, ?_, ?_, ?_, ?_, ?_, ?_, ?_, ?_, ?_, ?_, ?_, ?_⟩
  · exact (mM_out0 (hne _ (by unfold lvt; omega))).trans (K.lt)
  · exact (mM_out0 (hne _ (by unfold lvt; omega))).trans (K.pad)
  · exact (mM_out0 (hne _ (by unfold lvt; omega))).trans (K.padA)
  · obtain ⟨z, f, g3, g4⟩ := K.lets
    exact ⟨z, f, (mM_out0 (hne _ (by unfold lvt; omega))).trans (g3), (mM_out0 (hne _ (by unfold lvt; omega))).trans (g4)⟩
  · exact (mM_out0 (hne _ (by unfold lvt; omega))).trans (K.cons)
  · exact (mM_out0 (hne _ (by unfold lvt; omega))).trans (K.inps)
  · exact (mM_out0 (hne _ (by unfold lvt; omega))).trans (K.lons)
  · exact (mM_out0 (hne _ (by unfold lvt; omega))).trans (K.reqs)
  · intro i0 hi0
    exact (mM_out0 (hne _ (by unfold lvt; omega))).trans (K.inp i0 hi0)
  · intro i0 hi0
    exact (mM_out0 (hne _ (by unfold lvt; omega))).trans (K.inpH i0 hi0)
  · intro i0 hi0
    exact (mM_out0 (hne _ (by unfold lvt; omega))).trans (K.inpV i0 hi0)
  · intro r0 hr0
    exact (mM_out0 (hne _ (by unfold lvt; omega))).trans (K.req r0 hr0)
  · intro l0 hl0
    exact (mM_out0 (hne _ (by unfold lvt; omega))).trans (K.lon l0 hl0)
  · intro l0 hl0
    exact (mM_out0 (hne _ (by unfold lvt; omega))).trans (K.lonH l0 hl0)
  · intro l0 hl0
    exact (mM_out0 (hne _ (by unfold lvt; omega))).trans (K.lonT l0 hl0)
  · intro l0 hl0
    exact (mM_out0 (hne _ (by unfold lvt; omega))).trans (K.lonS l0 hl0)
  · intro l0 hl0
    exact (mM_out0 (hne _ (by unfold lvt; omega))).trans (K.lonP l0 hl0)
  · intro c0 hc0
    exact (mM_out0 (hne _ (by unfold lvt; omega))).trans (K.con c0 hc0)
  · intro c0 hc0
    exact (mM_out0 (hne _ (by unfold lvt; omega))).trans (K.conR c0 hc0)
  · intro c0 hc0
    exact (mM_out0 (hne _ (by unfold lvt; omega))).trans (K.conT c0 hc0)
  · intro c0 hc0
    exact (mM_out0 (hne _ (by unfold lvt; omega))).trans (K.conA c0 hc0)
  · intro a e h
    exact (mM_out0 (hnn a (by rw [h]; simp))).trans (K.nod a e h)
  · exact K.tag
  · exact K.tgn
  · exact K.tgo
  · exact K.cnt
set_option maxRecDepth 20000 in
theorem CR_unit {M : xMm} {n : Nat} {ct : Nat → Nat} {tg : Nat → Option Nat} {Bn : xMm} {cn rq ln : Nat} {rt : Nat → Nat → Option Nat} {tx : Nat → List Int32} {iv : Nat → Int32} {av : Nat → Nat → Int32} (K : CR M n ct tg Bn cn rq ln rt tx iv av) (s : Int32) (pn : Nat) : CR (xset (xset M (ct 2) (.inl (0, 240, .inl (upd (av 2) pn s)))) (ct 1) (.inr (6, [.ref (ct 2), .int (nI (pn + 1))]))) (n) ct tg Bn cn rq ln rt tx (upd (upd iv 0 0) 1 (nI (pn + 1))) (va_up av 2 (upd (av 2) pn s)) := by
  have hcnt := K.cnt
  unfold CR
  refine ⟨?_, ?_, ?_, ?_, ?_, ?_, ?_, ?_, ?_, ?_, ?_, ?_, ?_, ?_, ?_, ?_, ?_, ?_, ?_, ?_, ?_, ?_, ?_, ?_, ?_, ?_⟩
  · exact (xset_ne _ _ (K.ne (by unfold lvt; omega) (by unfold lvt; omega) (by omega))).trans ((xset_ne _ _ (K.ne (by unfold lvt; omega) (by unfold lvt; omega) (by omega))).trans (K.lt))
  · exact xset_self _ _ _
  · exact (xset_ne _ _ (K.ne (by unfold lvt; omega) (by unfold lvt; omega) (by omega))).trans (xset_self _ _ _)
  · obtain ⟨z, f, g3, g4⟩ := K.lets
    exact ⟨z, f, (xset_ne _ _ (K.ne (by unfold lvt; omega) (by unfold lvt; omega) (by omega))).trans ((xset_ne _ _ (K.ne (by unfold lvt; omega) (by unfold lvt; omega) (by omega))).trans (g3)), (xset_ne _ _ (K.ne (by unfold lvt; omega) (by unfold lvt; omega) (by omega))).trans ((xset_ne _ _ (K.ne (by unfold lvt; omega) (by unfold lvt; omega) (by omega))).trans (g4))⟩
  · exact (xset_ne _ _ (K.ne (by unfold lvt; omega) (by unfold lvt; omega) (by omega))).trans ((xset_ne _ _ (K.ne (by unfold lvt; omega) (by unfold lvt; omega) (by omega))).trans (K.cons))
  · exact (xset_ne _ _ (K.ne (by unfold lvt; omega) (by unfold lvt; omega) (by omega))).trans ((xset_ne _ _ (K.ne (by unfold lvt; omega) (by unfold lvt; omega) (by omega))).trans (K.inps))
  · exact (xset_ne _ _ (K.ne (by unfold lvt; omega) (by unfold lvt; omega) (by omega))).trans ((xset_ne _ _ (K.ne (by unfold lvt; omega) (by unfold lvt; omega) (by omega))).trans (K.lons))
  · exact (xset_ne _ _ (K.ne (by unfold lvt; omega) (by unfold lvt; omega) (by omega))).trans ((xset_ne _ _ (K.ne (by unfold lvt; omega) (by unfold lvt; omega) (by omega))).trans (K.reqs))
  · intro i0 hi0
    exact (xset_ne _ _ (K.ne (by unfold lvt; omega) (by unfold lvt; omega) (by omega))).trans ((xset_ne _ _ (K.ne (by unfold lvt; omega) (by unfold lvt; omega) (by omega))).trans (K.inp i0 hi0))
  · intro i0 hi0
    exact (xset_ne _ _ (K.ne (by unfold lvt; omega) (by unfold lvt; omega) (by omega))).trans ((xset_ne _ _ (K.ne (by unfold lvt; omega) (by unfold lvt; omega) (by omega))).trans (K.inpH i0 hi0))
  · intro i0 hi0
    exact (xset_ne _ _ (K.ne (by unfold lvt; omega) (by unfold lvt; omega) (by omega))).trans ((xset_ne _ _ (K.ne (by unfold lvt; omega) (by unfold lvt; omega) (by omega))).trans (K.inpV i0 hi0))
  · intro r0 hr0
    exact (xset_ne _ _ (K.ne (by unfold lvt; omega) (by unfold lvt; omega) (by omega))).trans ((xset_ne _ _ (K.ne (by unfold lvt; omega) (by unfold lvt; omega) (by omega))).trans (K.req r0 hr0))
  · intro l0 hl0
    exact (xset_ne _ _ (K.ne (by unfold lvt; omega) (by unfold lvt; omega) (by omega))).trans ((xset_ne _ _ (K.ne (by unfold lvt; omega) (by unfold lvt; omega) (by omega))).trans (K.lon l0 hl0))
  · intro l0 hl0
    exact (xset_ne _ _ (K.ne (by unfold lvt; omega) (by unfold lvt; omega) (by omega))).trans ((xset_ne _ _ (K.ne (by unfold lvt; omega) (by unfold lvt; omega) (by omega))).trans (K.lonH l0 hl0))
  · intro l0 hl0
    exact (xset_ne _ _ (K.ne (by unfold lvt; omega) (by unfold lvt; omega) (by omega))).trans ((xset_ne _ _ (K.ne (by unfold lvt; omega) (by unfold lvt; omega) (by omega))).trans (K.lonT l0 hl0))
  · intro l0 hl0
    exact (xset_ne _ _ (K.ne (by unfold lvt; omega) (by unfold lvt; omega) (by omega))).trans ((xset_ne _ _ (K.ne (by unfold lvt; omega) (by unfold lvt; omega) (by omega))).trans (K.lonS l0 hl0))
  · intro l0 hl0
    exact (xset_ne _ _ (K.ne (by unfold lvt; omega) (by unfold lvt; omega) (by omega))).trans ((xset_ne _ _ (K.ne (by unfold lvt; omega) (by unfold lvt; omega) (by omega))).trans (K.lonP l0 hl0))
  · intro c0 hc0
    exact (xset_ne _ _ (K.ne (by unfold lvt; omega) (by unfold lvt; omega) (by omega))).trans ((xset_ne _ _ (K.ne (by unfold lvt; omega) (by unfold lvt; omega) (by omega))).trans (K.con c0 hc0))
  · intro c0 hc0
    exact (xset_ne _ _ (K.ne (by unfold lvt; omega) (by unfold lvt; omega) (by omega))).trans ((xset_ne _ _ (K.ne (by unfold lvt; omega) (by unfold lvt; omega) (by omega))).trans (K.conR c0 hc0))
  · intro c0 hc0
    exact (xset_ne _ _ (K.ne (by unfold lvt; omega) (by unfold lvt; omega) (by omega))).trans ((xset_ne _ _ (K.ne (by unfold lvt; omega) (by unfold lvt; omega) (by omega))).trans (K.conT c0 hc0))
  · intro c0 hc0
    exact (xset_ne _ _ (K.ne (by unfold lvt; omega) (by unfold lvt; omega) (by omega))).trans ((xset_ne _ _ (K.ne (by unfold lvt; omega) (by unfold lvt; omega) (by omega))).trans (K.conA c0 hc0))
  · intro a e h
    exact (xset_ne _ _ (K.nn (by rw [h]; simp) (by unfold lvt; omega))).trans ((xset_ne _ _ (K.nn (by rw [h]; simp) (by unfold lvt; omega))).trans (K.nod a e h))
  · exact K.tag
  · exact K.tgn
  · exact K.tgo
  · exact K.cnt
set_option maxRecDepth 20000 in
theorem CR_input {M : xMm} {n : Nat} {ct : Nat → Nat} {tg : Nat → Option Nat} {Bn : xMm} {cn rq ln : Nat} {rt : Nat → Nat → Option Nat} {tx : Nat → List Int32} {iv : Nat → Int32} {av : Nat → Nat → Int32} (K : CR M n ct tg Bn cn rq ln rt tx iv av) (i : Nat) (hi : i < 8) (h v : Int32) (rn : Nat) (hrn : rn < 60) : CR (xset (xset (xset M (ct (11 + 3 * i)) (.inl (0, 60, .inl (upd (slc 60 (av 19) i) rn h)))) (ct (12 + 3 * i)) (.inl (0, 60, .inl (upd (slc 60 (av 20) i) rn v)))) (ct (10 + 3 * i)) (.inr (2, [.ref (ct (11 + 3 * i)), .ref (ct (12 + 3 * i)), .int (nI (rn + 1)), .int (av 21 i), .int (av 22 i)]))) (n) ct tg Bn cn rq ln rt tx (upd iv 0 0) (va_up (va_up (va_up av 19 (upd (av 19) (60 * i + rn) h)) 20 (upd (av 20) (60 * i + rn) v)) 18 (upd (av 18) i (nI (rn + 1)))) := by
  have hcnt := K.cnt
  unfold CR
  refine ⟨?_, ?_, ?_, ?_, ?_, ?_, ?_, ?_, ?_, ?_, ?_, ?_, ?_, ?_, ?_, ?_, ?_, ?_, ?_, ?_, ?_, ?_, ?_, ?_, ?_, ?_⟩
  · exact (xset_ne _ _ (K.ne (by unfold lvt; omega) (by unfold lvt; omega) (by omega))).trans ((xset_ne _ _ (K.ne (by unfold lvt; omega) (by unfold lvt; omega) (by omega))).trans ((xset_ne _ _ (K.ne (by unfold lvt; omega) (by unfold lvt; omega) (by omega))).trans (K.lt)))
  · exact (xset_ne _ _ (K.ne (by unfold lvt; omega) (by unfold lvt; omega) (by omega))).trans ((xset_ne _ _ (K.ne (by unfold lvt; omega) (by unfold lvt; omega) (by omega))).trans ((xset_ne _ _ (K.ne (by unfold lvt; omega) (by unfold lvt; omega) (by omega))).trans (K.pad)))
  · exact (xset_ne _ _ (K.ne (by unfold lvt; omega) (by unfold lvt; omega) (by omega))).trans ((xset_ne _ _ (K.ne (by unfold lvt; omega) (by unfold lvt; omega) (by omega))).trans ((xset_ne _ _ (K.ne (by unfold lvt; omega) (by unfold lvt; omega) (by omega))).trans (K.padA)))
  · obtain ⟨z, f, g3, g4⟩ := K.lets
    exact ⟨z, f, (xset_ne _ _ (K.ne (by unfold lvt; omega) (by unfold lvt; omega) (by omega))).trans ((xset_ne _ _ (K.ne (by unfold lvt; omega) (by unfold lvt; omega) (by omega))).trans ((xset_ne _ _ (K.ne (by unfold lvt; omega) (by unfold lvt; omega) (by omega))).trans (g3))), (xset_ne _ _ (K.ne (by unfold lvt; omega) (by unfold lvt; omega) (by omega))).trans ((xset_ne _ _ (K.ne (by unfold lvt; omega) (by unfold lvt; omega) (by omega))).trans ((xset_ne _ _ (K.ne (by unfold lvt; omega) (by unfold lvt; omega) (by omega))).trans (g4)))⟩
  · exact (xset_ne _ _ (K.ne (by unfold lvt; omega) (by unfold lvt; omega) (by omega))).trans ((xset_ne _ _ (K.ne (by unfold lvt; omega) (by unfold lvt; omega) (by omega))).trans ((xset_ne _ _ (K.ne (by unfold lvt; omega) (by unfold lvt; omega) (by omega))).trans (K.cons)))
  · exact (xset_ne _ _ (K.ne (by unfold lvt; omega) (by unfold lvt; omega) (by omega))).trans ((xset_ne _ _ (K.ne (by unfold lvt; omega) (by unfold lvt; omega) (by omega))).trans ((xset_ne _ _ (K.ne (by unfold lvt; omega) (by unfold lvt; omega) (by omega))).trans (K.inps)))
  · exact (xset_ne _ _ (K.ne (by unfold lvt; omega) (by unfold lvt; omega) (by omega))).trans ((xset_ne _ _ (K.ne (by unfold lvt; omega) (by unfold lvt; omega) (by omega))).trans ((xset_ne _ _ (K.ne (by unfold lvt; omega) (by unfold lvt; omega) (by omega))).trans (K.lons)))
  · exact (xset_ne _ _ (K.ne (by unfold lvt; omega) (by unfold lvt; omega) (by omega))).trans ((xset_ne _ _ (K.ne (by unfold lvt; omega) (by unfold lvt; omega) (by omega))).trans ((xset_ne _ _ (K.ne (by unfold lvt; omega) (by unfold lvt; omega) (by omega))).trans (K.reqs)))
  · intro i0 hi0
    by_cases e0 : i0 = i
    · subst e0
      refine (xset_self _ _ _).trans ?_
      simp [va_up, upd]
    · refine ((xset_ne _ _ (K.ne (by unfold lvt; omega) (by unfold lvt; omega) (by omega))).trans ((xset_ne _ _ (K.ne (by unfold lvt; omega) (by unfold lvt; omega) (by omega))).trans ((xset_ne _ _ (K.ne (by unfold lvt; omega) (by unfold lvt; omega) (by omega))).trans (K.inp i0 hi0)))).trans ?_
      simp [va_up, upd, e0]
  · intro i0 hi0
    by_cases e0 : i0 = i
    · subst e0
      refine ((xset_ne _ _ (K.ne (by unfold lvt; omega) (by unfold lvt; omega) (by omega))).trans ((xset_ne _ _ (K.ne (by unfold lvt; omega) (by unfold lvt; omega) (by omega))).trans (xset_self _ _ _))).trans ?_
      rw [slc_upd _ _ _ hrn]
      rfl
    · refine ((xset_ne _ _ (K.ne (by unfold lvt; omega) (by unfold lvt; omega) (by omega))).trans ((xset_ne _ _ (K.ne (by unfold lvt; omega) (by unfold lvt; omega) (by omega))).trans ((xset_ne _ _ (K.ne (by unfold lvt; omega) (by unfold lvt; omega) (by omega))).trans (K.inpH i0 hi0)))).trans ?_
      rw [show (va_up (va_up (va_up av 19 (upd (av 19) (60 * i + rn) h)) 20 (upd (av 20) (60 * i + rn) v)) 18 (upd (av 18) i (nI (rn + 1)))) 19 = upd (av 19) (60 * i + rn) h from rfl, slc_ne _ _ hrn e0]
  · intro i0 hi0
    by_cases e0 : i0 = i
    · subst e0
      refine ((xset_ne _ _ (K.ne (by unfold lvt; omega) (by unfold lvt; omega) (by omega))).trans (xset_self _ _ _)).trans ?_
      rw [slc_upd _ _ _ hrn]
      rfl
    · refine ((xset_ne _ _ (K.ne (by unfold lvt; omega) (by unfold lvt; omega) (by omega))).trans ((xset_ne _ _ (K.ne (by unfold lvt; omega) (by unfold lvt; omega) (by omega))).trans ((xset_ne _ _ (K.ne (by unfold lvt; omega) (by unfold lvt; omega) (by omega))).trans (K.inpV i0 hi0)))).trans ?_
      rw [show (va_up (va_up (va_up av 19 (upd (av 19) (60 * i + rn) h)) 20 (upd (av 20) (60 * i + rn) v)) 18 (upd (av 18) i (nI (rn + 1)))) 20 = upd (av 20) (60 * i + rn) v from rfl, slc_ne _ _ hrn e0]
  · intro r0 hr0
    exact (xset_ne _ _ (K.ne (by unfold lvt; omega) (by unfold lvt; omega) (by omega))).trans ((xset_ne _ _ (K.ne (by unfold lvt; omega) (by unfold lvt; omega) (by omega))).trans ((xset_ne _ _ (K.ne (by unfold lvt; omega) (by unfold lvt; omega) (by omega))).trans (K.req r0 hr0)))
  · intro l0 hl0
    exact (xset_ne _ _ (K.ne (by unfold lvt; omega) (by unfold lvt; omega) (by omega))).trans ((xset_ne _ _ (K.ne (by unfold lvt; omega) (by unfold lvt; omega) (by omega))).trans ((xset_ne _ _ (K.ne (by unfold lvt; omega) (by unfold lvt; omega) (by omega))).trans (K.lon l0 hl0)))
  · intro l0 hl0
    exact (xset_ne _ _ (K.ne (by unfold lvt; omega) (by unfold lvt; omega) (by omega))).trans ((xset_ne _ _ (K.ne (by unfold lvt; omega) (by unfold lvt; omega) (by omega))).trans ((xset_ne _ _ (K.ne (by unfold lvt; omega) (by unfold lvt; omega) (by omega))).trans (K.lonH l0 hl0)))
  · intro l0 hl0
    exact (xset_ne _ _ (K.ne (by unfold lvt; omega) (by unfold lvt; omega) (by omega))).trans ((xset_ne _ _ (K.ne (by unfold lvt; omega) (by unfold lvt; omega) (by omega))).trans ((xset_ne _ _ (K.ne (by unfold lvt; omega) (by unfold lvt; omega) (by omega))).trans (K.lonT l0 hl0)))
  · intro l0 hl0
    exact (xset_ne _ _ (K.ne (by unfold lvt; omega) (by unfold lvt; omega) (by omega))).trans ((xset_ne _ _ (K.ne (by unfold lvt; omega) (by unfold lvt; omega) (by omega))).trans ((xset_ne _ _ (K.ne (by unfold lvt; omega) (by unfold lvt; omega) (by omega))).trans (K.lonS l0 hl0)))
  · intro l0 hl0
    exact (xset_ne _ _ (K.ne (by unfold lvt; omega) (by unfold lvt; omega) (by omega))).trans ((xset_ne _ _ (K.ne (by unfold lvt; omega) (by unfold lvt; omega) (by omega))).trans ((xset_ne _ _ (K.ne (by unfold lvt; omega) (by unfold lvt; omega) (by omega))).trans (K.lonP l0 hl0)))
  · intro c0 hc0
    exact (xset_ne _ _ (K.ne (by unfold lvt; omega) (by unfold lvt; omega) (by omega))).trans ((xset_ne _ _ (K.ne (by unfold lvt; omega) (by unfold lvt; omega) (by omega))).trans ((xset_ne _ _ (K.ne (by unfold lvt; omega) (by unfold lvt; omega) (by omega))).trans (K.con c0 hc0)))
  · intro c0 hc0
    exact (xset_ne _ _ (K.ne (by unfold lvt; omega) (by unfold lvt; omega) (by omega))).trans ((xset_ne _ _ (K.ne (by unfold lvt; omega) (by unfold lvt; omega) (by omega))).trans ((xset_ne _ _ (K.ne (by unfold lvt; omega) (by unfold lvt; omega) (by omega))).trans (K.conR c0 hc0)))
  · intro c0 hc0
    exact (xset_ne _ _ (K.ne (by unfold lvt; omega) (by unfold lvt; omega) (by omega))).trans ((xset_ne _ _ (K.ne (by unfold lvt; omega) (by unfold lvt; omega) (by omega))).trans ((xset_ne _ _ (K.ne (by unfold lvt; omega) (by unfold lvt; omega) (by omega))).trans (K.conT c0 hc0)))
  · intro c0 hc0
    exact (xset_ne _ _ (K.ne (by unfold lvt; omega) (by unfold lvt; omega) (by omega))).trans ((xset_ne _ _ (K.ne (by unfold lvt; omega) (by unfold lvt; omega) (by omega))).trans ((xset_ne _ _ (K.ne (by unfold lvt; omega) (by unfold lvt; omega) (by omega))).trans (K.conA c0 hc0)))
  · intro a e h
    exact (xset_ne _ _ (K.nn (by rw [h]; simp) (by unfold lvt; omega))).trans ((xset_ne _ _ (K.nn (by rw [h]; simp) (by unfold lvt; omega))).trans ((xset_ne _ _ (K.nn (by rw [h]; simp) (by unfold lvt; omega))).trans (K.nod a e h)))
  · exact K.tag
  · exact K.tgn
  · exact K.tgo
  · exact K.cnt
set_option maxRecDepth 20000 in
theorem CR_fails {M : xMm} {n : Nat} {ct : Nat → Nat} {tg : Nat → Option Nat} {Bn : xMm} {cn rq ln : Nat} {rt : Nat → Nat → Option Nat} {tx : Nat → List Int32} {iv : Nat → Int32} {av : Nat → Nat → Int32} (K : CR M n ct tg Bn cn rq ln rt tx iv av) (i : Nat) (hi : i < 8) (f t : Int32) : CR (xset M (ct (10 + 3 * i)) (.inr (2, [.ref (ct (11 + 3 * i)), .ref (ct (12 + 3 * i)), .int (av 18 i), .int f, .int t]))) (n) ct tg Bn cn rq ln rt tx (upd iv 0 0) (va_up (va_up av 21 (upd (av 21) i f)) 22 (upd (av 22) i t)) := by
  have hcnt := K.cnt
  unfold CR
  refine ⟨?_, ?_, ?_, ?_, ?_, ?_, ?_, ?_, ?_, ?_, ?_, ?_, ?_, ?_, ?_, ?_, ?_, ?_, ?_, ?_, ?_, ?_, ?_, ?_, ?_, ?_⟩
  · exact (xset_ne _ _ (K.ne (by unfold lvt; omega) (by unfold lvt; omega) (by omega))).trans (K.lt)
  · exact (xset_ne _ _ (K.ne (by unfold lvt; omega) (by unfold lvt; omega) (by omega))).trans (K.pad)
  · exact (xset_ne _ _ (K.ne (by unfold lvt; omega) (by unfold lvt; omega) (by omega))).trans (K.padA)
  · obtain ⟨z, f, g3, g4⟩ := K.lets
    exact ⟨z, f, (xset_ne _ _ (K.ne (by unfold lvt; omega) (by unfold lvt; omega) (by omega))).trans (g3), (xset_ne _ _ (K.ne (by unfold lvt; omega) (by unfold lvt; omega) (by omega))).trans (g4)⟩
  · exact (xset_ne _ _ (K.ne (by unfold lvt; omega) (by unfold lvt; omega) (by omega))).trans (K.cons)
  · exact (xset_ne _ _ (K.ne (by unfold lvt; omega) (by unfold lvt; omega) (by omega))).trans (K.inps)
  · exact (xset_ne _ _ (K.ne (by unfold lvt; omega) (by unfold lvt; omega) (by omega))).trans (K.lons)
  · exact (xset_ne _ _ (K.ne (by unfold lvt; omega) (by unfold lvt; omega) (by omega))).trans (K.reqs)
  · intro i0 hi0
    by_cases e0 : i0 = i
    · subst e0
      refine (xset_self _ _ _).trans ?_
      simp [va_up, upd]
    · refine ((xset_ne _ _ (K.ne (by unfold lvt; omega) (by unfold lvt; omega) (by omega))).trans (K.inp i0 hi0)).trans ?_
      simp [va_up, upd, e0]
  · intro i0 hi0
    exact (xset_ne _ _ (K.ne (by unfold lvt; omega) (by unfold lvt; omega) (by omega))).trans (K.inpH i0 hi0)
  · intro i0 hi0
    exact (xset_ne _ _ (K.ne (by unfold lvt; omega) (by unfold lvt; omega) (by omega))).trans (K.inpV i0 hi0)
  · intro r0 hr0
    exact (xset_ne _ _ (K.ne (by unfold lvt; omega) (by unfold lvt; omega) (by omega))).trans (K.req r0 hr0)
  · intro l0 hl0
    exact (xset_ne _ _ (K.ne (by unfold lvt; omega) (by unfold lvt; omega) (by omega))).trans (K.lon l0 hl0)
  · intro l0 hl0
    exact (xset_ne _ _ (K.ne (by unfold lvt; omega) (by unfold lvt; omega) (by omega))).trans (K.lonH l0 hl0)
  · intro l0 hl0
    exact (xset_ne _ _ (K.ne (by unfold lvt; omega) (by unfold lvt; omega) (by omega))).trans (K.lonT l0 hl0)
  · intro l0 hl0
    exact (xset_ne _ _ (K.ne (by unfold lvt; omega) (by unfold lvt; omega) (by omega))).trans (K.lonS l0 hl0)
  · intro l0 hl0
    exact (xset_ne _ _ (K.ne (by unfold lvt; omega) (by unfold lvt; omega) (by omega))).trans (K.lonP l0 hl0)
  · intro c0 hc0
    exact (xset_ne _ _ (K.ne (by unfold lvt; omega) (by unfold lvt; omega) (by omega))).trans (K.con c0 hc0)
  · intro c0 hc0
    exact (xset_ne _ _ (K.ne (by unfold lvt; omega) (by unfold lvt; omega) (by omega))).trans (K.conR c0 hc0)
  · intro c0 hc0
    exact (xset_ne _ _ (K.ne (by unfold lvt; omega) (by unfold lvt; omega) (by omega))).trans (K.conT c0 hc0)
  · intro c0 hc0
    exact (xset_ne _ _ (K.ne (by unfold lvt; omega) (by unfold lvt; omega) (by omega))).trans (K.conA c0 hc0)
  · intro a e h
    exact (xset_ne _ _ (K.nn (by rw [h]; simp) (by unfold lvt; omega))).trans (K.nod a e h)
  · exact K.tag
  · exact K.tgn
  · exact K.tgo
  · exact K.cnt
set_option maxRecDepth 20000 in
theorem CR_shield {M : xMm} {n : Nat} {ct : Nat → Nat} {tg : Nat → Option Nat} {Bn : xMm} {cn rq ln : Nat} {rt : Nat → Nat → Option Nat} {tx : Nat → List Int32} {iv : Nat → Int32} {av : Nat → Nat → Int32} (K : CR M n ct tg Bn cn rq ln rt tx iv av) (l : Nat) (hl : l < ln) (b : Int32) : CR (xset M (ct (100 + 5 * l)) (.inr (3, [.ref (ct (200 + 4 * (av 24 l).toNatClampNeg)), .ref (ct (101 + 5 * l)), .ref (ct (102 + 5 * l)), .ref (ct (103 + 5 * l)), .ref (ct (104 + 5 * l)), .int b, .int (av 30 l)]))) (n) ct tg Bn cn rq ln rt tx (upd iv 0 0) (va_up av 28 (upd (av 28) l b)) := by
  have hcnt := K.cnt
  unfold CR
  refine ⟨?_, ?_, ?_, ?_, ?_, ?_, ?_, ?_, ?_, ?_, ?_, ?_, ?_, ?_, ?_, ?_, ?_, ?_, ?_, ?_, ?_, ?_, ?_, ?_, ?_, ?_⟩
  · exact (xset_ne _ _ (K.ne (by unfold lvt; omega) (by unfold lvt; omega) (by omega))).trans (K.lt)
  · exact (xset_ne _ _ (K.ne (by unfold lvt; omega) (by unfold lvt; omega) (by omega))).trans (K.pad)
  · exact (xset_ne _ _ (K.ne (by unfold lvt; omega) (by unfold lvt; omega) (by omega))).trans (K.padA)
  · obtain ⟨z, f, g3, g4⟩ := K.lets
    exact ⟨z, f, (xset_ne _ _ (K.ne (by unfold lvt; omega) (by unfold lvt; omega) (by omega))).trans (g3), (xset_ne _ _ (K.ne (by unfold lvt; omega) (by unfold lvt; omega) (by omega))).trans (g4)⟩
  · exact (xset_ne _ _ (K.ne (by unfold lvt; omega) (by unfold lvt; omega) (by omega))).trans (K.cons)
  · exact (xset_ne _ _ (K.ne (by unfold lvt; omega) (by unfold lvt; omega) (by omega))).trans (K.inps)
  · exact (xset_ne _ _ (K.ne (by unfold lvt; omega) (by unfold lvt; omega) (by omega))).trans (K.lons)
  · exact (xset_ne _ _ (K.ne (by unfold lvt; omega) (by unfold lvt; omega) (by omega))).trans (K.reqs)
  · intro i0 hi0
    exact (xset_ne _ _ (K.ne (by unfold lvt; omega) (by unfold lvt; omega) (by omega))).trans (K.inp i0 hi0)
  · intro i0 hi0
    exact (xset_ne _ _ (K.ne (by unfold lvt; omega) (by unfold lvt; omega) (by omega))).trans (K.inpH i0 hi0)
  · intro i0 hi0
    exact (xset_ne _ _ (K.ne (by unfold lvt; omega) (by unfold lvt; omega) (by omega))).trans (K.inpV i0 hi0)
  · intro r0 hr0
    exact (xset_ne _ _ (K.ne (by unfold lvt; omega) (by unfold lvt; omega) (by omega))).trans (K.req r0 hr0)
  · intro i0 hi0
    by_cases e0 : i0 = l
    · subst e0
      refine (xset_self _ _ _).trans ?_
      simp [va_up, upd]
    · refine ((xset_ne _ _ (K.ne (by unfold lvt; omega) (by unfold lvt; omega) (by omega))).trans (K.lon i0 hi0)).trans ?_
      simp [va_up, upd, e0]
  · intro l0 hl0
    exact (xset_ne _ _ (K.ne (by unfold lvt; omega) (by unfold lvt; omega) (by omega))).trans (K.lonH l0 hl0)
  · intro l0 hl0
    exact (xset_ne _ _ (K.ne (by unfold lvt; omega) (by unfold lvt; omega) (by omega))).trans (K.lonT l0 hl0)
  · intro l0 hl0
    exact (xset_ne _ _ (K.ne (by unfold lvt; omega) (by unfold lvt; omega) (by omega))).trans (K.lonS l0 hl0)
  · intro l0 hl0
    exact (xset_ne _ _ (K.ne (by unfold lvt; omega) (by unfold lvt; omega) (by omega))).trans (K.lonP l0 hl0)
  · intro c0 hc0
    exact (xset_ne _ _ (K.ne (by unfold lvt; omega) (by unfold lvt; omega) (by omega))).trans (K.con c0 hc0)
  · intro c0 hc0
    exact (xset_ne _ _ (K.ne (by unfold lvt; omega) (by unfold lvt; omega) (by omega))).trans (K.conR c0 hc0)
  · intro c0 hc0
    exact (xset_ne _ _ (K.ne (by unfold lvt; omega) (by unfold lvt; omega) (by omega))).trans (K.conT c0 hc0)
  · intro c0 hc0
    exact (xset_ne _ _ (K.ne (by unfold lvt; omega) (by unfold lvt; omega) (by omega))).trans (K.conA c0 hc0)
  · intro a e h
    exact (xset_ne _ _ (K.nn (by rw [h]; simp) (by unfold lvt; omega))).trans (K.nod a e h)
  · exact K.tag
  · exact K.tgn
  · exact K.tgo
  · exact K.cnt
set_option maxRecDepth 20000 in
theorem CR_forget {M : xMm} {n : Nat} {ct : Nat → Nat} {tg : Nat → Option Nat} {Bn : xMm} {cn rq ln : Nat} {rt : Nat → Nat → Option Nat} {tx : Nat → List Int32} {iv : Nat → Int32} {av : Nat → Nat → Int32} (K : CR M n ct tg Bn cn rq ln rt tx iv av) (l : Nat) (hl : l < ln) (t : Nat) (ht : t < 6) : CR (xset M (ct (103 + 5 * l)) (.inl (1, 6, .inl (upd (slc 6 (av 29) l) t 0)))) (n) ct tg Bn cn rq ln rt tx (iv) (va_up av 29 (upd (av 29) (6 * l + t) 0)) := by
  have hcnt := K.cnt
  unfold CR
  refine ⟨?_, ?_, ?_, ?_, ?_, ?_, ?_, ?_, ?_, ?_, ?_, ?_, ?_, ?_, ?_, ?_, ?_, ?_, ?_, ?_, ?_, ?_, ?_, ?_, ?_, ?_⟩
  · exact (xset_ne _ _ (K.ne (by unfold lvt; omega) (by unfold lvt; omega) (by omega))).trans (K.lt)
  · exact (xset_ne _ _ (K.ne (by unfold lvt; omega) (by unfold lvt; omega) (by omega))).trans (K.pad)
  · exact (xset_ne _ _ (K.ne (by unfold lvt; omega) (by unfold lvt; omega) (by omega))).trans (K.padA)
  · obtain ⟨z, f, g3, g4⟩ := K.lets
    exact ⟨z, f, (xset_ne _ _ (K.ne (by unfold lvt; omega) (by unfold lvt; omega) (by omega))).trans (g3), (xset_ne _ _ (K.ne (by unfold lvt; omega) (by unfold lvt; omega) (by omega))).trans (g4)⟩
  · exact (xset_ne _ _ (K.ne (by unfold lvt; omega) (by unfold lvt; omega) (by omega))).trans (K.cons)
  · exact (xset_ne _ _ (K.ne (by unfold lvt; omega) (by unfold lvt; omega) (by omega))).trans (K.inps)
  · exact (xset_ne _ _ (K.ne (by unfold lvt; omega) (by unfold lvt; omega) (by omega))).trans (K.lons)
  · exact (xset_ne _ _ (K.ne (by unfold lvt; omega) (by unfold lvt; omega) (by omega))).trans (K.reqs)
  · intro i0 hi0
    exact (xset_ne _ _ (K.ne (by unfold lvt; omega) (by unfold lvt; omega) (by omega))).trans (K.inp i0 hi0)
  · intro i0 hi0
    exact (xset_ne _ _ (K.ne (by unfold lvt; omega) (by unfold lvt; omega) (by omega))).trans (K.inpH i0 hi0)
  · intro i0 hi0
    exact (xset_ne _ _ (K.ne (by unfold lvt; omega) (by unfold lvt; omega) (by omega))).trans (K.inpV i0 hi0)
  · intro r0 hr0
    exact (xset_ne _ _ (K.ne (by unfold lvt; omega) (by unfold lvt; omega) (by omega))).trans (K.req r0 hr0)
  · intro l0 hl0
    exact (xset_ne _ _ (K.ne (by unfold lvt; omega) (by unfold lvt; omega) (by omega))).trans (K.lon l0 hl0)
  · intro l0 hl0
    exact (xset_ne _ _ (K.ne (by unfold lvt; omega) (by unfold lvt; omega) (by omega))).trans (K.lonH l0 hl0)
  · intro l0 hl0
    exact (xset_ne _ _ (K.ne (by unfold lvt; omega) (by unfold lvt; omega) (by omega))).trans (K.lonT l0 hl0)
  · intro i0 hi0
    by_cases e0 : i0 = l
    · subst e0
      refine (xset_self _ _ _).trans ?_
      rw [slc_upd _ _ _ ht]
      rfl
    · refine ((xset_ne _ _ (K.ne (by unfold lvt; omega) (by unfold lvt; omega) (by omega))).trans (K.lonS i0 hi0)).trans ?_
      rw [va_up_self, slc_ne _ _ ht e0]
  · intro l0 hl0
    exact (xset_ne _ _ (K.ne (by unfold lvt; omega) (by unfold lvt; omega) (by omega))).trans (K.lonP l0 hl0)
  · intro c0 hc0
    exact (xset_ne _ _ (K.ne (by unfold lvt; omega) (by unfold lvt; omega) (by omega))).trans (K.con c0 hc0)
  · intro c0 hc0
    exact (xset_ne _ _ (K.ne (by unfold lvt; omega) (by unfold lvt; omega) (by omega))).trans (K.conR c0 hc0)
  · intro c0 hc0
    exact (xset_ne _ _ (K.ne (by unfold lvt; omega) (by unfold lvt; omega) (by omega))).trans (K.conT c0 hc0)
  · intro c0 hc0
    exact (xset_ne _ _ (K.ne (by unfold lvt; omega) (by unfold lvt; omega) (by omega))).trans (K.conA c0 hc0)
  · intro a e h
    exact (xset_ne _ _ (K.nn (by rw [h]; simp) (by unfold lvt; omega))).trans (K.nod a e h)
  · exact K.tag
  · exact K.tgn
  · exact K.tgo
  · exact K.cnt
set_option maxRecDepth 20000 in
theorem CR_tell {M : xMm} {n : Nat} {ct : Nat → Nat} {tg : Nat → Option Nat} {Bn : xMm} {cn rq ln : Nat} {rt : Nat → Nat → Option Nat} {tx : Nat → List Int32} {iv : Nat → Int32} {av : Nat → Nat → Int32} (K : CR M n ct tg Bn cn rq ln rt tx iv av) (l : Nat) (hl : l < ln) (h : Int32) (t m : Nat) (ht : t < 6) (hm : m < 100) : CR (xset (xset (xset (xset M (ct (103 + 5 * l)) (.inl (1, 6, .inl (upd (slc 6 (av 29) l) t 1)))) (ct (101 + 5 * l)) (.inl (0, 100, .inl (upd (slc 100 (av 31) l) m h)))) (ct (102 + 5 * l)) (.inl (0, 100, .inl (upd (slc 100 (av 32) l) m (nI t))))) (ct (100 + 5 * l)) (.inr (3, [.ref (ct (200 + 4 * (av 24 l).toNatClampNeg)), .ref (ct (101 + 5 * l)), .ref (ct (102 + 5 * l)), .ref (ct (103 + 5 * l)), .ref (ct (104 + 5 * l)), .int (av 28 l), .int (nI (m + 1))]))) (n) ct tg Bn cn rq ln rt tx (iv) (va_up (va_up (va_up (va_up av 31 (upd (av 31) (100 * l + m) h)) 32 (upd (av 32) (100 * l + m) (nI t))) 30 (upd (av 30) l (nI m + 1))) 29 (upd (av 29) (6 * l + t) 1)) := by
  have hcnt := K.cnt
  unfold CR
  refine ⟨?_, ?_, ?_, ?_, ?_, ?_, ?_, ?_, ?_, ?_, ?_, ?_, ?_, ?_, ?_, ?_, ?_, ?_, ?_, ?_, ?_, ?_, ?_, ?_, ?_, ?_⟩
  · exact (xset_ne _ _ (K.ne (by unfold lvt; omega) (by unfold lvt; omega) (by omega))).trans ((xset_ne _ _ (K.ne (by unfold lvt; omega) (by unfold lvt; omega) (by omega))).trans ((xset_ne _ _ (K.ne (by unfold lvt; omega) (by unfold lvt; omega) (by omega))).trans ((xset_ne _ _ (K.ne (by unfold lvt; omega) (by unfold lvt; omega) (by omega))).trans (K.lt))))
  · exact (xset_ne _ _ (K.ne (by unfold lvt; omega) (by unfold lvt; omega) (by omega))).trans ((xset_ne _ _ (K.ne (by unfold lvt; omega) (by unfold lvt; omega) (by omega))).trans ((xset_ne _ _ (K.ne (by unfold lvt; omega) (by unfold lvt; omega) (by omega))).trans ((xset_ne _ _ (K.ne (by unfold lvt; omega) (by unfold lvt; omega) (by omega))).trans (K.pad))))
  · exact (xset_ne _ _ (K.ne (by unfold lvt; omega) (by unfold lvt; omega) (by omega))).trans ((xset_ne _ _ (K.ne (by unfold lvt; omega) (by unfold lvt; omega) (by omega))).trans ((xset_ne _ _ (K.ne (by unfold lvt; omega) (by unfold lvt; omega) (by omega))).trans ((xset_ne _ _ (K.ne (by unfold lvt; omega) (by unfold lvt; omega) (by omega))).trans (K.padA))))
  · obtain ⟨z, f, g3, g4⟩ := K.lets
    exact ⟨z, f, (xset_ne _ _ (K.ne (by unfold lvt; omega) (by unfold lvt; omega) (by omega))).trans ((xset_ne _ _ (K.ne (by unfold lvt; omega) (by unfold lvt; omega) (by omega))).trans ((xset_ne _ _ (K.ne (by unfold lvt; omega) (by unfold lvt; omega) (by omega))).trans ((xset_ne _ _ (K.ne (by unfold lvt; omega) (by unfold lvt; omega) (by omega))).trans (g3)))), (xset_ne _ _ (K.ne (by unfold lvt; omega) (by unfold lvt; omega) (by omega))).trans ((xset_ne _ _ (K.ne (by unfold lvt; omega) (by unfold lvt; omega) (by omega))).trans ((xset_ne _ _ (K.ne (by unfold lvt; omega) (by unfold lvt; omega) (by omega))).trans ((xset_ne _ _ (K.ne (by unfold lvt; omega) (by unfold lvt; omega) (by omega))).trans (g4))))⟩
  · exact (xset_ne _ _ (K.ne (by unfold lvt; omega) (by unfold lvt; omega) (by omega))).trans ((xset_ne _ _ (K.ne (by unfold lvt; omega) (by unfold lvt; omega) (by omega))).trans ((xset_ne _ _ (K.ne (by unfold lvt; omega) (by unfold lvt; omega) (by omega))).trans ((xset_ne _ _ (K.ne (by unfold lvt; omega) (by unfold lvt; omega) (by omega))).trans (K.cons))))
  · exact (xset_ne _ _ (K.ne (by unfold lvt; omega) (by unfold lvt; omega) (by omega))).trans ((xset_ne _ _ (K.ne (by unfold lvt; omega) (by unfold lvt; omega) (by omega))).trans ((xset_ne _ _ (K.ne (by unfold lvt; omega) (by unfold lvt; omega) (by omega))).trans ((xset_ne _ _ (K.ne (by unfold lvt; omega) (by unfold lvt; omega) (by omega))).trans (K.inps))))
  · exact (xset_ne _ _ (K.ne (by unfold lvt; omega) (by unfold lvt; omega) (by omega))).trans ((xset_ne _ _ (K.ne (by unfold lvt; omega) (by unfold lvt; omega) (by omega))).trans ((xset_ne _ _ (K.ne (by unfold lvt; omega) (by unfold lvt; omega) (by omega))).trans ((xset_ne _ _ (K.ne (by unfold lvt; omega) (by unfold lvt; omega) (by omega))).trans (K.lons))))
  · exact (xset_ne _ _ (K.ne (by unfold lvt; omega) (by unfold lvt; omega) (by omega))).trans ((xset_ne _ _ (K.ne (by unfold lvt; omega) (by unfold lvt; omega) (by omega))).trans ((xset_ne _ _ (K.ne (by unfold lvt; omega) (by unfold lvt; omega) (by omega))).trans ((xset_ne _ _ (K.ne (by unfold lvt; omega) (by unfold lvt; omega) (by omega))).trans (K.reqs))))
  · intro i0 hi0
    exact (xset_ne _ _ (K.ne (by unfold lvt; omega) (by unfold lvt; omega) (by omega))).trans ((xset_ne _ _ (K.ne (by unfold lvt; omega) (by unfold lvt; omega) (by omega))).trans ((xset_ne _ _ (K.ne (by unfold lvt; omega) (by unfold lvt; omega) (by omega))).trans ((xset_ne _ _ (K.ne (by unfold lvt; omega) (by unfold lvt; omega) (by omega))).trans (K.inp i0 hi0))))
  · intro i0 hi0
    exact (xset_ne _ _ (K.ne (by unfold lvt; omega) (by unfold lvt; omega) (by omega))).trans ((xset_ne _ _ (K.ne (by unfold lvt; omega) (by unfold lvt; omega) (by omega))).trans ((xset_ne _ _ (K.ne (by unfold lvt; omega) (by unfold lvt; omega) (by omega))).trans ((xset_ne _ _ (K.ne (by unfold lvt; omega) (by unfold lvt; omega) (by omega))).trans (K.inpH i0 hi0))))
  · intro i0 hi0
    exact (xset_ne _ _ (K.ne (by unfold lvt; omega) (by unfold lvt; omega) (by omega))).trans ((xset_ne _ _ (K.ne (by unfold lvt; omega) (by unfold lvt; omega) (by omega))).trans ((xset_ne _ _ (K.ne (by unfold lvt; omega) (by unfold lvt; omega) (by omega))).trans ((xset_ne _ _ (K.ne (by unfold lvt; omega) (by unfold lvt; omega) (by omega))).trans (K.inpV i0 hi0))))
  · intro r0 hr0
    exact (xset_ne _ _ (K.ne (by unfold lvt; omega) (by unfold lvt; omega) (by omega))).trans ((xset_ne _ _ (K.ne (by unfold lvt; omega) (by unfold lvt; omega) (by omega))).trans ((xset_ne _ _ (K.ne (by unfold lvt; omega) (by unfold lvt; omega) (by omega))).trans ((xset_ne _ _ (K.ne (by unfold lvt; omega) (by unfold lvt; omega) (by omega))).trans (K.req r0 hr0))))
  · intro i0 hi0
    by_cases e0 : i0 = l
    · subst e0
      refine (xset_self _ _ _).trans ?_
      simp [va_up, upd, nI_succ]
    · refine ((xset_ne _ _ (K.ne (by unfold lvt; omega) (by unfold lvt; omega) (by omega))).trans ((xset_ne _ _ (K.ne (by unfold lvt; omega) (by unfold lvt; omega) (by omega))).trans ((xset_ne _ _ (K.ne (by unfold lvt; omega) (by unfold lvt; omega) (by omega))).trans ((xset_ne _ _ (K.ne (by unfold lvt; omega) (by unfold lvt; omega) (by omega))).trans (K.lon i0 hi0))))).trans ?_
      simp [va_up, upd, e0]
  · intro i0 hi0
    by_cases e0 : i0 = l
    · subst e0
      refine ((xset_ne _ _ (K.ne (by unfold lvt; omega) (by unfold lvt; omega) (by omega))).trans ((xset_ne _ _ (K.ne (by unfold lvt; omega) (by unfold lvt; omega) (by omega))).trans (xset_self _ _ _))).trans ?_
      rw [slc_upd _ _ _ hm]
      rfl
    · refine ((xset_ne _ _ (K.ne (by unfold lvt; omega) (by unfold lvt; omega) (by omega))).trans ((xset_ne _ _ (K.ne (by unfold lvt; omega) (by unfold lvt; omega) (by omega))).trans ((xset_ne _ _ (K.ne (by unfold lvt; omega) (by unfold lvt; omega) (by omega))).trans ((xset_ne _ _ (K.ne (by unfold lvt; omega) (by unfold lvt; omega) (by omega))).trans (K.lonH i0 hi0))))).trans ?_
      rw [show (va_up (va_up (va_up (va_up av 31 (upd (av 31) (100 * l + m) h)) 32 (upd (av 32) (100 * l + m) (nI t))) 30 (upd (av 30) l (nI m + 1))) 29 (upd (av 29) (6 * l + t) 1)) 31 = upd (av 31) (100 * l + m) h from rfl, slc_ne _ _ hm e0]
  · intro i0 hi0
    by_cases e0 : i0 = l
    · subst e0
      refine ((xset_ne _ _ (K.ne (by unfold lvt; omega) (by unfold lvt; omega) (by omega))).trans (xset_self _ _ _)).trans ?_
      rw [slc_upd _ _ _ hm]
      rfl
    · refine ((xset_ne _ _ (K.ne (by unfold lvt; omega) (by unfold lvt; omega) (by omega))).trans ((xset_ne _ _ (K.ne (by unfold lvt; omega) (by unfold lvt; omega) (by omega))).trans ((xset_ne _ _ (K.ne (by unfold lvt; omega) (by unfold lvt; omega) (by omega))).trans ((xset_ne _ _ (K.ne (by unfold lvt; omega) (by unfold lvt; omega) (by omega))).trans (K.lonT i0 hi0))))).trans ?_
      rw [show (va_up (va_up (va_up (va_up av 31 (upd (av 31) (100 * l + m) h)) 32 (upd (av 32) (100 * l + m) (nI t))) 30 (upd (av 30) l (nI m + 1))) 29 (upd (av 29) (6 * l + t) 1)) 32 = upd (av 32) (100 * l + m) (nI t) from rfl, slc_ne _ _ hm e0]
  · intro i0 hi0
    by_cases e0 : i0 = l
    · subst e0
      refine ((xset_ne _ _ (K.ne (by unfold lvt; omega) (by unfold lvt; omega) (by omega))).trans ((xset_ne _ _ (K.ne (by unfold lvt; omega) (by unfold lvt; omega) (by omega))).trans ((xset_ne _ _ (K.ne (by unfold lvt; omega) (by unfold lvt; omega) (by omega))).trans (xset_self _ _ _)))).trans ?_
      rw [slc_upd _ _ _ ht]
      rfl
    · refine ((xset_ne _ _ (K.ne (by unfold lvt; omega) (by unfold lvt; omega) (by omega))).trans ((xset_ne _ _ (K.ne (by unfold lvt; omega) (by unfold lvt; omega) (by omega))).trans ((xset_ne _ _ (K.ne (by unfold lvt; omega) (by unfold lvt; omega) (by omega))).trans ((xset_ne _ _ (K.ne (by unfold lvt; omega) (by unfold lvt; omega) (by omega))).trans (K.lonS i0 hi0))))).trans ?_
      rw [show (va_up (va_up (va_up (va_up av 31 (upd (av 31) (100 * l + m) h)) 32 (upd (av 32) (100 * l + m) (nI t))) 30 (upd (av 30) l (nI m + 1))) 29 (upd (av 29) (6 * l + t) 1)) 29 = upd (av 29) (6 * l + t) 1 from rfl, slc_ne _ _ ht e0]
  · intro l0 hl0
    exact (xset_ne _ _ (K.ne (by unfold lvt; omega) (by unfold lvt; omega) (by omega))).trans ((xset_ne _ _ (K.ne (by unfold lvt; omega) (by unfold lvt; omega) (by omega))).trans ((xset_ne _ _ (K.ne (by unfold lvt; omega) (by unfold lvt; omega) (by omega))).trans ((xset_ne _ _ (K.ne (by unfold lvt; omega) (by unfold lvt; omega) (by omega))).trans (K.lonP l0 hl0))))
  · intro c0 hc0
    exact (xset_ne _ _ (K.ne (by unfold lvt; omega) (by unfold lvt; omega) (by omega))).trans ((xset_ne _ _ (K.ne (by unfold lvt; omega) (by unfold lvt; omega) (by omega))).trans ((xset_ne _ _ (K.ne (by unfold lvt; omega) (by unfold lvt; omega) (by omega))).trans ((xset_ne _ _ (K.ne (by unfold lvt; omega) (by unfold lvt; omega) (by omega))).trans (K.con c0 hc0))))
  · intro c0 hc0
    exact (xset_ne _ _ (K.ne (by unfold lvt; omega) (by unfold lvt; omega) (by omega))).trans ((xset_ne _ _ (K.ne (by unfold lvt; omega) (by unfold lvt; omega) (by omega))).trans ((xset_ne _ _ (K.ne (by unfold lvt; omega) (by unfold lvt; omega) (by omega))).trans ((xset_ne _ _ (K.ne (by unfold lvt; omega) (by unfold lvt; omega) (by omega))).trans (K.conR c0 hc0))))
  · intro c0 hc0
    exact (xset_ne _ _ (K.ne (by unfold lvt; omega) (by unfold lvt; omega) (by omega))).trans ((xset_ne _ _ (K.ne (by unfold lvt; omega) (by unfold lvt; omega) (by omega))).trans ((xset_ne _ _ (K.ne (by unfold lvt; omega) (by unfold lvt; omega) (by omega))).trans ((xset_ne _ _ (K.ne (by unfold lvt; omega) (by unfold lvt; omega) (by omega))).trans (K.conT c0 hc0))))
  · intro c0 hc0
    exact (xset_ne _ _ (K.ne (by unfold lvt; omega) (by unfold lvt; omega) (by omega))).trans ((xset_ne _ _ (K.ne (by unfold lvt; omega) (by unfold lvt; omega) (by omega))).trans ((xset_ne _ _ (K.ne (by unfold lvt; omega) (by unfold lvt; omega) (by omega))).trans ((xset_ne _ _ (K.ne (by unfold lvt; omega) (by unfold lvt; omega) (by omega))).trans (K.conA c0 hc0))))
  · intro a e h
    exact (xset_ne _ _ (K.nn (by rw [h]; simp) (by unfold lvt; omega))).trans ((xset_ne _ _ (K.nn (by rw [h]; simp) (by unfold lvt; omega))).trans ((xset_ne _ _ (K.nn (by rw [h]; simp) (by unfold lvt; omega))).trans ((xset_ne _ _ (K.nn (by rw [h]; simp) (by unfold lvt; omega))).trans (K.nod a e h))))
  · exact K.tag
  · exact K.tgn
  · exact K.tgo
  · exact K.cnt
set_option maxRecDepth 20000 in
theorem CR_letter {M : xMm} {n : Nat} {ct : Nat → Nat} {tg : Nat → Option Nat} {Bn : xMm} {cn rq ln : Nat} {rt : Nat → Nat → Option Nat} {tx : Nat → List Int32} {iv : Nat → Int32} {av : Nat → Nat → Int32} (K : CR M n ct tg Bn cn rq ln rt tx iv av) (f : Nat → Int32) (w : List Int32) : CR (rowM M (ct 3) (ct 4) f w) (n) ct tg Bn cn rq ln rt tx (iv) (av) := by
  have hcnt := K.cnt
  unfold CR
  refine ⟨?_, ?_, ?_, ?_, ?_, ?_, ?_, ?_, ?_, ?_, ?_, ?_, ?_, ?_, ?_, ?_, ?_, ?_, ?_, ?_, ?_, ?_, ?_, ?_, ?_, ?_⟩
  · exact (xset_ne _ _ (K.ne (by unfold lvt; omega) (by unfold lvt; omega) (by omega))).trans ((xset_ne _ _ (K.ne (by unfold lvt; omega) (by unfold lvt; omega) (by omega))).trans (K.lt))
  · exact (xset_ne _ _ (K.ne (by unfold lvt; omega) (by unfold lvt; omega) (by omega))).trans ((xset_ne _ _ (K.ne (by unfold lvt; omega) (by unfold lvt; omega) (by omega))).trans (K.pad))
  · exact (xset_ne _ _ (K.ne (by unfold lvt; omega) (by unfold lvt; omega) (by omega))).trans ((xset_ne _ _ (K.ne (by unfold lvt; omega) (by unfold lvt; omega) (by omega))).trans (K.padA))
  · exact ⟨_, _, xset_self _ _ _, (xset_ne _ _ (K.ne (by unfold lvt; omega) (by unfold lvt; omega) (by omega))).trans (xset_self _ _ _)⟩
  · exact (xset_ne _ _ (K.ne (by unfold lvt; omega) (by unfold lvt; omega) (by omega))).trans ((xset_ne _ _ (K.ne (by unfold lvt; omega) (by unfold lvt; omega) (by omega))).trans (K.cons))
  · exact (xset_ne _ _ (K.ne (by unfold lvt; omega) (by unfold lvt; omega) (by omega))).trans ((xset_ne _ _ (K.ne (by unfold lvt; omega) (by unfold lvt; omega) (by omega))).trans (K.inps))
  · exact (xset_ne _ _ (K.ne (by unfold lvt; omega) (by unfold lvt; omega) (by omega))).trans ((xset_ne _ _ (K.ne (by unfold lvt; omega) (by unfold lvt; omega) (by omega))).trans (K.lons))
  · exact (xset_ne _ _ (K.ne (by unfold lvt; omega) (by unfold lvt; omega) (by omega))).trans ((xset_ne _ _ (K.ne (by unfold lvt; omega) (by unfold lvt; omega) (by omega))).trans (K.reqs))
  · intro i0 hi0
    exact (xset_ne _ _ (K.ne (by unfold lvt; omega) (by unfold lvt; omega) (by omega))).trans ((xset_ne _ _ (K.ne (by unfold lvt; omega) (by unfold lvt; omega) (by omega))).trans (K.inp i0 hi0))
  · intro i0 hi0
    exact (xset_ne _ _ (K.ne (by unfold lvt; omega) (by unfold lvt; omega) (by omega))).trans ((xset_ne _ _ (K.ne (by unfold lvt; omega) (by unfold lvt; omega) (by omega))).trans (K.inpH i0 hi0))
  · intro i0 hi0
    exact (xset_ne _ _ (K.ne (by unfold lvt; omega) (by unfold lvt; omega) (by omega))).trans ((xset_ne _ _ (K.ne (by unfold lvt; omega) (by unfold lvt; omega) (by omega))).trans (K.inpV i0 hi0))
  · intro r0 hr0
    exact (xset_ne _ _ (K.ne (by unfold lvt; omega) (by unfold lvt; omega) (by omega))).trans ((xset_ne _ _ (K.ne (by unfold lvt; omega) (by unfold lvt; omega) (by omega))).trans (K.req r0 hr0))
  · intro l0 hl0
    exact (xset_ne _ _ (K.ne (by unfold lvt; omega) (by unfold lvt; omega) (by omega))).trans ((xset_ne _ _ (K.ne (by unfold lvt; omega) (by unfold lvt; omega) (by omega))).trans (K.lon l0 hl0))
  · intro l0 hl0
    exact (xset_ne _ _ (K.ne (by unfold lvt; omega) (by unfold lvt; omega) (by omega))).trans ((xset_ne _ _ (K.ne (by unfold lvt; omega) (by unfold lvt; omega) (by omega))).trans (K.lonH l0 hl0))
  · intro l0 hl0
    exact (xset_ne _ _ (K.ne (by unfold lvt; omega) (by unfold lvt; omega) (by omega))).trans ((xset_ne _ _ (K.ne (by unfold lvt; omega) (by unfold lvt; omega) (by omega))).trans (K.lonT l0 hl0))
  · intro l0 hl0
    exact (xset_ne _ _ (K.ne (by unfold lvt; omega) (by unfold lvt; omega) (by omega))).trans ((xset_ne _ _ (K.ne (by unfold lvt; omega) (by unfold lvt; omega) (by omega))).trans (K.lonS l0 hl0))
  · intro l0 hl0
    exact (xset_ne _ _ (K.ne (by unfold lvt; omega) (by unfold lvt; omega) (by omega))).trans ((xset_ne _ _ (K.ne (by unfold lvt; omega) (by unfold lvt; omega) (by omega))).trans (K.lonP l0 hl0))
  · intro c0 hc0
    exact (xset_ne _ _ (K.ne (by unfold lvt; omega) (by unfold lvt; omega) (by omega))).trans ((xset_ne _ _ (K.ne (by unfold lvt; omega) (by unfold lvt; omega) (by omega))).trans (K.con c0 hc0))
  · intro c0 hc0
    exact (xset_ne _ _ (K.ne (by unfold lvt; omega) (by unfold lvt; omega) (by omega))).trans ((xset_ne _ _ (K.ne (by unfold lvt; omega) (by unfold lvt; omega) (by omega))).trans (K.conR c0 hc0))
  · intro c0 hc0
    exact (xset_ne _ _ (K.ne (by unfold lvt; omega) (by unfold lvt; omega) (by omega))).trans ((xset_ne _ _ (K.ne (by unfold lvt; omega) (by unfold lvt; omega) (by omega))).trans (K.conT c0 hc0))
  · intro c0 hc0
    exact (xset_ne _ _ (K.ne (by unfold lvt; omega) (by unfold lvt; omega) (by omega))).trans ((xset_ne _ _ (K.ne (by unfold lvt; omega) (by unfold lvt; omega) (by omega))).trans (K.conA c0 hc0))
  · intro a e h
    exact (xset_ne _ _ (K.nn (by rw [h]; simp) (by unfold lvt; omega))).trans ((xset_ne _ _ (K.nn (by rw [h]; simp) (by unfold lvt; omega))).trans (K.nod a e h))
  · exact K.tag
  · exact K.tgn
  · exact K.tgo
  · exact K.cnt
