/-! the class: read -/
set_option maxRecDepth 20000 in
theorem CR_ext {M : xMm} {n : Nat} {ct : Nat → Nat} {tg : Nat → Option Nat} {Bn : xMm} {cn rq ln : Nat} {rt : Nat → Nat → Option Nat} {tx : Nat → List Int32} {iv : Nat → Int32} {av : Nat → Nat → Int32} (K : CR M n ct tg Bn cn rq ln rt tx iv av) {M2 : xMm} {n2 : Nat} (hn : n ≤ n2) (hk : ∀ x, x < n → M2 x = M x) : CR M2 n2 ct tg Bn cn rq ln rt tx iv av := by
  have hcnt := K.cnt
  unfold CR
  refine ⟨?_, ?_, ?_, ?_, ?_, ?_, ?_, ?_, ?_, ?_, ?_, ?_, ?_, ?_, ?_, ?_, ?_, ?_, ?_, ?_, ?_, ?_, ?_, ?_, ?_, ?_⟩
  · exact (hk _ (K.tag _ (by unfold lvt; omega)).2).trans (K.lt)
  · exact (hk _ (K.tag _ (by unfold lvt; omega)).2).trans (K.pad)
  · exact (hk _ (K.tag _ (by unfold lvt; omega)).2).trans (K.padA)
  · obtain ⟨z, f, g3, g4⟩ := K.lets
    exact ⟨z, f, (hk _ (K.tag _ (by unfold lvt; omega)).2).trans (g3), (hk _ (K.tag _ (by unfold lvt; omega)).2).trans (g4)⟩
  · exact (hk _ (K.tag _ (by unfold lvt; omega)).2).trans (K.cons)
  · exact (hk _ (K.tag _ (by unfold lvt; omega)).2).trans (K.inps)
  · exact (hk _ (K.tag _ (by unfold lvt; omega)).2).trans (K.lons)
  · exact (hk _ (K.tag _ (by unfold lvt; omega)).2).trans (K.reqs)
  · intro i0 hi0
    exact (hk _ (K.tag _ (by unfold lvt; omega)).2).trans (K.inp i0 hi0)
  · intro i0 hi0
    exact (hk _ (K.tag _ (by unfold lvt; omega)).2).trans (K.inpH i0 hi0)
  · intro i0 hi0
    exact (hk _ (K.tag _ (by unfold lvt; omega)).2).trans (K.inpV i0 hi0)
  · intro r0 hr0
    exact (hk _ (K.tag _ (by unfold lvt; omega)).2).trans (K.req r0 hr0)
  · intro l0 hl0
    exact (hk _ (K.tag _ (by unfold lvt; omega)).2).trans (K.lon l0 hl0)
  · intro l0 hl0
    exact (hk _ (K.tag _ (by unfold lvt; omega)).2).trans (K.lonH l0 hl0)
  · intro l0 hl0
    exact (hk _ (K.tag _ (by unfold lvt; omega)).2).trans (K.lonT l0 hl0)
  · intro l0 hl0
    exact (hk _ (K.tag _ (by unfold lvt; omega)).2).trans (K.lonS l0 hl0)
  · intro l0 hl0
    exact (hk _ (K.tag _ (by unfold lvt; omega)).2).trans (K.lonP l0 hl0)
  · intro c0 hc0
    exact (hk _ (K.tag _ (by unfold lvt; omega)).2).trans (K.con c0 hc0)
  · intro c0 hc0
    exact (hk _ (K.tag _ (by unfold lvt; omega)).2).trans (K.conR c0 hc0)
  · intro c0 hc0
    exact (hk _ (K.tag _ (by unfold lvt; omega)).2).trans (K.conT c0 hc0)
  · intro c0 hc0
    exact (hk _ (K.tag _ (by unfold lvt; omega)).2).trans (K.conA c0 hc0)
  · intro a e h
    exact (hk a (K.tgn a (by rw [h]; simp)).2).trans (K.nod a e h)
  · exact fun t ht => ⟨(K.tag t ht).1, Nat.lt_of_lt_of_le (K.tag t ht).2 hn⟩
  · exact fun t ht => ⟨(K.tgn t ht).1, Nat.lt_of_lt_of_le (K.tgn t ht).2 hn⟩
  · exact fun t ht => Nat.lt_of_lt_of_le (K.tgo t ht) hn
  · exact K.cnt
set_option maxRecDepth 20000 in
theorem CR_clear {M : xMm} {n : Nat} {ct : Nat → Nat} {tg : Nat → Option Nat} {Bn : xMm} {cn rq ln : Nat} {rt : Nat → Nat → Option Nat} {tx : Nat → List Int32} {iv : Nat → Int32} {av : Nat → Nat → Int32} (K : CR M n ct tg Bn cn rq ln rt tx iv av)  : CR (xset M (ct 1) (.inr (6, [.ref (ct 2), .int 0]))) (n) ct tg Bn cn rq ln rt tx (upd (upd iv 0 0) 1 0) (av) := by
  have hcnt := K.cnt
  unfold CR
  refine ⟨?_, ?_, ?_, ?_, ?_, ?_, ?_, ?_, ?_, ?_, ?_, ?_, ?_, ?_, ?_, ?_, ?_, ?_, ?_, ?_, ?_, ?_, ?_, ?_, ?_, ?_⟩
  · exact (xset_ne _ _ (K.ne (by unfold lvt; omega) (by unfold lvt; omega) (by omega))).trans (K.lt)
  · exact xset_self _ _ _
  · exact (xset_ne _ _ (K.ne (by unfold lvt; omega) (by unfold lvt; omega) (by omega))).trans (K.padA)
  · obtain ⟨z, f, g3, g4⟩ := K.lets
    exact ⟨z, f, (xset_ne _ _ (K.ne (by unfold lvt; omega) (by unfold lvt; omega) (by omega))).trans (g3), (xset_ne _ _ (K.ne (by unfold lvt; omega) (by unfold lvt; omega) (by omega))).trans (g4)⟩
  · exact (xset_ne _ _ (K.ne (by unfold lvt; omega) (by unfold lvt; omega) (by omega))).trans (K.cons)
  · exact (xset_ne _ _ (K.ne (by unfold lvt; omega) (by unfold lvt; omega) (by omega))).trans (K.inps)
  · exact (xset_ne _ _ (K.ne (by unfold lvt; omega) (by unfold lvt; omega) (by omega))).trans (K.lons)
  · exact (xset_ne _ _ (K.ne (by unfold lvt; omega) (by unfold lvt; omega) (by omega))).trans (K.reqs)
  · intro i0 hi0
    exact (xset_ne _ _ (K.ne (by unfold lvt; omega) (by unfold lvt; omega) (by omega))).trans (K.inp i0 hi0)
  · intro i0 hi0
    exact (xset_ne _ _ (K.ne (by unfold lvt; omega) (by unfold lvt; omega) (by omega))).trans (K.inpH i0 hi0)
  · intro i0 hi0
    exact (xset_ne _ _ (K.ne (by unfold lvt; omega) (by unfold lvt; omega) (by omega))).trans (K.inpV i0 hi0)
  · intro r0 hr0
    exact (xset_ne _ _ (K.ne (by unfold lvt; omega) (by unfold lvt; omega) (by omega))).trans (K.req r0 hr0)
  · intro l0 hl0
    exact (xset_ne _ _ (K.ne (by unfold lvt; omega) (by unfold lvt; omega) (by omega))).trans (K.lon l0 hl0)
  · intro l0 hl0
    exact (xset_ne _ _ (K.ne (by unfold lvt; omega) (by unfold lvt; omega) (by omega))).trans (K.lonH l0 hl0)
  · intro l0 hl0
    exact (xset_ne _ _ (K.ne (by unfold lvt; omega) (by unfold lvt; omega) (by omega))).trans (K.lonT l0 hl0)
  · intro l0 hl0
    exact (xset_ne _ _ (K.ne (by unfold lvt; omega) (by unfold lvt; omega) (by omega))).trans (K.lonS l0 hl0)
  · intro l0 hl0
    exact (xset_ne _ _ (K.ne (by unfold lvt; omega) (by unfold lvt; omega) (by omega))).trans (K.lonP l0 hl0)
  · intro c0 hc0
    exact (xset_ne _ _ (K.ne (by unfold lvt; omega) (by unfold lvt; omega) (by omega))).trans (K.con c0 hc0)
  · intro c0 hc0
    exact (xset_ne _ _ (K.ne (by unfold lvt; omega) (by unfold lvt; omega) (by omega))).trans (K.conR c0 hc0)
  · intro c0 hc0
    exact (xset_ne _ _ (K.ne (by unfold lvt; omega) (by unfold lvt; omega) (by omega))).trans (K.conT c0 hc0)
  · intro c0 hc0
    exact (xset_ne _ _ (K.ne (by unfold lvt; omega) (by unfold lvt; omega) (by omega))).trans (K.conA c0 hc0)
  · intro a e h
    exact (xset_ne _ _ (K.nn (by rw [h]; simp) (by unfold lvt; omega))).trans (K.nod a e h)
  · exact K.tag
  · exact K.tgn
  · exact K.tgo
  · exact K.cnt
set_option maxRecDepth 20000 in
theorem CR_read {M : xMm} {n : Nat} {ct : Nat → Nat} {tg : Nat → Option Nat} {Bn : xMm} {cn rq ln : Nat} {rt : Nat → Nat → Option Nat} {tx : Nat → List Int32} {iv : Nat → Int32} {av : Nat → Nat → Int32} (K : CR M n ct tg Bn cn rq ln rt tx iv av) (n0 : Nat) (h05 : n0 + 5 ≤ n) (hlt : ∀ t, lvt cn rq ln t → ct t < n0) (hbn : ∀ a, Bn a ≠ none → a < n0) (htg : ∀ a, tg a ≠ none → a < n0) (hcn : cn < 8) (mn : Nat) (rf : Nat → Option Nat) (tx1 : List Int32) (hT : CT M (n0 + 1) mn rf tx1) (hlc : ∀ l, l < ln → (av 24 l).toNatClampNeg < cn) (av2 : Nat → Nat → Int32) (ha : ∀ k, (k < 4 ∨ 12 < k) → av2 k = av k) (ha4 : av2 4 cn = nI mn) (ha4c : ∀ c, c ≠ cn → av2 4 c = av 4 c) : CR (xset (xset (xset M (ct 1) (.inr (6, [.ref (ct 2), .int 0]))) (ct 5) (.inl (2, 8, .inr (.inr (.inr (.inr (va_up (fun c => if c < cn then some (ct (200 + 4 * c)) else none) cn (some (n0 + 1))))))))) (ct 0) (.inr (0, [.ref (ct 1), .ref (ct 3), .ref (ct 5), .ref (ct 6), .ref (ct 7), .ref (ct 8), .int (nI (cn + 1)), .int (iv 23), .int (iv 33)]))) (n) (va_up (va_up (va_up (va_up ct (200 + 4 * cn) (n0 + 1)) (201 + 4 * cn) (n0 + 2)) (202 + 4 * cn) (n0 + 3)) (203 + 4 * cn) (n0 + 4)) (fun q => if q = n0 + 1 then some (200 + 4 * cn) else if q = n0 + 2 then some (201 + 4 * cn) else if q = n0 + 3 then some (202 + 4 * cn) else if q = n0 + 4 then some (203 + 4 * cn) else if n0 + 5 ≤ q ∧ q < n then some 999 else tg q) (fun x => if n0 + 5 ≤ x ∧ x < n then M x else Bn x) (cn + 1) rq ln (fun c => if c = cn then rf else rt c) (fun c => if c = cn then tx1 else tx c) (upd (upd (upd iv 0 0) 3 (nI (cn + 1))) 1 0) (av2) := by
  have hcnt := K.cnt
  unfold CR
  refine ⟨?_, ?_, ?_, ?_, ?_, ?_, ?_, ?_, ?_, ?_, ?_, ?_, ?_, ?_, ?_, ?_, ?_, ?_, ?_, ?_, ?_, ?_, ?_, ?_, ?_, ?_⟩
  · simp (disch := omega) only [va_up_ne, va_up_self]
    exact xset_self _ _ _
  · simp (disch := omega) only [va_up_ne, va_up_self]
    exact (xset_ne _ _ (K.ne (by unfold lvt; omega) (by unfold lvt; omega) (by omega))).trans ((xset_ne _ _ (K.ne (by unfold lvt; omega) (by unfold lvt; omega) (by omega))).trans (xset_self _ _ _))
  · rw [ha 2 (by omega)]
    try simp (disch := omega) only [va_up_ne, va_up_self]
    exact (xset_ne _ _ (K.ne (by unfold lvt; omega) (by unfold lvt; omega) (by omega))).trans ((xset_ne _ _ (K.ne (by unfold lvt; omega) (by unfold lvt; omega) (by omega))).trans ((xset_ne _ _ (K.ne (by unfold lvt; omega) (by unfold lvt; omega) (by omega))).trans (K.padA)))
  · obtain ⟨z, f, g3, g4⟩ := K.lets
    simp (disch := omega) only [va_up_ne, va_up_self]
    exact ⟨z, f, (xset_ne _ _ (K.ne (by unfold lvt; omega) (by unfold lvt; omega) (by omega))).trans ((xset_ne _ _ (K.ne (by unfold lvt; omega) (by unfold lvt; omega) (by omega))).trans ((xset_ne _ _ (K.ne (by unfold lvt; omega) (by unfold lvt; omega) (by omega))).trans (g3))), (xset_ne _ _ (K.ne (by unfold lvt; omega) (by unfold lvt; omega) (by omega))).trans ((xset_ne _ _ (K.ne (by unfold lvt; omega) (by unfold lvt; omega) (by omega))).trans ((xset_ne _ _ (K.ne (by unfold lvt; omega) (by unfold lvt; omega) (by omega))).trans (g4)))⟩
  · rw [show (va_up (va_up (va_up (va_up ct (200 + 4 * cn) (n0 + 1)) (201 + 4 * cn) (n0 + 2)) (202 + 4 * cn) (n0 + 3)) (203 + 4 * cn) (n0 + 4)) 5 = ct 5 from by simp (disch := omega) only [va_up_ne, va_up_self]]
    refine ((xset_ne _ _ (K.ne (by unfold lvt; omega) (by unfold lvt; omega) (by omega))).trans (xset_self _ _ _)).trans ?_
    congr 9
    funext c
    by_cases e0 : c = cn
    · subst e0
      rw [va_up_self, if_pos (by omega)]
      simp (disch := omega) only [va_up_ne, va_up_self]
    · rw [va_up_ne _ _ e0]
      by_cases e1 : c < cn
      · rw [if_pos e1, if_pos (by omega)]
        simp (disch := omega) only [va_up_ne, va_up_self]
      · rw [if_neg e1, if_neg (by omega)]
  · try simp (disch := omega) only [va_up_ne, va_up_self]
    exact (xset_ne _ _ (K.ne (by unfold lvt; omega) (by unfold lvt; omega) (by omega))).trans ((xset_ne _ _ (K.ne (by unfold lvt; omega) (by unfold lvt; omega) (by omega))).trans ((xset_ne _ _ (K.ne (by unfold lvt; omega) (by unfold lvt; omega) (by omega))).trans (K.inps)))
  · try simp (disch := omega) only [va_up_ne, va_up_self]
    exact (xset_ne _ _ (K.ne (by unfold lvt; omega) (by unfold lvt; omega) (by omega))).trans ((xset_ne _ _ (K.ne (by unfold lvt; omega) (by unfold lvt; omega) (by omega))).trans ((xset_ne _ _ (K.ne (by unfold lvt; omega) (by unfold lvt; omega) (by omega))).trans (K.lons)))
  · try simp (disch := omega) only [va_up_ne, va_up_self]
    exact (xset_ne _ _ (K.ne (by unfold lvt; omega) (by unfold lvt; omega) (by omega))).trans ((xset_ne _ _ (K.ne (by unfold lvt; omega) (by unfold lvt; omega) (by omega))).trans ((xset_ne _ _ (K.ne (by unfold lvt; omega) (by unfold lvt; omega) (by omega))).trans (K.reqs)))
  · intro i0 hi0
    rw [ha 18 (by omega), ha 21 (by omega), ha 22 (by omega)]
    try simp (disch := omega) only [va_up_ne, va_up_self]
    exact (xset_ne _ _ (K.ne (by unfold lvt; omega) (by unfold lvt; omega) (by omega))).trans ((xset_ne _ _ (K.ne (by unfold lvt; omega) (by unfold lvt; omega) (by omega))).trans ((xset_ne _ _ (K.ne (by unfold lvt; omega) (by unfold lvt; omega) (by omega))).trans (K.inp i0 hi0)))
  · intro i0 hi0
    rw [ha 19 (by omega)]
    try simp (disch := omega) only [va_up_ne, va_up_self]
    exact (xset_ne _ _ (K.ne (by unfold lvt; omega) (by unfold lvt; omega) (by omega))).trans ((xset_ne _ _ (K.ne (by unfold lvt; omega) (by unfold lvt; omega) (by omega))).trans ((xset_ne _ _ (K.ne (by unfold lvt; omega) (by unfold lvt; omega) (by omega))).trans (K.inpH i0 hi0)))
  · intro i0 hi0
    rw [ha 20 (by omega)]
    try simp (disch := omega) only [va_up_ne, va_up_self]
    exact (xset_ne _ _ (K.ne (by unfold lvt; omega) (by unfold lvt; omega) (by omega))).trans ((xset_ne _ _ (K.ne (by unfold lvt; omega) (by unfold lvt; omega) (by omega))).trans ((xset_ne _ _ (K.ne (by unfold lvt; omega) (by unfold lvt; omega) (by omega))).trans (K.inpV i0 hi0)))
  · intro r0 hr0
    rw [ha 34 (by omega), ha 35 (by omega), ha 36 (by omega)]
    try simp (disch := omega) only [va_up_ne, va_up_self]
    exact (xset_ne _ _ (K.ne (by unfold lvt; omega) (by unfold lvt; omega) (by omega))).trans ((xset_ne _ _ (K.ne (by unfold lvt; omega) (by unfold lvt; omega) (by omega))).trans ((xset_ne _ _ (K.ne (by unfold lvt; omega) (by unfold lvt; omega) (by omega))).trans (K.req r0 hr0)))
  · intro l0 hl0
    rw [ha 24 (by omega), ha 28 (by omega), ha 30 (by omega)]
    have hlc0 := hlc l0 hl0
    simp (disch := omega) only [va_up_ne, va_up_self]
    exact (xset_ne _ _ (K.ne (by unfold lvt; omega) (by unfold lvt; omega) (by omega))).trans ((xset_ne _ _ (K.ne (by unfold lvt; omega) (by unfold lvt; omega) (by omega))).trans ((xset_ne _ _ (K.ne (by unfold lvt; omega) (by unfold lvt; omega) (by omega))).trans (K.lon l0 hl0)))
  · intro l0 hl0
    rw [ha 31 (by omega)]
    try simp (disch := omega) only [va_up_ne, va_up_self]
    exact (xset_ne _ _ (K.ne (by unfold lvt; omega) (by unfold lvt; omega) (by omega))).trans ((xset_ne _ _ (K.ne (by unfold lvt; omega) (by unfold lvt; omega) (by omega))).trans ((xset_ne _ _ (K.ne (by unfold lvt; omega) (by unfold lvt; omega) (by omega))).trans (K.lonH l0 hl0)))
  · intro l0 hl0
    rw [ha 32 (by omega)]
    try simp (disch := omega) only [va_up_ne, va_up_self]
    exact (xset_ne _ _ (K.ne (by unfold lvt; omega) (by unfold lvt; omega) (by omega))).trans ((xset_ne _ _ (K.ne (by unfold lvt; omega) (by unfold lvt; omega) (by omega))).trans ((xset_ne _ _ (K.ne (by unfold lvt; omega) (by unfold lvt; omega) (by omega))).trans (K.lonT l0 hl0)))
  · intro l0 hl0
    rw [ha 29 (by omega)]
    try simp (disch := omega) only [va_up_ne, va_up_self]
    exact (xset_ne _ _ (K.ne (by unfold lvt; omega) (by unfold lvt; omega) (by omega))).trans ((xset_ne _ _ (K.ne (by unfold lvt; omega) (by unfold lvt; omega) (by omega))).trans ((xset_ne _ _ (K.ne (by unfold lvt; omega) (by unfold lvt; omega) (by omega))).trans (K.lonS l0 hl0)))
  · intro l0 hl0
    rw [ha 25 (by omega), ha 26 (by omega), ha 27 (by omega)]
    try simp (disch := omega) only [va_up_ne, va_up_self]
    exact (xset_ne _ _ (K.ne (by unfold lvt; omega) (by unfold lvt; omega) (by omega))).trans ((xset_ne _ _ (K.ne (by unfold lvt; omega) (by unfold lvt; omega) (by omega))).trans ((xset_ne _ _ (K.ne (by unfold lvt; omega) (by unfold lvt; omega) (by omega))).trans (K.lonP l0 hl0)))
  · intro c0 hc0
    by_cases e0 : c0 = cn
    · subst e0
      simp (disch := omega) only [va_up_ne, va_up_self]
      refine ((xset_ne _ _ (fun e_ => absurd (hlt 0 (by unfold lvt; omega)) (by omega))).trans ((xset_ne _ _ (fun e_ => absurd (hlt 5 (by unfold lvt; omega)) (by omega))).trans ((xset_ne _ _ (fun e_ => absurd (hlt 1 (by unfold lvt; omega)) (by omega))).trans (hT.1)))).trans ?_
      simp [ha4]
    · refine Eq.trans (b := M (ct (200 + 4 * c0))) ?_ ((K.con c0 (by omega)).trans ?_)
      · simp (disch := omega) only [va_up_ne, va_up_self]
        exact (xset_ne _ _ (K.ne (by unfold lvt; omega) (by unfold lvt; omega) (by omega))).trans ((xset_ne _ _ (K.ne (by unfold lvt; omega) (by unfold lvt; omega) (by omega))).trans ((xset_ne _ _ (K.ne (by unfold lvt; omega) (by unfold lvt; omega) (by omega))).trans (rfl)))
      · simp (disch := omega) only [va_up_ne, va_up_self]
        simp [ha4c c0 e0, e0]
  · intro c0 hc0
    by_cases e0 : c0 = cn
    · subst e0
      simp (disch := omega) only [va_up_ne, va_up_self]
      refine ((xset_ne _ _ (fun e_ => absurd (hlt 0 (by unfold lvt; omega)) (by omega))).trans ((xset_ne _ _ (fun e_ => absurd (hlt 5 (by unfold lvt; omega)) (by omega))).trans ((xset_ne _ _ (fun e_ => absurd (hlt 1 (by unfold lvt; omega)) (by omega))).trans (hT.2.1)))).trans ?_
      simp
    · refine Eq.trans (b := M (ct (201 + 4 * c0))) ?_ ((K.conR c0 (by omega)).trans ?_)
      · simp (disch := omega) only [va_up_ne, va_up_self]
        exact (xset_ne _ _ (K.ne (by unfold lvt; omega) (by unfold lvt; omega) (by omega))).trans ((xset_ne _ _ (K.ne (by unfold lvt; omega) (by unfold lvt; omega) (by omega))).trans ((xset_ne _ _ (K.ne (by unfold lvt; omega) (by unfold lvt; omega) (by omega))).trans (rfl)))
      · skip
        simp [e0]
  · intro c0 hc0
    by_cases e0 : c0 = cn
    · subst e0
      simp (disch := omega) only [va_up_ne, va_up_self]
      refine ((xset_ne _ _ (fun e_ => absurd (hlt 0 (by unfold lvt; omega)) (by omega))).trans ((xset_ne _ _ (fun e_ => absurd (hlt 5 (by unfold lvt; omega)) (by omega))).trans ((xset_ne _ _ (fun e_ => absurd (hlt 1 (by unfold lvt; omega)) (by omega))).trans (hT.2.2.1)))).trans ?_
      simp
    · refine Eq.trans (b := M (ct (202 + 4 * c0))) ?_ ((K.conT c0 (by omega)).trans ?_)
      · simp (disch := omega) only [va_up_ne, va_up_self]
        exact (xset_ne _ _ (K.ne (by unfold lvt; omega) (by unfold lvt; omega) (by omega))).trans ((xset_ne _ _ (K.ne (by unfold lvt; omega) (by unfold lvt; omega) (by omega))).trans ((xset_ne _ _ (K.ne (by unfold lvt; omega) (by unfold lvt; omega) (by omega))).trans (rfl)))
      · simp (disch := omega) only [va_up_ne, va_up_self]
        simp [e0]
  · intro c0 hc0
    by_cases e0 : c0 = cn
    · subst e0
      simp (disch := omega) only [va_up_ne, va_up_self]
      refine ((xset_ne _ _ (fun e_ => absurd (hlt 0 (by unfold lvt; omega)) (by omega))).trans ((xset_ne _ _ (fun e_ => absurd (hlt 5 (by unfold lvt; omega)) (by omega))).trans ((xset_ne _ _ (fun e_ => absurd (hlt 1 (by unfold lvt; omega)) (by omega))).trans (hT.2.2.2)))).trans ?_
      simp
    · refine Eq.trans (b := M (ct (203 + 4 * c0))) ?_ ((K.conA c0 (by omega)).trans ?_)
      · simp (disch := omega) only [va_up_ne, va_up_self]
        exact (xset_ne _ _ (K.ne (by unfold lvt; omega) (by unfold lvt; omega) (by omega))).trans ((xset_ne _ _ (K.ne (by unfold lvt; omega) (by unfold lvt; omega) (by omega))).trans ((xset_ne _ _ (K.ne (by unfold lvt; omega) (by unfold lvt; omega) (by omega))).trans (rfl)))
      · simp (disch := omega) only [va_up_ne, va_up_self]
        simp [e0]
  · intro a e h
    have h : (if n0 + 5 ≤ a ∧ a < n then M a else Bn a) = some e := h
    by_cases e0 : n0 + 5 ≤ a ∧ a < n
    · rw [if_pos e0] at h
      exact (xset_ne _ _ (fun e_ => absurd (hlt 0 (by unfold lvt; omega)) (by omega))).trans ((xset_ne _ _ (fun e_ => absurd (hlt 5 (by unfold lvt; omega)) (by omega))).trans ((xset_ne _ _ (fun e_ => absurd (hlt 1 (by unfold lvt; omega)) (by omega))).trans (h)))
    · rw [if_neg e0] at h
      exact (xset_ne _ _ (K.nn (by rw [h]; simp) (by unfold lvt; omega))).trans ((xset_ne _ _ (K.nn (by rw [h]; simp) (by unfold lvt; omega))).trans ((xset_ne _ _ (K.nn (by rw [h]; simp) (by unfold lvt; omega))).trans (K.nod a e h)))
  · intro t ht
    by_cases e_ : t = 200 + 4 * cn
    · subst e_
      simp (disch := omega) only [va_up_ne, va_up_self]
      refine ⟨?_, by omega⟩
      simp
    · skip
      by_cases e_ : t = 201 + 4 * cn
      · subst e_
        simp (disch := omega) only [va_up_ne, va_up_self]
        refine ⟨?_, by omega⟩
        simp
      · skip
        by_cases e_ : t = 202 + 4 * cn
        · subst e_
          simp (disch := omega) only [va_up_ne, va_up_self]
          refine ⟨?_, by omega⟩
          simp
        · skip
          by_cases e_ : t = 203 + 4 * cn
          · subst e_
            simp (disch := omega) only [va_up_ne, va_up_self]
            refine ⟨?_, by omega⟩
            simp
          · skip
            have h9 : lvt cn rq ln t := by unfold lvt at ht ⊢; omega
            have h8 := K.tag t h9
            have h7 := hlt t h9
            have hc : (va_up (va_up (va_up (va_up ct (200 + 4 * cn) (n0 + 1)) (201 + 4 * cn) (n0 + 2)) (202 + 4 * cn) (n0 + 3)) (203 + 4 * cn) (n0 + 4)) t = ct t := by simp (disch := omega) only [va_up_ne, va_up_self]
            rw [hc]
            refine ⟨?_, h8.2⟩
            show (if ct t = n0 + 1 then some (200 + 4 * cn) else if ct t = n0 + 2 then some (201 + 4 * cn) else if ct t = n0 + 3 then some (202 + 4 * cn) else if ct t = n0 + 4 then some (203 + 4 * cn) else if n0 + 5 ≤ ct t ∧ ct t < n then some 999 else tg (ct t)) = some t
            rw [if_neg (by omega), if_neg (by omega), if_neg (by omega), if_neg (by omega), if_neg (by omega)]
            exact h8.1
  · intro a h
    have h : (if n0 + 5 ≤ a ∧ a < n then M a else Bn a) ≠ none := h
    by_cases e0 : n0 + 5 ≤ a ∧ a < n
    · refine ⟨?_, e0.2⟩
      show (if a = n0 + 1 then some (200 + 4 * cn) else if a = n0 + 2 then some (201 + 4 * cn) else if a = n0 + 3 then some (202 + 4 * cn) else if a = n0 + 4 then some (203 + 4 * cn) else if n0 + 5 ≤ a ∧ a < n then some 999 else tg a) = some 999
      rw [if_neg (by omega), if_neg (by omega), if_neg (by omega), if_neg (by omega), if_pos e0]
    · rw [if_neg e0] at h
      have h1 := hbn a h
      refine ⟨?_, (K.tgn a h).2⟩
      show (if a = n0 + 1 then some (200 + 4 * cn) else if a = n0 + 2 then some (201 + 4 * cn) else if a = n0 + 3 then some (202 + 4 * cn) else if a = n0 + 4 then some (203 + 4 * cn) else if n0 + 5 ≤ a ∧ a < n then some 999 else tg a) = some 999
      rw [if_neg (by omega), if_neg (by omega), if_neg (by omega), if_neg (by omega), if_neg e0]
      exact (K.tgn a h).1
  · intro a h
    rcases Nat.lt_or_ge a n with g | g
    · exact g
    · exfalso
      apply h
      show (if a = n0 + 1 then some (200 + 4 * cn) else if a = n0 + 2 then some (201 + 4 * cn) else if a = n0 + 3 then some (202 + 4 * cn) else if a = n0 + 4 then some (203 + 4 * cn) else if n0 + 5 ≤ a ∧ a < n then some 999 else tg a) = none
      rw [if_neg (by omega), if_neg (by omega), if_neg (by omega), if_neg (by omega), if_neg (by omega)]
      cases e9 : tg a with
      | none => rfl
      | some x => exact absurd (htg a (by rw [e9]; simp)) (by omega)
  · refine ⟨by omega, by omega, by omega, ?_, hcnt.2.2.2.2.1, hcnt.2.2.2.2.2⟩
    simp [upd]
