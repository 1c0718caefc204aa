/-! the class: loans and extensions -/
set_option maxRecDepth 20000 in
theorem CR_loan {M : xMm} {n : Nat} {ct : Nat → Nat} {tg : Nat → Option Nat} {Bn : xMm} {cn rq ln : Nat} {rt : Nat → Nat → Option Nat} {tx : Nat → List Int32} {iv : Nat → Int32} {av : Nat → Nat → Int32} (K : CR M n ct tg Bn cn rq ln rt tx iv av) (c : Nat) (hc : c < cn) (t f u : Int32) (hln : ln < 20) (h28 : av 28 ln = 0) (h30 : av 30 ln = 0) (h31 : ∀ j, j < 100 → av 31 (100 * ln + j) = 0) (h32 : ∀ j, j < 100 → av 32 (100 * ln + j) = 0) (h29 : ∀ j, j < 6 → av 29 (6 * ln + j) = 0)  : CR (xset (xset (xset (xset (xset (xset (xset (xset M (n) (.inr (7, [.int t, .int f, .int u]))) (n + 1) (.inr (3, [.null, .null, .null, .null, .null, .int 0, .int 0]))) (n + 2) (.inl (0, 100, .inl (fun _ => 0)))) (n + 3) (.inl (0, 100, .inl (fun _ => 0)))) (n + 4) (.inl (1, 6, .inl (fun _ => 0)))) (n + 1) (.inr (3, [.ref (ct (200 + 4 * c)), .ref (n + 2), .ref (n + 3), .ref (n + 4), .ref n, .int 0, .int 0]))) (ct 7) (.inl (4, 20, .inr (.inr (.inr (.inr (va_up (fun l => if l < ln then some (ct (100 + 5 * l)) else none) ln (some (n + 1))))))))) (ct 0) (.inr (0, [.ref (ct 1), .ref (ct 3), .ref (ct 5), .ref (ct 6), .ref (ct 7), .ref (ct 8), .int (iv 3), .int (nI (ln + 1)), .int (iv 33)]))) (n + 5) (va_up (va_up (va_up (va_up (va_up ct (104 + 5 * ln) n) (100 + 5 * ln) (n + 1)) (101 + 5 * ln) (n + 2)) (102 + 5 * ln) (n + 3)) (103 + 5 * ln) (n + 4)) (fun q => if q = n then some (104 + 5 * ln) else if q = n + 1 then some (100 + 5 * ln) else if q = n + 2 then some (101 + 5 * ln) else if q = n + 3 then some (102 + 5 * ln) else if q = n + 4 then some (103 + 5 * ln) else tg q) Bn cn rq (ln + 1) rt tx (upd (upd iv 0 0) 23 (nI (ln + 1))) (va_up (va_up (va_up (va_up av 24 (upd (av 24) ln (nI c))) 25 (upd (av 25) ln t)) 26 (upd (av 26) ln f)) 27 (upd (av 27) ln u)) := by
  have hcn8 := K.cnt.1
  have hs31 : slc 100 (av 31) ln = fun _ => 0 := by
    funext j
    unfold slc
    split
    · rename_i hj; exact h31 j hj
    · rfl
  have hs32 : slc 100 (av 32) ln = fun _ => 0 := by
    funext j
    unfold slc
    split
    · rename_i hj; exact h32 j hj
    · rfl
  have hs29 : slc 6 (av 29) ln = fun _ => 0 := by
    funext j
    unfold slc
    split
    · rename_i hj; exact h29 j hj
    · rfl
  have hcnt := K.cnt
  unfold CR
  refine ⟨?_, ?_, ?_, ?_, ?_, ?_, ?_, ?_, ?_, ?_, ?_, ?_, ?_, ?_, ?_, ?_, ?_, ?_, ?_, ?_, ?_, ?_, ?_, ?_, ?_, ?_⟩
  · simp (disch := omega) only [va_up_ne, va_up_self]
    exact xset_self _ _ _
  · try simp (disch := omega) only [va_up_ne]
    exact (xset_ne _ _ (K.ne (by unfold lvt; omega) (by unfold lvt; omega) (by omega))).trans ((xset_ne _ _ (K.ne (by unfold lvt; omega) (by unfold lvt; omega) (by omega))).trans ((xset_ne _ _ (Nat.ne_of_lt (Nat.lt_of_lt_of_le (K.tag _ (by unfold lvt; omega)).2 (by omega)))).trans ((xset_ne _ _ (Nat.ne_of_lt (Nat.lt_of_lt_of_le (K.tag _ (by unfold lvt; omega)).2 (by omega)))).trans ((xset_ne _ _ (Nat.ne_of_lt (Nat.lt_of_lt_of_le (K.tag _ (by unfold lvt; omega)).2 (by omega)))).trans ((xset_ne _ _ (Nat.ne_of_lt (Nat.lt_of_lt_of_le (K.tag _ (by unfold lvt; omega)).2 (by omega)))).trans ((xset_ne _ _ (Nat.ne_of_lt (Nat.lt_of_lt_of_le (K.tag _ (by unfold lvt; omega)).2 (by omega)))).trans ((xset_ne _ _ (Nat.ne_of_lt (Nat.lt_of_lt_of_le (K.tag _ (by unfold lvt; omega)).2 (by omega)))).trans (K.pad))))))))
  · try simp (disch := omega) only [va_up_ne]
    exact (xset_ne _ _ (K.ne (by unfold lvt; omega) (by unfold lvt; omega) (by omega))).trans ((xset_ne _ _ (K.ne (by unfold lvt; omega) (by unfold lvt; omega) (by omega))).trans ((xset_ne _ _ (Nat.ne_of_lt (Nat.lt_of_lt_of_le (K.tag _ (by unfold lvt; omega)).2 (by omega)))).trans ((xset_ne _ _ (Nat.ne_of_lt (Nat.lt_of_lt_of_le (K.tag _ (by unfold lvt; omega)).2 (by omega)))).trans ((xset_ne _ _ (Nat.ne_of_lt (Nat.lt_of_lt_of_le (K.tag _ (by unfold lvt; omega)).2 (by omega)))).trans ((xset_ne _ _ (Nat.ne_of_lt (Nat.lt_of_lt_of_le (K.tag _ (by unfold lvt; omega)).2 (by omega)))).trans ((xset_ne _ _ (Nat.ne_of_lt (Nat.lt_of_lt_of_le (K.tag _ (by unfold lvt; omega)).2 (by omega)))).trans ((xset_ne _ _ (Nat.ne_of_lt (Nat.lt_of_lt_of_le (K.tag _ (by unfold lvt; omega)).2 (by omega)))).trans (K.padA))))))))
  · obtain ⟨z, f, g3, g4⟩ := K.lets
    try simp (disch := omega) only [va_up_ne]
    exact ⟨z, f, (xset_ne _ _ (K.ne (by unfold lvt; omega) (by unfold lvt; omega) (by omega))).trans ((xset_ne _ _ (K.ne (by unfold lvt; omega) (by unfold lvt; omega) (by omega))).trans ((xset_ne _ _ (Nat.ne_of_lt (Nat.lt_of_lt_of_le (K.tag _ (by unfold lvt; omega)).2 (by omega)))).trans ((xset_ne _ _ (Nat.ne_of_lt (Nat.lt_of_lt_of_le (K.tag _ (by unfold lvt; omega)).2 (by omega)))).trans ((xset_ne _ _ (Nat.ne_of_lt (Nat.lt_of_lt_of_le (K.tag _ (by unfold lvt; omega)).2 (by omega)))).trans ((xset_ne _ _ (Nat.ne_of_lt (Nat.lt_of_lt_of_le (K.tag _ (by unfold lvt; omega)).2 (by omega)))).trans ((xset_ne _ _ (Nat.ne_of_lt (Nat.lt_of_lt_of_le (K.tag _ (by unfold lvt; omega)).2 (by omega)))).trans ((xset_ne _ _ (Nat.ne_of_lt (Nat.lt_of_lt_of_le (K.tag _ (by unfold lvt; omega)).2 (by omega)))).trans (g3)))))))), (xset_ne _ _ (K.ne (by unfold lvt; omega) (by unfold lvt; omega) (by omega))).trans ((xset_ne _ _ (K.ne (by unfold lvt; omega) (by unfold lvt; omega) (by omega))).trans ((xset_ne _ _ (Nat.ne_of_lt (Nat.lt_of_lt_of_le (K.tag _ (by unfold lvt; omega)).2 (by omega)))).trans ((xset_ne _ _ (Nat.ne_of_lt (Nat.lt_of_lt_of_le (K.tag _ (by unfold lvt; omega)).2 (by omega)))).trans ((xset_ne _ _ (Nat.ne_of_lt (Nat.lt_of_lt_of_le (K.tag _ (by unfold lvt; omega)).2 (by omega)))).trans ((xset_ne _ _ (Nat.ne_of_lt (Nat.lt_of_lt_of_le (K.tag _ (by unfold lvt; omega)).2 (by omega)))).trans ((xset_ne _ _ (Nat.ne_of_lt (Nat.lt_of_lt_of_le (K.tag _ (by unfold lvt; omega)).2 (by omega)))).trans ((xset_ne _ _ (Nat.ne_of_lt (Nat.lt_of_lt_of_le (K.tag _ (by unfold lvt; omega)).2 (by omega)))).trans (g4))))))))⟩
  · try simp (disch := omega) only [va_up_ne]
    exact (xset_ne _ _ (K.ne (by unfold lvt; omega) (by unfold lvt; omega) (by omega))).trans ((xset_ne _ _ (K.ne (by unfold lvt; omega) (by unfold lvt; omega) (by omega))).trans ((xset_ne _ _ (Nat.ne_of_lt (Nat.lt_of_lt_of_le (K.tag _ (by unfold lvt; omega)).2 (by omega)))).trans ((xset_ne _ _ (Nat.ne_of_lt (Nat.lt_of_lt_of_le (K.tag _ (by unfold lvt; omega)).2 (by omega)))).trans ((xset_ne _ _ (Nat.ne_of_lt (Nat.lt_of_lt_of_le (K.tag _ (by unfold lvt; omega)).2 (by omega)))).trans ((xset_ne _ _ (Nat.ne_of_lt (Nat.lt_of_lt_of_le (K.tag _ (by unfold lvt; omega)).2 (by omega)))).trans ((xset_ne _ _ (Nat.ne_of_lt (Nat.lt_of_lt_of_le (K.tag _ (by unfold lvt; omega)).2 (by omega)))).trans ((xset_ne _ _ (Nat.ne_of_lt (Nat.lt_of_lt_of_le (K.tag _ (by unfold lvt; omega)).2 (by omega)))).trans (K.cons))))))))
  · try simp (disch := omega) only [va_up_ne]
    exact (xset_ne _ _ (K.ne (by unfold lvt; omega) (by unfold lvt; omega) (by omega))).trans ((xset_ne _ _ (K.ne (by unfold lvt; omega) (by unfold lvt; omega) (by omega))).trans ((xset_ne _ _ (Nat.ne_of_lt (Nat.lt_of_lt_of_le (K.tag _ (by unfold lvt; omega)).2 (by omega)))).trans ((xset_ne _ _ (Nat.ne_of_lt (Nat.lt_of_lt_of_le (K.tag _ (by unfold lvt; omega)).2 (by omega)))).trans ((xset_ne _ _ (Nat.ne_of_lt (Nat.lt_of_lt_of_le (K.tag _ (by unfold lvt; omega)).2 (by omega)))).trans ((xset_ne _ _ (Nat.ne_of_lt (Nat.lt_of_lt_of_le (K.tag _ (by unfold lvt; omega)).2 (by omega)))).trans ((xset_ne _ _ (Nat.ne_of_lt (Nat.lt_of_lt_of_le (K.tag _ (by unfold lvt; omega)).2 (by omega)))).trans ((xset_ne _ _ (Nat.ne_of_lt (Nat.lt_of_lt_of_le (K.tag _ (by unfold lvt; omega)).2 (by omega)))).trans (K.inps))))))))
  · rw [show (va_up (va_up (va_up (va_up (va_up ct (104 + 5 * ln) n) (100 + 5 * ln) (n + 1)) (101 + 5 * ln) (n + 2)) (102 + 5 * ln) (n + 3)) (103 + 5 * ln) (n + 4)) 7 = ct 7 from by simp (disch := omega) only [va_up_ne, va_up_self]]
    refine ((xset_ne _ _ (K.ne (by unfold lvt; omega) (by unfold lvt; omega) (by omega))).trans (xset_self _ _ _)).trans ?_
    congr 9
    funext l
    by_cases e0 : l = ln
    · subst e0
      rw [va_up_self, if_pos (by omega)]
      simp (disch := omega) only [va_up_ne, va_up_self]
    · rw [va_up_ne _ _ e0]
      by_cases e1 : l < ln
      · rw [if_pos e1, if_pos (by omega)]
        simp (disch := omega) only [va_up_ne, va_up_self]
      · rw [if_neg e1, if_neg (by omega)]
  · try simp (disch := omega) only [va_up_ne]
    exact (xset_ne _ _ (K.ne (by unfold lvt; omega) (by unfold lvt; omega) (by omega))).trans ((xset_ne _ _ (K.ne (by unfold lvt; omega) (by unfold lvt; omega) (by omega))).trans ((xset_ne _ _ (Nat.ne_of_lt (Nat.lt_of_lt_of_le (K.tag _ (by unfold lvt; omega)).2 (by omega)))).trans ((xset_ne _ _ (Nat.ne_of_lt (Nat.lt_of_lt_of_le (K.tag _ (by unfold lvt; omega)).2 (by omega)))).trans ((xset_ne _ _ (Nat.ne_of_lt (Nat.lt_of_lt_of_le (K.tag _ (by unfold lvt; omega)).2 (by omega)))).trans ((xset_ne _ _ (Nat.ne_of_lt (Nat.lt_of_lt_of_le (K.tag _ (by unfold lvt; omega)).2 (by omega)))).trans ((xset_ne _ _ (Nat.ne_of_lt (Nat.lt_of_lt_of_le (K.tag _ (by unfold lvt; omega)).2 (by omega)))).trans ((xset_ne _ _ (Nat.ne_of_lt (Nat.lt_of_lt_of_le (K.tag _ (by unfold lvt; omega)).2 (by omega)))).trans (K.reqs))))))))
  · intro i0 hi0
    try simp (disch := omega) only [va_up_ne]
    exact (xset_ne _ _ (K.ne (by unfold lvt; omega) (by unfold lvt; omega) (by omega))).trans ((xset_ne _ _ (K.ne (by unfold lvt; omega) (by unfold lvt; omega) (by omega))).trans ((xset_ne _ _ (Nat.ne_of_lt (Nat.lt_of_lt_of_le (K.tag _ (by unfold lvt; omega)).2 (by omega)))).trans ((xset_ne _ _ (Nat.ne_of_lt (Nat.lt_of_lt_of_le (K.tag _ (by unfold lvt; omega)).2 (by omega)))).trans ((xset_ne _ _ (Nat.ne_of_lt (Nat.lt_of_lt_of_le (K.tag _ (by unfold lvt; omega)).2 (by omega)))).trans ((xset_ne _ _ (Nat.ne_of_lt (Nat.lt_of_lt_of_le (K.tag _ (by unfold lvt; omega)).2 (by omega)))).trans ((xset_ne _ _ (Nat.ne_of_lt (Nat.lt_of_lt_of_le (K.tag _ (by unfold lvt; omega)).2 (by omega)))).trans ((xset_ne _ _ (Nat.ne_of_lt (Nat.lt_of_lt_of_le (K.tag _ (by unfold lvt; omega)).2 (by omega)))).trans (K.inp i0 hi0))))))))
  · intro i0 hi0
    try simp (disch := omega) only [va_up_ne]
    exact (xset_ne _ _ (K.ne (by unfold lvt; omega) (by unfold lvt; omega) (by omega))).trans ((xset_ne _ _ (K.ne (by unfold lvt; omega) (by unfold lvt; omega) (by omega))).trans ((xset_ne _ _ (Nat.ne_of_lt (Nat.lt_of_lt_of_le (K.tag _ (by unfold lvt; omega)).2 (by omega)))).trans ((xset_ne _ _ (Nat.ne_of_lt (Nat.lt_of_lt_of_le (K.tag _ (by unfold lvt; omega)).2 (by omega)))).trans ((xset_ne _ _ (Nat.ne_of_lt (Nat.lt_of_lt_of_le (K.tag _ (by unfold lvt; omega)).2 (by omega)))).trans ((xset_ne _ _ (Nat.ne_of_lt (Nat.lt_of_lt_of_le (K.tag _ (by unfold lvt; omega)).2 (by omega)))).trans ((xset_ne _ _ (Nat.ne_of_lt (Nat.lt_of_lt_of_le (K.tag _ (by unfold lvt; omega)).2 (by omega)))).trans ((xset_ne _ _ (Nat.ne_of_lt (Nat.lt_of_lt_of_le (K.tag _ (by unfold lvt; omega)).2 (by omega)))).trans (K.inpH i0 hi0))))))))
  · intro i0 hi0
    try simp (disch := omega) only [va_up_ne]
    exact (xset_ne _ _ (K.ne (by unfold lvt; omega) (by unfold lvt; omega) (by omega))).trans ((xset_ne _ _ (K.ne (by unfold lvt; omega) (by unfold lvt; omega) (by omega))).trans ((xset_ne _ _ (Nat.ne_of_lt (Nat.lt_of_lt_of_le (K.tag _ (by unfold lvt; omega)).2 (by omega)))).trans ((xset_ne _ _ (Nat.ne_of_lt (Nat.lt_of_lt_of_le (K.tag _ (by unfold lvt; omega)).2 (by omega)))).trans ((xset_ne _ _ (Nat.ne_of_lt (Nat.lt_of_lt_of_le (K.tag _ (by unfold lvt; omega)).2 (by omega)))).trans ((xset_ne _ _ (Nat.ne_of_lt (Nat.lt_of_lt_of_le (K.tag _ (by unfold lvt; omega)).2 (by omega)))).trans ((xset_ne _ _ (Nat.ne_of_lt (Nat.lt_of_lt_of_le (K.tag _ (by unfold lvt; omega)).2 (by omega)))).trans ((xset_ne _ _ (Nat.ne_of_lt (Nat.lt_of_lt_of_le (K.tag _ (by unfold lvt; omega)).2 (by omega)))).trans (K.inpV i0 hi0))))))))
  · intro r0 hr0
    try simp (disch := omega) only [va_up_ne]
    exact (xset_ne _ _ (K.ne (by unfold lvt; omega) (by unfold lvt; omega) (by omega))).trans ((xset_ne _ _ (K.ne (by unfold lvt; omega) (by unfold lvt; omega) (by omega))).trans ((xset_ne _ _ (Nat.ne_of_lt (Nat.lt_of_lt_of_le (K.tag _ (by unfold lvt; omega)).2 (by omega)))).trans ((xset_ne _ _ (Nat.ne_of_lt (Nat.lt_of_lt_of_le (K.tag _ (by unfold lvt; omega)).2 (by omega)))).trans ((xset_ne _ _ (Nat.ne_of_lt (Nat.lt_of_lt_of_le (K.tag _ (by unfold lvt; omega)).2 (by omega)))).trans ((xset_ne _ _ (Nat.ne_of_lt (Nat.lt_of_lt_of_le (K.tag _ (by unfold lvt; omega)).2 (by omega)))).trans ((xset_ne _ _ (Nat.ne_of_lt (Nat.lt_of_lt_of_le (K.tag _ (by unfold lvt; omega)).2 (by omega)))).trans ((xset_ne _ _ (Nat.ne_of_lt (Nat.lt_of_lt_of_le (K.tag _ (by unfold lvt; omega)).2 (by omega)))).trans (K.req r0 hr0))))))))
  · intro l0 hl0
    by_cases e0 : l0 = ln
    · subst e0
      simp (disch := omega) only [va_up_ne, va_up_self]
      refine ((xset_ne _ _ (Ne.symm (by have h_ := (K.tag 0 (by unfold lvt; omega)).2; omega))).trans ((xset_ne _ _ (Ne.symm (by have h_ := (K.tag 7 (by unfold lvt; omega)).2; omega))).trans (xset_self _ _ _))).trans ?_
      simp [upd, nI_clamp (show c < 2 ^ 31 by omega), h28, h30]
    · refine Eq.trans (b := M (ct (100 + 5 * l0))) ?_ ((K.lon l0 (by omega)).trans ?_)
      · simp (disch := omega) only [va_up_ne, va_up_self]
        exact (xset_ne _ _ (K.ne (by unfold lvt; omega) (by unfold lvt; omega) (by omega))).trans ((xset_ne _ _ (K.ne (by unfold lvt; omega) (by unfold lvt; omega) (by omega))).trans ((xset_ne _ _ (Nat.ne_of_lt (Nat.lt_of_lt_of_le (K.tag _ (by unfold lvt; omega)).2 (by omega)))).trans ((xset_ne _ _ (Nat.ne_of_lt (Nat.lt_of_lt_of_le (K.tag _ (by unfold lvt; omega)).2 (by omega)))).trans ((xset_ne _ _ (Nat.ne_of_lt (Nat.lt_of_lt_of_le (K.tag _ (by unfold lvt; omega)).2 (by omega)))).trans ((xset_ne _ _ (Nat.ne_of_lt (Nat.lt_of_lt_of_le (K.tag _ (by unfold lvt; omega)).2 (by omega)))).trans ((xset_ne _ _ (Nat.ne_of_lt (Nat.lt_of_lt_of_le (K.tag _ (by unfold lvt; omega)).2 (by omega)))).trans ((xset_ne _ _ (Nat.ne_of_lt (Nat.lt_of_lt_of_le (K.tag _ (by unfold lvt; omega)).2 (by omega)))).trans (rfl))))))))
      · simp (disch := omega) only [va_up_ne, va_up_self]
        try simp [upd, e0]
  · intro l0 hl0
    by_cases e0 : l0 = ln
    · subst e0
      simp (disch := omega) only [va_up_ne, va_up_self]
      refine ((xset_ne _ _ (Ne.symm (by have h_ := (K.tag 0 (by unfold lvt; omega)).2; omega))).trans ((xset_ne _ _ (Ne.symm (by have h_ := (K.tag 7 (by unfold lvt; omega)).2; omega))).trans ((xset_ne _ _ (show n + 2 ≠ n + 1 by omega)).trans ((xset_ne _ _ (show n + 2 ≠ n + 4 by omega)).trans ((xset_ne _ _ (show n + 2 ≠ n + 3 by omega)).trans (xset_self _ _ _)))))).trans ?_
      rw [hs31]
    · refine Eq.trans (b := M (ct (101 + 5 * l0))) ?_ ((K.lonH l0 (by omega)).trans ?_)
      · simp (disch := omega) only [va_up_ne, va_up_self]
        exact (xset_ne _ _ (K.ne (by unfold lvt; omega) (by unfold lvt; omega) (by omega))).trans ((xset_ne _ _ (K.ne (by unfold lvt; omega) (by unfold lvt; omega) (by omega))).trans ((xset_ne _ _ (Nat.ne_of_lt (Nat.lt_of_lt_of_le (K.tag _ (by unfold lvt; omega)).2 (by omega)))).trans ((xset_ne _ _ (Nat.ne_of_lt (Nat.lt_of_lt_of_le (K.tag _ (by unfold lvt; omega)).2 (by omega)))).trans ((xset_ne _ _ (Nat.ne_of_lt (Nat.lt_of_lt_of_le (K.tag _ (by unfold lvt; omega)).2 (by omega)))).trans ((xset_ne _ _ (Nat.ne_of_lt (Nat.lt_of_lt_of_le (K.tag _ (by unfold lvt; omega)).2 (by omega)))).trans ((xset_ne _ _ (Nat.ne_of_lt (Nat.lt_of_lt_of_le (K.tag _ (by unfold lvt; omega)).2 (by omega)))).trans ((xset_ne _ _ (Nat.ne_of_lt (Nat.lt_of_lt_of_le (K.tag _ (by unfold lvt; omega)).2 (by omega)))).trans (rfl))))))))
      · simp (disch := omega) only [va_up_ne, va_up_self]
        try simp [upd, e0]
  · intro l0 hl0
    by_cases e0 : l0 = ln
    · subst e0
      simp (disch := omega) only [va_up_ne, va_up_self]
      refine ((xset_ne _ _ (Ne.symm (by have h_ := (K.tag 0 (by unfold lvt; omega)).2; omega))).trans ((xset_ne _ _ (Ne.symm (by have h_ := (K.tag 7 (by unfold lvt; omega)).2; omega))).trans ((xset_ne _ _ (show n + 3 ≠ n + 1 by omega)).trans ((xset_ne _ _ (show n + 3 ≠ n + 4 by omega)).trans (xset_self _ _ _))))).trans ?_
      rw [hs32]
    · refine Eq.trans (b := M (ct (102 + 5 * l0))) ?_ ((K.lonT l0 (by omega)).trans ?_)
      · simp (disch := omega) only [va_up_ne, va_up_self]
        exact (xset_ne _ _ (K.ne (by unfold lvt; omega) (by unfold lvt; omega) (by omega))).trans ((xset_ne _ _ (K.ne (by unfold lvt; omega) (by unfold lvt; omega) (by omega))).trans ((xset_ne _ _ (Nat.ne_of_lt (Nat.lt_of_lt_of_le (K.tag _ (by unfold lvt; omega)).2 (by omega)))).trans ((xset_ne _ _ (Nat.ne_of_lt (Nat.lt_of_lt_of_le (K.tag _ (by unfold lvt; omega)).2 (by omega)))).trans ((xset_ne _ _ (Nat.ne_of_lt (Nat.lt_of_lt_of_le (K.tag _ (by unfold lvt; omega)).2 (by omega)))).trans ((xset_ne _ _ (Nat.ne_of_lt (Nat.lt_of_lt_of_le (K.tag _ (by unfold lvt; omega)).2 (by omega)))).trans ((xset_ne _ _ (Nat.ne_of_lt (Nat.lt_of_lt_of_le (K.tag _ (by unfold lvt; omega)).2 (by omega)))).trans ((xset_ne _ _ (Nat.ne_of_lt (Nat.lt_of_lt_of_le (K.tag _ (by unfold lvt; omega)).2 (by omega)))).trans (rfl))))))))
      · simp (disch := omega) only [va_up_ne, va_up_self]
        try simp [upd, e0]
  · intro l0 hl0
    by_cases e0 : l0 = ln
    · subst e0
      simp (disch := omega) only [va_up_ne, va_up_self]
      refine ((xset_ne _ _ (Ne.symm (by have h_ := (K.tag 0 (by unfold lvt; omega)).2; omega))).trans ((xset_ne _ _ (Ne.symm (by have h_ := (K.tag 7 (by unfold lvt; omega)).2; omega))).trans ((xset_ne _ _ (show n + 4 ≠ n + 1 by omega)).trans (xset_self _ _ _)))).trans ?_
      rw [hs29]
    · refine Eq.trans (b := M (ct (103 + 5 * l0))) ?_ ((K.lonS l0 (by omega)).trans ?_)
      · simp (disch := omega) only [va_up_ne, va_up_self]
        exact (xset_ne _ _ (K.ne (by unfold lvt; omega) (by unfold lvt; omega) (by omega))).trans ((xset_ne _ _ (K.ne (by unfold lvt; omega) (by unfold lvt; omega) (by omega))).trans ((xset_ne _ _ (Nat.ne_of_lt (Nat.lt_of_lt_of_le (K.tag _ (by unfold lvt; omega)).2 (by omega)))).trans ((xset_ne _ _ (Nat.ne_of_lt (Nat.lt_of_lt_of_le (K.tag _ (by unfold lvt; omega)).2 (by omega)))).trans ((xset_ne _ _ (Nat.ne_of_lt (Nat.lt_of_lt_of_le (K.tag _ (by unfold lvt; omega)).2 (by omega)))).trans ((xset_ne _ _ (Nat.ne_of_lt (Nat.lt_of_lt_of_le (K.tag _ (by unfold lvt; omega)).2 (by omega)))).trans ((xset_ne _ _ (Nat.ne_of_lt (Nat.lt_of_lt_of_le (K.tag _ (by unfold lvt; omega)).2 (by omega)))).trans ((xset_ne _ _ (Nat.ne_of_lt (Nat.lt_of_lt_of_le (K.tag _ (by unfold lvt; omega)).2 (by omega)))).trans (rfl))))))))
      · simp (disch := omega) only [va_up_ne, va_up_self]
        try simp [upd, e0]
  · intro l0 hl0
    by_cases e0 : l0 = ln
    · subst e0
      simp (disch := omega) only [va_up_ne, va_up_self]
      refine ((xset_ne _ _ (Ne.symm (by have h_ := (K.tag 0 (by unfold lvt; omega)).2; omega))).trans ((xset_ne _ _ (Ne.symm (by have h_ := (K.tag 7 (by unfold lvt; omega)).2; omega))).trans ((xset_ne _ _ (show n ≠ n + 1 by omega)).trans ((xset_ne _ _ (show n ≠ n + 4 by omega)).trans ((xset_ne _ _ (show n ≠ n + 3 by omega)).trans ((xset_ne _ _ (show n ≠ n + 2 by omega)).trans ((xset_ne _ _ (show n ≠ n + 1 by omega)).trans (xset_self _ _ _)))))))).trans ?_
      simp [upd]
    · refine Eq.trans (b := M (ct (104 + 5 * l0))) ?_ ((K.lonP l0 (by omega)).trans ?_)
      · simp (disch := omega) only [va_up_ne, va_up_self]
        exact (xset_ne _ _ (K.ne (by unfold lvt; omega) (by unfold lvt; omega) (by omega))).trans ((xset_ne _ _ (K.ne (by unfold lvt; omega) (by unfold lvt; omega) (by omega))).trans ((xset_ne _ _ (Nat.ne_of_lt (Nat.lt_of_lt_of_le (K.tag _ (by unfold lvt; omega)).2 (by omega)))).trans ((xset_ne _ _ (Nat.ne_of_lt (Nat.lt_of_lt_of_le (K.tag _ (by unfold lvt; omega)).2 (by omega)))).trans ((xset_ne _ _ (Nat.ne_of_lt (Nat.lt_of_lt_of_le (K.tag _ (by unfold lvt; omega)).2 (by omega)))).trans ((xset_ne _ _ (Nat.ne_of_lt (Nat.lt_of_lt_of_le (K.tag _ (by unfold lvt; omega)).2 (by omega)))).trans ((xset_ne _ _ (Nat.ne_of_lt (Nat.lt_of_lt_of_le (K.tag _ (by unfold lvt; omega)).2 (by omega)))).trans ((xset_ne _ _ (Nat.ne_of_lt (Nat.lt_of_lt_of_le (K.tag _ (by unfold lvt; omega)).2 (by omega)))).trans (rfl))))))))
      · simp (disch := omega) only [va_up_ne, va_up_self]
        try simp [upd, e0]
  · intro c0 hc0
    try simp (disch := omega) only [va_up_ne]
    exact (xset_ne _ _ (K.ne (by unfold lvt; omega) (by unfold lvt; omega) (by omega))).trans ((xset_ne _ _ (K.ne (by unfold lvt; omega) (by unfold lvt; omega) (by omega))).trans ((xset_ne _ _ (Nat.ne_of_lt (Nat.lt_of_lt_of_le (K.tag _ (by unfold lvt; omega)).2 (by omega)))).trans ((xset_ne _ _ (Nat.ne_of_lt (Nat.lt_of_lt_of_le (K.tag _ (by unfold lvt; omega)).2 (by omega)))).trans ((xset_ne _ _ (Nat.ne_of_lt (Nat.lt_of_lt_of_le (K.tag _ (by unfold lvt; omega)).2 (by omega)))).trans ((xset_ne _ _ (Nat.ne_of_lt (Nat.lt_of_lt_of_le (K.tag _ (by unfold lvt; omega)).2 (by omega)))).trans ((xset_ne _ _ (Nat.ne_of_lt (Nat.lt_of_lt_of_le (K.tag _ (by unfold lvt; omega)).2 (by omega)))).trans ((xset_ne _ _ (Nat.ne_of_lt (Nat.lt_of_lt_of_le (K.tag _ (by unfold lvt; omega)).2 (by omega)))).trans (K.con c0 hc0))))))))
  · intro c0 hc0
    try simp (disch := omega) only [va_up_ne]
    exact (xset_ne _ _ (K.ne (by unfold lvt; omega) (by unfold lvt; omega) (by omega))).trans ((xset_ne _ _ (K.ne (by unfold lvt; omega) (by unfold lvt; omega) (by omega))).trans ((xset_ne _ _ (Nat.ne_of_lt (Nat.lt_of_lt_of_le (K.tag _ (by unfold lvt; omega)).2 (by omega)))).trans ((xset_ne _ _ (Nat.ne_of_lt (Nat.lt_of_lt_of_le (K.tag _ (by unfold lvt; omega)).2 (by omega)))).trans ((xset_ne _ _ (Nat.ne_of_lt (Nat.lt_of_lt_of_le (K.tag _ (by unfold lvt; omega)).2 (by omega)))).trans ((xset_ne _ _ (Nat.ne_of_lt (Nat.lt_of_lt_of_le (K.tag _ (by unfold lvt; omega)).2 (by omega)))).trans ((xset_ne _ _ (Nat.ne_of_lt (Nat.lt_of_lt_of_le (K.tag _ (by unfold lvt; omega)).2 (by omega)))).trans ((xset_ne _ _ (Nat.ne_of_lt (Nat.lt_of_lt_of_le (K.tag _ (by unfold lvt; omega)).2 (by omega)))).trans (K.conR c0 hc0))))))))
  · intro c0 hc0
    try simp (disch := omega) only [va_up_ne]
    exact (xset_ne _ _ (K.ne (by unfold lvt; omega) (by unfold lvt; omega) (by omega))).trans ((xset_ne _ _ (K.ne (by unfold lvt; omega) (by unfold lvt; omega) (by omega))).trans ((xset_ne _ _ (Nat.ne_of_lt (Nat.lt_of_lt_of_le (K.tag _ (by unfold lvt; omega)).2 (by omega)))).trans ((xset_ne _ _ (Nat.ne_of_lt (Nat.lt_of_lt_of_le (K.tag _ (by unfold lvt; omega)).2 (by omega)))).trans ((xset_ne _ _ (Nat.ne_of_lt (Nat.lt_of_lt_of_le (K.tag _ (by unfold lvt; omega)).2 (by omega)))).trans ((xset_ne _ _ (Nat.ne_of_lt (Nat.lt_of_lt_of_le (K.tag _ (by unfold lvt; omega)).2 (by omega)))).trans ((xset_ne _ _ (Nat.ne_of_lt (Nat.lt_of_lt_of_le (K.tag _ (by unfold lvt; omega)).2 (by omega)))).trans ((xset_ne _ _ (Nat.ne_of_lt (Nat.lt_of_lt_of_le (K.tag _ (by unfold lvt; omega)).2 (by omega)))).trans (K.conT c0 hc0))))))))
  · intro c0 hc0
    try simp (disch := omega) only [va_up_ne]
    exact (xset_ne _ _ (K.ne (by unfold lvt; omega) (by unfold lvt; omega) (by omega))).trans ((xset_ne _ _ (K.ne (by unfold lvt; omega) (by unfold lvt; omega) (by omega))).trans ((xset_ne _ _ (Nat.ne_of_lt (Nat.lt_of_lt_of_le (K.tag _ (by unfold lvt; omega)).2 (by omega)))).trans ((xset_ne _ _ (Nat.ne_of_lt (Nat.lt_of_lt_of_le (K.tag _ (by unfold lvt; omega)).2 (by omega)))).trans ((xset_ne _ _ (Nat.ne_of_lt (Nat.lt_of_lt_of_le (K.tag _ (by unfold lvt; omega)).2 (by omega)))).trans ((xset_ne _ _ (Nat.ne_of_lt (Nat.lt_of_lt_of_le (K.tag _ (by unfold lvt; omega)).2 (by omega)))).trans ((xset_ne _ _ (Nat.ne_of_lt (Nat.lt_of_lt_of_le (K.tag _ (by unfold lvt; omega)).2 (by omega)))).trans ((xset_ne _ _ (Nat.ne_of_lt (Nat.lt_of_lt_of_le (K.tag _ (by unfold lvt; omega)).2 (by omega)))).trans (K.conA c0 hc0))))))))
  · intro a e h
    exact (xset_ne _ _ (K.nn (by rw [h]; simp) (by unfold lvt; omega))).trans ((xset_ne _ _ (K.nn (by rw [h]; simp) (by unfold lvt; omega))).trans ((xset_ne _ _ (Nat.ne_of_lt (Nat.lt_of_lt_of_le (K.tgn a (by rw [h]; simp)).2 (by omega)))).trans ((xset_ne _ _ (Nat.ne_of_lt (Nat.lt_of_lt_of_le (K.tgn a (by rw [h]; simp)).2 (by omega)))).trans ((xset_ne _ _ (Nat.ne_of_lt (Nat.lt_of_lt_of_le (K.tgn a (by rw [h]; simp)).2 (by omega)))).trans ((xset_ne _ _ (Nat.ne_of_lt (Nat.lt_of_lt_of_le (K.tgn a (by rw [h]; simp)).2 (by omega)))).trans ((xset_ne _ _ (Nat.ne_of_lt (Nat.lt_of_lt_of_le (K.tgn a (by rw [h]; simp)).2 (by omega)))).trans ((xset_ne _ _ (Nat.ne_of_lt (Nat.lt_of_lt_of_le (K.tgn a (by rw [h]; simp)).2 (by omega)))).trans (K.nod a e h))))))))
  · intro t ht
    by_cases e_ : t = 104 + 5 * ln
    · subst e_
      simp (disch := omega) only [va_up_ne, va_up_self]
      simp
    · skip
      by_cases e_ : t = 100 + 5 * ln
      · subst e_
        simp (disch := omega) only [va_up_ne, va_up_self]
        simp
      · skip
        by_cases e_ : t = 101 + 5 * ln
        · subst e_
          simp (disch := omega) only [va_up_ne, va_up_self]
          simp
        · skip
          by_cases e_ : t = 102 + 5 * ln
          · subst e_
            simp (disch := omega) only [va_up_ne, va_up_self]
            simp
          · skip
            by_cases e_ : t = 103 + 5 * ln
            · subst e_
              simp (disch := omega) only [va_up_ne, va_up_self]
              simp
            · skip
              have h9 : lvt cn rq ln t := by unfold lvt at ht ⊢; omega
              have h8 := K.tag t h9
              have hc : (va_up (va_up (va_up (va_up (va_up ct (104 + 5 * ln) n) (100 + 5 * ln) (n + 1)) (101 + 5 * ln) (n + 2)) (102 + 5 * ln) (n + 3)) (103 + 5 * ln) (n + 4)) t = ct t := by simp (disch := omega) only [va_up_ne, va_up_self]
              rw [hc]
              refine ⟨?_, by omega⟩
              show (if ct t = n then some (104 + 5 * ln) else if ct t = n + 1 then some (100 + 5 * ln) else if ct t = n + 2 then some (101 + 5 * ln) else if ct t = n + 3 then some (102 + 5 * ln) else if ct t = n + 4 then some (103 + 5 * ln) else tg (ct t)) = some t
              rw [if_neg (by omega), if_neg (by omega), if_neg (by omega), if_neg (by omega), if_neg (by omega)]
              exact h8.1
  · intro a ha
    have h1 := (K.tgn a ha).1
    have h2 := (K.tgn a ha).2
    refine ⟨?_, by omega⟩
    show (if a = n then some (104 + 5 * ln) else if a = n + 1 then some (100 + 5 * ln) else if a = n + 2 then some (101 + 5 * ln) else if a = n + 3 then some (102 + 5 * ln) else if a = n + 4 then some (103 + 5 * ln) else tg a) = some 999
    rw [if_neg (by omega), if_neg (by omega), if_neg (by omega), if_neg (by omega), if_neg (by omega)]
    exact h1
  · intro a ha
    rcases Nat.lt_or_ge a (n + 5) with g | g
    · exact g
    · exfalso
      apply ha
      show (if a = n then some (104 + 5 * ln) else if a = n + 1 then some (100 + 5 * ln) else if a = n + 2 then some (101 + 5 * ln) else if a = n + 3 then some (102 + 5 * ln) else if a = n + 4 then some (103 + 5 * ln) else tg a) = none
      rw [if_neg (by omega), if_neg (by omega), if_neg (by omega), if_neg (by omega), if_neg (by omega)]
      cases e9 : tg a with
      | none => rfl
      | some x => exact absurd (K.tgo a (by rw [e9]; simp)) (by omega)
  · refine ⟨by omega, by omega, by omega, hcnt.2.2.2.1, hcnt.2.2.2.2.1, ?_⟩
    simp [upd]
set_option maxRecDepth 20000 in
theorem CR_extend {M : xMm} {n : Nat} {ct : Nat → Nat} {tg : Nat → Option Nat} {Bn : xMm} {cn rq ln : Nat} {rt : Nat → Nat → Option Nat} {tx : Nat → List Int32} {iv : Nat → Int32} {av : Nat → Nat → Int32} (K : CR M n ct tg Bn cn rq ln rt tx iv av) (l : Nat) (hl : l < ln) (u : Int32) : CR (xset (xset M (n) (.inr (7, [.int (av 25 l), .int (av 26 l), .int u]))) (ct (100 + 5 * l)) (.inr (3, [.ref (ct (200 + 4 * (av 24 l).toNatClampNeg)), .ref (ct (101 + 5 * l)), .ref (ct (102 + 5 * l)), .ref (ct (103 + 5 * l)), .ref n, .int (av 28 l), .int (av 30 l)]))) (n + 1) (va_up ct (104 + 5 * l) n) (fun q => if q = n then some (104 + 5 * l) else tg q) Bn cn rq ln rt tx (upd iv 0 0) (va_up av 27 (upd (av 27) l u)) := by
  have hcnt := K.cnt
  unfold CR
  refine ⟨?_, ?_, ?_, ?_, ?_, ?_, ?_, ?_, ?_, ?_, ?_, ?_, ?_, ?_, ?_, ?_, ?_, ?_, ?_, ?_, ?_, ?_, ?_, ?_, ?_, ?_⟩
  · try simp (disch := omega) only [va_up_ne]
    exact (xset_ne _ _ (K.ne (by unfold lvt; omega) (by unfold lvt; omega) (by omega))).trans ((xset_ne _ _ (Nat.ne_of_lt (Nat.lt_of_lt_of_le (K.tag _ (by unfold lvt; omega)).2 (by omega)))).trans (K.lt))
  · try simp (disch := omega) only [va_up_ne]
    exact (xset_ne _ _ (K.ne (by unfold lvt; omega) (by unfold lvt; omega) (by omega))).trans ((xset_ne _ _ (Nat.ne_of_lt (Nat.lt_of_lt_of_le (K.tag _ (by unfold lvt; omega)).2 (by omega)))).trans (K.pad))
  · try simp (disch := omega) only [va_up_ne]
    exact (xset_ne _ _ (K.ne (by unfold lvt; omega) (by unfold lvt; omega) (by omega))).trans ((xset_ne _ _ (Nat.ne_of_lt (Nat.lt_of_lt_of_le (K.tag _ (by unfold lvt; omega)).2 (by omega)))).trans (K.padA))
  · obtain ⟨z, f, g3, g4⟩ := K.lets
    try simp (disch := omega) only [va_up_ne]
    exact ⟨z, f, (xset_ne _ _ (K.ne (by unfold lvt; omega) (by unfold lvt; omega) (by omega))).trans ((xset_ne _ _ (Nat.ne_of_lt (Nat.lt_of_lt_of_le (K.tag _ (by unfold lvt; omega)).2 (by omega)))).trans (g3)), (xset_ne _ _ (K.ne (by unfold lvt; omega) (by unfold lvt; omega) (by omega))).trans ((xset_ne _ _ (Nat.ne_of_lt (Nat.lt_of_lt_of_le (K.tag _ (by unfold lvt; omega)).2 (by omega)))).trans (g4))⟩
  · try simp (disch := omega) only [va_up_ne]
    exact (xset_ne _ _ (K.ne (by unfold lvt; omega) (by unfold lvt; omega) (by omega))).trans ((xset_ne _ _ (Nat.ne_of_lt (Nat.lt_of_lt_of_le (K.tag _ (by unfold lvt; omega)).2 (by omega)))).trans (K.cons))
  · try simp (disch := omega) only [va_up_ne]
    exact (xset_ne _ _ (K.ne (by unfold lvt; omega) (by unfold lvt; omega) (by omega))).trans ((xset_ne _ _ (Nat.ne_of_lt (Nat.lt_of_lt_of_le (K.tag _ (by unfold lvt; omega)).2 (by omega)))).trans (K.inps))
  · try simp (disch := omega) only [va_up_ne]
    exact (xset_ne _ _ (K.ne (by unfold lvt; omega) (by unfold lvt; omega) (by omega))).trans ((xset_ne _ _ (Nat.ne_of_lt (Nat.lt_of_lt_of_le (K.tag _ (by unfold lvt; omega)).2 (by omega)))).trans (K.lons))
  · try simp (disch := omega) only [va_up_ne]
    exact (xset_ne _ _ (K.ne (by unfold lvt; omega) (by unfold lvt; omega) (by omega))).trans ((xset_ne _ _ (Nat.ne_of_lt (Nat.lt_of_lt_of_le (K.tag _ (by unfold lvt; omega)).2 (by omega)))).trans (K.reqs))
  · intro i0 hi0
    try simp (disch := omega) only [va_up_ne]
    exact (xset_ne _ _ (K.ne (by unfold lvt; omega) (by unfold lvt; omega) (by omega))).trans ((xset_ne _ _ (Nat.ne_of_lt (Nat.lt_of_lt_of_le (K.tag _ (by unfold lvt; omega)).2 (by omega)))).trans (K.inp i0 hi0))
  · intro i0 hi0
    try simp (disch := omega) only [va_up_ne]
    exact (xset_ne _ _ (K.ne (by unfold lvt; omega) (by unfold lvt; omega) (by omega))).trans ((xset_ne _ _ (Nat.ne_of_lt (Nat.lt_of_lt_of_le (K.tag _ (by unfold lvt; omega)).2 (by omega)))).trans (K.inpH i0 hi0))
  · intro i0 hi0
    try simp (disch := omega) only [va_up_ne]
    exact (xset_ne _ _ (K.ne (by unfold lvt; omega) (by unfold lvt; omega) (by omega))).trans ((xset_ne _ _ (Nat.ne_of_lt (Nat.lt_of_lt_of_le (K.tag _ (by unfold lvt; omega)).2 (by omega)))).trans (K.inpV i0 hi0))
  · intro r0 hr0
    try simp (disch := omega) only [va_up_ne]
    exact (xset_ne _ _ (K.ne (by unfold lvt; omega) (by unfold lvt; omega) (by omega))).trans ((xset_ne _ _ (Nat.ne_of_lt (Nat.lt_of_lt_of_le (K.tag _ (by unfold lvt; omega)).2 (by omega)))).trans (K.req r0 hr0))
  · intro l0 hl0
    by_cases e0 : l0 = l
    · subst e0
      simp (disch := omega) only [va_up_ne, va_up_self]
      exact xset_self _ _ _
    · simp (disch := omega) only [va_up_ne, va_up_self]
      exact (xset_ne _ _ (K.ne (by unfold lvt; omega) (by unfold lvt; omega) (by omega))).trans ((xset_ne _ _ (Nat.ne_of_lt (Nat.lt_of_lt_of_le (K.tag _ (by unfold lvt; omega)).2 (by omega)))).trans (K.lon l0 hl0))
  · intro l0 hl0
    try simp (disch := omega) only [va_up_ne]
    exact (xset_ne _ _ (K.ne (by unfold lvt; omega) (by unfold lvt; omega) (by omega))).trans ((xset_ne _ _ (Nat.ne_of_lt (Nat.lt_of_lt_of_le (K.tag _ (by unfold lvt; omega)).2 (by omega)))).trans (K.lonH l0 hl0))
  · intro l0 hl0
    try simp (disch := omega) only [va_up_ne]
    exact (xset_ne _ _ (K.ne (by unfold lvt; omega) (by unfold lvt; omega) (by omega))).trans ((xset_ne _ _ (Nat.ne_of_lt (Nat.lt_of_lt_of_le (K.tag _ (by unfold lvt; omega)).2 (by omega)))).trans (K.lonT l0 hl0))
  · intro l0 hl0
    try simp (disch := omega) only [va_up_ne]
    exact (xset_ne _ _ (K.ne (by unfold lvt; omega) (by unfold lvt; omega) (by omega))).trans ((xset_ne _ _ (Nat.ne_of_lt (Nat.lt_of_lt_of_le (K.tag _ (by unfold lvt; omega)).2 (by omega)))).trans (K.lonS l0 hl0))
  · intro l0 hl0
    by_cases e0 : l0 = l
    · subst e0
      simp (disch := omega) only [va_up_ne, va_up_self]
      refine ((xset_ne _ _ (Ne.symm (by have h_ := (K.tag (100 + 5 * l0) (by unfold lvt; omega)).2; omega))).trans (xset_self _ _ _)).trans ?_
      simp [upd]
    · simp (disch := omega) only [va_up_ne, va_up_self]
      refine ((xset_ne _ _ (K.ne (by unfold lvt; omega) (by unfold lvt; omega) (by omega))).trans ((xset_ne _ _ (Nat.ne_of_lt (Nat.lt_of_lt_of_le (K.tag _ (by unfold lvt; omega)).2 (by omega)))).trans (K.lonP l0 hl0))).trans ?_
      simp [upd, e0]
  · intro c0 hc0
    try simp (disch := omega) only [va_up_ne]
    exact (xset_ne _ _ (K.ne (by unfold lvt; omega) (by unfold lvt; omega) (by omega))).trans ((xset_ne _ _ (Nat.ne_of_lt (Nat.lt_of_lt_of_le (K.tag _ (by unfold lvt; omega)).2 (by omega)))).trans (K.con c0 hc0))
  · intro c0 hc0
    try simp (disch := omega) only [va_up_ne]
    exact (xset_ne _ _ (K.ne (by unfold lvt; omega) (by unfold lvt; omega) (by omega))).trans ((xset_ne _ _ (Nat.ne_of_lt (Nat.lt_of_lt_of_le (K.tag _ (by unfold lvt; omega)).2 (by omega)))).trans (K.conR c0 hc0))
  · intro c0 hc0
    try simp (disch := omega) only [va_up_ne]
    exact (xset_ne _ _ (K.ne (by unfold lvt; omega) (by unfold lvt; omega) (by omega))).trans ((xset_ne _ _ (Nat.ne_of_lt (Nat.lt_of_lt_of_le (K.tag _ (by unfold lvt; omega)).2 (by omega)))).trans (K.conT c0 hc0))
  · intro c0 hc0
    try simp (disch := omega) only [va_up_ne]
    exact (xset_ne _ _ (K.ne (by unfold lvt; omega) (by unfold lvt; omega) (by omega))).trans ((xset_ne _ _ (Nat.ne_of_lt (Nat.lt_of_lt_of_le (K.tag _ (by unfold lvt; omega)).2 (by omega)))).trans (K.conA c0 hc0))
  · intro a e h
    exact (xset_ne _ _ (K.nn (by rw [h]; simp) (by unfold lvt; omega))).trans ((xset_ne _ _ (Nat.ne_of_lt (Nat.lt_of_lt_of_le (K.tgn a (by rw [h]; simp)).2 (by omega)))).trans (K.nod a e h))
  · intro t ht
    by_cases e_ : t = 104 + 5 * l
    · subst e_
      rw [va_up_self]
      exact ⟨if_pos rfl, by omega⟩
    · rw [va_up_ne _ _ e_]
      have h8 := K.tag t ht
      refine ⟨?_, by omega⟩
      show (if ct t = n then some (104 + 5 * l) else tg (ct t)) = some t
      rw [if_neg (by omega)]
      exact h8.1
  · intro a ha
    have h1 := (K.tgn a ha).1
    have h2 := (K.tgn a ha).2
    refine ⟨?_, by omega⟩
    show (if a = n then some (104 + 5 * l) else tg a) = some 999
    rw [if_neg (by omega)]
    exact h1
  · intro a ha
    rcases Nat.lt_or_ge a (n + 1) with g | g
    · exact g
    · exfalso
      apply ha
      show (if a = n then some (104 + 5 * l) else tg a) = none
      rw [if_neg (by omega)]
      cases e9 : tg a with
      | none => rfl
      | some x => exact absurd (K.tgo a (by rw [e9]; simp)) (by omega)
  · exact K.cnt
set_option maxRecDepth 20000 in
theorem c_L_loan_no0 {d : Nat} {M : xMm} {n sl : Nat} {ct : Nat → Nat} {tg : Nat → Option Nat} {Bn : xMm} {cn rq ln : Nat} {rt : Nat → Nat → Option Nat} {tx : Nat → List Int32} {iv : Nat → Int32} {av : Nat → Nat → Int32} (K : CR M n ct tg Bn cn rq ln rt tx iv av) (c t f u : Int32) (h : ¬ (0 ≤ c ∧ c < nI cn)) : xCl (d + 2) k_L_loan [.ref (ct 0), .int c, .int t, .int f, .int u] (M, n, sl) (.inr "java/lang/IndexOutOfBoundsException", (M, n + 1, sl + 6)) := by
  show xEv _ k_L_loan 0 [some (.ref (ct 0)), some (.int c), some (.int t), some (.int f), some (.int u), none, none] [] _ _
  refine ev_aload_n d_L_loan_0 rfl ?_
  refine ev_iload_n d_L_loan_1 rfl ?_
  exact ev_v1t d_L_loan_2 q_0_90 rfl K.lt ⟨rfl, Nat.le_of_ble_eq_true rfl, Nat.le_of_ble_eq_true rfl⟩ (c_L_contractOf_no K _ h)
set_option maxRecDepth 20000 in
theorem c_L_loan_no1 {d : Nat} {M : xMm} {n sl : Nat} {ct : Nat → Nat} {tg : Nat → Option Nat} {Bn : xMm} {cn rq ln : Nat} {rt : Nat → Nat → Option Nat} {tx : Nat → List Int32} {iv : Nat → Int32} {av : Nat → Nat → Int32} (K : CR M n ct tg Bn cn rq ln rt tx iv av) (c : Nat) (hc : c < cn) (t f u : Int32) (h1 : ¬ (0 ≤ t ∧ t < 16)) : xCl (d + 2) k_L_loan [.ref (ct 0), .int (nI c), .int t, .int f, .int u] (M, n, sl) (.inr "java/lang/IndexOutOfBoundsException", (M, n + 1, sl + 6)) := by
  show xEv _ k_L_loan 0 [some (.ref (ct 0)), some (.int (nI c)), some (.int t), some (.int f), some (.int u), none, none] [] _ _
  refine ev_aload_n d_L_loan_0 rfl ?_
  refine ev_iload_n d_L_loan_1 rfl ?_
  refine ev_v1r d_L_loan_2 q_0_90 rfl K.lt ⟨rfl, Nat.le_of_ble_eq_true rfl, Nat.le_of_ble_eq_true rfl⟩ (c_L_contractOf_ok K c hc) ?_
  refine ev_astore (lo1 := [some (.ref (ct 0)), some (.int (nI c)), some (.int t), some (.int f), some (.int u), some (.ref (ct (200 + 4 * c))), none]) d_L_loan_5 (Nat.le_of_ble_eq_true rfl) rfl ?_
  refine ev_iload_n d_L_loan_7 rfl ?_
  exact ev_s1t d_L_loan_8 q_0_131 rfl ⟨rfl, Nat.le_of_ble_eq_true rfl, Nat.le_of_ble_eq_true rfl⟩ (c_L_refuseNoThing_no _ h1)
set_option maxRecDepth 20000 in
theorem c_L_loan_no2 {d : Nat} {M : xMm} {n sl : Nat} {ct : Nat → Nat} {tg : Nat → Option Nat} {Bn : xMm} {cn rq ln : Nat} {rt : Nat → Nat → Option Nat} {tx : Nat → List Int32} {iv : Nat → Int32} {av : Nat → Nat → Int32} (K : CR M n ct tg Bn cn rq ln rt tx iv av) (c : Nat) (hc : c < cn) (t f u : Int32) (h1 : (0 ≤ t ∧ t < 16)) (h2 : ¬ iv 23 < 20) : xCl (d + 2) k_L_loan [.ref (ct 0), .int (nI c), .int t, .int f, .int u] (M, n, sl) (.inr "java/lang/IllegalStateException", (M, n + 1, sl + 6)) := by
  show xEv _ k_L_loan 0 [some (.ref (ct 0)), some (.int (nI c)), some (.int t), some (.int f), some (.int u), none, none] [] _ _
  refine ev_aload_n d_L_loan_0 rfl ?_
  refine ev_iload_n d_L_loan_1 rfl ?_
  refine ev_v1r d_L_loan_2 q_0_90 rfl K.lt ⟨rfl, Nat.le_of_ble_eq_true rfl, Nat.le_of_ble_eq_true rfl⟩ (c_L_contractOf_ok K c hc) ?_
  refine ev_astore (lo1 := [some (.ref (ct 0)), some (.int (nI c)), some (.int t), some (.int f), some (.int u), some (.ref (ct (200 + 4 * c))), none]) d_L_loan_5 (Nat.le_of_ble_eq_true rfl) rfl ?_
  refine ev_iload_n d_L_loan_7 rfl ?_
  refine ev_s1o d_L_loan_8 q_0_131 rfl ⟨rfl, Nat.le_of_ble_eq_true rfl, Nat.le_of_ble_eq_true rfl⟩ (c_L_refuseNoThing_ok _ h1) ?_
  refine ev_aload_n d_L_loan_11 rfl ?_
  refine ev_get d_L_loan_12 f_0_47 (K.lt) rfl ?_
  refine ev_bipush (v := 20) d_L_loan_15 rfl ?_
  refine ev_icmp_lt (t := 30) d_L_loan_17 (by decide) (fun c_17 => absurd c_17 h2) (fun _ => ?_)
  exact ev_throw d_L_loan_20 rfl (Nat.le_of_ble_eq_true rfl)
set_option maxRecDepth 20000 in
theorem c_L_loan_no3 {d : Nat} {M : xMm} {n sl : Nat} {ct : Nat → Nat} {tg : Nat → Option Nat} {Bn : xMm} {cn rq ln : Nat} {rt : Nat → Nat → Option Nat} {tx : Nat → List Int32} {iv : Nat → Int32} {av : Nat → Nat → Int32} (K : CR M n ct tg Bn cn rq ln rt tx iv av) (c : Nat) (hc : c < cn) (t f u : Int32) (h1 : (0 ≤ t ∧ t < 16)) (h2 : iv 23 < 20) (h3 : ¬ (0 ≤ f ∧ f ≤ u ∧ u ≤ 100000)) : xCl (d + 2) k_L_loan [.ref (ct 0), .int (nI c), .int t, .int f, .int u] (M, n, sl) (.inr "java/lang/IllegalArgumentException", (M, n + 1, sl + 6)) := by
  show xEv _ k_L_loan 0 [some (.ref (ct 0)), some (.int (nI c)), some (.int t), some (.int f), some (.int u), none, none] [] _ _
  refine ev_aload_n d_L_loan_0 rfl ?_
  refine ev_iload_n d_L_loan_1 rfl ?_
  refine ev_v1r d_L_loan_2 q_0_90 rfl K.lt ⟨rfl, Nat.le_of_ble_eq_true rfl, Nat.le_of_ble_eq_true rfl⟩ (c_L_contractOf_ok K c hc) ?_
  refine ev_astore (lo1 := [some (.ref (ct 0)), some (.int (nI c)), some (.int t), some (.int f), some (.int u), some (.ref (ct (200 + 4 * c))), none]) d_L_loan_5 (Nat.le_of_ble_eq_true rfl) rfl ?_
  refine ev_iload_n d_L_loan_7 rfl ?_
  refine ev_s1o d_L_loan_8 q_0_131 rfl ⟨rfl, Nat.le_of_ble_eq_true rfl, Nat.le_of_ble_eq_true rfl⟩ (c_L_refuseNoThing_ok _ h1) ?_
  refine ev_aload_n d_L_loan_11 rfl ?_
  refine ev_get d_L_loan_12 f_0_47 (K.lt) rfl ?_
  refine ev_bipush (v := 20) d_L_loan_15 rfl ?_
  refine ev_icmp_lt (t := 30) d_L_loan_17 (by decide) (fun _ => ?_) (fun c_17 => absurd h2 c_17)
  refine ev_iload_n d_L_loan_30 rfl ?_
  refine ev_iload d_L_loan_31 rfl ?_
  exact ev_s2t d_L_loan_33 q_0_136 rfl ⟨rfl, Nat.le_of_ble_eq_true rfl, Nat.le_of_ble_eq_true rfl⟩ (c_L_refuseNoDays_no _ _ h3)
set_option maxRecDepth 20000 in
theorem c_L_loan_out {d : Nat} {M : xMm} {n sl : Nat} {ct : Nat → Nat} {tg : Nat → Option Nat} {Bn : xMm} {cn rq ln : Nat} {rt : Nat → Nat → Option Nat} {tx : Nat → List Int32} {iv : Nat → Int32} {av : Nat → Nat → Int32} (K : CR M n ct tg Bn cn rq ln rt tx iv av) (c : Nat) (hc : c < cn) (t f u : Int32) (h1 : (0 ≤ t ∧ t < 16)) (h2 : iv 23 < 20) (h3 : (0 ≤ f ∧ f ≤ u ∧ u ≤ 100000)) (ho : anyF (mOut av t f u (-1)) ln 0 = true) : xCl (d + 2) k_L_loan [.ref (ct 0), .int (nI c), .int t, .int f, .int u] (M, n, sl) (.inl (some (.int (-1))), ((xset M (n) (.inr (7, [.int t, .int f, .int u]))), n + 1, sl + 3)) := by
  show xEv _ k_L_loan 0 [some (.ref (ct 0)), some (.int (nI c)), some (.int t), some (.int f), some (.int u), none, none] [] _ _
  refine ev_aload_n d_L_loan_0 rfl ?_
  refine ev_iload_n d_L_loan_1 rfl ?_
  refine ev_v1r d_L_loan_2 q_0_90 rfl K.lt ⟨rfl, Nat.le_of_ble_eq_true rfl, Nat.le_of_ble_eq_true rfl⟩ (c_L_contractOf_ok K c hc) ?_
  refine ev_astore (lo1 := [some (.ref (ct 0)), some (.int (nI c)), some (.int t), some (.int f), some (.int u), some (.ref (ct (200 + 4 * c))), none]) d_L_loan_5 (Nat.le_of_ble_eq_true rfl) rfl ?_
  refine ev_iload_n d_L_loan_7 rfl ?_
  refine ev_s1o d_L_loan_8 q_0_131 rfl ⟨rfl, Nat.le_of_ble_eq_true rfl, Nat.le_of_ble_eq_true rfl⟩ (c_L_refuseNoThing_ok _ h1) ?_
  refine ev_aload_n d_L_loan_11 rfl ?_
  refine ev_get d_L_loan_12 f_0_47 (K.lt) rfl ?_
  refine ev_bipush (v := 20) d_L_loan_15 rfl ?_
  refine ev_icmp_lt (t := 30) d_L_loan_17 (by decide) (fun _ => ?_) (fun c_17 => absurd h2 c_17)
  refine ev_iload_n d_L_loan_30 rfl ?_
  refine ev_iload d_L_loan_31 rfl ?_
  refine ev_s2o d_L_loan_33 q_0_136 rfl ⟨rfl, Nat.le_of_ble_eq_true rfl, Nat.le_of_ble_eq_true rfl⟩ (c_L_refuseNoDays_ok _ _ h3) ?_
  refine ev_new (S1 := ((xset M (n) (.inr (7, [.int 0, .int 0, .int 0]))), n + 1, sl + 3)) d_L_loan_36 rfl n_0_37 rfl ?_
  dsimp only
  refine ev_dup d_L_loan_39 rfl ?_
  refine ev_iload_n d_L_loan_40 rfl ?_
  refine ev_iload_n d_L_loan_41 rfl ?_
  refine ev_iload d_L_loan_42 rfl ?_
  refine ev_i3 d_L_loan_44 ⟨_, q_0_139, by decide, by decide⟩ rfl ⟨rfl, Nat.le_of_ble_eq_true rfl, Nat.le_of_ble_eq_true rfl⟩ (c_P_init _ _ _ (xset_self _ _ _)) ?_
  rw [xset_xset]
  refine ev_astore (lo1 := [some (.ref (ct 0)), some (.int (nI c)), some (.int t), some (.int f), some (.int u), some (.ref (ct (200 + 4 * c))), some (.ref (n))]) d_L_loan_47 (Nat.le_of_ble_eq_true rfl) rfl ?_
  refine ev_aload_n d_L_loan_49 rfl ?_
  refine ev_aload d_L_loan_50 rfl ?_
  refine ev_iconst (v := (-1)) d_L_loan_52 rfl ?_
  refine ev_v2r d_L_loan_53 q_0_142 rfl ((xset_ne _ _ (by have h_ := (K.tag 0 (by unfold lvt; omega)).2; omega)).trans K.lt) ⟨rfl, Nat.le_of_ble_eq_true rfl, Nat.le_of_ble_eq_true rfl⟩ (c_L_clashesWithLoan (CR_fresh K _) (xset_self _ _ _) (-1)) ?_
  rw [ho]
  refine ev_if_eq (t := 61) d_L_loan_56 (by decide) (fun c_56 => absurd c_56 (by decide)) (fun _ => ?_)
  refine ev_iconst (v := (-1)) d_L_loan_59 rfl ?_
  exact ev_iret d_L_loan_60 rfl
set_option maxRecDepth 20000 in
theorem c_L_loan_ok {d : Nat} {M : xMm} {n sl : Nat} {ct : Nat → Nat} {tg : Nat → Option Nat} {Bn : xMm} {cn rq ln : Nat} {rt : Nat → Nat → Option Nat} {tx : Nat → List Int32} {iv : Nat → Int32} {av : Nat → Nat → Int32} (K : CR M n ct tg Bn cn rq ln rt tx iv av) (c : Nat) (hc : c < cn) (t f u : Int32) (h1 : (0 ≤ t ∧ t < 16)) (hln : ln < 20) (h3 : (0 ≤ f ∧ f ≤ u ∧ u ≤ 100000)) (ho : anyF (mOut av t f u (-1)) ln 0 = false) : xCl (d + 2) k_L_loan [.ref (ct 0), .int (nI c), .int t, .int f, .int u] (M, n, sl) (.inl (some (.int (nI ln))), ((xset (xset (xset (xset (xset (xset (xset (xset M (n) (.inr (7, [.int t, .int f, .int u]))) (n + 1) (.inr (3, [.null, .null, .null, .null, .null, .int 0, .int 0]))) (n + 2) (.inl (0, 100, .inl (fun _ => 0)))) (n + 3) (.inl (0, 100, .inl (fun _ => 0)))) (n + 4) (.inl (1, 6, .inl (fun _ => 0)))) (n + 1) (.inr (3, [.ref (ct (200 + 4 * c)), .ref (n + 2), .ref (n + 3), .ref (n + 4), .ref n, .int 0, .int 0]))) (ct 7) (.inl (4, 20, .inr (.inr (.inr (.inr (va_up (fun l => if l < ln then some (ct (100 + 5 * l)) else none) ln (some (n + 1))))))))) (ct 0) (.inr (0, [.ref (ct 1), .ref (ct 3), .ref (ct 5), .ref (ct 6), .ref (ct 7), .ref (ct 8), .int (iv 3), .int (nI (ln + 1)), .int (iv 33)]))), n + 5, sl + 216)) := by
  have hcnt := K.cnt
  show xEv _ k_L_loan 0 [some (.ref (ct 0)), some (.int (nI c)), some (.int t), some (.int f), some (.int u), none, none] [] _ _
  refine ev_aload_n d_L_loan_0 rfl ?_
  refine ev_iload_n d_L_loan_1 rfl ?_
  refine ev_v1r d_L_loan_2 q_0_90 rfl K.lt ⟨rfl, Nat.le_of_ble_eq_true rfl, Nat.le_of_ble_eq_true rfl⟩ (c_L_contractOf_ok K c hc) ?_
  refine ev_astore (lo1 := [some (.ref (ct 0)), some (.int (nI c)), some (.int t), some (.int f), some (.int u), some (.ref (ct (200 + 4 * c))), none]) d_L_loan_5 (Nat.le_of_ble_eq_true rfl) rfl ?_
  refine ev_iload_n d_L_loan_7 rfl ?_
  refine ev_s1o d_L_loan_8 q_0_131 rfl ⟨rfl, Nat.le_of_ble_eq_true rfl, Nat.le_of_ble_eq_true rfl⟩ (c_L_refuseNoThing_ok _ h1) ?_
  refine ev_aload_n d_L_loan_11 rfl ?_
  refine ev_get d_L_loan_12 f_0_47 (K.lt) rfl ?_
  refine ev_bipush (v := 20) d_L_loan_15 rfl ?_
  refine ev_icmp_lt (t := 30) d_L_loan_17 (by decide) (fun _ => ?_) (fun c_17 => absurd (by rw [hcnt.2.2.2.2.2]; exact nI_lt hln (by decide)) c_17)
  refine ev_iload_n d_L_loan_30 rfl ?_
  refine ev_iload d_L_loan_31 rfl ?_
  refine ev_s2o d_L_loan_33 q_0_136 rfl ⟨rfl, Nat.le_of_ble_eq_true rfl, Nat.le_of_ble_eq_true rfl⟩ (c_L_refuseNoDays_ok _ _ h3) ?_
  refine ev_new (S1 := ((xset M (n) (.inr (7, [.int 0, .int 0, .int 0]))), n + 1, sl + 3)) d_L_loan_36 rfl n_0_37 rfl ?_
  dsimp only
  refine ev_dup d_L_loan_39 rfl ?_
  refine ev_iload_n d_L_loan_40 rfl ?_
  refine ev_iload_n d_L_loan_41 rfl ?_
  refine ev_iload d_L_loan_42 rfl ?_
  refine ev_i3 d_L_loan_44 ⟨_, q_0_139, by decide, by decide⟩ rfl ⟨rfl, Nat.le_of_ble_eq_true rfl, Nat.le_of_ble_eq_true rfl⟩ (c_P_init _ _ _ (xset_self _ _ _)) ?_
  rw [xset_xset]
  refine ev_astore (lo1 := [some (.ref (ct 0)), some (.int (nI c)), some (.int t), some (.int f), some (.int u), some (.ref (ct (200 + 4 * c))), some (.ref (n))]) d_L_loan_47 (Nat.le_of_ble_eq_true rfl) rfl ?_
  refine ev_aload_n d_L_loan_49 rfl ?_
  refine ev_aload d_L_loan_50 rfl ?_
  refine ev_iconst (v := (-1)) d_L_loan_52 rfl ?_
  refine ev_v2r d_L_loan_53 q_0_142 rfl ((xset_ne _ _ (by have h_ := (K.tag 0 (by unfold lvt; omega)).2; omega)).trans K.lt) ⟨rfl, Nat.le_of_ble_eq_true rfl, Nat.le_of_ble_eq_true rfl⟩ (c_L_clashesWithLoan (CR_fresh K _) (xset_self _ _ _) (-1)) ?_
  rw [ho]
  refine ev_if_eq (t := 61) d_L_loan_56 (by decide) (fun _ => ?_) (fun c_56 => absurd rfl c_56)
  refine ev_aload_n d_L_loan_61 rfl ?_
  refine ev_get d_L_loan_62 f_0_33 ((xset_ne _ _ (by have h_ := (K.tag 0 (by unfold lvt; omega)).2; omega)).trans (K.lt)) rfl ?_
  refine ev_aload_n d_L_loan_65 rfl ?_
  refine ev_get d_L_loan_66 f_0_47 ((xset_ne _ _ (by have h_ := (K.tag 0 (by unfold lvt; omega)).2; omega)).trans (K.lt)) rfl ?_
  refine ev_new (S1 := ((xset (xset M (n) (.inr (7, [.int t, .int f, .int u]))) (n + 1) (.inr (3, [.null, .null, .null, .null, .null, .int 0, .int 0]))), n + 2, sl + 10)) d_L_loan_69 rfl n_0_31 rfl ?_
  dsimp only
  refine ev_dup d_L_loan_72 rfl ?_
  refine ev_aload d_L_loan_73 rfl ?_
  refine ev_aload d_L_loan_75 rfl ?_
  refine ev_i2 d_L_loan_77 ⟨_, q_0_146, by decide, by decide⟩ rfl ⟨rfl, Nat.le_of_ble_eq_true rfl, Nat.le_of_ble_eq_true rfl⟩ (c_O_init _ _ (by omega) (xset_self _ _ _)) ?_
  refine ev_aast (M1 := (xset (xset (xset (xset (xset (xset (xset M (n) (.inr (7, [.int t, .int f, .int u]))) (n + 1) (.inr (3, [.null, .null, .null, .null, .null, .int 0, .int 0]))) (n + 2) (.inl (0, 100, .inl (fun _ => 0)))) (n + 3) (.inl (0, 100, .inl (fun _ => 0)))) (n + 4) (.inl (1, 6, .inl (fun _ => 0)))) (n + 1) (.inr (3, [.ref (ct (200 + 4 * c)), .ref (n + 2), .ref (n + 3), .ref (n + 4), .ref n, .int 0, .int 0]))) (ct 7) (.inl (4, 20, .inr (.inr (.inr (.inr (va_up (fun l => if l < ln then some (ct (100 + 5 * l)) else none) ((iv 23)).toNatClampNeg (some (n + 1)))))))))) d_L_loan_80 ((xset_ne _ _ (by have h_ := (K.tag 7 (by unfold lvt; omega)).2; omega)).trans ((xset_ne _ _ (by have h_ := (K.tag 7 (by unfold lvt; omega)).2; omega)).trans ((xset_ne _ _ (by have h_ := (K.tag 7 (by unfold lvt; omega)).2; omega)).trans ((xset_ne _ _ (by have h_ := (K.tag 7 (by unfold lvt; omega)).2; omega)).trans ((xset_ne _ _ (by have h_ := (K.tag 7 (by unfold lvt; omega)).2; omega)).trans ((xset_ne _ _ (by have h_ := (K.tag 7 (by unfold lvt; omega)).2; omega)).trans (K.lons))))))) rfl (xset_self _ _ _) (by rw [hcnt.2.2.2.2.2]; exact vp_in_nI (N := 20) hln (by decide)) rfl ?_
  refine ev_aload_n d_L_loan_81 rfl ?_
  refine ev_dup d_L_loan_82 rfl ?_
  refine ev_get d_L_loan_83 f_0_47 ((xset_ne _ _ (K.ne (by unfold lvt; omega) (by unfold lvt; omega) (by omega))).trans ((xset_ne _ _ (by have h_ := (K.tag 0 (by unfold lvt; omega)).2; omega)).trans ((xset_ne _ _ (by have h_ := (K.tag 0 (by unfold lvt; omega)).2; omega)).trans ((xset_ne _ _ (by have h_ := (K.tag 0 (by unfold lvt; omega)).2; omega)).trans ((xset_ne _ _ (by have h_ := (K.tag 0 (by unfold lvt; omega)).2; omega)).trans ((xset_ne _ _ (by have h_ := (K.tag 0 (by unfold lvt; omega)).2; omega)).trans ((xset_ne _ _ (by have h_ := (K.tag 0 (by unfold lvt; omega)).2; omega)).trans (K.lt)))))))) rfl ?_
  refine ev_iconst (v := 1) d_L_loan_86 rfl ?_
  refine ev_iadd d_L_loan_87 ?_
  refine ev_put (M1 := (xset (xset (xset (xset (xset (xset (xset (xset M (n) (.inr (7, [.int t, .int f, .int u]))) (n + 1) (.inr (3, [.null, .null, .null, .null, .null, .int 0, .int 0]))) (n + 2) (.inl (0, 100, .inl (fun _ => 0)))) (n + 3) (.inl (0, 100, .inl (fun _ => 0)))) (n + 4) (.inl (1, 6, .inl (fun _ => 0)))) (n + 1) (.inr (3, [.ref (ct (200 + 4 * c)), .ref (n + 2), .ref (n + 3), .ref (n + 4), .ref n, .int 0, .int 0]))) (ct 7) (.inl (4, 20, .inr (.inr (.inr (.inr (va_up (fun l => if l < ln then some (ct (100 + 5 * l)) else none) ((iv 23)).toNatClampNeg (some (n + 1))))))))) (ct 0) (.inr (0, [.ref (ct 1), .ref (ct 3), .ref (ct 5), .ref (ct 6), .ref (ct 7), .ref (ct 8), .int (iv 3), .int ((iv 23) + 1), .int (iv 33)])))) d_L_loan_88 f_0_47 ((xset_ne _ _ (K.ne (by unfold lvt; omega) (by unfold lvt; omega) (by omega))).trans ((xset_ne _ _ (by have h_ := (K.tag 0 (by unfold lvt; omega)).2; omega)).trans ((xset_ne _ _ (by have h_ := (K.tag 0 (by unfold lvt; omega)).2; omega)).trans ((xset_ne _ _ (by have h_ := (K.tag 0 (by unfold lvt; omega)).2; omega)).trans ((xset_ne _ _ (by have h_ := (K.tag 0 (by unfold lvt; omega)).2; omega)).trans ((xset_ne _ _ (by have h_ := (K.tag 0 (by unfold lvt; omega)).2; omega)).trans ((xset_ne _ _ (by have h_ := (K.tag 0 (by unfold lvt; omega)).2; omega)).trans (K.lt)))))))) ⟨Nat.le_of_ble_eq_true rfl, (xfit_i rfl), Or.inl rfl⟩ rfl ?_
  refine ev_aload_n d_L_loan_91 rfl ?_
  refine ev_get d_L_loan_92 f_0_47 (xset_self _ _ _) rfl ?_
  refine ev_iconst (v := 1) d_L_loan_95 rfl ?_
  refine ev_isub d_L_loan_96 ?_
  exact xEv.to (ev_iret d_L_loan_97 rfl) (by rw [hcnt.2.2.2.2.2, nI_clamp (show ln < 2 ^ 31 by omega), ← nI_succ, nI_pred])
set_option maxRecDepth 20000 in
theorem c_L_extend_no0 {d : Nat} {M : xMm} {n sl : Nat} {ct : Nat → Nat} {tg : Nat → Option Nat} {Bn : xMm} {cn rq ln : Nat} {rt : Nat → Nat → Option Nat} {tx : Nat → List Int32} {iv : Nat → Int32} {av : Nat → Nat → Int32} (K : CR M n ct tg Bn cn rq ln rt tx iv av) (l u y : Int32) (h : ¬ (0 ≤ l ∧ l < nI ln)) : xCl (d + 2) k_L_extend [.ref (ct 0), .int l, .int u, .int y] (M, n, sl) (.inr "java/lang/IndexOutOfBoundsException", (M, n + 1, sl + 6)) := by
  show xEv _ k_L_extend 0 [some (.ref (ct 0)), some (.int l), some (.int u), some (.int y), none, none] [] _ _
  refine ev_aload_n d_L_extend_0 rfl ?_
  refine ev_iload_n d_L_extend_1 rfl ?_
  exact ev_v1t d_L_extend_2 q_0_149 rfl K.lt ⟨rfl, Nat.le_of_ble_eq_true rfl, Nat.le_of_ble_eq_true rfl⟩ (c_L_loanOf_no K _ h)
set_option maxRecDepth 20000 in
theorem c_L_extend_no {d : Nat} {M : xMm} {n sl : Nat} {ct : Nat → Nat} {tg : Nat → Option Nat} {Bn : xMm} {cn rq ln : Nat} {rt : Nat → Nat → Option Nat} {tx : Nat → List Int32} {iv : Nat → Int32} {av : Nat → Nat → Int32} (K : CR M n ct tg Bn cn rq ln rt tx iv av) (l : Nat) (hl : l < ln) (u y : Int32) (h : ¬ ((0 ≤ u ∧ u ≤ 100000) ∧ 0 ≤ y ∧ y ≤ 100000)) : xCl (d + 2) k_L_extend [.ref (ct 0), .int (nI l), .int u, .int y] (M, n, sl) (.inr "java/lang/IllegalArgumentException", (M, n + 1, sl + 6)) := by
  show xEv _ k_L_extend 0 [some (.ref (ct 0)), some (.int (nI l)), some (.int u), some (.int y), none, none] [] _ _
  refine ev_aload_n d_L_extend_0 rfl ?_
  refine ev_iload_n d_L_extend_1 rfl ?_
  refine ev_v1r d_L_extend_2 q_0_149 rfl K.lt ⟨rfl, Nat.le_of_ble_eq_true rfl, Nat.le_of_ble_eq_true rfl⟩ (c_L_loanOf_ok K l hl) ?_
  refine ev_astore (lo1 := [some (.ref (ct 0)), some (.int (nI l)), some (.int u), some (.int y), some (.ref (ct (100 + 5 * l))), none]) d_L_extend_5 (Nat.le_of_ble_eq_true rfl) rfl ?_
  refine ev_iload_n d_L_extend_7 rfl ?_
  refine ev_s1r d_L_extend_8 q_0_202 rfl ⟨rfl, Nat.le_of_ble_eq_true rfl, Nat.le_of_ble_eq_true rfl⟩ (c_L_isDay _) ?_
  refine ev_if_eq (t := 21) d_L_extend_11 (by decide) (fun c_11_1 => ?_) (fun c_11_1 => ?_)
  · exact ev_throw d_L_extend_21 rfl (Nat.le_of_ble_eq_true rfl)
  · refine ev_iload_n d_L_extend_14 rfl ?_
    refine ev_s1r d_L_extend_15 q_0_202 rfl ⟨rfl, Nat.le_of_ble_eq_true rfl, Nat.le_of_ble_eq_true rfl⟩ (c_L_isDay _) ?_
    refine ev_if_ne (t := 31) d_L_extend_18 (by decide) (fun c_18 => absurd c_18 (by grind [xbi])) (fun _ => ?_)
    exact ev_throw d_L_extend_21 rfl (Nat.le_of_ble_eq_true rfl)
set_option maxRecDepth 20000 in
theorem c_L_extend_1 {d : Nat} {M : xMm} {n sl : Nat} {ct : Nat → Nat} {tg : Nat → Option Nat} {Bn : xMm} {cn rq ln : Nat} {rt : Nat → Nat → Option Nat} {tx : Nat → List Int32} {iv : Nat → Int32} {av : Nat → Nat → Int32} (K : CR M n ct tg Bn cn rq ln rt tx iv av) (l : Nat) (hl : l < ln) (u y : Int32) (h : ((0 ≤ u ∧ u ≤ 100000) ∧ 0 ≤ y ∧ y ≤ 100000)) (h1 : av 27 l < y) : xCl (d + 2) k_L_extend [.ref (ct 0), .int (nI l), .int u, .int y] (M, n, sl) (.inl (some (.int 1)), (M, n, sl)) := by
  show xEv _ k_L_extend 0 [some (.ref (ct 0)), some (.int (nI l)), some (.int u), some (.int y), none, none] [] _ _
  refine ev_aload_n d_L_extend_0 rfl ?_
  refine ev_iload_n d_L_extend_1 rfl ?_
  refine ev_v1r d_L_extend_2 q_0_149 rfl K.lt ⟨rfl, Nat.le_of_ble_eq_true rfl, Nat.le_of_ble_eq_true rfl⟩ (c_L_loanOf_ok K l hl) ?_
  refine ev_astore (lo1 := [some (.ref (ct 0)), some (.int (nI l)), some (.int u), some (.int y), some (.ref (ct (100 + 5 * l))), none]) d_L_extend_5 (Nat.le_of_ble_eq_true rfl) rfl ?_
  refine ev_iload_n d_L_extend_7 rfl ?_
  refine ev_s1r d_L_extend_8 q_0_202 rfl ⟨rfl, Nat.le_of_ble_eq_true rfl, Nat.le_of_ble_eq_true rfl⟩ (c_L_isDay _) ?_
  refine ev_if_eq (t := 21) d_L_extend_11 (by decide) (fun c_11 => absurd c_11 (by rw [xbi_t h.1]; decide)) (fun _ => ?_)
  refine ev_iload_n d_L_extend_14 rfl ?_
  refine ev_s1r d_L_extend_15 q_0_202 rfl ⟨rfl, Nat.le_of_ble_eq_true rfl, Nat.le_of_ble_eq_true rfl⟩ (c_L_isDay _) ?_
  refine ev_if_ne (t := 31) d_L_extend_18 (by decide) (fun _ => ?_) (fun c_18 => absurd c_18 (by rw [xbi_t h.2]; decide))
  refine ev_iload_n d_L_extend_31 rfl ?_
  refine ev_aload d_L_extend_32 rfl ?_
  refine ev_get d_L_extend_34 f_0_160 ((K.lon l hl)) rfl ?_
  refine ev_get d_L_extend_37 f_0_207 ((K.lonP l hl)) rfl ?_
  refine ev_icmp_le (t := 45) d_L_extend_40 (by decide) (fun c_40 => absurd c_40 (by grind)) (fun _ => ?_)
  refine ev_iconst (v := 1) d_L_extend_43 rfl ?_
  exact ev_iret d_L_extend_44 rfl
set_option maxRecDepth 20000 in
theorem c_L_extend_2 {d : Nat} {M : xMm} {n sl : Nat} {ct : Nat → Nat} {tg : Nat → Option Nat} {Bn : xMm} {cn rq ln : Nat} {rt : Nat → Nat → Option Nat} {tx : Nat → List Int32} {iv : Nat → Int32} {av : Nat → Nat → Int32} (K : CR M n ct tg Bn cn rq ln rt tx iv av) (l : Nat) (hl : l < ln) (u y : Int32) (h : ((0 ≤ u ∧ u ≤ 100000) ∧ 0 ≤ y ∧ y ≤ 100000)) (h1 : ¬ av 27 l < y) (h2 : u ≤ av 27 l) : xCl (d + 2) k_L_extend [.ref (ct 0), .int (nI l), .int u, .int y] (M, n, sl) (.inl (some (.int 2)), (M, n, sl)) := by
  show xEv _ k_L_extend 0 [some (.ref (ct 0)), some (.int (nI l)), some (.int u), some (.int y), none, none] [] _ _
  refine ev_aload_n d_L_extend_0 rfl ?_
  refine ev_iload_n d_L_extend_1 rfl ?_
  refine ev_v1r d_L_extend_2 q_0_149 rfl K.lt ⟨rfl, Nat.le_of_ble_eq_true rfl, Nat.le_of_ble_eq_true rfl⟩ (c_L_loanOf_ok K l hl) ?_
  refine ev_astore (lo1 := [some (.ref (ct 0)), some (.int (nI l)), some (.int u), some (.int y), some (.ref (ct (100 + 5 * l))), none]) d_L_extend_5 (Nat.le_of_ble_eq_true rfl) rfl ?_
  refine ev_iload_n d_L_extend_7 rfl ?_
  refine ev_s1r d_L_extend_8 q_0_202 rfl ⟨rfl, Nat.le_of_ble_eq_true rfl, Nat.le_of_ble_eq_true rfl⟩ (c_L_isDay _) ?_
  refine ev_if_eq (t := 21) d_L_extend_11 (by decide) (fun c_11 => absurd c_11 (by rw [xbi_t h.1]; decide)) (fun _ => ?_)
  refine ev_iload_n d_L_extend_14 rfl ?_
  refine ev_s1r d_L_extend_15 q_0_202 rfl ⟨rfl, Nat.le_of_ble_eq_true rfl, Nat.le_of_ble_eq_true rfl⟩ (c_L_isDay _) ?_
  refine ev_if_ne (t := 31) d_L_extend_18 (by decide) (fun _ => ?_) (fun c_18 => absurd c_18 (by rw [xbi_t h.2]; decide))
  refine ev_iload_n d_L_extend_31 rfl ?_
  refine ev_aload d_L_extend_32 rfl ?_
  refine ev_get d_L_extend_34 f_0_160 ((K.lon l hl)) rfl ?_
  refine ev_get d_L_extend_37 f_0_207 ((K.lonP l hl)) rfl ?_
  refine ev_icmp_le (t := 45) d_L_extend_40 (by decide) (fun _ => ?_) (fun c_40 => absurd (by grind) c_40)
  refine ev_iload_n d_L_extend_45 rfl ?_
  refine ev_aload d_L_extend_46 rfl ?_
  refine ev_get d_L_extend_48 f_0_160 ((K.lon l hl)) rfl ?_
  refine ev_get d_L_extend_51 f_0_207 ((K.lonP l hl)) rfl ?_
  refine ev_icmp_gt (t := 59) d_L_extend_54 (by decide) (fun c_54 => absurd c_54 (by grind)) (fun _ => ?_)
  refine ev_iconst (v := 2) d_L_extend_57 rfl ?_
  exact ev_iret d_L_extend_58 rfl
set_option maxRecDepth 20000 in
theorem c_L_extend_3 {d : Nat} {M : xMm} {n sl : Nat} {ct : Nat → Nat} {tg : Nat → Option Nat} {Bn : xMm} {cn rq ln : Nat} {rt : Nat → Nat → Option Nat} {tx : Nat → List Int32} {iv : Nat → Int32} {av : Nat → Nat → Int32} (K : CR M n ct tg Bn cn rq ln rt tx iv av) (l : Nat) (hl : l < ln) (u y : Int32) (h : ((0 ≤ u ∧ u ≤ 100000) ∧ 0 ≤ y ∧ y ≤ 100000)) (h1 : ¬ av 27 l < y) (h2 : ¬ u ≤ av 27 l) (ho : anyF (mOut av (av 25 l) (av 26 l) u (nI l)) ln 0 = true) : xCl (d + 2) k_L_extend [.ref (ct 0), .int (nI l), .int u, .int y] (M, n, sl) (.inl (some (.int 3)), ((xset M (n) (.inr (7, [.int (av 25 l), .int (av 26 l), .int u]))), n + 1, sl + 3)) := by
  show xEv _ k_L_extend 0 [some (.ref (ct 0)), some (.int (nI l)), some (.int u), some (.int y), none, none] [] _ _
  refine ev_aload_n d_L_extend_0 rfl ?_
  refine ev_iload_n d_L_extend_1 rfl ?_
  refine ev_v1r d_L_extend_2 q_0_149 rfl K.lt ⟨rfl, Nat.le_of_ble_eq_true rfl, Nat.le_of_ble_eq_true rfl⟩ (c_L_loanOf_ok K l hl) ?_
  refine ev_astore (lo1 := [some (.ref (ct 0)), some (.int (nI l)), some (.int u), some (.int y), some (.ref (ct (100 + 5 * l))), none]) d_L_extend_5 (Nat.le_of_ble_eq_true rfl) rfl ?_
  refine ev_iload_n d_L_extend_7 rfl ?_
  refine ev_s1r d_L_extend_8 q_0_202 rfl ⟨rfl, Nat.le_of_ble_eq_true rfl, Nat.le_of_ble_eq_true rfl⟩ (c_L_isDay _) ?_
  refine ev_if_eq (t := 21) d_L_extend_11 (by decide) (fun c_11 => absurd c_11 (by rw [xbi_t h.1]; decide)) (fun _ => ?_)
  refine ev_iload_n d_L_extend_14 rfl ?_
  refine ev_s1r d_L_extend_15 q_0_202 rfl ⟨rfl, Nat.le_of_ble_eq_true rfl, Nat.le_of_ble_eq_true rfl⟩ (c_L_isDay _) ?_
  refine ev_if_ne (t := 31) d_L_extend_18 (by decide) (fun _ => ?_) (fun c_18 => absurd c_18 (by rw [xbi_t h.2]; decide))
  refine ev_iload_n d_L_extend_31 rfl ?_
  refine ev_aload d_L_extend_32 rfl ?_
  refine ev_get d_L_extend_34 f_0_160 ((K.lon l hl)) rfl ?_
  refine ev_get d_L_extend_37 f_0_207 ((K.lonP l hl)) rfl ?_
  refine ev_icmp_le (t := 45) d_L_extend_40 (by decide) (fun _ => ?_) (fun c_40 => absurd (by grind) c_40)
  refine ev_iload_n d_L_extend_45 rfl ?_
  refine ev_aload d_L_extend_46 rfl ?_
  refine ev_get d_L_extend_48 f_0_160 ((K.lon l hl)) rfl ?_
  refine ev_get d_L_extend_51 f_0_207 ((K.lonP l hl)) rfl ?_
  refine ev_icmp_gt (t := 59) d_L_extend_54 (by decide) (fun _ => ?_) (fun c_54 => absurd (by grind) c_54)
  refine ev_new (S1 := ((xset M (n) (.inr (7, [.int 0, .int 0, .int 0]))), n + 1, sl + 3)) d_L_extend_59 rfl n_0_37 rfl ?_
  dsimp only
  refine ev_dup d_L_extend_62 rfl ?_
  refine ev_aload d_L_extend_63 rfl ?_
  refine ev_get d_L_extend_65 f_0_160 ((xset_ne _ _ (by have h_ := (K.tag (100 + 5 * l) (by unfold lvt; omega)).2; omega)).trans ((K.lon l hl))) rfl ?_
  refine ev_get d_L_extend_68 f_0_210 ((xset_ne _ _ (by have h_ := (K.tag (104 + 5 * l) (by unfold lvt; omega)).2; omega)).trans ((K.lonP l hl))) rfl ?_
  refine ev_aload d_L_extend_71 rfl ?_
  refine ev_get d_L_extend_73 f_0_160 ((xset_ne _ _ (by have h_ := (K.tag (100 + 5 * l) (by unfold lvt; omega)).2; omega)).trans ((K.lon l hl))) rfl ?_
  refine ev_get d_L_extend_76 f_0_213 ((xset_ne _ _ (by have h_ := (K.tag (104 + 5 * l) (by unfold lvt; omega)).2; omega)).trans ((K.lonP l hl))) rfl ?_
  refine ev_iload_n d_L_extend_79 rfl ?_
  refine ev_i3 d_L_extend_80 ⟨_, q_0_139, by decide, by decide⟩ rfl ⟨rfl, Nat.le_of_ble_eq_true rfl, Nat.le_of_ble_eq_true rfl⟩ (c_P_init _ _ _ (xset_self _ _ _)) ?_
  rw [xset_xset]
  refine ev_astore (lo1 := [some (.ref (ct 0)), some (.int (nI l)), some (.int u), some (.int y), some (.ref (ct (100 + 5 * l))), some (.ref (n))]) d_L_extend_83 (Nat.le_of_ble_eq_true rfl) rfl ?_
  refine ev_aload_n d_L_extend_85 rfl ?_
  refine ev_aload d_L_extend_86 rfl ?_
  refine ev_iload_n d_L_extend_88 rfl ?_
  refine ev_v2r d_L_extend_89 q_0_142 rfl ((xset_ne _ _ (by have h_ := (K.tag 0 (by unfold lvt; omega)).2; omega)).trans K.lt) ⟨rfl, Nat.le_of_ble_eq_true rfl, Nat.le_of_ble_eq_true rfl⟩ (c_L_clashesWithLoan (CR_fresh K _) (xset_self _ _ _) (nI l)) ?_
  rw [ho]
  refine ev_if_eq (t := 97) d_L_extend_92 (by decide) (fun c_92 => absurd c_92 (by decide)) (fun _ => ?_)
  refine ev_iconst (v := 3) d_L_extend_95 rfl ?_
  exact ev_iret d_L_extend_96 rfl
set_option maxRecDepth 20000 in
theorem c_L_extend_ok {d : Nat} {M : xMm} {n sl : Nat} {ct : Nat → Nat} {tg : Nat → Option Nat} {Bn : xMm} {cn rq ln : Nat} {rt : Nat → Nat → Option Nat} {tx : Nat → List Int32} {iv : Nat → Int32} {av : Nat → Nat → Int32} (K : CR M n ct tg Bn cn rq ln rt tx iv av) (l : Nat) (hl : l < ln) (u y : Int32) (h : ((0 ≤ u ∧ u ≤ 100000) ∧ 0 ≤ y ∧ y ≤ 100000)) (h1 : ¬ av 27 l < y) (h2 : ¬ u ≤ av 27 l) (ho : anyF (mOut av (av 25 l) (av 26 l) u (nI l)) ln 0 = false) : xCl (d + 2) k_L_extend [.ref (ct 0), .int (nI l), .int u, .int y] (M, n, sl) (.inl (some (.int 0)), ((xset (xset M (n) (.inr (7, [.int (av 25 l), .int (av 26 l), .int u]))) (ct (100 + 5 * l)) (.inr (3, [.ref (ct (200 + 4 * (av 24 l).toNatClampNeg)), .ref (ct (101 + 5 * l)), .ref (ct (102 + 5 * l)), .ref (ct (103 + 5 * l)), .ref n, .int (av 28 l), .int (av 30 l)]))), n + 1, sl + 3)) := by
  show xEv _ k_L_extend 0 [some (.ref (ct 0)), some (.int (nI l)), some (.int u), some (.int y), none, none] [] _ _
  refine ev_aload_n d_L_extend_0 rfl ?_
  refine ev_iload_n d_L_extend_1 rfl ?_
  refine ev_v1r d_L_extend_2 q_0_149 rfl K.lt ⟨rfl, Nat.le_of_ble_eq_true rfl, Nat.le_of_ble_eq_true rfl⟩ (c_L_loanOf_ok K l hl) ?_
  refine ev_astore (lo1 := [some (.ref (ct 0)), some (.int (nI l)), some (.int u), some (.int y), some (.ref (ct (100 + 5 * l))), none]) d_L_extend_5 (Nat.le_of_ble_eq_true rfl) rfl ?_
  refine ev_iload_n d_L_extend_7 rfl ?_
  refine ev_s1r d_L_extend_8 q_0_202 rfl ⟨rfl, Nat.le_of_ble_eq_true rfl, Nat.le_of_ble_eq_true rfl⟩ (c_L_isDay _) ?_
  refine ev_if_eq (t := 21) d_L_extend_11 (by decide) (fun c_11 => absurd c_11 (by rw [xbi_t h.1]; decide)) (fun _ => ?_)
  refine ev_iload_n d_L_extend_14 rfl ?_
  refine ev_s1r d_L_extend_15 q_0_202 rfl ⟨rfl, Nat.le_of_ble_eq_true rfl, Nat.le_of_ble_eq_true rfl⟩ (c_L_isDay _) ?_
  refine ev_if_ne (t := 31) d_L_extend_18 (by decide) (fun _ => ?_) (fun c_18 => absurd c_18 (by rw [xbi_t h.2]; decide))
  refine ev_iload_n d_L_extend_31 rfl ?_
  refine ev_aload d_L_extend_32 rfl ?_
  refine ev_get d_L_extend_34 f_0_160 ((K.lon l hl)) rfl ?_
  refine ev_get d_L_extend_37 f_0_207 ((K.lonP l hl)) rfl ?_
  refine ev_icmp_le (t := 45) d_L_extend_40 (by decide) (fun _ => ?_) (fun c_40 => absurd (by grind) c_40)
  refine ev_iload_n d_L_extend_45 rfl ?_
  refine ev_aload d_L_extend_46 rfl ?_
  refine ev_get d_L_extend_48 f_0_160 ((K.lon l hl)) rfl ?_
  refine ev_get d_L_extend_51 f_0_207 ((K.lonP l hl)) rfl ?_
  refine ev_icmp_gt (t := 59) d_L_extend_54 (by decide) (fun _ => ?_) (fun c_54 => absurd (by grind) c_54)
  refine ev_new (S1 := ((xset M (n) (.inr (7, [.int 0, .int 0, .int 0]))), n + 1, sl + 3)) d_L_extend_59 rfl n_0_37 rfl ?_
  dsimp only
  refine ev_dup d_L_extend_62 rfl ?_
  refine ev_aload d_L_extend_63 rfl ?_
  refine ev_get d_L_extend_65 f_0_160 ((xset_ne _ _ (by have h_ := (K.tag (100 + 5 * l) (by unfold lvt; omega)).2; omega)).trans ((K.lon l hl))) rfl ?_
  refine ev_get d_L_extend_68 f_0_210 ((xset_ne _ _ (by have h_ := (K.tag (104 + 5 * l) (by unfold lvt; omega)).2; omega)).trans ((K.lonP l hl))) rfl ?_
  refine ev_aload d_L_extend_71 rfl ?_
  refine ev_get d_L_extend_73 f_0_160 ((xset_ne _ _ (by have h_ := (K.tag (100 + 5 * l) (by unfold lvt; omega)).2; omega)).trans ((K.lon l hl))) rfl ?_
  refine ev_get d_L_extend_76 f_0_213 ((xset_ne _ _ (by have h_ := (K.tag (104 + 5 * l) (by unfold lvt; omega)).2; omega)).trans ((K.lonP l hl))) rfl ?_
  refine ev_iload_n d_L_extend_79 rfl ?_
  refine ev_i3 d_L_extend_80 ⟨_, q_0_139, by decide, by decide⟩ rfl ⟨rfl, Nat.le_of_ble_eq_true rfl, Nat.le_of_ble_eq_true rfl⟩ (c_P_init _ _ _ (xset_self _ _ _)) ?_
  rw [xset_xset]
  refine ev_astore (lo1 := [some (.ref (ct 0)), some (.int (nI l)), some (.int u), some (.int y), some (.ref (ct (100 + 5 * l))), some (.ref (n))]) d_L_extend_83 (Nat.le_of_ble_eq_true rfl) rfl ?_
  refine ev_aload_n d_L_extend_85 rfl ?_
  refine ev_aload d_L_extend_86 rfl ?_
  refine ev_iload_n d_L_extend_88 rfl ?_
  refine ev_v2r d_L_extend_89 q_0_142 rfl ((xset_ne _ _ (by have h_ := (K.tag 0 (by unfold lvt; omega)).2; omega)).trans K.lt) ⟨rfl, Nat.le_of_ble_eq_true rfl, Nat.le_of_ble_eq_true rfl⟩ (c_L_clashesWithLoan (CR_fresh K _) (xset_self _ _ _) (nI l)) ?_
  rw [ho]
  refine ev_if_eq (t := 97) d_L_extend_92 (by decide) (fun _ => ?_) (fun c_92 => absurd rfl c_92)
  refine ev_aload d_L_extend_97 rfl ?_
  refine ev_aload d_L_extend_99 rfl ?_
  refine ev_put (M1 := (xset (xset M (n) (.inr (7, [.int (av 25 l), .int (av 26 l), .int u]))) (ct (100 + 5 * l)) (.inr (3, [.ref (ct (200 + 4 * (av 24 l).toNatClampNeg)), .ref (ct (101 + 5 * l)), .ref (ct (102 + 5 * l)), .ref (ct (103 + 5 * l)), .ref (n), .int (av 28 l), .int (av 30 l)])))) d_L_extend_101 f_0_160 ((xset_ne _ _ (by have h_ := (K.tag (100 + 5 * l) (by unfold lvt; omega)).2; omega)).trans ((K.lon l hl))) ⟨Nat.le_of_ble_eq_true rfl, (xfit_v rfl rfl rfl), Or.inl rfl⟩ rfl ?_
  refine ev_iconst (v := 0) d_L_extend_104 rfl ?_
  exact ev_iret d_L_extend_105 rfl
