/-! the start -/
theorem mks_len : mks.length = 30 := by decide
theorem VI_0 : VI (fun _ => none) 0 0 (fun _ _ => none) (fun _ => []) (fun _ => 0) avI := by
  refine ⟨⟨0, by omega, rfl⟩, fun q _ => ⟨0, by omega, rfl⟩, fun l h => by omega, fun l _ _ => ⟨rfl, rfl, fun _ _ => rfl, fun _ _ => rfl, fun _ _ => rfl⟩, fun c h => by omega⟩
theorem LI_0 {M1 : xMm} {n a : Nat} (hn : a < n) (K : CR M1 (n + 32) (ctI a n) (tgI a n) (fun _ => none) 0 0 0 (fun _ _ => none) (fun _ => []) (fun _ => 0) avI) (e : xE) : LI (xset (mM M1 (mad (n + 32) (n + 33)) (mix (n + 32) (n + 33)) (fun _ => 0) avI) (n + 63) e) (n + 64) a (n + 32) (n + 63) := by
  have ok := mad_ok (a := n + 32) (n := n + 33) (by omega)
  have hx : ∀ q, mix (n + 32) (n + 33) q ≠ none → n + 32 ≤ q ∧ q < n + 63 := fun q hq => by
    unfold mix at hq
    by_cases e1 : q = n + 32
    · omega
    · rw [if_neg e1] at hq
      by_cases e2 : n + 33 ≤ q
      · rw [if_pos e2] at hq
        have : q - (n + 33) < mks.length := by
          rcases Nat.lt_or_ge (q - (n + 33)) mks.length with g | g
          · exact g
          · exact absurd (List.getElem?_eq_none g) hq
        rw [mks_len] at this
        omega
      · rw [if_neg e2] at hq
        exact absurd rfl hq
  have ht : ∀ q, n + 32 ≤ q → tgI a n q = none := fun q hq => by
    unfold tgI
    rw [if_neg (by omega), if_neg (by omega), if_neg (by omega)]
  have K2 : CR M1 (n + 64) (ctI a n) (tgI a n) (fun _ => none) 0 0 0 (fun _ _ => none) (fun _ => []) (fun _ => 0) avI := CR_sz K (fun a ha => Nat.lt_of_lt_of_le (K.tgo a ha) (by omega))
  have K3 := CR_mM K2 (mad (n + 32) (n + 33)) (mx := mix (n + 32) (n + 33)) (fun q => by
    by_cases g : mix (n + 32) (n + 33) q = none
    · exact Or.inl g
    · exact Or.inr (ht q (hx q g).1)) (fun _ => 0) avI
  have K4 : CR (xset (mM M1 (mad (n + 32) (n + 33)) (mix (n + 32) (n + 33)) (fun _ => 0) avI) (n + 63) e) (n + 64) (ctI a n) (tgI a n) (fun _ => none) 0 0 0 (fun _ _ => none) (fun _ => []) (fun _ => 0) avI := CR_un K3 (fun x g => xset_ne _ _ (fun e2 => g (by rw [e2]; exact ht _ (by omega))))
  have hou : mix (n + 32) (n + 33) (n + 63) = none := by
    by_cases g : mix (n + 32) (n + 33) (n + 63) = none
    · exact g
    · have := (hx _ g).2
      omega
  refine ⟨_, _, _, _, _, _, _, _, _, _, mad (n + 32) (n + 33), mix (n + 32) (n + 33), rfl, if_pos rfl, ⟨K4, ok, mM_self (fun q hq => ?_), fun q hq => ⟨by have := (hx q hq).2; omega, ht q (hx q hq).1⟩, by omega, ht _ (by omega), hou⟩, VI_0⟩
  rw [xset_ne _ _ (by have := (hx q hq).2; omega)]
  exact mM_base hq
