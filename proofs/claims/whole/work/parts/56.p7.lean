/-! what build makes of a good text -/
theorem XT.triv {av : Nat → Nat → Int32} {c N : Nat} (h : N ≤ 160) : XT av av c 0 N N := ⟨Nat.le_refl _, h, fun _ _ _ _ _ _ => rfl, fun j h1 h2 => by omega⟩
theorem pC_ne (s : Nat → Int32) (len : Nat) : ∀ kk p q Ds, pC s len kk p = (q, some Ds) → Ds.length ≤ kk
  | 0, p, q, Ds, h => by cases h
  | kk + 1, p, q, Ds, h => by
    rw [pC] at h
    split at h
    · split at h
      · cases h
        simp
      · split at h
        · split at h
          · rename_i e
            cases h
            have := pC_ne s len kk _ _ _ e
            simp
            omega
          · cases h
        · cases h
    · cases h
theorem build_ok {d : Nat} {B : xMm} {ad : Nat → Nat} {ix : Nat → Option Nat} {iv : Nat → Int32} {ns : Nat × Nat} {c pn : Nat} (hC : bC ad ix iv c pn) (av : Nat → Nat → Int32) {Ds : List Den} (h : pC (av 2) pn 6 0 = (pn, some Ds)) :
    ∃ (av1 : Nat → Nat → Int32) (N : Nat), xCl (d + 2) k_M_build [.ref (ad 0), .int (nI c)] (mM B ad ix iv av, ns) (.inl none, (mM B ad ix iv av1, ns)) ∧ (∀ k, (k < 4 ∨ 12 < k) → av1 k = av k) ∧ (∀ x, x ≠ c → av1 4 x = av 4 x ∧ av1 6 x = av 6 x) ∧ (∀ x, (x < 6 * c ∨ 6 * c + 6 ≤ x) → av1 5 x = av 5 x) ∧ (∀ k x, 7 ≤ k → k ≤ 12 → (x < 160 * c ∨ 160 * c + 160 ≤ x) → av1 k x = av k x) ∧ av1 6 c = nI N ∧ av1 4 c = nI Ds.length ∧ N ≤ 150 ∧ (∀ t, t < Ds.length → ∃ (r : Nat) (D : Den), av1 5 (6 * c + t) = nI r ∧ r < N ∧ Ds[t]? = some D ∧ NX av1 c 0 N r D) ∧ GX av1 c 0 N := by
  obtain ⟨ok, hc, hpn, hp⟩ := hC
  have hC : bC ad ix iv c pn := ⟨ok, hc, hpn, hp⟩
  have n0 := nod_at (va_up (va_up av 6 (upd (av 6) c 0)) 4 (upd (av 4) c 1)) c 0 2 (-1)
  have n1 := nod_at (nod (va_up (va_up av 6 (upd (av 6) c 0)) 4 (upd (av 4) c 1)) c 0 2 (-1)) c 1 1 (nI 0)
  have k5 : ∀ k, k ≠ 5 → ∀ (f : Nat → Nat → Int32) g, va_up f 5 g k = f k := fun k hk f g => va_up_ne _ _ hk
  have st : ∀ k x, 7 ≤ k → k ≤ 12 → x ≠ 160 * c → x ≠ 160 * c + 1 → (va_up (nod (nod (va_up (va_up av 6 (upd (av 6) c 0)) 4 (upd (av 4) c 1)) c 0 2 (-1)) c 1 1 (nI 0)) 5 (upd (av 5) (6 * c) 0)) k x = av k x := by
    intro k x h1 h2 h3 h4
    rw [k5 k (by omega), nod_no h1 h2 h4, nod_no h1 h2 h3, va_up_ne _ _ (by omega), va_up_ne _ _ (by omega)]
  obtain ⟨av1, N1, lf1, pt1, g1, g2, g3, g4, g5, g6, g7, g8, g9, g10, g11, g12⟩ := bb_con (d := d) (B := B) (ns := ns) hC 6 0 pn Ds (by omega) h (va_up (nod (nod (va_up (va_up av 6 (upd (av 6) c 0)) 4 (upd (av 4) c 1)) c 0 2 (-1)) c 1 1 (nI 0)) 5 (upd (av 5) (6 * c) 0)) 0 0 (-1) (by rw [k5 2 (by omega), nod_ne (by omega), nod_ne (by omega), va_up_ne _ _ (by omega), va_up_ne _ _ (by omega)]) (by rw [k5 6 (by omega), nod_6]; simp [upd]) (by omega) (by rw [k5 7 (by omega), nod_no (by omega) (by omega) (by omega)]; exact n0.1) (by rw [k5 9 (by omega), nod_no (by omega) (by omega) (by omega)]; exact n0.2.2.1) (by rw [k5 12 (by omega), nod_no (by omega) (by omega) (by omega)]; exact n0.2.2.2.2.2) (by rw [k5 7 (by omega)]; exact n1.1) (by rw [k5 8 (by omega)]; exact n1.2.1) (by rw [k5 9 (by omega)]; exact n1.2.2.1) (by rw [k5 12 (by omega)]; exact n1.2.2.2.2.2) (by omega) (by rw [k5 4 (by omega), nod_ne (by omega), nod_ne (by omega), va_up_self]; simp [upd]; rfl) (by rw [va_up_self]; simp [upd]; rfl)
  refine ⟨av1, N1, ?_, fun k hk => ?_, fun x hx => ⟨?_, ?_⟩, fun x hx => ?_, fun k x h1 h2 h3 => ?_, g5, by rw [g6]; congr 1; omega, g8, fun t ht => ?_, g11⟩
  · exact b_beg ok c hc (g12 _ (fun o6 o7 o8 => b_fin ok c pn hpn hp _ _ _ o6 o7 o8) none none none)
  · rw [g1 k hk, k5 k (by omega), nod_ne (by omega), nod_ne (by omega), va_up_ne _ _ (by omega), va_up_ne _ _ (by omega)]
  · rw [(g2 x hx).1, k5 4 (by omega), nod_ne (by omega), nod_ne (by omega), va_up_self]; simp [upd, hx]
  · rw [(g2 x hx).2, k5 6 (by omega), nod_6, nod_6, va_up_ne _ _ (by omega), va_up_self]; simp [upd, hx]
  · rw [g3 x (by omega), va_up_self]
    have : x ≠ 6 * c := by omega
    simp [upd, this]
  · rw [g4 k x h1 h2 (by omega)]; exact st k x h1 h2 (by omega) (by omega)
  · obtain ⟨r, D, e1, e2, e3, e4⟩ := g10 t ht
    exact ⟨r, D, by rw [← e1]; congr 1; omega, e2, e3, e4⟩
