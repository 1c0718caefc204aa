/-! one call at a time: letter, written, read -/
theorem fee_n {av : Nat → Nat → Int32} {l c fi la mn tn : Nat} (h27 : av 27 l = nI la) (h26 : av 26 l = nI fi) (h4 : av 4 c = nI mn) (h30 : av 30 l = nI tn) (hle : fi ≤ la) : 5 * (av 27 l - av 26 l + 1) + 20 * av 4 c + (if av 28 l = 0 then 300 else 0) + 50 * av 30 l = nI (5 * (la - fi + 1) + 20 * mn + (if av 28 l = 0 then 300 else 0) + 50 * tn) := by
  rw [h27, h26, h4, h30, pk_sub hle, show (1 : Int32) = nI 1 from rfl, nI_add, show (5 : Int32) = nI 5 from rfl, pk_mul, show (20 : Int32) = nI 20 from rfl, pk_mul, nI_add, show (50 : Int32) = nI 50 from rfl, pk_mul]
  split
  · rw [show (300 : Int32) = nI 300 from rfl, nI_add, nI_add]
  · rw [show (0 : Int32) = nI 0 from rfl, nI_add, nI_add]
theorem s_letter (l i : Int32) : STP false [(eB, 1)] k_L_letter k_M_letter [.int l, .int i] := by
  intro M n sl a0 m0 ou hLI
  obtain ⟨ct, tg, Bn, cn, rq, ln, rt, tx, iv, av, md, mx, rfl, rfl, L, V⟩ := hLI
  have ok := L.2.1
  have hk := L.1.cnt
  by_cases h0 : 0 ≤ l ∧ l < nI ln
  · have h0' : 0 ≤ l ∧ l < iv 23 := by rw [hk.2.2.2.2.2]; exact h0
    obtain ⟨j, hj, rfl⟩ := nI_ix (by omega) h0
    obtain ⟨c0, th, fi, la, tn, g1, g2, g3, g4, g5, g6, g7, g8, g9, g10, g11, g12⟩ := V.2.2.1 j hj
    obtain ⟨Ds, N, q1, q2, -⟩ := V.2.2.2.2 c0 g1
    have hcl : (av 24 j).toNatClampNeg = c0 := by rw [g2, nI_clamp (by omega)]
    obtain ⟨tt, ht1, ht2⟩ : ∃ tt : Nat → Nat, (∀ k, tt k < 10) ∧ ∀ k, k < tn → av 32 (100 * j + k) = nI (tt k) := by
      refine ⟨fun k => if h : k < tn then Classical.choose (g12 k h) else 0, fun k => ?_, fun k hk => ?_⟩
      · dsimp only
        split
        · rename_i h
          have := (Classical.choose_spec (g12 k h)).1
          omega
        · omega
      · dsimp only
        rw [dif_pos hk]
        exact (Classical.choose_spec (g12 k hk)).2
    have hfe := fee_n g8 g7 q2 g11 g5
    have hf6 : 5 * (la - fi + 1) + 20 * Ds.length + (if av 28 j = 0 then 300 else 0) + 50 * tn < 1000000 := by split <;> omega
    generalize 5 * (la - fi + 1) + 20 * Ds.length + (if av 28 j = 0 then 300 else 0) + 50 * tn = fe at hfe hf6
    have hfl : fi < 1000000 ∧ la < 1000000 := by omega
    have hlen := ltr_len (l := j) (th := th) (fi := fi) (la := la) (fe := fe) (tt := tt) (n := tn) (by omega) g3 ht1 g10
    obtain ⟨z, f, e3, e4⟩ := L.1.lets
    have hfe' : 5 * (av 27 j - av 26 j + 1) + 20 * av 4 (av 24 j).toNatClampNeg + (if av 28 j = 0 then 300 else 0) + 50 * av 30 j = nI fe := by rw [hcl]; exact hfe
    have hfr : ∀ w x, x < n → tg x = none → rowM M (ct 3) (ct 4) f w x = M x := fun w x _ hx => by
      unfold rowM
      rw [xset_ne _ _ (L.1.xn hx (by unfold lvt; omega)), xset_ne _ _ (L.1.xn hx (by unfold lvt; omega))]
    have sc1 : ∀ (w : List Int32) (x : Int32), (upd (wI iv w) 0 x) 1 = iv 1 ∧ (upd (wI iv w) 0 x) 3 = iv 3 ∧ (upd (wI iv w) 0 x) 23 = iv 23 ∧ (upd (wI iv w) 0 x) 33 = iv 33 := fun w x => by simp [wI, upd]
    have sc2 : ∀ (w : List Int32) k, k ≠ 13 → k ≠ 14 → k ≠ 16 → (wA av w) k = av k := fun w k _ _ h => va_up_ne _ _ h
    by_cases h1 : -1 ≤ i ∧ i < nI (ltr j th fi la fe tt tn).length
    · refine spc_of (hth := fun _ h => by cases h) L (c_L_letter_ok L.1 j tn hj tt ht1 g10 g11 ht2 f th fi la (by rw [hcl]; exact g1) g4 g3 g7 g8 hfl fe hfe' hf6 z e3 e4 i h1) (by omega) (CR_letter L.1 f _) rfl (hfr _) (fun _ _ => rfl) (fun B ns => ?_) (iv3 := upd (wI iv (ltr j th fi la fe tt tn)) 0 0) (av3 := wA av (ltr j th fi la fe tt tn)) (sc1 _ _) (sc2 _) (Or.inl ⟨by simp [upd], Or.inr ⟨rfl, _, rfl, rfl⟩⟩) V
      by_cases h2 : i = -1
      · rw [if_pos h2]
        exact c_M_letter_n ok i j tn tt (by omega) ht1 g10 g11 ht2 c0 th fi la (by omega) g2 g4 g3 g7 g8 hfl fe hfe hf6 h0' h2
      · obtain ⟨q, hq, e⟩ := nI_ix (l := i) (k := (ltr j th fi la fe tt tn).length) (by omega) ⟨by grind, h1.2⟩
        rw [if_neg h2]
        have hs : (ltr j th fi la fe tt tn)[q]? = some ((ltr j th fi la fe tt tn)[q]) := List.getElem?_eq_getElem hq
        rw [show i.toNatClampNeg = q by rw [e, nI_clamp (by omega)], wrF_at hs]
        exact c_M_letter_s ok i j tn tt (by omega) ht1 g10 g11 ht2 c0 th fi la (by omega) g2 g4 g3 g7 g8 hfl fe hfe hf6 h0' q _ e hs
    · have hc := c_L_letter_no (d := 598) (sl := sl) L.1 j tn hj tt ht1 g10 g11 ht2 f th fi la (by rw [hcl]; exact g1) g4 g3 g7 g8 hfl fe hfe' hf6 z e3 e4 i h1
      by_cases h2 : -1 ≤ i
      · exact spc_of (hth := fun _ _ => L.1.tgo) L hc (by omega) (CR_waste (CR_letter L.1 f _)) rfl (hfr _) (fun _ _ => rfl) (fun B ns => c_M_letter_no2 ok i j tn tt (by omega) ht1 g10 g11 ht2 c0 th fi la (by omega) g2 g4 g3 g7 g8 hfl fe hfe hf6 ⟨h0', h2⟩ (fun g => h1 ⟨h2, g⟩)) (sc1 _ _) (sc2 _) (Or.inr ⟨_, rfl, by simp [upd], Or.inr ⟨rfl, _, rfl⟩⟩) V
      · exact spc_of (hth := fun _ _ => L.1.tgo) L hc (by omega) (CR_waste (CR_letter L.1 f _)) rfl (hfr _) (fun _ _ => rfl) (fun B ns => c_M_letter_no1 ok _ i (fun g => h2 g.2)) ⟨rfl, rfl, rfl, rfl⟩ (fun _ _ _ _ => rfl) (Or.inr ⟨_, rfl, by simp [upd], Or.inr ⟨rfl, _, rfl⟩⟩) V
  · have h0' : ¬ (0 ≤ l ∧ l < iv 23) := by rw [hk.2.2.2.2.2]; exact h0
    exact spc_no L V (c_L_letter_no0 L.1 l i h0) (fun B ns => c_M_letter_no1 ok l i (fun g => h0' g.1)) rfl (by simp)
theorem mWt_tx {W : Nat → List Int32} {ro : Nat → Nat} : ∀ (Ds : List Den) (t0 : Nat), (∀ t, t < Ds.length → ∃ D, Ds[t]? = some D ∧ W (ro (t0 + t)) = D.2) → mWt W ro Ds.length t0 = txS Ds
  | [], _, _ => rfl
  | D :: Ds, t0, h => by
    obtain ⟨D1, e1, e2⟩ := h 0 (by simp)
    cases e1
    show W (ro t0) ++ [59] ++ mWt W ro Ds.length (t0 + 1) = D.2 ++ [59] ++ txS Ds
    rw [show W (ro t0) = D.2 from e2, mWt_tx Ds (t0 + 1) (fun t ht => by
      obtain ⟨D2, a, b⟩ := h (t + 1) (by simp; omega)
      exact ⟨D2, by simpa using a, by rw [← b]; congr 2; omega⟩)]
theorem s_written (c i : Int32) : STP false [(eB, 1)] k_L_written k_M_written [.int c, .int i] := by
  intro M n sl a0 m0 ou hLI
  obtain ⟨ct, tg, Bn, cn, rq, ln, rt, tx, iv, av, md, mx, rfl, rfl, L, V⟩ := hLI
  have ok := L.2.1
  have hk := L.1.cnt
  by_cases h0 : 0 ≤ c ∧ c < nI cn
  · have h0' : 0 ≤ c ∧ c < iv 3 := by rw [hk.2.2.2.1]; exact h0
    obtain ⟨j, hj, rfl⟩ := nI_ix (by omega) h0
    obtain ⟨Ds, N, q1, q2, q3, q4, q5, q6, q7, q8⟩ := V.2.2.2.2 j hj
    have hG : mGood av j N := fun k hk => by
      obtain ⟨⟨tu, a1, a2⟩, ⟨nu, b1, b2⟩, g⟩ := q5 av N (XT.triv (by omega)) k (by omega) hk
      refine ⟨⟨tu, by omega, a2⟩, ⟨nu, b1, b2⟩, ?_⟩
      rcases g with g | ⟨g, g2⟩
      · exact Or.inl g.1
      · refine Or.inr ⟨?_, ?_, ?_⟩
        · rcases g with g | g <;> rw [g] <;> decide
        · rcases g with g | g <;> rw [g] <;> decide
        · rw [(mX_chs av j k (fun _ => []) (N - 1 - k)).2]
          exact List.length_pos_iff.mpr g2
    have hex : ∃ ro : Nat → Nat, ∀ t, t < Ds.length → ∃ D, Ds[t]? = some D ∧ ro t < N ∧ av 5 (6 * j + t) = nI (ro t) ∧ NR av j N (ro t) D := by
      refine ⟨fun t => if h : t < Ds.length then Classical.choose (q8 t h) else 0, fun t ht => ?_⟩
      obtain ⟨a, D, e1, e2, e3, e4, e5, e6⟩ := Classical.choose_spec (q8 t ht)
      dsimp only
      rw [dif_pos ht]
      exact ⟨D, e1, e2, e3, e4 av N (XT.triv (by omega))⟩
    obtain ⟨ro, hro⟩ := hex
    have hro2 : ∀ t, t < Ds.length → ro t < N ∧ av 5 (6 * j + t) = nI (ro t) := fun t ht => by
      obtain ⟨D, e1, e2, e3, e4⟩ := hro t ht
      exact ⟨e2, e3⟩
    have hT : mWt (mW av j N N) ro Ds.length 0 = tx j := by
      rw [q6]
      refine mWt_tx Ds 0 (fun t ht => ?_)
      obtain ⟨D, e1, e2, e3, e4⟩ := hro t ht
      exact ⟨D, e1, by rw [Nat.zero_add]; exact e4.2.1 N (by omega)⟩
    have hw : (mWt (mW av j N N) ro Ds.length 0).length ≤ 400 := by rw [hT]; omega
    have hsc : ∀ (x' : Int32) (g' : Nat → Int32) (w : List Int32) (y : Int32), CR M n ct tg Bn cn rq ln rt tx (upd (wI (upd iv 15 x') w) 0 y) (wA (va_up av 14 g') w) ∧ VI Bn cn ln rt tx (upd (wI (upd iv 15 x') w) 0 y) (wA (va_up av 14 g') w) := fun x' g' w y => by
      have a1 : (upd (wI (upd iv 15 x') w) 0 y) 1 = iv 1 ∧ (upd (wI (upd iv 15 x') w) 0 y) 3 = iv 3 ∧ (upd (wI (upd iv 15 x') w) 0 y) 23 = iv 23 ∧ (upd (wI (upd iv 15 x') w) 0 y) 33 = iv 33 := by simp [wI, upd]
      have a2 : ∀ k, k ≠ 13 → k ≠ 14 → k ≠ 16 → (wA (va_up av 14 g') w) k = av k := fun k _ b1 b2 => (va_up_ne _ _ b2).trans (va_up_ne _ _ b1)
      exact ⟨CR_scr L.1 _ _ a1 a2, V.scr a1.1 a2⟩
    by_cases h1 : -1 ≤ i ∧ i < nI (tx j).length
    · refine spc_gen (hth := fun _ h => by cases h) (ct2 := ct) (tg2 := tg) (Bn2 := Bn) (cn2 := cn) (rq2 := rq) (ln2 := ln) (rt2 := rt) (tx2 := tx) L (c_L_written_ok L.1 j i hj q7 h1) (by omega) rfl (fun _ _ _ => rfl) (fun _ _ => rfl) (code := 0) (Or.inl ⟨rfl, Or.inr ⟨rfl, _, rfl, rfl⟩⟩) (fun B ns => ?_)
      by_cases h2 : i = -1
      · rw [if_pos h2]
        obtain ⟨x', g', hx⟩ := c_M_written_n (d := 597) (B := B) (ns := ns) (iv := iv) ok i j N Ds.length (by omega) (by omega) q4 hG q1 q2 ro hro2 hw h0' h2
        rw [hT] at hx
        exact ⟨_, _, hx, (hsc _ _ _ _).1, (hsc _ _ _ _).2, by simp [upd]⟩
      · obtain ⟨q, hq, e⟩ := nI_ix (l := i) (k := (tx j).length) (by omega) ⟨by grind, h1.2⟩
        have hs : (tx j)[q]? = some ((tx j)[q]) := List.getElem?_eq_getElem hq
        rw [if_neg h2, show i.toNatClampNeg = q by rw [e, nI_clamp (by omega)], wrF_at hs]
        obtain ⟨x', g', hx⟩ := c_M_written_s (d := 597) (B := B) (ns := ns) (iv := iv) ok i j N Ds.length (by omega) (by omega) q4 hG q1 q2 ro hro2 hw h0' q _ e (by rw [hT]; exact hs)
        exact ⟨_, _, hx, (hsc _ _ _ _).1, (hsc _ _ _ _).2, by simp [upd]⟩
    · by_cases h2 : -1 ≤ i
      · refine spc_gen (hth := fun _ _ => L.1.tgo) (ct2 := ct) (tg2 := tg) (Bn2 := Bn) (cn2 := cn) (rq2 := rq) (ln2 := ln) (rt2 := rt) (tx2 := tx) L (c_L_written_no L.1 j i hj q7 h1) (by omega) rfl (fun _ _ _ => rfl) (fun _ _ => rfl) (code := 1) (Or.inr ⟨_, rfl, by simp, Or.inr ⟨rfl, 0, rfl⟩⟩) (fun B ns => ?_)
        obtain ⟨x', g', hx⟩ := c_M_written_no2 (d := 597) (B := B) (ns := ns) (iv := iv) ok i j N Ds.length (by omega) (by omega) q4 hG q1 q2 ro hro2 hw ⟨h0', h2⟩ (by rw [hT]; exact fun g => h1 ⟨h2, g⟩)
        exact ⟨_, _, hx, CR_waste (hsc _ _ _ _).1, (hsc _ _ _ _).2, by simp [upd]⟩
      · exact spc_no L V (c_L_written_no L.1 j i hj q7 h1) (fun B ns => c_M_written_no1 ok _ i (fun g => h2 g.2)) rfl (by simp)
  · have h0' : ¬ (0 ≤ c ∧ c < iv 3) := by rw [hk.2.2.2.1]; exact h0
    exact spc_no L V (c_L_written_no0 L.1 c i h0) (fun B ns => c_M_written_no1 ok c i (fun g => h0' g.1)) rfl (by simp)
theorem s_read : STP false [(eS, 1)] k_L_read k_M_read [] := by
  intro M n sl a0 m0 ou hLI
  obtain ⟨ct, tg, Bn, cn, rq, ln, rt, tx, iv, av, md, mx, rfl, rfl, L, V⟩ := hLI
  have ok := L.2.1
  have hk := L.1.cnt
  obtain ⟨⟨pn, hpn, hp⟩, w2, w3, w4, w5⟩ := id V
  by_cases h0 : iv 3 < 8
  · have hcn : cn < 8 := (nI_ltI (b := 8) (by omega) (by decide)).mp (by rw [← hk.2.2.2.1]; exact h0)
    obtain ⟨f1, f2, f3⟩ := fa_eq av pn hpn
    cases hD : (pC (av 2) pn 6 0).2 with
    | none =>
      obtain ⟨M1, n1, sl1, hx, K1, hf, b1, b2, b3⟩ := c_L_read_bad (d := 103) (sl := sl) L.1 pn hpn hp hcn hD
      have hfa := f2 hD
      refine spc_of (hth := fun _ h => by cases h) L hx ⟨b1, by omega, by omega⟩ K1 rfl (fun x a b => hf x a b) (fun _ _ => rfl) (fun B ns => ?_) (iv3 := upd (upd iv 0 0) 1 0) (av3 := av) ⟨rfl, rfl, rfl, rfl⟩ (fun _ _ _ _ => rfl) (Or.inl ⟨by simp [upd], Or.inr ⟨rfl, _, rfl, rfl⟩⟩) (V.keep ⟨0, by omega, by simp [upd]; rfl⟩ (fun _ _ => rfl))
      rw [← hfa]
      exact c_M_read_bad ok pn hpn hp h0 (by rw [hfa]; exact fun g => nI_m1 (by omega) g.symm)
    | some Ds =>
      obtain ⟨e1, e2⟩ := f3 (by rw [hD]; simp)
      have hP : pC (av 2) pn 6 0 = (pn, some Ds) := Prod.ext e2 hD
      have hav : ∀ k, (k < 4 ∨ 12 < k) → (va_up av 4 (upd (av 4) cn (nI Ds.length))) k = av k := fun k hk => va_up_ne _ _ (by omega)
      obtain ⟨M1, n1, sl1, tg2, Bn2, rf1, hx, K1, hf, ht, hb, hts, b1, b2, b3⟩ := c_L_read_ok (d := 103) (sl := sl) L.1 pn hpn hp hcn Ds hD (fun l hl => by
        obtain ⟨c0, th, fi, la, tn, g1, g2, -⟩ := w3 l hl
        rw [g2, nI_clamp (by omega)]
        exact g1) (va_up av 4 (upd (av 4) cn (nI Ds.length))) hav (by rw [va_up_self, upd_at]) (fun c hc => by rw [va_up_self, upd_no _ _ hc])
      refine spc_gen (hth := fun _ h => by cases h) (ct2 := va_up (va_up (va_up (va_up ct (200 + 4 * cn) (n + 1)) (201 + 4 * cn) (n + 2)) (202 + 4 * cn) (n + 3)) (203 + 4 * cn) (n + 4)) (tg2 := tg2) (Bn2 := Bn2) (cn2 := cn + 1) (rq2 := rq) (ln2 := ln) (rt2 := fun c => if c = cn then rf1 else rt c) (tx2 := fun c => if c = cn then txS Ds else tx c) L hx ⟨b1, by omega, by omega⟩ (by rw [va_up_ne _ _ (by omega), va_up_ne _ _ (by omega), va_up_ne _ _ (by omega), va_up_ne _ _ (by omega)]) (fun x a b => hf x a b) ht (code := 0) (Or.inl ⟨rfl, Or.inr ⟨rfl, _, rfl, rfl⟩⟩) (fun B ns => ?_)
      obtain ⟨av1, N, c1, c2, c3, c4, c5, c6, c7, c8, c9, c10⟩ := build_ok (d := 597) (B := B) (ns := ns) (iv := upd iv 0 0) (c := cn) (pn := pn) ⟨ok, hcn, hpn, by simp [upd, hp]⟩ av hP
      refine ⟨_, _, c_M_read_ok ok pn cn hpn hp hcn hk.2.2.2.1 e1 av1 c1, CR_nod K1 (fun k hk => (c2 k hk).trans (hav k hk).symm) (fun c hc => ?_), ⟨⟨0, by omega, by simp [upd]; rfl⟩, by rw [c2 18 (by decide)]; exact w2, fun l hl => VL.same (Nat.le_succ _) (fun k a1 a2 a3 => by rw [c2 k (by omega)]) (fun k _ => by rw [c2 32 (by decide)]) (w3 l hl), fun l a b => VZ.same (by rw [c2 28 (by decide)]) (by rw [c2 30 (by decide)]) (fun k _ => by rw [c2 31 (by decide)]) (fun k _ => by rw [c2 32 (by decide)]) (fun k _ => by rw [c2 29 (by decide)]) (w4 l a b), fun c hc => ?_⟩, by simp [upd]⟩
      · by_cases e : c = cn
        · rw [e, c7, va_up_self, upd_at]
        · rw [(c3 c e).1, va_up_self, upd_no _ _ e]
      · by_cases e : c = cn
        · subst e
          dsimp only
          rw [if_pos rfl, if_pos rfl]
          have hl := pC_txt (av 2) pn 6 0 pn Ds (by omega) hP
          refine ⟨Ds, N, pC_ne _ _ _ _ _ _ hP, c7, c8, c6, c10, rfl, by omega, fun t ht => ?_⟩
          obtain ⟨r, D, d1, d2, d3, d4⟩ := c9 t ht
          obtain ⟨a, D2, x1, x2, x3⟩ := hts t ht
          have : D2 = D := Option.some.inj (x2.symm.trans d3)
          subst this
          exact ⟨r, a, D2, d3, d2, d1, d4, x1, x3⟩
        · dsimp only
          rw [if_neg e, if_neg e]
          exact (w5 c (by omega)).same hb (c3 c e).1 (c3 c e).2 (fun t ht => c4 _ (by omega)) (fun k x a1 a2 a3 => c5 k _ a1 a2 (by omega))
  · exact spc_no L V (c_L_read_no L.1 h0) (fun B ns => c_M_read_no ok h0) rfl (by simp)
