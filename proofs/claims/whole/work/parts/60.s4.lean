/-! one call at a time: open, ask -/
theorem KI_open {Bn : xMm} {r : Nat → Option Nat} {w : List Int32} {av : Nat → Nat → Int32} {c : Nat} (h : KI Bn r w av c) (E : Int32 → Option Int32) : ∃ (mn N : Nat) (S : Nat → Int32), mn ≤ 6 ∧ N ≤ 160 ∧ av 4 c = nI mn ∧ av 6 c = nI N ∧ (∀ k, k < N → av 7 (160 * c + k) = 0 → mNm (av 10 (160 * c + k))) ∧ (∀ t, t < mn → ∃ (a : Nat) (D : Den) (H : Nat), r t = some a ∧ cN Bn H a D ∧ H ≤ 41 ∧ D.1 E = S t) ∧ (∀ T0, ∀ t, t < mn → ∃ q, q < N ∧ av 5 (6 * c + t) = nI q ∧ (tF av c N E N T0) q = S t) := by
  obtain ⟨Ds, N, g1, g2, g3, g4, g5, g6, g7, g8⟩ := h
  refine ⟨Ds.length, N, fun t => match Ds[t]? with | some D => D.1 E | none => 0, g1, by omega, g2, g4, fun k hk h7 => ?_, fun t ht => ?_, fun T0 t ht => ?_⟩
  · obtain ⟨-, -, g⟩ := g5 av N (XT.triv (by omega)) k (by omega) hk
    rcases g with g | ⟨g | g, -⟩
    · exact g.2
    · rw [h7] at g; exact absurd g (by decide)
    · rw [h7] at g; exact absurd g (by decide)
  · obtain ⟨r0, a, D, e1, e2, e3, e4, e5, e6⟩ := g8 t ht
    exact ⟨a, D, 31, e5, e6, by omega, by simp only [e1]⟩
  · obtain ⟨r0, a, D, e1, e2, e3, e4, e5, e6⟩ := g8 t ht
    refine ⟨r0, e2, e3, ?_⟩
    simp only [e1]
    exact (e4 av N (XT.triv (by omega))).1 E _ (fun x hx => tF_ok av c N E N T0 (Nat.le_refl _) (fun k a b => by omega) x hx)
theorem s_open (l h k : Int32) : STP false [(eB, 1), (eA, 2)] k_L_open k_M_open [.int l, .int h, .int k] := by
  intro M n sl a0 m0 ou hLI
  obtain ⟨ct, tg, Bn, cn, rq, ln, rt, tx, iv, av, md, mx, rfl, rfl, L, V⟩ := hLI
  have ok := L.2.1
  have hk := L.1.cnt
  by_cases h0 : 0 ≤ l ∧ l < nI ln
  · have h0' : 0 ≤ l ∧ l < iv 23 := by rw [hk.2.2.2.2.2]; exact h0
    obtain ⟨j, hj, rfl⟩ := nI_ix (by omega) h0
    by_cases h1 : 0 ≤ k
    · by_cases h2 : 0 ≤ h ∧ h ≤ 2400000
      · obtain ⟨c0, th, fi, la, tn, g1, g2, g3, g4, g5, g6, g7, g8, g9, g10, g11, g12⟩ := V.2.2.1 j hj
        obtain ⟨mn, N, S, q1, q2, q3, q4, q5, q6, q7⟩ := KI_open (V.2.2.2.2 c0 g1) (mE av j h)
        have hcl : (av 24 j).toNatClampNeg = c0 := by rw [g2, nI_clamp (by omega)]
        refine spc_of (hth := fun _ h => by cases h) L (c_L_open_ok L.1 j hj h h2.1 V.2.1 mn q1 (by rw [hcl]; exact g1) (by rw [hcl]; exact q3) S (mE av j h) rfl (by rw [hcl]; exact q6) k h1 h2) (by omega) L.1 rfl (fun _ _ _ => rfl) (fun _ _ => rfl) (fun B ns => c_M_open_ok ok j c0 N h (by omega) (by omega) q2 g2 q4 V.2.1 q5 mn S q1 q3 (q7 (av 13)) k (by simp only [mgo, xbi, h0', h1, h2]; decide)) ⟨rfl, rfl, rfl, rfl⟩ (fun x a1 a2 a3 => va_up_ne _ _ a1) (Or.inl ⟨by simp [upd], Or.inr ⟨rfl, _, rfl, rfl⟩⟩) V
      · exact spc_no L V (c_L_open_no2 L.1 j hj h k h1 h2) (fun B ns => c_M_open_no ok _ h k (by simp only [mgo, xbi, h0', h1, h2]; decide)) rfl (by simp only [mgo, xbi, h0', h1, h2]; decide)
    · exact spc_no L V (c_L_open_no1 L.1 j hj h k h1) (fun B ns => c_M_open_no ok _ h k (by simp [mgo, xbi, h1])) rfl (by simp [mgo, xbi, h1])
  · have h0' : ¬ (0 ≤ l ∧ l < iv 23) := by rw [hk.2.2.2.2.2]; exact h0
    exact spc_no L V (c_L_open_no0 L.1 l h k h0) (fun B ns => c_M_open_no ok l h k (by simp [mgo, xbi, h0'])) rfl (by simp [mgo, xbi, h0'])
theorem va_sw {f : Nat → Nat → Int32} {j k : Nat} {u v : Nat → Int32} (h : j ≠ k) : va_up (va_up f j u) k v = va_up (va_up f k v) j u := by
  funext q
  by_cases e : q = k
  · subst e
    rw [va_up_self, va_up_ne _ _ (Ne.symm h), va_up_self]
  · by_cases e2 : q = j
    · subst e2
      rw [va_up_ne _ _ e, va_up_self, va_up_self]
    · rw [va_up_ne _ _ e, va_up_ne _ _ e2, va_up_ne _ _ e2, va_up_ne _ _ e]
theorem askS_13 (av : Nat → Nat → Int32) (T : Nat → Int32) (l : Nat) (h : Int32) (t : Nat) (s : Int32) : askS (va_up av 13 T) l h t s = va_up (askS av l h t s) 13 T := by
  unfold askS
  rw [va_up_ne (k := 13) (j := 29) _ _ (by decide), va_up_ne (k := 13) (j := 30) _ _ (by decide), va_up_ne (k := 13) (j := 31) _ _ (by decide), va_up_ne (k := 13) (j := 32) _ _ (by decide)]
  split
  · split
    · rw [va_sw (j := 13) (k := 31) (by decide), va_sw (j := 13) (k := 32) (by decide), va_sw (j := 13) (k := 30) (by decide), va_sw (j := 13) (k := 29) (by decide)]
    · rfl
  · split
    · rw [va_sw (j := 13) (k := 29) (by decide)]
    · rfl
theorem askL_13 (T : Nat → Int32) (l : Nat) (h : Int32) (S : Nat → Int32) : ∀ m t f (av : Nat → Nat → Int32), askL l h S m t f (va_up av 13 T) = ((askL l h S m t f av).1, va_up (askL l h S m t f av).2 13 T)
  | 0, _, _, _ => rfl
  | m + 1, t, f, av => by
    rw [askL, askS_13, askL_13 T l h S m]
    rfl
theorem VI_askS {Bn : xMm} {cn ln : Nat} {rt : Nat → Nat → Option Nat} {tx : Nat → List Int32} {iv : Nat → Int32} {av : Nat → Nat → Int32} (V : VI Bn cn ln rt tx iv av) (l : Nat) (hl : l < ln) (h : Int32) (t : Nat) (ht : t < 6) (s : Int32) : VI Bn cn ln rt tx iv (askS av l h t s) := by
  obtain ⟨c0, th, fi, la, tn, g1, g2, g3, g4, g5, g6, g7, g8, g9, g10, g11, g12⟩ := V.2.2.1 l hl
  have h29 : ∀ f : Nat → Int32, (∀ x, (∀ k, k < 6 → x ≠ 6 * l + k) → f x = av 29 x) → VI Bn cn ln rt tx iv (va_up av 29 f) := fun f hf => by
    refine V.lon rfl l hl (fun k hk _ _ _ => va_up_ne _ _ (by omega)) (VL.same (Nat.le_refl _) (fun k a1 a2 a3 => by rw [va_up_ne _ _ a3]) (fun k _ => by rw [va_up_ne _ _ (by decide)]) (V.2.2.1 l hl)) (fun l2 hl2 => VL.same (Nat.le_refl _) (fun k a1 a2 a3 => by rw [va_up_ne _ _ a3]) (fun k _ => by rw [va_up_ne _ _ (by decide)])) (fun l2 hl2 => VZ.same (by rw [va_up_ne _ _ (by decide)]) (by rw [va_up_ne _ _ (by decide)]) (fun k _ => by rw [va_up_ne _ _ (by decide)]) (fun k _ => by rw [va_up_ne _ _ (by decide)]) (fun k hk => ?_))
    rw [va_up_self, hf _ (fun q hq => by omega)]
  unfold askS
  split
  · split
    · rename_i hc
      have htn : tn < 100 := (nI_ltI (b := 100) (by omega) (by decide)).mp (by rw [← g11]; exact hc.2)
      have hcl : (av 30 l).toNatClampNeg = tn := by rw [g11, nI_clamp (by omega)]
      rw [hcl]
      have e : ∀ k, k ≠ 29 → k ≠ 30 → k ≠ 31 → k ≠ 32 → (va_up (va_up (va_up (va_up av 31 (upd (av 31) (100 * l + tn) h)) 32 (upd (av 32) (100 * l + tn) (nI t))) 30 (upd (av 30) l (av 30 l + 1))) 29 (upd (av 29) (6 * l + t) 1)) k = av k := fun k a b c d => by rw [va_up_ne _ _ a, va_up_ne _ _ b, va_up_ne _ _ d, va_up_ne _ _ c]
      have e29 : (va_up (va_up (va_up (va_up av 31 (upd (av 31) (100 * l + tn) h)) 32 (upd (av 32) (100 * l + tn) (nI t))) 30 (upd (av 30) l (av 30 l + 1))) 29 (upd (av 29) (6 * l + t) 1)) 29 = upd (av 29) (6 * l + t) 1 := va_up_self _ _ _
      have e30 : (va_up (va_up (va_up (va_up av 31 (upd (av 31) (100 * l + tn) h)) 32 (upd (av 32) (100 * l + tn) (nI t))) 30 (upd (av 30) l (av 30 l + 1))) 29 (upd (av 29) (6 * l + t) 1)) 30 = upd (av 30) l (av 30 l + 1) := by rw [va_up_ne _ _ (by decide), va_up_self]
      have e31 : (va_up (va_up (va_up (va_up av 31 (upd (av 31) (100 * l + tn) h)) 32 (upd (av 32) (100 * l + tn) (nI t))) 30 (upd (av 30) l (av 30 l + 1))) 29 (upd (av 29) (6 * l + t) 1)) 31 = upd (av 31) (100 * l + tn) h := by rw [va_up_ne _ _ (by decide), va_up_ne _ _ (by decide), va_up_ne _ _ (by decide), va_up_self]
      have e32 : (va_up (va_up (va_up (va_up av 31 (upd (av 31) (100 * l + tn) h)) 32 (upd (av 32) (100 * l + tn) (nI t))) 30 (upd (av 30) l (av 30 l + 1))) 29 (upd (av 29) (6 * l + t) 1)) 32 = upd (av 32) (100 * l + tn) (nI t) := by rw [va_up_ne _ _ (by decide), va_up_ne _ _ (by decide), va_up_self]
      refine V.lon rfl l hl (fun k hk _ _ _ => e k (by omega) (by omega) (by omega) (by omega)) ⟨c0, th, fi, la, tn + 1, g1, ?_, g3, ?_, g5, g6, ?_, ?_, ?_, by omega, ?_, fun k hk => ?_⟩ (fun l2 hl2 => VL.same (Nat.le_refl _) (fun k a1 a2 a3 => ?_) (fun k hk => ?_)) (fun l2 hl2 => VZ.same ?_ ?_ (fun k hk => ?_) (fun k hk => ?_) (fun k hk => ?_))
      · rw [e 24 (by decide) (by decide) (by decide) (by decide)]; exact g2
      · rw [e 25 (by decide) (by decide) (by decide) (by decide)]; exact g4
      · rw [e 26 (by decide) (by decide) (by decide) (by decide)]; exact g7
      · rw [e 27 (by decide) (by decide) (by decide) (by decide)]; exact g8
      · rw [e 28 (by decide) (by decide) (by decide) (by decide)]; exact g9
      · rw [e30, upd_at, g11, show (1 : Int32) = nI 1 from rfl, nI_add]
      · rw [e32]
        by_cases ek : k = tn
        · exact ⟨t, ht, by rw [ek, upd_at]⟩
        · rw [upd_no _ _ (by omega)]
          exact g12 k (by omega)
      · by_cases ek : k = 30
        · rw [ek, e30, upd_no _ _ hl2]
        · rw [e k a3 ek (by omega) (by omega)]
      · rw [e32, upd_no _ _ (by omega)]
      · rw [e 28 (by decide) (by decide) (by decide) (by decide)]
      · rw [e30, upd_no _ _ hl2]
      · rw [e31, upd_no _ _ (by omega)]
      · rw [e32, upd_no _ _ (by omega)]
      · rw [e29, upd_no _ _ (by omega)]
    · exact V
  · split
    · exact h29 _ (fun x hx => upd_no _ _ (hx t ht))
    · exact V
theorem VI_askL {Bn : xMm} {cn ln : Nat} {rt : Nat → Nat → Option Nat} {tx : Nat → List Int32} {iv : Nat → Int32} (l : Nat) (hl : l < ln) (h : Int32) (S : Nat → Int32) : ∀ m t f (av : Nat → Nat → Int32), t + m ≤ 6 → VI Bn cn ln rt tx iv av → VI Bn cn ln rt tx iv (askL l h S m t f av).2
  | 0, _, _, _, _, V => V
  | m + 1, t, f, av, ht, V => VI_askL l hl h S m (t + 1) _ _ (by omega) (VI_askS V l hl h t (by omega) (S t))
theorem s_ask (l h : Int32) : STP false [(eB, 1), (eA, 2)] k_L_ask k_M_ask [.int l, .int h] := by
  intro M n sl a0 m0 ou hLI
  obtain ⟨ct, tg, Bn, cn, rq, ln, rt, tx, iv, av, md, mx, rfl, rfl, L, V⟩ := hLI
  have ok := L.2.1
  have hk := L.1.cnt
  by_cases h0 : 0 ≤ l ∧ l < nI ln
  · have h0' : 0 ≤ l ∧ l < iv 23 := by rw [hk.2.2.2.2.2]; exact h0
    obtain ⟨j, hj, rfl⟩ := nI_ix (by omega) h0
    by_cases h2 : 0 ≤ h ∧ h ≤ 2400000
    · have hm : mgo (xbi (0 ≤ nI j ∧ nI j < iv 23)) (xbi (0 ≤ h ∧ h ≤ 2400000)) 1 = 0 := by simp only [mgo, xbi, h0', h2]; decide
      by_cases h3 : av 26 j ≤ h / 24 ∧ h / 24 ≤ av 27 j
      · obtain ⟨c0, th, fi, la, tn, g1, g2, g3, g4, g5, g6, g7, g8, g9, g10, g11, g12⟩ := V.2.2.1 j hj
        obtain ⟨mn, N, S, q1, q2, q3, q4, q5, q6, q7⟩ := KI_open (V.2.2.2.2 c0 g1) (mE av j h)
        have hcl : (av 24 j).toNatClampNeg = c0 := by rw [g2, nI_clamp (by omega)]
        obtain ⟨M1, K1, hf, hx⟩ := c_L_ask_ok (d := 515) (sl := sl) L.1 j hj h h2.1 V.2.1 mn q1 (by rw [hcl]; exact g1) (by rw [hcl]; exact q3) S (mE av j h) rfl (by rw [hcl]; exact q6) ⟨tn, g10, g11⟩ h2 h3
        refine spc_of (hth := fun _ h => by cases h) L hx (by omega) (CR_iv0 K1 0) rfl (fun x _ g => hf x g) (fun _ _ => rfl) (fun B ns => ?_) ⟨rfl, rfl, rfl, rfl⟩ (iv3 := upd iv 0 0) (av3 := va_up (askL j h S mn 0 0 av).2 13 (tF av c0 N (mE av j h) N (av 13))) (fun x a1 a2 a3 => va_up_ne _ _ a1) (Or.inl ⟨by simp [upd], Or.inr ⟨rfl, _, rfl, rfl⟩⟩) ((VI_askL j hj h S mn 0 0 av (by omega) V).keep V.1 (fun _ _ => rfl))
        have := c_M_ask_ok (d := 596) (B := B) (ns := ns) (iv := iv) ok j c0 N h (by omega) (by omega) q2 g2 q4 V.2.1 q5 mn S q1 q3 (q7 (av 13)) ⟨tn, g10, g11⟩ hm h3
        rw [askL_13] at this
        exact this
      · exact spc_same L V (c_L_ask_out L.1 j hj h h2 h3) (fun B ns => c_M_ask_out ok h j (by omega) hm h3) rfl
    · exact spc_no L V (c_L_ask_no1 L.1 j hj h h2) (fun B ns => c_M_ask_no ok _ h (by simp only [mgo, xbi, h0', h2]; decide)) rfl (by simp only [mgo, xbi, h0', h2]; decide)
  · have h0' : ¬ (0 ≤ l ∧ l < iv 23) := by rw [hk.2.2.2.2.2]; exact h0
    exact spc_no L V (c_L_ask_no0 L.1 l h h0) (fun B ns => c_M_ask_no ok l h (by simp [mgo, xbi, h0'])) rfl (by simp [mgo, xbi, h0'])
