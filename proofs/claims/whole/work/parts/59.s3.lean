/-! one call at a time: the longer ones -/
theorem pC_txt (s : Nat → Int32) (len : Nat) : ∀ kk p q Ds, p ≤ len → pC s len kk p = (q, some Ds) → (txS Ds).length + 2 * p ≤ 2 * q
  | 0, p, q, Ds, hp, h => by cases h
  | kk + 1, p, q, Ds, hp, h => by
    rw [pC] at h
    split at h
    · rename_i q1 D Ds1 e1
      obtain ⟨D2, e2, e3⟩ := (pP_len s len 246 1 124 0 0 p q1 _ hp (by decide) e1).1 (by omega)
      cases e2
      split at h
      · cases h
        simp [txS]
        omega
      · split at h
        · rename_i hs
          have hq : q1 < len := sg_lt (fun e => by rw [e] at hs; exact absurd hs.1 (by decide))
          split at h
          · rename_i e
            cases h
            have := pC_txt s len kk _ _ _ (by omega) e
            simp [txS]
            omega
          · cases h
        · cases h
    · cases h
theorem CR_nod {M : xMm} {n : Nat} {ct : Nat → Nat} {tg : Nat → Option Nat} {Bn : xMm} {cn rq ln : Nat} {rt : Nat → Nat → Option Nat} {tx : Nat → List Int32} {iv : Nat → Int32} {av : Nat → Nat → Int32} (K : CR M n ct tg Bn cn rq ln rt tx iv av) {av2 : Nat → Nat → Int32} (ha : ∀ k, (k < 4 ∨ 12 < k) → av2 k = av k) (h4 : ∀ c, c < cn → av2 4 c = av 4 c) : CR M n ct tg Bn cn rq ln rt tx iv av2 := by
  obtain ⟨k1, k2, k3, k4, k5, k6, k7, k8, k9, k10, k11, k12, k13, k14, k15, k16, k17, k18, k19⟩ := K
  unfold CR
  rw [ha 2 (by decide), ha 18 (by decide), ha 19 (by decide), ha 20 (by decide), ha 21 (by decide), ha 22 (by decide), ha 24 (by decide), ha 25 (by decide), ha 26 (by decide), ha 27 (by decide), ha 28 (by decide), ha 29 (by decide), ha 30 (by decide), ha 31 (by decide), ha 32 (by decide), ha 34 (by decide), ha 35 (by decide), ha 36 (by decide)]
  exact ⟨k1, k2, k3, k4, k5, k6, k7, k8, k9, k10, k11, k12, k13, k14, k15, k16, k17, fun c hc => by rw [h4 c hc]; exact k18 c hc, k19⟩
section SP
variable {vd : Bool} {cd : List (String × Int32)} {kL kM : xMt} {As : List Value} {M : xMm} {n sl ou : Nat} {ct : Nat → Nat} {tg : Nat → Option Nat} {Bn : xMm} {cn rq ln : Nat} {rt : Nat → Nat → Option Nat} {tx : Nat → List Int32} {iv : Nat → Int32} {av : Nat → Nat → Int32} {md : Nat → Nat} {mx : Nat → Option Nat}
theorem spc_gen (L : LM M n ou ct tg Bn cn rq ln rt tx iv av md mx) {o : xO} {M1 : xMm} {n1 sl1 : Nat} (h : xCl 600 kL (.ref (ct 0) :: As) (M, n, sl) (o, (M1, n1, sl1))) (hn : n ≤ n1 ∧ n1 ≤ n + 90 ∧ sl1 ≤ sl + 800) {ct2 : Nat → Nat} {tg2 : Nat → Option Nat} {Bn2 : xMm} {cn2 rq2 ln2 : Nat} {rt2 : Nat → Nat → Option Nat} {tx2 : Nat → List Int32} (hc0 : ct2 0 = ct 0) (hf : ∀ x, x < n → tg x = none → M1 x = M x) (ht : ∀ x, x < n → tg2 x = tg x) {bv : Option Value} {code : Int32} (hR : RES vd cd o bv code) (hm : ∀ (B : xMm) (ns : Nat × Nat), ∃ (iv3 : Nat → Int32) (av3 : Nat → Nat → Int32), xCl 600 kM (.ref (md 0) :: As) (mM B md mx iv av, ns) (.inl bv, (mM B md mx iv3 av3, ns)) ∧ CR M1 n1 ct2 tg2 Bn2 cn2 rq2 ln2 rt2 tx2 iv3 av3 ∧ VI Bn2 cn2 ln2 rt2 tx2 iv3 av3 ∧ iv3 0 = code) (hth : ∀ E, o = .inr E → ∀ a, tg2 a ≠ none → a < n) : SPC vd cd kL kM As M n sl (ct 0) (md 0) ou := by
  obtain ⟨K0, ok, hM, hx, ho, hot, hox⟩ := L
  refine ⟨o, M1, n1, sl1, bv, code, h, hn, ⟨hf ou ho hot, hf (md 0) (hx (md 0) (by rw [ok.1]; simp)).1 (hx (md 0) (by rw [ok.1]; simp)).2⟩, hR, fun e n2 sl2 hn2 ho2 => ?_⟩
  have hm1 : xset M1 ou e = mM (xset M1 ou e) md mx iv av := mM_self fun q hq => by
    have hqo : q ≠ ou := fun g => hq (by rw [g]; exact hox)
    rw [xset_ne _ _ hqo, hf q (hx q hq).1 (hx q hq).2, hM]
    exact mM_base hq
  have hd : ∀ q, mx q = none ∨ tg2 q = none := fun q => by
    by_cases g : mx q = none
    · exact Or.inl g
    · exact Or.inr (by rw [ht q (hx q g).1]; exact (hx q g).2)
  obtain ⟨iv3, av3, hm2, K, hV, h0⟩ := hm (xset M1 ou e) (n2, sl2)
  have hto : ∀ a, tg2 a ≠ none → a < n2 := fun a ha => by
    cases o with
    | inl v => rw [ho2 v rfl]; exact K.tgo a ha
    | inr E => exact Nat.lt_of_lt_of_le (hth E rfl a ha) hn2
  have K := CR_sz K hto
  have K1 : CR (xset M1 ou e) n2 ct2 tg2 Bn2 cn2 rq2 ln2 rt2 tx2 iv3 av3 := CR_un K fun x g => xset_ne _ _ fun g2 => g (by rw [g2, ht ou ho]; exact hot)
  have K2 := CR_mM K1 md hd iv3 av3
  refine ⟨mM (xset M1 ou e) md mx iv3 av3, ?_, ?_, by rw [← h0]; exact c_M_thrown ok, ct2, tg2, Bn2, cn2, rq2, ln2, rt2, tx2, iv3, av3, md, mx, hc0, rfl, ⟨K2, ok, ?_, fun q hq => ⟨Nat.lt_of_lt_of_le (hx q hq).1 hn2, by rw [ht q (hx q hq).1]; exact (hx q hq).2⟩, Nat.lt_of_lt_of_le ho hn2, by rw [ht ou ho]; exact hot, hox⟩, hV⟩
  · rw [← hm1] at hm2
    exact hm2
  · rw [mM_out0 hox]
    exact xset_self _ _ _
  · exact mM_self fun q hq => mM_base hq
end SP
theorem s_loan (c t f u : Int32) : STP false [(eB, 1), (eS, 2), (eA, 3)] k_L_loan k_M_loan [.int c, .int t, .int f, .int u] := by
  intro M n sl a0 m0 ou hLI
  obtain ⟨ct, tg, Bn, cn, rq, ln, rt, tx, iv, av, md, mx, rfl, rfl, L, V⟩ := hLI
  have ok := L.2.1
  have hk := L.1.cnt
  by_cases h0 : 0 ≤ c ∧ c < nI cn
  · have h0' : 0 ≤ c ∧ c < iv 3 := by rw [hk.2.2.2.1]; exact h0
    obtain ⟨j, hj, rfl⟩ := nI_ix (by omega) h0
    by_cases h1 : 0 ≤ t ∧ t < 16
    · by_cases h2 : iv 23 < 20
      · by_cases h3 : 0 ≤ f ∧ f ≤ u ∧ u ≤ 100000
        · have hln : ln < 20 := (nI_ltI (b := 20) (by omega) (by decide)).mp (by rw [← hk.2.2.2.2.2]; exact h2)
          cases ho : anyF (mOut av t f u (-1)) ln 0 with
          | true => exact spc_of (hth := fun _ h => by cases h) L (c_L_loan_out L.1 j hj t f u h1 h2 h3 ho) (by omega) (CR_fresh L.1 _) rfl (fun x hx _ => xset_ne _ _ (by omega)) (fun _ _ => rfl) (fun B ns => c_M_loan_out ok _ t f u ln hk.2.2.1 hk.2.2.2.2.2 (by simp only [mgo, xbi, h0', h1, h2, h3]; decide) ho) ⟨rfl, rfl, rfl, rfl⟩ (fun _ _ _ _ => rfl) (Or.inl ⟨by simp [upd], Or.inr ⟨rfl, _, rfl, rfl⟩⟩) V
          | false =>
            obtain ⟨w1, w2, w3, w4, w5⟩ := id V
            obtain ⟨z1, z2, z3, z4, z5⟩ := w4 ln (by omega) hln
            refine spc_put L (c_L_loan_ok L.1 j hj t f u h1 hln h3 ho) (by omega) (CR_loan L.1 j hj t f u hln z1 z2 z3 z4 z5) (by rw [va_up_ne _ _ (by omega), va_up_ne _ _ (by omega), va_up_ne _ _ (by omega), va_up_ne _ _ (by omega), va_up_ne _ _ (by omega)]) (fun x hxn hx => ?_) (fun x hx => by rw [if_neg (by omega), if_neg (by omega), if_neg (by omega), if_neg (by omega), if_neg (by omega)]) (fun B ns => c_M_loan_ok ok _ t f u ln hk.2.2.1 hk.2.2.2.2.2 (by simp only [mgo, xbi, h0', h1, h2, h3]; decide) ho) (by simp [upd]) rfl ?_
            · rw [xset_ne _ _ (L.1.xn hx (by unfold lvt; omega)), xset_ne _ _ (L.1.xn hx (by unfold lvt; omega)), xset_ne _ _ (by omega), xset_ne _ _ (by omega), xset_ne _ _ (by omega), xset_ne _ _ (by omega), xset_ne _ _ (by omega), xset_ne _ _ (by omega)]
            · have av' : ∀ k, k ≠ 24 → k ≠ 25 → k ≠ 26 → k ≠ 27 → (va_up (va_up (va_up (va_up av 24 (upd (av 24) ln (nI j))) 25 (upd (av 25) ln t)) 26 (upd (av 26) ln f)) 27 (upd (av 27) ln u)) k = av k := fun k g1 g2 g3 g4 => by rw [va_up_ne _ _ g4, va_up_ne _ _ g3, va_up_ne _ _ g2, va_up_ne _ _ g1]
              have e24 : (va_up (va_up (va_up (va_up av 24 (upd (av 24) ln (nI j))) 25 (upd (av 25) ln t)) 26 (upd (av 26) ln f)) 27 (upd (av 27) ln u)) 24 = upd (av 24) ln (nI j) := by rw [va_up_ne _ _ (by decide), va_up_ne _ _ (by decide), va_up_ne _ _ (by decide), va_up_self]
              have e25 : (va_up (va_up (va_up (va_up av 24 (upd (av 24) ln (nI j))) 25 (upd (av 25) ln t)) 26 (upd (av 26) ln f)) 27 (upd (av 27) ln u)) 25 = upd (av 25) ln t := by rw [va_up_ne _ _ (by decide), va_up_ne _ _ (by decide), va_up_self]
              have e26 : (va_up (va_up (va_up (va_up av 24 (upd (av 24) ln (nI j))) 25 (upd (av 25) ln t)) 26 (upd (av 26) ln f)) 27 (upd (av 27) ln u)) 26 = upd (av 26) ln f := by rw [va_up_ne _ _ (by decide), va_up_self]
              have e27 : (va_up (va_up (va_up (va_up av 24 (upd (av 24) ln (nI j))) 25 (upd (av 25) ln t)) 26 (upd (av 26) ln f)) 27 (upd (av 27) ln u)) 27 = upd (av 27) ln u := va_up_self _ _ _
              refine ⟨w1, by rw [av' 18 (by decide) (by decide) (by decide) (by decide)]; exact w2, fun l hl => ?_, fun l a b => VZ.same (by rw [av' 28 (by decide) (by decide) (by decide) (by decide)]) (by rw [av' 30 (by decide) (by decide) (by decide) (by decide)]) (fun k _ => by rw [av' 31 (by decide) (by decide) (by decide) (by decide)]) (fun k _ => by rw [av' 32 (by decide) (by decide) (by decide) (by decide)]) (fun k _ => by rw [av' 29 (by decide) (by decide) (by decide) (by decide)]) (w4 l (by omega) b), fun c hc => (w5 c hc).same (fun _ _ g => g) (by rw [av' 4 (by decide) (by decide) (by decide) (by decide)]) (by rw [av' 6 (by decide) (by decide) (by decide) (by decide)]) (fun t _ => by rw [av' 5 (by decide) (by decide) (by decide) (by decide)]) (fun k x a1 a2 _ => by rw [av' k (by omega) (by omega) (by omega) (by omega)])⟩
              by_cases e : l = ln
              · obtain ⟨t1, ht1, rfl⟩ := nI_ix (k := 16) (by omega) h1
                obtain ⟨u1, hu1, rfl⟩ := nI_ix (k := 100001) (l := u) (by omega) ⟨by grind, by show u < 100001; grind⟩
                obtain ⟨f1, hf1, rfl⟩ := nI_ix (k := 100001) (l := f) (by omega) ⟨h3.1, by show f < 100001; grind⟩
                have hfu := (nI_leI (by omega) (by omega)).mp h3.2.1
                refine ⟨j, t1, f1, u1, 0, hj, ?_, ht1, ?_, hfu, by omega, ?_, ?_, Or.inl ?_, by omega, ?_, fun k hk => by omega⟩
                · rw [e24, e, upd_at]
                · rw [e25, e, upd_at]
                · rw [e26, e, upd_at]
                · rw [e27, e, upd_at]
                · rw [av' 28 (by decide) (by decide) (by decide) (by decide), e]; exact z1
                · rw [av' 30 (by decide) (by decide) (by decide) (by decide), e]; exact z2
              · refine VL.same (Nat.le_refl _) (fun k a1 a2 a3 => ?_) (fun k _ => by rw [av' 32 (by decide) (by decide) (by decide) (by decide)]) (w3 l (by omega))
                have hk9 : k = 24 ∨ k = 25 ∨ k = 26 ∨ k = 27 ∨ k = 28 ∨ k = 30 := by omega
                rcases hk9 with rfl | rfl | rfl | rfl | rfl | rfl
                · rw [e24, upd_no _ _ e]
                · rw [e25, upd_no _ _ e]
                · rw [e26, upd_no _ _ e]
                · rw [e27, upd_no _ _ e]
                · rw [av' 28 (by decide) (by decide) (by decide) (by decide)]
                · rw [av' 30 (by decide) (by decide) (by decide) (by decide)]
        · exact spc_no L V (c_L_loan_no3 L.1 j hj t f u h1 h2 h3) (fun B ns => c_M_loan_no ok _ t f u (by simp only [mgo, xbi, h0', h1, h2, h3]; decide)) rfl (by simp only [mgo, xbi, h0', h1, h2, h3]; decide)
      · exact spc_no L V (c_L_loan_no2 L.1 j hj t f u h1 h2) (fun B ns => c_M_loan_no ok _ t f u (by simp [mgo, xbi, h0', h1, h2])) rfl (by simp [mgo, xbi, h0', h1, h2])
    · exact spc_no L V (c_L_loan_no1 L.1 j hj t f u h1) (fun B ns => c_M_loan_no ok _ t f u (by simp [mgo, xbi, h1])) rfl (by simp [mgo, xbi, h1])
  · have h0' : ¬ (0 ≤ c ∧ c < iv 3) := by rw [hk.2.2.2.1]; exact h0
    exact spc_no L V (c_L_loan_no0 L.1 c t f u h0) (fun B ns => c_M_loan_no ok c t f u (by simp [mgo, xbi, h0'])) rfl (by simp [mgo, xbi, h0'])
theorem s_extend (l u y : Int32) : STP false [(eB, 1), (eA, 2)] k_L_extend k_M_extend [.int l, .int u, .int y] := by
  intro M n sl a0 m0 ou hLI
  obtain ⟨ct, tg, Bn, cn, rq, ln, rt, tx, iv, av, md, mx, rfl, rfl, L, V⟩ := hLI
  have ok := L.2.1
  have hk := L.1.cnt
  by_cases h0 : 0 ≤ l ∧ l < nI ln
  · have h0' : 0 ≤ l ∧ l < iv 23 := by rw [hk.2.2.2.2.2]; exact h0
    obtain ⟨j, hj, rfl⟩ := nI_ix (by omega) h0
    by_cases h1 : (0 ≤ u ∧ u ≤ 100000) ∧ 0 ≤ y ∧ y ≤ 100000
    · have hm : mgo (xbi (0 ≤ nI j ∧ nI j < iv 23)) (xbi ((0 ≤ u ∧ u ≤ 100000) ∧ 0 ≤ y ∧ y ≤ 100000)) 1 = 0 := by simp only [mgo, xbi, h0', h1]; decide
      by_cases h2 : av 27 j < y
      · exact spc_same L V (c_L_extend_1 L.1 j hj u y h1 h2) (fun B ns => c_M_extend_1 ok u y j (by omega) ln hk.2.2.1 hk.2.2.2.2.2 hm h2) rfl
      · by_cases h3 : u ≤ av 27 j
        · exact spc_same L V (c_L_extend_2 L.1 j hj u y h1 h2 h3) (fun B ns => c_M_extend_2 ok u y j (by omega) ln hk.2.2.1 hk.2.2.2.2.2 hm h2 h3) rfl
        · cases ho : anyF (mOut av (av 25 j) (av 26 j) u (nI j)) ln 0 with
          | true => exact spc_of (hth := fun _ h => by cases h) L (c_L_extend_3 L.1 j hj u y h1 h2 h3 ho) (by omega) (CR_fresh L.1 _) rfl (fun x hx _ => xset_ne _ _ (by omega)) (fun _ _ => rfl) (fun B ns => c_M_extend_3 ok u y j (by omega) ln hk.2.2.1 hk.2.2.2.2.2 hm h2 h3 ho) ⟨rfl, rfl, rfl, rfl⟩ (fun _ _ _ _ => rfl) (Or.inl ⟨by simp [upd], Or.inr ⟨rfl, _, rfl, rfl⟩⟩) V
          | false =>
            obtain ⟨c0, th, fi, la, tn, g1, g2, g3, g4, g5, g6, g7, g8, g9, g10, g11, g12⟩ := V.2.2.1 j hj
            refine spc_put L (c_L_extend_ok L.1 j hj u y h1 h2 h3 ho) (by omega) (CR_extend L.1 j hj u) (va_up_ne _ _ (by omega)) (fun x hxn hx => ?_) (fun x hx => if_neg (by omega)) (fun B ns => c_M_extend_ok ok u y j (by omega) ln hk.2.2.1 hk.2.2.2.2.2 hm h2 h3 ho) (by simp [upd]) rfl (V.lon rfl j hj (fun k hk _ _ _ => va_up_ne _ _ (by omega)) ?_ (fun l2 hl2 => VL.same (Nat.le_refl _) (fun k a1 a2 a3 => ?_) (fun k _ => ?_)) (fun l2 hl2 => VZ.same ?_ ?_ (fun k _ => ?_) (fun k _ => ?_) (fun k _ => ?_)))
            · rw [xset_ne _ _ (L.1.xn hx (by unfold lvt; omega)), xset_ne _ _ (by omega)]
            · obtain ⟨u1, hu1, rfl⟩ := nI_ix (k := 100001) (l := u) (by omega) ⟨h1.1.1, by have := h1.1.2; show u < 100001; grind⟩
              have hfu : la < u1 := by
                rcases Nat.lt_or_ge la u1 with g | g
                · exact g
                · exact absurd (by rw [g8]; exact nI_le g (by omega)) h3
              refine ⟨c0, th, fi, u1, tn, g1, ?_, g3, ?_, by omega, by omega, ?_, ?_, ?_, g10, ?_, ?_⟩
              · rw [va_up_ne _ _ (by decide)]; exact g2
              · rw [va_up_ne _ _ (by decide)]; exact g4
              · rw [va_up_ne _ _ (by decide)]; exact g7
              · rw [va_up_self, upd_at]
              · rw [va_up_ne _ _ (by decide)]; exact g9
              · rw [va_up_ne _ _ (by decide)]; exact g11
              · rw [va_up_ne _ _ (by decide)]; exact g12
            · by_cases e : k = 27
              · rw [e, va_up_self, upd_no _ _ hl2]
              · rw [va_up_ne _ _ e]
            · rw [va_up_ne _ _ (by decide)]
            · rw [va_up_ne _ _ (by decide)]
            · rw [va_up_ne _ _ (by decide)]
            · rw [va_up_ne _ _ (by decide)]
            · rw [va_up_ne _ _ (by decide)]
            · rw [va_up_ne _ _ (by decide)]
    · exact spc_no L V (c_L_extend_no L.1 j hj u y h1) (fun B ns => c_M_extend_no ok _ u y (by simp only [mgo, xbi, h0', h1]; decide)) rfl (by simp only [mgo, xbi, h0', h1]; decide)
  · have h0' : ¬ (0 ≤ l ∧ l < iv 23) := by rw [hk.2.2.2.2.2]; exact h0
    exact spc_no L V (c_L_extend_no0 L.1 l u y h0) (fun B ns => c_M_extend_no ok l u y (by simp [mgo, xbi, h0'])) rfl (by simp [mgo, xbi, h0'])
