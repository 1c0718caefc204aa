/-! the class and the reference side by side -/
set_option maxRecDepth 20000 in
theorem CR_un {M : xMm} {n : Nat} {ct : Nat → Nat} {tg : Nat → Option Nat} {Bn : xMm} {cn rq ln : Nat} {rt : Nat → Nat → Option Nat} {tx : Nat → List Int32} {iv : Nat → Int32} {av : Nat → Nat → Int32} (K : CR M n ct tg Bn cn rq ln rt tx iv av) {M2 : xMm} (hk : ∀ x, tg x ≠ none → M2 x = M x) : CR M2 n ct tg Bn cn rq ln rt tx iv av := by
  have hcnt := K.cnt
  unfold CR
  refine ⟨?_, ?_, ?_, ?_, ?_, ?_, ?_, ?_, ?_, ?_, ?_, ?_, ?_, ?_, ?_, ?_, ?_, ?_, ?_, ?_, ?_, ?_, ?_, ?_, ?_, ?_⟩
  · exact (hk _ (by rw [(K.tag _ (by unfold lvt; omega)).1]; simp)).trans (K.lt)
  · exact (hk _ (by rw [(K.tag _ (by unfold lvt; omega)).1]; simp)).trans (K.pad)
  · exact (hk _ (by rw [(K.tag _ (by unfold lvt; omega)).1]; simp)).trans (K.padA)
  · obtain ⟨z, f, g3, g4⟩ := K.lets
    exact ⟨z, f, (hk _ (by rw [(K.tag _ (by unfold lvt; omega)).1]; simp)).trans (g3), (hk _ (by rw [(K.tag _ (by unfold lvt; omega)).1]; simp)).trans (g4)⟩
  · exact (hk _ (by rw [(K.tag _ (by unfold lvt; omega)).1]; simp)).trans (K.cons)
  · exact (hk _ (by rw [(K.tag _ (by unfold lvt; omega)).1]; simp)).trans (K.inps)
  · exact (hk _ (by rw [(K.tag _ (by unfold lvt; omega)).1]; simp)).trans (K.lons)
  · exact (hk _ (by rw [(K.tag _ (by unfold lvt; omega)).1]; simp)).trans (K.reqs)
  · intro i0 hi0
    exact (hk _ (by rw [(K.tag _ (by unfold lvt; omega)).1]; simp)).trans (K.inp i0 hi0)
  · intro i0 hi0
    exact (hk _ (by rw [(K.tag _ (by unfold lvt; omega)).1]; simp)).trans (K.inpH i0 hi0)
  · intro i0 hi0
    exact (hk _ (by rw [(K.tag _ (by unfold lvt; omega)).1]; simp)).trans (K.inpV i0 hi0)
  · intro r0 hr0
    exact (hk _ (by rw [(K.tag _ (by unfold lvt; omega)).1]; simp)).trans (K.req r0 hr0)
  · intro l0 hl0
    exact (hk _ (by rw [(K.tag _ (by unfold lvt; omega)).1]; simp)).trans (K.lon l0 hl0)
  · intro l0 hl0
    exact (hk _ (by rw [(K.tag _ (by unfold lvt; omega)).1]; simp)).trans (K.lonH l0 hl0)
  · intro l0 hl0
    exact (hk _ (by rw [(K.tag _ (by unfold lvt; omega)).1]; simp)).trans (K.lonT l0 hl0)
  · intro l0 hl0
    exact (hk _ (by rw [(K.tag _ (by unfold lvt; omega)).1]; simp)).trans (K.lonS l0 hl0)
  · intro l0 hl0
    exact (hk _ (by rw [(K.tag _ (by unfold lvt; omega)).1]; simp)).trans (K.lonP l0 hl0)
  · intro c0 hc0
    exact (hk _ (by rw [(K.tag _ (by unfold lvt; omega)).1]; simp)).trans (K.con c0 hc0)
  · intro c0 hc0
    exact (hk _ (by rw [(K.tag _ (by unfold lvt; omega)).1]; simp)).trans (K.conR c0 hc0)
  · intro c0 hc0
    exact (hk _ (by rw [(K.tag _ (by unfold lvt; omega)).1]; simp)).trans (K.conT c0 hc0)
  · intro c0 hc0
    exact (hk _ (by rw [(K.tag _ (by unfold lvt; omega)).1]; simp)).trans (K.conA c0 hc0)
  · intro a e h
    exact (hk a (by rw [(K.tgn a (by rw [h]; simp)).1]; simp)).trans (K.nod a e h)
  · exact K.tag
  · exact K.tgn
  · exact K.tgo
  · exact K.cnt
theorem cCh_mono {B B2 : xMm} (hb : ∀ x e, B x = some e → B2 x = some e) {P Q : Nat → Den → Prop} (hp : ∀ a D, P a D → Q a D) : ∀ Ds q, cCh B P Ds q → cCh B2 Q Ds q
  | [], _, h => h
  | D :: Ds, q, ⟨a, h1, h2, kd, nm, nu, i, x, h3, h4⟩ => ⟨a, h1, hp a D h2, kd, nm, nu, i, x, hb _ _ h3, cCh_mono hb hp Ds x h4⟩
theorem cN_mono {B B2 : xMm} (hb : ∀ x e, B x = some e → B2 x = some e) : ∀ h a D, cN B h a D → cN B2 h a D
  | 0, _, _, h => h
  | h + 1, a, D, ⟨kd, nm, nu, i, x, h1, h2⟩ => ⟨kd, nm, nu, i, x, hb _ _ h1, by
      rcases h2 with ⟨g1, b, D1, g2, g3, g4⟩ | ⟨g1, Ds, g2, g3⟩ | g
      · exact Or.inl ⟨g1, b, D1, g2, cN_mono hb h b D1 g3, g4⟩
      · exact Or.inr (Or.inl ⟨g1, Ds, cCh_mono hb (cN_mono hb h) Ds i g2, g3⟩)
      · exact Or.inr (Or.inr g)⟩
def KI (Bn : xMm) (r : Nat → Option Nat) (w : List Int32) (av : Nat → Nat → Int32) (c : Nat) : Prop := ∃ (Ds : List Den) (N : Nat), Ds.length ≤ 6 ∧ av 4 c = nI Ds.length ∧ N ≤ 150 ∧ av 6 c = nI N ∧ GX av c 0 N ∧ w = txS Ds ∧ w.length ≤ 240 ∧ ∀ t, t < Ds.length → ∃ (r0 a : Nat) (D : Den), Ds[t]? = some D ∧ r0 < N ∧ av 5 (6 * c + t) = nI r0 ∧ NX av c 0 N r0 D ∧ r t = some a ∧ cN Bn 31 a D
theorem XT.c {av av2 av3 : Nat → Nat → Int32} {c N N1 : Nat} (h : XT av2 av3 c 0 N N1) (ha : ∀ k x, 7 ≤ k → k ≤ 12 → x < N → av2 k (160 * c + x) = av k (160 * c + x)) : XT av av3 c 0 N N1 := ⟨h.1, h.2.1, fun k x g1 g2 g3 g4 => (h.2.2.1 k x g1 g2 g3 g4).trans (ha k x g1 g2 g4), h.2.2.2⟩
theorem KI.same {Bn Bn2 : xMm} {r : Nat → Option Nat} {w : List Int32} {av av2 : Nat → Nat → Int32} {c : Nat} (h : KI Bn r w av c) (hb : ∀ x e, Bn x = some e → Bn2 x = some e) (h4 : av2 4 c = av 4 c) (h6 : av2 6 c = av 6 c) (h5 : ∀ t, t < 6 → av2 5 (6 * c + t) = av 5 (6 * c + t)) (ha : ∀ k x, 7 ≤ k → k ≤ 12 → x < 160 → av2 k (160 * c + x) = av k (160 * c + x)) : KI Bn2 r w av2 c := by
  obtain ⟨Ds, N, g1, g2, g3, g4, g5, g6, g7, g8⟩ := h
  refine ⟨Ds, N, g1, h4.trans g2, g3, h6.trans g4, fun av3 N1 hx x => g5 av3 N1 (hx.c fun k x a1 a2 a3 => ha k x a1 a2 (by omega)) x, g6, g7, fun t ht => ?_⟩
  obtain ⟨r0, a, D, e1, e2, e3, e4, e5, e6⟩ := g8 t ht
  exact ⟨r0, a, D, e1, e2, (h5 t (by omega)).trans e3, fun av3 N1 hx => e4 av3 N1 (hx.c fun k x a1 a2 a3 => ha k x a1 a2 (by omega)), e5, cN_mono hb _ _ _ e6⟩
def VL (cn : Nat) (av : Nat → Nat → Int32) (l : Nat) : Prop := ∃ c th fi la tn : Nat, c < cn ∧ av 24 l = nI c ∧ th < 16 ∧ av 25 l = nI th ∧ fi ≤ la ∧ la ≤ 100000 ∧ av 26 l = nI fi ∧ av 27 l = nI la ∧ (av 28 l = 0 ∨ av 28 l = 1) ∧ tn ≤ 100 ∧ av 30 l = nI tn ∧ ∀ k, k < tn → ∃ t, t < 6 ∧ av 32 (100 * l + k) = nI t
def VZ (av : Nat → Nat → Int32) (l : Nat) : Prop := av 28 l = 0 ∧ av 30 l = 0 ∧ (∀ j, j < 100 → av 31 (100 * l + j) = 0) ∧ (∀ j, j < 100 → av 32 (100 * l + j) = 0) ∧ ∀ j, j < 6 → av 29 (6 * l + j) = 0
def VI (Bn : xMm) (cn ln : Nat) (rt : Nat → Nat → Option Nat) (tx : Nat → List Int32) (iv : Nat → Int32) (av : Nat → Nat → Int32) : Prop := (∃ pn, pn ≤ 80 ∧ iv 1 = nI pn) ∧ (∀ q, q < 8 → ∃ rn, rn ≤ 60 ∧ av 18 q = nI rn) ∧ (∀ l, l < ln → VL cn av l) ∧ (∀ l, ln ≤ l → l < 20 → VZ av l) ∧ ∀ c, c < cn → KI Bn (rt c) (tx c) av c
theorem VI.scr {Bn : xMm} {cn ln : Nat} {rt : Nat → Nat → Option Nat} {tx : Nat → List Int32} {iv iv2 : Nat → Int32} {av av2 : Nat → Nat → Int32} (h : VI Bn cn ln rt tx iv av) (hi : iv2 1 = iv 1) (ha : ∀ k, k ≠ 13 → k ≠ 14 → k ≠ 16 → av2 k = av k) : VI Bn cn ln rt tx iv2 av2 := by
  have e := fun k => ha k
  obtain ⟨h1, h2, h3, h4, h5⟩ := h
  refine ⟨by rw [hi]; exact h1, by rw [e 18 (by decide) (by decide) (by decide)]; exact h2, ?_, ?_, fun c hc => (h5 c hc).same (fun _ _ g => g) (by rw [e 4 (by decide) (by decide) (by decide)]) (by rw [e 6 (by decide) (by decide) (by decide)]) (fun t _ => by rw [e 5 (by decide) (by decide) (by decide)]) (fun k x a1 a2 _ => by rw [e k (by omega) (by omega) (by omega)])⟩
  · unfold VL
    rw [e 24 (by decide) (by decide) (by decide), e 25 (by decide) (by decide) (by decide), e 26 (by decide) (by decide) (by decide), e 27 (by decide) (by decide) (by decide), e 28 (by decide) (by decide) (by decide), e 30 (by decide) (by decide) (by decide), e 32 (by decide) (by decide) (by decide)]
    exact h3
  · unfold VZ
    rw [e 28 (by decide) (by decide) (by decide), e 29 (by decide) (by decide) (by decide), e 30 (by decide) (by decide) (by decide), e 31 (by decide) (by decide) (by decide), e 32 (by decide) (by decide) (by decide)]
    exact h4
def LM (M : xMm) (n ou : Nat) (ct : Nat → Nat) (tg : Nat → Option Nat) (Bn : xMm) (cn rq ln : Nat) (rt : Nat → Nat → Option Nat) (tx : Nat → List Int32) (iv : Nat → Int32) (av : Nat → Nat → Int32) (md : Nat → Nat) (mx : Nat → Option Nat) : Prop := CR M n ct tg Bn cn rq ln rt tx iv av ∧ mOk md mx ∧ M = mM M md mx iv av ∧ (∀ q, mx q ≠ none → q < n ∧ tg q = none) ∧ ou < n ∧ tg ou = none ∧ mx ou = none
def LI (M : xMm) (n a0 m0 ou : Nat) : Prop := ∃ (ct : Nat → Nat) (tg : Nat → Option Nat) (Bn : xMm) (cn rq ln : Nat) (rt : Nat → Nat → Option Nat) (tx : Nat → List Int32) (iv : Nat → Int32) (av : Nat → Nat → Int32) (md : Nat → Nat) (mx : Nat → Option Nat), ct 0 = a0 ∧ md 0 = m0 ∧ LM M n ou ct tg Bn cn rq ln rt tx iv av md mx ∧ VI Bn cn ln rt tx iv av
def RES (vd : Bool) (cd : List (String × Int32)) (o : xO) (bv : Option Value) (code : Int32) : Prop := (code = 0 ∧ ((vd = true ∧ o = .inl none ∧ bv = none) ∨ (vd = false ∧ ∃ x : Int32, o = .inl (some (.int x)) ∧ bv = some (.int x)))) ∨ (∃ E, o = .inr E ∧ (E, code) ∈ cd ∧ ((vd = true ∧ bv = none) ∨ (vd = false ∧ ∃ x : Int32, bv = some (.int x))))
def SPC (vd : Bool) (cd : List (String × Int32)) (kL kM : xMt) (As : List Value) (M : xMm) (n sl a0 m0 ou : Nat) : Prop := ∃ (o : xO) (M1 : xMm) (n1 sl1 : Nat) (bv : Option Value) (code : Int32), xCl 600 kL (.ref a0 :: As) (M, n, sl) (o, (M1, n1, sl1)) ∧ (n ≤ n1 ∧ n1 ≤ n + 90 ∧ sl1 ≤ sl + 800) ∧ (M1 ou = M ou ∧ M1 m0 = M m0) ∧ RES vd cd o bv code ∧ ∀ (e : xE) (n2 sl2 : Nat), n ≤ n2 → (∀ v, o = .inl v → n2 = n1) → ∃ M2 : xMm, xCl 600 kM (.ref m0 :: As) (xset M1 ou e, n2, sl2) (.inl bv, (M2, n2, sl2)) ∧ M2 ou = some e ∧ xCl 600 k_M_thrown [.ref m0] (M2, n2, sl2) (.inl (some (.int code)), (M2, n2, sl2)) ∧ LI M2 n2 a0 m0 ou
def STP (vd : Bool) (cd : List (String × Int32)) (kL kM : xMt) (As : List Value) : Prop := ∀ (M : xMm) (n sl a0 m0 ou : Nat), LI M n a0 m0 ou → SPC vd cd kL kM As M n sl a0 m0 ou
theorem mM_self {M : xMm} {md : Nat → Nat} {mx : Nat → Option Nat} {iv : Nat → Int32} {av : Nat → Nat → Int32} (h : ∀ q, mx q ≠ none → M q = mM M md mx iv av q) : M = mM M md mx iv av := by
  funext q
  by_cases e : mx q = none
  · rw [mM_out0 e]
  · exact h q e
theorem mM_base {M M2 : xMm} {md : Nat → Nat} {mx : Nat → Option Nat} {iv : Nat → Int32} {av : Nat → Nat → Int32} {q : Nat} (h : mx q ≠ none) : mM M md mx iv av q = mM M2 md mx iv av q := by
  unfold mM
  cases e : mx q with
  | none => exact absurd e h
  | some k => rfl
section SP
variable {vd : Bool} {cd : List (String × Int32)} {kL kM : xMt} {As : List Value} {M : xMm} {n sl ou : Nat} {ct : Nat → Nat} {tg : Nat → Option Nat} {Bn : xMm} {cn rq ln : Nat} {rt : Nat → Nat → Option Nat} {tx : Nat → List Int32} {iv : Nat → Int32} {av : Nat → Nat → Int32} {md : Nat → Nat} {mx : Nat → Option Nat}
theorem CR_sz {n2 : Nat} (K : CR M n ct tg Bn cn rq ln rt tx iv av) (h : ∀ a, tg a ≠ none → a < n2) : CR M n2 ct tg Bn cn rq ln rt tx iv av := by
  obtain ⟨k1, k2, k3, k4, k5, k6, k7, k8, k9, k10, k11, k12, k13, k14, k15, k16, k17, k18, k19, k20, k21, k22, k23, k24, k25, k26⟩ := K
  exact ⟨k1, k2, k3, k4, k5, k6, k7, k8, k9, k10, k11, k12, k13, k14, k15, k16, k17, k18, k19, k20, k21, k22, fun t ht => ⟨(k23 t ht).1, h _ (by rw [(k23 t ht).1]; simp)⟩, fun a ha => ⟨(k24 a ha).1, h _ (by rw [(k24 a ha).1]; simp)⟩, h, k26⟩
theorem spc_of (L : LM M n ou ct tg Bn cn rq ln rt tx iv av md mx) {o : xO} {M1 : xMm} {n1 sl1 : Nat} (h : xCl 600 kL (.ref (ct 0) :: As) (M, n, sl) (o, (M1, n1, sl1))) (hn : n ≤ n1 ∧ n1 ≤ n + 90 ∧ sl1 ≤ sl + 800) {ct2 : Nat → Nat} {tg2 : Nat → Option Nat} {Bn2 : xMm} {cn2 rq2 ln2 : Nat} {rt2 : Nat → Nat → Option Nat} {tx2 : Nat → List Int32} {iv2 : Nat → Int32} {av2 : Nat → Nat → Int32} (K : CR M1 n1 ct2 tg2 Bn2 cn2 rq2 ln2 rt2 tx2 iv2 av2) (hc0 : ct2 0 = ct 0) (hf : ∀ x, x < n → tg x = none → M1 x = M x) (ht : ∀ x, x < n → tg2 x = tg x) {bv : Option Value} {iv3 : Nat → Int32} {av3 : Nat → Nat → Int32} (hm : ∀ (B : xMm) (ns : Nat × Nat), xCl 600 kM (.ref (md 0) :: As) (mM B md mx iv av, ns) (.inl bv, (mM B md mx iv3 av3, ns))) (hi : iv3 1 = iv2 1 ∧ iv3 3 = iv2 3 ∧ iv3 23 = iv2 23 ∧ iv3 33 = iv2 33) (ha : ∀ k, k ≠ 13 → k ≠ 14 → k ≠ 16 → av3 k = av2 k) (hR : RES vd cd o bv (iv3 0)) (hV : VI Bn2 cn2 ln2 rt2 tx2 iv2 av2) (hth : ∀ E, o = .inr E → ∀ a, tg2 a ≠ none → a < n) : SPC vd cd kL kM As M n sl (ct 0) (md 0) ou := by
  obtain ⟨K0, ok, hM, hx, ho, hot, hox⟩ := L
  refine ⟨o, M1, n1, sl1, bv, iv3 0, h, hn, ⟨hf ou ho hot, hf (md 0) (hx (md 0) (by rw [ok.1]; simp)).1 (hx (md 0) (by rw [ok.1]; simp)).2⟩, hR, fun e n2 sl2 hn2 ho2 => ?_⟩
  have hm1 : xset M1 ou e = mM (xset M1 ou e) md mx iv av := mM_self fun q hq => by
    have hqo : q ≠ ou := fun g => hq (by rw [g]; exact hox)
    rw [xset_ne _ _ hqo, hf q (hx q hq).1 (hx q hq).2, hM]
    exact mM_base hq
  have hd : ∀ q, mx q = none ∨ tg2 q = none := fun q => by
    by_cases g : mx q = none
    · exact Or.inl g
    · exact Or.inr (by rw [ht q (hx q g).1]; exact (hx q g).2)
  have hto : ∀ a, tg2 a ≠ none → a < n2 := fun a ha => by
    cases o with
    | inl v => rw [ho2 v rfl]; exact K.tgo a ha
    | inr E => exact Nat.lt_of_lt_of_le (hth E rfl a ha) hn2
  have K := CR_sz K hto
  have K1 : CR (xset M1 ou e) n2 ct2 tg2 Bn2 cn2 rq2 ln2 rt2 tx2 iv2 av2 := CR_un K fun x g => xset_ne _ _ fun g2 => g (by rw [g2, ht ou ho]; exact hot)
  have K2 := CR_scr (CR_mM K1 md hd iv3 av3) iv3 av3 hi ha
  refine ⟨mM (xset M1 ou e) md mx iv3 av3, ?_, ?_, c_M_thrown ok, ct2, tg2, Bn2, cn2, rq2, ln2, rt2, tx2, iv3, av3, md, mx, hc0, rfl, ⟨K2, ok, ?_, fun q hq => ⟨Nat.lt_of_lt_of_le (hx q hq).1 hn2, by rw [ht q (hx q hq).1]; exact (hx q hq).2⟩, Nat.lt_of_lt_of_le ho hn2, by rw [ht ou ho]; exact hot, hox⟩, hV.scr hi.1 ha⟩
  · have := hm (xset M1 ou e) (n2, sl2)
    rw [← hm1] at this
    exact this
  · rw [mM_out0 hox]
    exact xset_self _ _ _
  · exact mM_self fun q hq => mM_base hq
theorem spc_no (L : LM M n ou ct tg Bn cn rq ln rt tx iv av md mx) (hV : VI Bn cn ln rt tx iv av) {E : String} (h : xCl 600 kL (.ref (ct 0) :: As) (M, n, sl) (.inr E, (M, n + 1, sl + 6))) {x code : Int32} (hm : ∀ (B : xMm) (ns : Nat × Nat), xCl 600 kM (.ref (md 0) :: As) (mM B md mx iv av, ns) (.inl (some (.int x)), (mM B md mx (upd iv 0 code) av, ns))) (hv : vd = false) (hR : (E, code) ∈ cd) : SPC vd cd kL kM As M n sl (ct 0) (md 0) ou :=
  spc_of L h (by omega) (CR_waste L.1) rfl (fun _ _ _ => rfl) (fun _ _ => rfl) hm ⟨rfl, rfl, rfl, rfl⟩ (fun _ _ _ _ => rfl) (Or.inr ⟨E, rfl, by simpa [upd] using hR, Or.inr ⟨hv, x, rfl⟩⟩) hV (fun _ _ => L.1.tgo)
/-- an answer that changes nothing -/
theorem spc_same (L : LM M n ou ct tg Bn cn rq ln rt tx iv av md mx) (hV : VI Bn cn ln rt tx iv av) {x : Int32} (h : xCl 600 kL (.ref (ct 0) :: As) (M, n, sl) (.inl (some (.int x)), (M, n, sl))) (hm : ∀ (B : xMm) (ns : Nat × Nat), xCl 600 kM (.ref (md 0) :: As) (mM B md mx iv av, ns) (.inl (some (.int x)), (mM B md mx (upd iv 0 0) av, ns))) (hv : vd = false) : SPC vd cd kL kM As M n sl (ct 0) (md 0) ou :=
  spc_of L h (by omega) L.1 rfl (fun _ _ _ => rfl) (fun _ _ => rfl) hm ⟨rfl, rfl, rfl, rfl⟩ (fun _ _ _ _ => rfl) (Or.inl ⟨by simp [upd], Or.inr ⟨hv, x, rfl, rfl⟩⟩) hV (fun _ h => by cases h)
/-- an answer that changes cells of its own -/
theorem spc_put (L : LM M n ou ct tg Bn cn rq ln rt tx iv av md mx) {x : Int32} {M1 : xMm} {n1 sl1 : Nat} (h : xCl 600 kL (.ref (ct 0) :: As) (M, n, sl) (.inl (some (.int x)), (M1, n1, sl1))) (hn : n ≤ n1 ∧ n1 ≤ n + 90 ∧ sl1 ≤ sl + 800) {ct2 : Nat → Nat} {tg2 : Nat → Option Nat} {Bn2 : xMm} {cn2 rq2 ln2 : Nat} {rt2 : Nat → Nat → Option Nat} {tx2 : Nat → List Int32} {iv3 : Nat → Int32} {av3 : Nat → Nat → Int32} (K : CR M1 n1 ct2 tg2 Bn2 cn2 rq2 ln2 rt2 tx2 iv3 av3) (hc0 : ct2 0 = ct 0) (hf : ∀ x, x < n → tg x = none → M1 x = M x) (ht : ∀ x, x < n → tg2 x = tg x) (hm : ∀ (B : xMm) (ns : Nat × Nat), xCl 600 kM (.ref (md 0) :: As) (mM B md mx iv av, ns) (.inl (some (.int x)), (mM B md mx iv3 av3, ns))) (h0 : iv3 0 = 0) (hv : vd = false) (hV : VI Bn2 cn2 ln2 rt2 tx2 iv3 av3) : SPC vd cd kL kM As M n sl (ct 0) (md 0) ou :=
  spc_of L h hn K hc0 hf ht hm ⟨rfl, rfl, rfl, rfl⟩ (fun _ _ _ _ => rfl) (Or.inl ⟨h0, Or.inr ⟨hv, x, rfl, rfl⟩⟩) hV (fun _ h => by cases h)
end SP
