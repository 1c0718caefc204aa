/-! what the reference builds of a text -/
def bAt (d : Nat) (B : xMm) (ad : Nat → Nat) (ix : Nat → Option Nat) (iv : Nat → Int32) (ns : Nat × Nat) (c : Nat) (av : Nat → Nat → Int32) (pa no lf : Int32) (i : Nat) (X : xO × xS) : Prop := ∀ o6 o7 o8 : Option Value, xEv (d + 2) k_M_build 39 [some (.ref (ad 0)), some (.int (nI c)), some (.int pa), some (.int no), some (.int lf), some (.int (nI i)), o6, o7, o8] [] (mM B ad ix iv av, ns) X
def bC (ad : Nat → Nat) (ix : Nat → Option Nat) (iv : Nat → Int32) (c pn : Nat) : Prop := mOk ad ix ∧ c < 8 ∧ pn ≤ 80 ∧ iv 1 = nI pn
def BP (av av1 : Nat → Nat → Int32) (c n n1 : Nat) : Prop := (∀ k, (k < 6 ∨ 12 < k) → av1 k = av k) ∧ (∀ x, x ≠ c → av1 6 x = av 6 x) ∧ av1 6 c = nI n1 ∧ n ≤ n1 ∧ (∀ k x, 7 ≤ k → k ≤ 12 → (x < 160 * c + n ∨ 160 * c + 160 ≤ x) → av1 k x = av k x)
theorem BP.trans {av av1 av2 : Nat → Nat → Int32} {c n n1 n2 : Nat} (h : BP av av1 c n n1) (h2 : BP av1 av2 c n1 n2) : BP av av2 c n n2 := by
  obtain ⟨a1, a2, a3, a4, a5⟩ := h
  obtain ⟨b1, b2, b3, b4, b5⟩ := h2
  exact ⟨fun k hk => (b1 k hk).trans (a1 k hk), fun x hx => (b2 x hx).trans (a2 x hx), b3, by omega, fun k x h1 h2 h3 => (b5 k x h1 h2 (by omega)).trans (a5 k x h1 h2 h3)⟩
theorem BP.refl {av : Nat → Nat → Int32} {c n : Nat} (h : av 6 c = nI n) : BP av av c n n := ⟨fun _ _ => rfl, fun _ _ => rfl, h, Nat.le_refl _, fun _ _ _ _ _ => rfl⟩
def PAR (av : Nat → Nat → Int32) (c n n1 pt : Nat) : Prop := ∀ j, n ≤ j → j < n1 → ∃ u, av 8 (160 * c + j) = nI u ∧ u < j ∧ (u = pt ∨ n ≤ u)
def XT (av av2 : Nat → Nat → Int32) (c m m1 N : Nat) : Prop := m1 ≤ N ∧ N ≤ 160 ∧ (∀ k x, 7 ≤ k → k ≤ 12 → m ≤ x → x < m1 → av2 k (160 * c + x) = av k (160 * c + x)) ∧ (∀ j, m1 ≤ j → j < N → ∀ u, m ≤ u → u < m1 → av2 8 (160 * c + j) ≠ nI u)
/-- a part of what is kept is kept -/
theorem XT.sub {av av1 av2 : Nat → Nat → Int32} {c m m1 n1 n2 N : Nat} (h : XT av1 av2 c m m1 N) (h1 : m ≤ n1) (h2 : n2 ≤ m1) (ha : ∀ k x, 7 ≤ k → k ≤ 12 → n1 ≤ x → x < n2 → av1 k (160 * c + x) = av k (160 * c + x)) (hp : ∀ j, n2 ≤ j → j < m1 → ∃ u, av1 8 (160 * c + j) = nI u ∧ u < 160 ∧ (u < n1 ∨ n2 ≤ u)) : XT av av2 c n1 n2 N := by
  obtain ⟨a1, a2, a3, a4⟩ := h
  refine ⟨by omega, a2, fun k x g1 g2 g3 g4 => (a3 k x g1 g2 (by omega) (by omega)).trans (ha k x g1 g2 g3 g4), fun j g1 g2 u g3 g4 => ?_⟩
  by_cases hj : j < m1
  · obtain ⟨v, e1, e2, e3⟩ := hp j g1 hj
    rw [a3 8 j (by omega) (by omega) (by omega) hj, e1]
    intro e
    have := (nI_eq (by omega) (by omega)).mp e
    omega
  · exact a4 j (by omega) g2 u (by omega) (by omega)
def goodN (av : Nat → Nat → Int32) (c N x : Nat) : Prop := (∃ tu, tu ≤ 3 ∧ av 9 (160 * c + x) = nI tu) ∧ (∃ nu, nu < 1000000 ∧ av 12 (160 * c + x) = nI nu) ∧ ((av 7 (160 * c + x) = 0 ∧ mNm (av 10 (160 * c + x))) ∨ ((av 7 (160 * c + x) = 1 ∨ av 7 (160 * c + x) = 2) ∧ chs av c x (N - 1 - x) (x + 1) ≠ []))
def GX (av : Nat → Nat → Int32) (c m m1 : Nat) : Prop := ∀ av2 N, XT av av2 c m m1 N → ∀ x, m ≤ x → x < m1 → goodN av2 c N x
def NX (av : Nat → Nat → Int32) (c m m1 k : Nat) (D : Den) : Prop := ∀ av2 N, XT av av2 c m m1 N → NR av2 c N k D
/-- children of a node beyond what is kept: none -/
theorem XT.after {av av2 : Nat → Nat → Int32} {c m m1 N k : Nat} (h : XT av av2 c m m1 N) (h1 : m ≤ k) (h2 : k < m1) : chs av2 c k (N - 1 - k) (k + 1) = chs av c k (m1 - 1 - k) (k + 1) := by
  obtain ⟨a1, a2, a3, a4⟩ := h
  rw [show N - 1 - k = (m1 - 1 - k) + (N - m1) by omega, chs_add, chs_none av2 c k (N - m1) _ (fun j g1 g2 => a4 j (by omega) (by omega) k h1 h2), List.append_nil]
  exact chs_same av av2 c k _ _ (fun j g1 g2 => a3 8 j (by omega) (by omega) (by omega) (by omega))
section BL
variable {d : Nat} {B : xMm} {ad : Nat → Nat} {ix : Nat → Option Nat} {iv : Nat → Int32} {ns : Nat × Nat} {c pn : Nat}
theorem t_not (hC : bC ad ix iv c pn) {av : Nat → Nat → Int32} {pa no lf : Int32} {i : Nat} (hi : i < pn) (hs : av 2 i = 33) {X : xO × xS} (h : bAt d B ad ix iv ns c av pa (no + 1) lf (i + 1) X) : bAt d B ad ix iv ns c av pa no lf i X := fun o6 o7 o8 => b_not hC.1 c pn i hC.2.1 hC.2.2.1 hC.2.2.2 hi pa no lf o6 o7 o8 33 hs rfl h
theorem t_amp (hC : bC ad ix iv c pn) {av : Nat → Nat → Int32} {pa no lf : Int32} {i : Nat} (hi : i < pn) (hs : av 2 i = 38) {X : xO × xS} (h : bAt d B ad ix iv ns c av pa no lf (i + 1) X) : bAt d B ad ix iv ns c av pa no lf i X := fun o6 o7 o8 => b_amp hC.1 c pn i hC.2.1 hC.2.2.1 hC.2.2.2 hi pa no lf o6 o7 o8 38 hs rfl h
/-- the digits of a number, at the leaf q -/
theorem t_num (hC : bC ad ix iv c pn) (q : Nat) (hq : q < 150) (pa no : Int32) : ∀ k m p (av : Nat → Nat → Int32), p ≤ pn → av 12 (160 * c + q) = nI m → ∃ av1, (∀ k x, (k ≠ 12 ∨ x ≠ 160 * c + q) → av1 k x = av k x) ∧ av1 12 (160 * c + q) = nI (pNum (av 2) pn k m p).2 ∧ ∀ X, bAt d B ad ix iv ns c av1 pa no (nI q) (pNum (av 2) pn k m p).1 X → bAt d B ad ix iv ns c av pa no (nI q) p X
  | 0, m, p, av, hp, h => ⟨av, fun _ _ _ => rfl, h, fun X hX => hX⟩
  | k + 1, m, p, av, hp, h => by
    rw [pNum]
    split
    · rename_i hd
      have hp1 : p < pn := sg_lt (fun e => by rw [e] at hd; exact absurd hd (by decide))
      have hd2 : 48 ≤ av 2 p ∧ av 2 p ≤ 57 := by rw [sg_at hp1] at hd; simpa [isD] using hd
      obtain ⟨v, hv, e⟩ := nI_of (x := av 2 p) (by grind)
      have hv1 : 48 ≤ v := (nI_leI (a := 48) (by decide) (by omega)).mp (by rw [← e]; exact hd2.1)
      have hval : 10 * av 12 (160 * c + q) + av 2 p - 48 = nI (10 * m + ((sg (av 2) pn p).toNatClampNeg - 48)) := by
        rw [sg_at hp1, h, e, nI_clamp (by omega), show (10 : Int32) = nI 10 from rfl, pk_mul, nI_add, show (48 : Int32) = nI 48 from rfl, pk_sub (by omega)]
        congr 1
        omega
      obtain ⟨av1, g1, g2, g3⟩ := t_num hC q hq pa no k (10 * m + ((sg (av 2) pn p).toNatClampNeg - 48)) (p + 1) (va_up av 12 (upd (av 12) (160 * c + q) (10 * av 12 (160 * c + q) + av 2 p - 48))) (by omega) (by rw [va_up_self, hval]; simp [upd])
      refine ⟨av1, fun k x hkx => (g1 k x hkx).trans ?_, g2, fun X hX => ?_⟩
      · by_cases hk : k = 12
        · subst hk
          rw [va_up_self]
          have : x ≠ 160 * c + q := by rcases hkx with g | g; exact absurd rfl g; exact g
          simp [upd, this]
        · rw [va_up_ne _ _ hk]
      · exact fun o6 o7 o8 => b_dig hC.1 c pn p hC.2.1 hC.2.2.1 hC.2.2.2 hp1 pa no (nI q) o6 o7 o8 (av 2 p) rfl hd2 q (by omega) rfl (g3 X hX)
    · exact ⟨av, fun _ _ _ => rfl, h, fun X hX => hX⟩
end BL
theorem nod_at (av : Nat → Nat → Int32) (c n : Nat) (kd pa : Int32) : nod av c n kd pa 7 (160 * c + n) = kd ∧ nod av c n kd pa 8 (160 * c + n) = pa ∧ nod av c n kd pa 9 (160 * c + n) = 0 ∧ nod av c n kd pa 10 (160 * c + n) = 0 ∧ nod av c n kd pa 11 (160 * c + n) = 0 ∧ nod av c n kd pa 12 (160 * c + n) = 0 := by
  rw [nod_7, nod_8, nod_9, nod_10, nod_11, nod_12]
  simp [upd]
theorem nod_no {av : Nat → Nat → Int32} {c n : Nat} {kd pa : Int32} {k x : Nat} (h1 : 7 ≤ k) (h2 : k ≤ 12) (hx : x ≠ 160 * c + n) : nod av c n kd pa k x = av k x := by
  have h : k = 7 ∨ k = 8 ∨ k = 9 ∨ k = 10 ∨ k = 11 ∨ k = 12 := by omega
  rcases h with rfl | rfl | rfl | rfl | rfl | rfl
  · rw [nod_7]; simp [upd, hx]
  · rw [nod_8]; simp [upd, hx]
  · rw [nod_9]; simp [upd, hx]
  · rw [nod_10]; simp [upd, hx]
  · rw [nod_11]; simp [upd, hx]
  · rw [nod_12]; simp [upd, hx]
theorem nod_BP {av : Nat → Nat → Int32} {c n : Nat} (kd pa : Int32) (hn : n < 160) : BP av (nod av c n kd pa) c n (n + 1) :=
  ⟨fun k hk => nod_ne (by omega), fun x hx => by rw [nod_6]; simp [upd, hx], by rw [nod_6]; simp [upd], by omega, fun k x h1 h2 h3 => nod_no h1 h2 (by omega)⟩
