/-! the nodes of bits and groups -/
theorem part_NX {av : Nat → Nat → Int32} {c pt n1 : Nat} {Ds : List Den} (hlt : pt + 1 ≤ n1) (h7 : av 7 (160 * c + pt) = 1) (h9 : av 9 (160 * c + pt) = nI 0) (h12 : av 12 (160 * c + pt) = nI 0) (hz : zip2 (fun x D => NX av c (pt + 1) n1 x D) (chs av c pt (n1 - (pt + 1)) (pt + 1)) Ds) (hne : Ds ≠ []) (hG : GX av c (pt + 1) n1) : NX av c pt n1 pt (gD 38 Ds) ∧ GX av c pt n1 := by
  have sub : ∀ av2 N, XT av av2 c pt n1 N → XT av av2 c (pt + 1) n1 N := fun av2 N h => h.sub (by omega) (Nat.le_refl _) (fun _ _ _ _ _ _ => rfl) (fun j g1 g2 => by omega)
  have kids : ∀ av2 N, XT av av2 c pt n1 N → chs av2 c pt (N - 1 - pt) (pt + 1) = chs av c pt (n1 - (pt + 1)) (pt + 1) := fun av2 N h => by rw [h.after (Nat.le_refl _) (by omega), show n1 - 1 - pt = n1 - (pt + 1) by omega]
  refine ⟨fun av2 N h => ?_, fun av2 N h x h1 h2 => ?_⟩
  · have := NR_grp (av := av2) (c := c) (N := N) (k := pt) (tu := 0) (kd := 1) (Ds := Ds) (by have := h.1; omega) ((h.2.2.1 7 pt (by omega) (by omega) (Nat.le_refl _) (by omega)).trans h7) (Or.inl rfl) ((h.2.2.1 9 pt (by omega) (by omega) (Nat.le_refl _) (by omega)).trans h9) (by omega) (kids av2 N h) (zip2_mono _ _ (fun j D _ g => g av2 N (sub av2 N h)) hz) hne
    exact this
  · by_cases e : x = pt
    · subst e
      refine ⟨⟨0, by omega, (h.2.2.1 9 x (by omega) (by omega) (Nat.le_refl _) (by omega)).trans h9⟩, ⟨0, by decide, (h.2.2.1 12 x (by omega) (by omega) (Nat.le_refl _) (by omega)).trans h12⟩, Or.inr ⟨Or.inl ((h.2.2.1 7 x (by omega) (by omega) (Nat.le_refl _) (by omega)).trans h7), ?_⟩⟩
      rw [kids av2 N h]
      intro e2
      rw [e2] at hz
      cases Ds with
      | nil => exact hne rfl
      | cons _ _ => exact hz
    · exact hG av2 N (sub av2 N h) x (by omega) h2
theorem any_NX {av : Nat → Nat → Int32} {c a n1 no : Nat} {Ds : List Den} (hno : no ≤ 3) (hlt : a + 2 ≤ n1) (h7 : av 7 (160 * c + a) = 2) (h9 : av 9 (160 * c + a) = nI no) (h12 : av 12 (160 * c + a) = nI 0) (h8 : av 8 (160 * c + (a + 1)) = nI a) (hz : zip2 (fun x D => NX av c (a + 1) n1 x D) ((a + 1) :: chs av c a (n1 - (a + 2)) (a + 2)) Ds) (hne : Ds ≠ []) (hG : GX av c (a + 1) n1) : NX av c a n1 a (pre no (gD 124 Ds)) ∧ GX av c a n1 := by
  have sub : ∀ av2 N, XT av av2 c a n1 N → XT av av2 c (a + 1) n1 N := fun av2 N h => h.sub (by omega) (Nat.le_refl _) (fun _ _ _ _ _ _ => rfl) (fun j g1 g2 => by omega)
  have kids : ∀ av2 N, XT av av2 c a n1 N → chs av2 c a (N - 1 - a) (a + 1) = (a + 1) :: chs av c a (n1 - (a + 2)) (a + 2) := fun av2 N h => by
    rw [h.after (Nat.le_refl _) (by omega), show n1 - 1 - a = (n1 - (a + 2)) + 1 by omega, chs, if_pos h8]
  refine ⟨fun av2 N h => ?_, fun av2 N h x h1 h2 => ?_⟩
  · have := NR_grp (av := av2) (c := c) (N := N) (k := a) (tu := no) (kd := 2) (Ds := Ds) (by have := h.1; omega) ((h.2.2.1 7 a (by omega) (by omega) (Nat.le_refl _) (by omega)).trans h7) (Or.inr rfl) ((h.2.2.1 9 a (by omega) (by omega) (Nat.le_refl _) (by omega)).trans h9) hno (kids av2 N h) (zip2_mono _ _ (fun j D _ g => g av2 N (sub av2 N h)) hz) hne
    exact this
  · by_cases e : x = a
    · subst e
      refine ⟨⟨no, hno, (h.2.2.1 9 x (by omega) (by omega) (Nat.le_refl _) (by omega)).trans h9⟩, ⟨0, by decide, (h.2.2.1 12 x (by omega) (by omega) (Nat.le_refl _) (by omega)).trans h12⟩, Or.inr ⟨Or.inr ((h.2.2.1 7 x (by omega) (by omega) (Nat.le_refl _) (by omega)).trans h7), ?_⟩⟩
      rw [kids av2 N h]
      simp
    · exact hG av2 N (sub av2 N h) x (by omega) h2
theorem leaf_NX {av : Nat → Nat → Int32} {c n no m : Nat} {nm sn : Int32} (hno : no ≤ 3) (hm : m < 1000000) (hn : mNm nm) (h7 : av 7 (160 * c + n) = 0) (h9 : av 9 (160 * c + n) = nI no) (h10 : av 10 (160 * c + n) = nm) (h11 : av 11 (160 * c + n) = sn) (h12 : av 12 (160 * c + n) = nI m) : NX av c n (n + 1) n (pre no (leafD nm sn m)) ∧ GX av c n (n + 1) := by
  refine ⟨fun av2 N h => ?_, fun av2 N h x h1 h2 => ?_⟩
  · have k := fun q (g1 : 7 ≤ q) (g2 : q ≤ 12) => h.2.2.1 q n g1 g2 (Nat.le_refl _) (by omega)
    exact NR_leaf (by have := h.1; omega) ((k 7 (by omega) (by omega)).trans h7) ((k 9 (by omega) (by omega)).trans h9) hno ((k 10 (by omega) (by omega)).trans h10) ((k 11 (by omega) (by omega)).trans h11) ((k 12 (by omega) (by omega)).trans h12) hm
  · have e : x = n := by omega
    subst e
    have k := fun q (g1 : 7 ≤ q) (g2 : q ≤ 12) => h.2.2.1 q x g1 g2 (Nat.le_refl _) (by omega)
    exact ⟨⟨no, hno, (k 9 (by omega) (by omega)).trans h9⟩, ⟨m, hm, (k 12 (by omega) (by omega)).trans h12⟩, Or.inl ⟨(k 7 (by omega) (by omega)).trans h7, by rw [k 10 (by omega) (by omega), h10]; exact hn⟩⟩
def bBit (d : Nat) (B : xMm) (ad : Nat → Nat) (ix : Nat → Option Nat) (iv : Nat → Int32) (ns : Nat × Nat) (c pn : Nat) (s : Nat → Int32) (R : Nat → Int32 → Nat → Nat → Nat → Nat × Option (List Den)) (f : Nat) : Prop :=
  ∀ (j : Int32) (b no p q : Nat) (D : Den), p ≤ pn → b ≤ 5 → no ≤ 3 → 3 * (81 - p) + 1 ≤ f → R 0 j b no p = (q, some [D]) → ∀ (av : Nat → Nat → Int32) (n pt : Nat) (lf : Int32), av 2 = s → av 6 c = nI n → n + (q - p) ≤ 150 → pt < n →
    ∃ (av1 : Nat → Nat → Int32) (n1 : Nat) (lf1 : Int32), BP av av1 c n n1 ∧ n < n1 ∧ n1 ≤ n + (q - p) ∧ av1 8 (160 * c + n) = nI pt ∧ (∀ j, n < j → j < n1 → ∃ u, av1 8 (160 * c + j) = nI u ∧ u < j ∧ n ≤ u) ∧ NX av1 c n n1 n (pre no D) ∧ GX av1 c n n1 ∧ ∀ X, bAt d B ad ix iv ns c av1 (nI pt) 0 lf1 q X → bAt d B ad ix iv ns c av (nI pt) (nI no) lf p X
def bAnd (d : Nat) (B : xMm) (ad : Nat → Nat) (ix : Nat → Option Nat) (iv : Nat → Int32) (ns : Nat × Nat) (c pn : Nat) (s : Nat → Int32) (R : Nat → Int32 → Nat → Nat → Nat → Nat × Option (List Den)) (f : Nat) : Prop :=
  ∀ (b p q : Nat) (D : Den), p ≤ pn → b ≤ 5 → 3 * (81 - p) + 2 ≤ f → R 1 38 b 0 p = (q, some [D]) → ∀ (av : Nat → Nat → Int32) (n pt : Nat) (lf : Int32), av 2 = s → av 6 c = nI n → n + (q - p) ≤ 150 → pt < n →
    ∃ (av1 : Nat → Nat → Int32) (n1 : Nat) (lf1 : Int32) (Ds : List Den), D = gD 38 Ds ∧ Ds ≠ [] ∧ BP av av1 c n n1 ∧ n < n1 ∧ n1 ≤ n + (q - p) ∧ PAR av1 c n n1 pt ∧ zip2 (fun x D => NX av1 c n n1 x D) (chs av1 c pt (n1 - n) n) Ds ∧ GX av1 c n n1 ∧ ∀ X, bAt d B ad ix iv ns c av1 (nI pt) 0 lf1 q X → bAt d B ad ix iv ns c av (nI pt) 0 lf p X
def bAndM (d : Nat) (B : xMm) (ad : Nat → Nat) (ix : Nat → Option Nat) (iv : Nat → Int32) (ns : Nat × Nat) (c pn : Nat) (s : Nat → Int32) (R : Nat → Int32 → Nat → Nat → Nat → Nat × Option (List Den)) (f : Nat) : Prop :=
  ∀ (b p q : Nat) (Ds : List Den), p ≤ pn → b ≤ 5 → 3 * (81 - p) ≤ f → R 2 38 b 0 p = (q, some Ds) → ∀ (av : Nat → Nat → Int32) (n pt : Nat) (lf : Int32), av 2 = s → av 6 c = nI n → n + (q - p) ≤ 150 → pt < n →
    ∃ (av1 : Nat → Nat → Int32) (n1 : Nat) (lf1 : Int32), BP av av1 c n n1 ∧ n1 ≤ n + (q - p) ∧ PAR av1 c n n1 pt ∧ zip2 (fun x D => NX av1 c n n1 x D) (chs av1 c pt (n1 - n) n) Ds ∧ GX av1 c n n1 ∧ ∀ X, bAt d B ad ix iv ns c av1 (nI pt) 0 lf1 q X → bAt d B ad ix iv ns c av (nI pt) 0 lf p X
def bOr (d : Nat) (B : xMm) (ad : Nat → Nat) (ix : Nat → Option Nat) (iv : Nat → Int32) (ns : Nat × Nat) (c pn : Nat) (s : Nat → Int32) (R : Nat → Int32 → Nat → Nat → Nat → Nat × Option (List Den)) (f : Nat) : Prop :=
  ∀ (b p q : Nat) (D : Den), p ≤ pn → b ≤ 5 → 3 * (81 - p) + 3 ≤ f → R 1 124 b 0 p = (q, some [D]) → ∀ (av : Nat → Nat → Int32) (pt a : Nat) (lf : Int32), av 2 = s → av 6 c = nI (pt + 1) → pt + 1 + (q - p) ≤ 150 → a < pt → av 7 (160 * c + pt) = 1 → av 8 (160 * c + pt) = nI a → av 9 (160 * c + pt) = nI 0 → av 12 (160 * c + pt) = nI 0 →
    ∃ (av1 : Nat → Nat → Int32) (n1 : Nat) (lf1 : Int32) (pt1 : Nat) (Ds : List Den), D = gD 124 Ds ∧ Ds ≠ [] ∧ BP av av1 c (pt + 1) n1 ∧ n1 ≤ pt + 1 + (q - p) ∧ (∀ j, pt + 1 ≤ j → j < n1 → ∃ u, av1 8 (160 * c + j) = nI u ∧ u < j ∧ (u = a ∨ pt ≤ u)) ∧ zip2 (fun x D => NX av1 c pt n1 x D) (pt :: chs av1 c a (n1 - (pt + 1)) (pt + 1)) Ds ∧ GX av1 c pt n1 ∧ pt1 < n1 ∧ av1 8 (160 * c + pt1) = nI a ∧ ∀ X, bAt d B ad ix iv ns c av1 (nI pt1) 0 lf1 q X → bAt d B ad ix iv ns c av (nI pt) 0 lf p X
def bOrM (d : Nat) (B : xMm) (ad : Nat → Nat) (ix : Nat → Option Nat) (iv : Nat → Int32) (ns : Nat × Nat) (c pn : Nat) (s : Nat → Int32) (R : Nat → Int32 → Nat → Nat → Nat → Nat × Option (List Den)) (f : Nat) : Prop :=
  ∀ (b p q : Nat) (Ds : List Den), p ≤ pn → b ≤ 5 → 3 * (81 - p) ≤ f → R 2 124 b 0 p = (q, some Ds) → ∀ (av : Nat → Nat → Int32) (n pt a : Nat) (lf : Int32), av 2 = s → av 6 c = nI n → n + (q - p) ≤ 150 → pt < n → a < n → av 8 (160 * c + pt) = nI a →
    ∃ (av1 : Nat → Nat → Int32) (n1 : Nat) (lf1 : Int32) (pt1 : Nat), BP av av1 c n n1 ∧ n1 ≤ n + (q - p) ∧ PAR av1 c n n1 a ∧ zip2 (fun x D => NX av1 c n n1 x D) (chs av1 c a (n1 - n) n) Ds ∧ GX av1 c n n1 ∧ pt1 < n1 ∧ av1 8 (160 * c + pt1) = nI a ∧ ∀ X, bAt d B ad ix iv ns c av1 (nI pt1) 0 lf1 q X → bAt d B ad ix iv ns c av (nI pt) 0 lf p X
/-- two stretches of new nodes, one behind the other -/
theorem GX_app {av av1 : Nat → Nat → Int32} {c m n1 n2 : Nat} (hBP : BP av av1 c n1 n2) (hm : m ≤ n1) (hn : n1 ≤ 160) (hG : GX av c m n1) (hG2 : GX av1 c n1 n2) (hp : ∀ j, n1 ≤ j → j < n2 → ∃ u, av1 8 (160 * c + j) = nI u ∧ u < 160 ∧ (u < m ∨ n1 ≤ u)) : GX av1 c m n2 := by
  intro av2 N h x h1 h2
  by_cases hx : x < n1
  · exact hG av2 N (h.sub (Nat.le_refl _) hBP.2.2.2.1 (fun k y g1 g2 g3 g4 => hBP.2.2.2.2 k _ g1 g2 (by omega)) hp) x h1 hx
  · exact hG2 av2 N (h.sub hm (Nat.le_refl _) (fun _ _ _ _ _ _ => rfl) (fun j g1 g2 => by omega)) x (by omega) h2
theorem NX_left {av av1 : Nat → Nat → Int32} {c m n1 n2 k : Nat} {D : Den} (hBP : BP av av1 c n1 n2) (hm : m ≤ n1) (hn : n1 ≤ 160) (hN : NX av c m n1 k D) (hp : ∀ j, n1 ≤ j → j < n2 → ∃ u, av1 8 (160 * c + j) = nI u ∧ u < 160 ∧ (u < m ∨ n1 ≤ u)) : NX av1 c m n2 k D := fun av2 N h =>
  hN av2 N (h.sub (Nat.le_refl _) hBP.2.2.2.1 (fun k y g1 g2 g3 g4 => hBP.2.2.2.2 k _ g1 g2 (by omega)) hp)
theorem NX_right {av : Nat → Nat → Int32} {c m n1 n2 k : Nat} {D : Den} (hm : m ≤ n1) (hN : NX av c n1 n2 k D) : NX av c m n2 k D := fun av2 N h =>
  hN av2 N (h.sub hm (Nat.le_refl _) (fun _ _ _ _ _ _ => rfl) (fun j g1 g2 => by omega))
