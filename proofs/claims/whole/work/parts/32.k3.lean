/-! the class's heap beside the reference's numbers -/
def slc (k : Nat) (f : Nat → Int32) (i : Nat) : Nat → Int32 := fun j => if j < k then f (k * i + j) else 0
theorem slc_at {k : Nat} (f : Nat → Int32) (i : Nat) {j : Nat} (h : j < k) : slc k f i j = f (k * i + j) := if_pos h
theorem slc_upd {k : Nat} (f : Nat → Int32) (i : Nat) {j : Nat} (x : Int32) (h : j < k) : upd (slc k f i) j x = slc k (upd f (k * i + j) x) i := by
  funext q
  unfold upd slc
  by_cases h1 : q = j
  · subst h1
    simp [h]
  · by_cases h2 : q < k
    · simp [h1, h2]
    · simp [h1, h2]
theorem slc_ne {k : Nat} (f : Nat → Int32) {i i2 j : Nat} (x : Int32) (h : j < k) (hi : i2 ≠ i) : slc k (upd f (k * i + j) x) i2 = slc k f i2 := by
  funext q
  unfold upd slc
  by_cases h2 : q < k
  · rw [if_pos h2, if_pos h2]
    show (if k * i2 + q = k * i + j then x else f (k * i2 + q)) = f (k * i2 + q)
    rw [if_neg]
    intro e
    rcases Nat.lt_or_gt_of_ne hi with g | g
    · have := Nat.mul_le_mul_left k (show i2 + 1 ≤ i from g)
      rw [Nat.mul_add, Nat.mul_one] at this
      omega
    · have := Nat.mul_le_mul_left k (show i + 1 ≤ i2 from g)
      rw [Nat.mul_add, Nat.mul_one] at this
      omega
  · rw [if_neg h2, if_neg h2]
def lvt (cn rq ln t : Nat) : Prop := t < 9 ∨ (10 ≤ t ∧ t < 34) ∨ (40 ≤ t ∧ t < 40 + rq) ∨ (100 ≤ t ∧ t < 100 + 5 * ln) ∨ (200 ≤ t ∧ t < 200 + 4 * cn)
def CR (M : xMm) (n : Nat) (ct : Nat → Nat) (tg : Nat → Option Nat) (Bn : xMm) (cn rq ln : Nat) (rt : Nat → Nat → Option Nat) (tx : Nat → List Int32) (iv : Nat → Int32) (av : Nat → Nat → Int32) : Prop :=
  (M (ct 0) = some (.inr (0, [.ref (ct 1), .ref (ct 3), .ref (ct 5), .ref (ct 6), .ref (ct 7), .ref (ct 8), .int (iv 3), .int (iv 23), .int (iv 33)]))) ∧
  (M (ct 1) = some (.inr (6, [.ref (ct 2), .int (iv 1)]))) ∧
  (M (ct 2) = some (.inl (0, 240, .inl (av 2)))) ∧
  (∃ (z : Int32) (f : Nat → Int32), M (ct 3) = some (.inr (6, [.ref (ct 4), .int z])) ∧ M (ct 4) = some (.inl (0, 240, .inl f))) ∧
  (M (ct 5) = some (.inl (2, 8, .inr (.inr (.inr (.inr fun c => if c < cn then some (ct (200 + 4 * c)) else none)))))) ∧
  (M (ct 6) = some (.inl (3, 8, .inr (.inr (.inr (.inr fun i => if i < 8 then some (ct (10 + 3 * i)) else none)))))) ∧
  (M (ct 7) = some (.inl (4, 20, .inr (.inr (.inr (.inr fun l => if l < ln then some (ct (100 + 5 * l)) else none)))))) ∧
  (M (ct 8) = some (.inl (5, 30, .inr (.inr (.inr (.inr fun r => if r < rq then some (ct (40 + r)) else none)))))) ∧
  (∀ i, i < 8 → M (ct (10 + 3 * i)) = some (.inr (2, [.ref (ct (11 + 3 * i)), .ref (ct (12 + 3 * i)), .int (av 18 i), .int (av 21 i), .int (av 22 i)]))) ∧
  (∀ i, i < 8 → M (ct (11 + 3 * i)) = some (.inl (0, 60, .inl (slc 60 (av 19) i)))) ∧
  (∀ i, i < 8 → M (ct (12 + 3 * i)) = some (.inl (0, 60, .inl (slc 60 (av 20) i)))) ∧
  (∀ r, r < rq → M (ct (40 + r)) = some (.inr (7, [.int (av 34 r), .int (av 35 r), .int (av 36 r)]))) ∧
  (∀ l, l < ln → M (ct (100 + 5 * l)) = some (.inr (3, [.ref (ct (200 + 4 * (av 24 l).toNatClampNeg)), .ref (ct (101 + 5 * l)), .ref (ct (102 + 5 * l)), .ref (ct (103 + 5 * l)), .ref (ct (104 + 5 * l)), .int (av 28 l), .int (av 30 l)]))) ∧
  (∀ l, l < ln → M (ct (101 + 5 * l)) = some (.inl (0, 100, .inl (slc 100 (av 31) l)))) ∧
  (∀ l, l < ln → M (ct (102 + 5 * l)) = some (.inl (0, 100, .inl (slc 100 (av 32) l)))) ∧
  (∀ l, l < ln → M (ct (103 + 5 * l)) = some (.inl (1, 6, .inl (slc 6 (av 29) l)))) ∧
  (∀ l, l < ln → M (ct (104 + 5 * l)) = some (.inr (7, [.int (av 25 l), .int (av 26 l), .int (av 27 l)]))) ∧
  (∀ c, c < cn → M (ct (200 + 4 * c)) = some (.inr (1, [.ref (ct (201 + 4 * c)), .ref (ct (202 + 4 * c)), .int (av 4 c)]))) ∧
  (∀ c, c < cn → M (ct (201 + 4 * c)) = some (.inl (6, 6, .inr (.inr (.inr (.inr (rt c))))))) ∧
  (∀ c, c < cn → M (ct (202 + 4 * c)) = some (.inr (6, [.ref (ct (203 + 4 * c)), .int (nI (tx c).length)]))) ∧
  (∀ c, c < cn → M (ct (203 + 4 * c)) = some (.inl (0, 240, .inl (wrF (fun _ => 0) (tx c))))) ∧
  (∀ (a : Nat) (e : xE), Bn a = some e → M a = some e) ∧
  (∀ t, lvt cn rq ln t → tg (ct t) = some t ∧ ct t < n) ∧
  (∀ (a : Nat), Bn a ≠ none → tg a = some 999 ∧ a < n) ∧
  (∀ (a : Nat), tg a ≠ none → a < n) ∧
  (cn ≤ 8 ∧ rq ≤ 30 ∧ ln ≤ 20 ∧ iv 3 = nI cn ∧ iv 33 = nI rq ∧ iv 23 = nI ln)
theorem CR.lt {M : xMm} {n : Nat} {ct : Nat → Nat} {tg : Nat → Option Nat} {Bn : xMm} {cn rq ln : Nat} {rt : Nat → Nat → Option Nat} {tx : Nat → List Int32} {iv : Nat → Int32} {av : Nat → Nat → Int32} (K : CR M n ct tg Bn cn rq ln rt tx iv av) : M (ct 0) = some (.inr (0, [.ref (ct 1), .ref (ct 3), .ref (ct 5), .ref (ct 6), .ref (ct 7), .ref (ct 8), .int (iv 3), .int (iv 23), .int (iv 33)])) := K.1
theorem CR.pad {M : xMm} {n : Nat} {ct : Nat → Nat} {tg : Nat → Option Nat} {Bn : xMm} {cn rq ln : Nat} {rt : Nat → Nat → Option Nat} {tx : Nat → List Int32} {iv : Nat → Int32} {av : Nat → Nat → Int32} (K : CR M n ct tg Bn cn rq ln rt tx iv av) : M (ct 1) = some (.inr (6, [.ref (ct 2), .int (iv 1)])) := K.2.1
theorem CR.padA {M : xMm} {n : Nat} {ct : Nat → Nat} {tg : Nat → Option Nat} {Bn : xMm} {cn rq ln : Nat} {rt : Nat → Nat → Option Nat} {tx : Nat → List Int32} {iv : Nat → Int32} {av : Nat → Nat → Int32} (K : CR M n ct tg Bn cn rq ln rt tx iv av) : M (ct 2) = some (.inl (0, 240, .inl (av 2))) := K.2.2.1
theorem CR.lets {M : xMm} {n : Nat} {ct : Nat → Nat} {tg : Nat → Option Nat} {Bn : xMm} {cn rq ln : Nat} {rt : Nat → Nat → Option Nat} {tx : Nat → List Int32} {iv : Nat → Int32} {av : Nat → Nat → Int32} (K : CR M n ct tg Bn cn rq ln rt tx iv av) : ∃ (z : Int32) (f : Nat → Int32), M (ct 3) = some (.inr (6, [.ref (ct 4), .int z])) ∧ M (ct 4) = some (.inl (0, 240, .inl f)) := K.2.2.2.1
theorem CR.cons {M : xMm} {n : Nat} {ct : Nat → Nat} {tg : Nat → Option Nat} {Bn : xMm} {cn rq ln : Nat} {rt : Nat → Nat → Option Nat} {tx : Nat → List Int32} {iv : Nat → Int32} {av : Nat → Nat → Int32} (K : CR M n ct tg Bn cn rq ln rt tx iv av) : M (ct 5) = some (.inl (2, 8, .inr (.inr (.inr (.inr fun c => if c < cn then some (ct (200 + 4 * c)) else none))))) := K.2.2.2.2.1
theorem CR.inps {M : xMm} {n : Nat} {ct : Nat → Nat} {tg : Nat → Option Nat} {Bn : xMm} {cn rq ln : Nat} {rt : Nat → Nat → Option Nat} {tx : Nat → List Int32} {iv : Nat → Int32} {av : Nat → Nat → Int32} (K : CR M n ct tg Bn cn rq ln rt tx iv av) : M (ct 6) = some (.inl (3, 8, .inr (.inr (.inr (.inr fun i => if i < 8 then some (ct (10 + 3 * i)) else none))))) := K.2.2.2.2.2.1
theorem CR.lons {M : xMm} {n : Nat} {ct : Nat → Nat} {tg : Nat → Option Nat} {Bn : xMm} {cn rq ln : Nat} {rt : Nat → Nat → Option Nat} {tx : Nat → List Int32} {iv : Nat → Int32} {av : Nat → Nat → Int32} (K : CR M n ct tg Bn cn rq ln rt tx iv av) : M (ct 7) = some (.inl (4, 20, .inr (.inr (.inr (.inr fun l => if l < ln then some (ct (100 + 5 * l)) else none))))) := K.2.2.2.2.2.2.1
theorem CR.reqs {M : xMm} {n : Nat} {ct : Nat → Nat} {tg : Nat → Option Nat} {Bn : xMm} {cn rq ln : Nat} {rt : Nat → Nat → Option Nat} {tx : Nat → List Int32} {iv : Nat → Int32} {av : Nat → Nat → Int32} (K : CR M n ct tg Bn cn rq ln rt tx iv av) : M (ct 8) = some (.inl (5, 30, .inr (.inr (.inr (.inr fun r => if r < rq then some (ct (40 + r)) else none))))) := K.2.2.2.2.2.2.2.1
theorem CR.inp {M : xMm} {n : Nat} {ct : Nat → Nat} {tg : Nat → Option Nat} {Bn : xMm} {cn rq ln : Nat} {rt : Nat → Nat → Option Nat} {tx : Nat → List Int32} {iv : Nat → Int32} {av : Nat → Nat → Int32} (K : CR M n ct tg Bn cn rq ln rt tx iv av) : ∀ i, i < 8 → M (ct (10 + 3 * i)) = some (.inr (2, [.ref (ct (11 + 3 * i)), .ref (ct (12 + 3 * i)), .int (av 18 i), .int (av 21 i), .int (av 22 i)])) := K.2.2.2.2.2.2.2.2.1
theorem CR.inpH {M : xMm} {n : Nat} {ct : Nat → Nat} {tg : Nat → Option Nat} {Bn : xMm} {cn rq ln : Nat} {rt : Nat → Nat → Option Nat} {tx : Nat → List Int32} {iv : Nat → Int32} {av : Nat → Nat → Int32} (K : CR M n ct tg Bn cn rq ln rt tx iv av) : ∀ i, i < 8 → M (ct (11 + 3 * i)) = some (.inl (0, 60, .inl (slc 60 (av 19) i))) := K.2.2.2.2.2.2.2.2.2.1
theorem CR.inpV {M : xMm} {n : Nat} {ct : Nat → Nat} {tg : Nat → Option Nat} {Bn : xMm} {cn rq ln : Nat} {rt : Nat → Nat → Option Nat} {tx : Nat → List Int32} {iv : Nat → Int32} {av : Nat → Nat → Int32} (K : CR M n ct tg Bn cn rq ln rt tx iv av) : ∀ i, i < 8 → M (ct (12 + 3 * i)) = some (.inl (0, 60, .inl (slc 60 (av 20) i))) := K.2.2.2.2.2.2.2.2.2.2.1
theorem CR.req {M : xMm} {n : Nat} {ct : Nat → Nat} {tg : Nat → Option Nat} {Bn : xMm} {cn rq ln : Nat} {rt : Nat → Nat → Option Nat} {tx : Nat → List Int32} {iv : Nat → Int32} {av : Nat → Nat → Int32} (K : CR M n ct tg Bn cn rq ln rt tx iv av) : ∀ r, r < rq → M (ct (40 + r)) = some (.inr (7, [.int (av 34 r), .int (av 35 r), .int (av 36 r)])) := K.2.2.2.2.2.2.2.2.2.2.2.1
theorem CR.lon {M : xMm} {n : Nat} {ct : Nat → Nat} {tg : Nat → Option Nat} {Bn : xMm} {cn rq ln : Nat} {rt : Nat → Nat → Option Nat} {tx : Nat → List Int32} {iv : Nat → Int32} {av : Nat → Nat → Int32} (K : CR M n ct tg Bn cn rq ln rt tx iv av) : ∀ l, l < ln → M (ct (100 + 5 * l)) = some (.inr (3, [.ref (ct (200 + 4 * (av 24 l).toNatClampNeg)), .ref (ct (101 + 5 * l)), .ref (ct (102 + 5 * l)), .ref (ct (103 + 5 * l)), .ref (ct (104 + 5 * l)), .int (av 28 l), .int (av 30 l)])) := K.2.2.2.2.2.2.2.2.2.2.2.2.1
theorem CR.lonH {M : xMm} {n : Nat} {ct : Nat → Nat} {tg : Nat → Option Nat} {Bn : xMm} {cn rq ln : Nat} {rt : Nat → Nat → Option Nat} {tx : Nat → List Int32} {iv : Nat → Int32} {av : Nat → Nat → Int32} (K : CR M n ct tg Bn cn rq ln rt tx iv av) : ∀ l, l < ln → M (ct (101 + 5 * l)) = some (.inl (0, 100, .inl (slc 100 (av 31) l))) := K.2.2.2.2.2.2.2.2.2.2.2.2.2.1
theorem CR.lonT {M : xMm} {n : Nat} {ct : Nat → Nat} {tg : Nat → Option Nat} {Bn : xMm} {cn rq ln : Nat} {rt : Nat → Nat → Option Nat} {tx : Nat → List Int32} {iv : Nat → Int32} {av : Nat → Nat → Int32} (K : CR M n ct tg Bn cn rq ln rt tx iv av) : ∀ l, l < ln → M (ct (102 + 5 * l)) = some (.inl (0, 100, .inl (slc 100 (av 32) l))) := K.2.2.2.2.2.2.2.2.2.2.2.2.2.2.1
theorem CR.lonS {M : xMm} {n : Nat} {ct : Nat → Nat} {tg : Nat → Option Nat} {Bn : xMm} {cn rq ln : Nat} {rt : Nat → Nat → Option Nat} {tx : Nat → List Int32} {iv : Nat → Int32} {av : Nat → Nat → Int32} (K : CR M n ct tg Bn cn rq ln rt tx iv av) : ∀ l, l < ln → M (ct (103 + 5 * l)) = some (.inl (1, 6, .inl (slc 6 (av 29) l))) := K.2.2.2.2.2.2.2.2.2.2.2.2.2.2.2.1
theorem CR.lonP {M : xMm} {n : Nat} {ct : Nat → Nat} {tg : Nat → Option Nat} {Bn : xMm} {cn rq ln : Nat} {rt : Nat → Nat → Option Nat} {tx : Nat → List Int32} {iv : Nat → Int32} {av : Nat → Nat → Int32} (K : CR M n ct tg Bn cn rq ln rt tx iv av) : ∀ l, l < ln → M (ct (104 + 5 * l)) = some (.inr (7, [.int (av 25 l), .int (av 26 l), .int (av 27 l)])) := K.2.2.2.2.2.2.2.2.2.2.2.2.2.2.2.2.1
theorem CR.con {M : xMm} {n : Nat} {ct : Nat → Nat} {tg : Nat → Option Nat} {Bn : xMm} {cn rq ln : Nat} {rt : Nat → Nat → Option Nat} {tx : Nat → List Int32} {iv : Nat → Int32} {av : Nat → Nat → Int32} (K : CR M n ct tg Bn cn rq ln rt tx iv av) : ∀ c, c < cn → M (ct (200 + 4 * c)) = some (.inr (1, [.ref (ct (201 + 4 * c)), .ref (ct (202 + 4 * c)), .int (av 4 c)])) := K.2.2.2.2.2.2.2.2.2.2.2.2.2.2.2.2.2.1
theorem CR.conR {M : xMm} {n : Nat} {ct : Nat → Nat} {tg : Nat → Option Nat} {Bn : xMm} {cn rq ln : Nat} {rt : Nat → Nat → Option Nat} {tx : Nat → List Int32} {iv : Nat → Int32} {av : Nat → Nat → Int32} (K : CR M n ct tg Bn cn rq ln rt tx iv av) : ∀ c, c < cn → M (ct (201 + 4 * c)) = some (.inl (6, 6, .inr (.inr (.inr (.inr (rt c)))))) := K.2.2.2.2.2.2.2.2.2.2.2.2.2.2.2.2.2.2.1
theorem CR.conT {M : xMm} {n : Nat} {ct : Nat → Nat} {tg : Nat → Option Nat} {Bn : xMm} {cn rq ln : Nat} {rt : Nat → Nat → Option Nat} {tx : Nat → List Int32} {iv : Nat → Int32} {av : Nat → Nat → Int32} (K : CR M n ct tg Bn cn rq ln rt tx iv av) : ∀ c, c < cn → M (ct (202 + 4 * c)) = some (.inr (6, [.ref (ct (203 + 4 * c)), .int (nI (tx c).length)])) := K.2.2.2.2.2.2.2.2.2.2.2.2.2.2.2.2.2.2.2.1
theorem CR.conA {M : xMm} {n : Nat} {ct : Nat → Nat} {tg : Nat → Option Nat} {Bn : xMm} {cn rq ln : Nat} {rt : Nat → Nat → Option Nat} {tx : Nat → List Int32} {iv : Nat → Int32} {av : Nat → Nat → Int32} (K : CR M n ct tg Bn cn rq ln rt tx iv av) : ∀ c, c < cn → M (ct (203 + 4 * c)) = some (.inl (0, 240, .inl (wrF (fun _ => 0) (tx c)))) := K.2.2.2.2.2.2.2.2.2.2.2.2.2.2.2.2.2.2.2.2.1
theorem CR.nod {M : xMm} {n : Nat} {ct : Nat → Nat} {tg : Nat → Option Nat} {Bn : xMm} {cn rq ln : Nat} {rt : Nat → Nat → Option Nat} {tx : Nat → List Int32} {iv : Nat → Int32} {av : Nat → Nat → Int32} (K : CR M n ct tg Bn cn rq ln rt tx iv av) : ∀ (a : Nat) (e : xE), Bn a = some e → M a = some e := K.2.2.2.2.2.2.2.2.2.2.2.2.2.2.2.2.2.2.2.2.2.1
theorem CR.tag {M : xMm} {n : Nat} {ct : Nat → Nat} {tg : Nat → Option Nat} {Bn : xMm} {cn rq ln : Nat} {rt : Nat → Nat → Option Nat} {tx : Nat → List Int32} {iv : Nat → Int32} {av : Nat → Nat → Int32} (K : CR M n ct tg Bn cn rq ln rt tx iv av) : ∀ t, lvt cn rq ln t → tg (ct t) = some t ∧ ct t < n := K.2.2.2.2.2.2.2.2.2.2.2.2.2.2.2.2.2.2.2.2.2.2.1
theorem CR.tgn {M : xMm} {n : Nat} {ct : Nat → Nat} {tg : Nat → Option Nat} {Bn : xMm} {cn rq ln : Nat} {rt : Nat → Nat → Option Nat} {tx : Nat → List Int32} {iv : Nat → Int32} {av : Nat → Nat → Int32} (K : CR M n ct tg Bn cn rq ln rt tx iv av) : ∀ (a : Nat), Bn a ≠ none → tg a = some 999 ∧ a < n := K.2.2.2.2.2.2.2.2.2.2.2.2.2.2.2.2.2.2.2.2.2.2.2.1
theorem CR.tgo {M : xMm} {n : Nat} {ct : Nat → Nat} {tg : Nat → Option Nat} {Bn : xMm} {cn rq ln : Nat} {rt : Nat → Nat → Option Nat} {tx : Nat → List Int32} {iv : Nat → Int32} {av : Nat → Nat → Int32} (K : CR M n ct tg Bn cn rq ln rt tx iv av) : ∀ (a : Nat), tg a ≠ none → a < n := K.2.2.2.2.2.2.2.2.2.2.2.2.2.2.2.2.2.2.2.2.2.2.2.2.1
theorem CR.cnt {M : xMm} {n : Nat} {ct : Nat → Nat} {tg : Nat → Option Nat} {Bn : xMm} {cn rq ln : Nat} {rt : Nat → Nat → Option Nat} {tx : Nat → List Int32} {iv : Nat → Int32} {av : Nat → Nat → Int32} (K : CR M n ct tg Bn cn rq ln rt tx iv av) : cn ≤ 8 ∧ rq ≤ 30 ∧ ln ≤ 20 ∧ iv 3 = nI cn ∧ iv 33 = nI rq ∧ iv 23 = nI ln := K.2.2.2.2.2.2.2.2.2.2.2.2.2.2.2.2.2.2.2.2.2.2.2.2.2
theorem CR.ne {M : xMm} {n : Nat} {ct : Nat → Nat} {tg : Nat → Option Nat} {Bn : xMm} {cn rq ln : Nat} {rt : Nat → Nat → Option Nat} {tx : Nat → List Int32} {iv : Nat → Int32} {av : Nat → Nat → Int32} (K : CR M n ct tg Bn cn rq ln rt tx iv av) {s t : Nat} (hs : lvt cn rq ln s) (ht : lvt cn rq ln t) (h : s ≠ t) : ct s ≠ ct t := by
  intro e
  have h1 := (K.tag s hs).1
  rw [e, (K.tag t ht).1] at h1
  exact h (Option.some.inj h1).symm
theorem CR.nn {M : xMm} {n : Nat} {ct : Nat → Nat} {tg : Nat → Option Nat} {Bn : xMm} {cn rq ln : Nat} {rt : Nat → Nat → Option Nat} {tx : Nat → List Int32} {iv : Nat → Int32} {av : Nat → Nat → Int32} (K : CR M n ct tg Bn cn rq ln rt tx iv av) {a t : Nat} (ha : Bn a ≠ none) (ht : lvt cn rq ln t) : a ≠ ct t := by
  intro e
  have h1 := (K.tgn a ha).1
  rw [e, (K.tag t ht).1] at h1
  have h2 := Option.some.inj h1
  unfold lvt at ht
  have := K.cnt
  omega
theorem cl_ge {i : Int32} {k : Nat} (hk : k < 2 ^ 31) (h0 : 0 ≤ i) (h : ¬ i < nI k) : k ≤ i.toNatClampNeg := by
  obtain ⟨j, hj, e⟩ := nI_of (show ¬ i < 0 by grind)
  rw [e, nI_clamp hj]
  rw [e] at h
  rcases Nat.lt_or_ge j k with g | g
  · exact absurd (nI_lt g hk) h
  · exact g
set_option maxRecDepth 20000 in
theorem c_L_contractOf_ok {d : Nat} {M : xMm} {n sl : Nat} {ct : Nat → Nat} {tg : Nat → Option Nat} {Bn : xMm} {cn rq ln : Nat} {rt : Nat → Nat → Option Nat} {tx : Nat → List Int32} {iv : Nat → Int32} {av : Nat → Nat → Int32} (K : CR M n ct tg Bn cn rq ln rt tx iv av) (c : Nat) (hc : c < cn) : xCl (d) k_L_contractOf [.ref (ct 0), .int (nI c)] (M, n, sl) (.inl (some (.ref (ct (200 + 4 * c)))), (M, n, sl)) := by
  have hb := K.cnt
  show xEv _ k_L_contractOf 0 [some (.ref (ct 0)), some (.int (nI c)), none] [] _ _
  refine ev_iload_n d_L_contractOf_0 rfl ?_
  refine ev_if_lt (t := 19) d_L_contractOf_1 (by decide) (fun c_1 => absurd c_1 (nI_pos (by omega))) (fun _ => ?_)
  refine ev_iload_n d_L_contractOf_4 rfl ?_
  refine ev_bipush (v := 8) d_L_contractOf_5 rfl ?_
  refine ev_icmp_ge (t := 19) d_L_contractOf_7 (by decide) (fun c_7 => absurd c_7 (nI_ge (b := 8) (by omega) (by decide))) (fun _ => ?_)
  refine ev_aload_n d_L_contractOf_10 rfl ?_
  refine ev_get d_L_contractOf_11 f_0_21 (K.lt) rfl ?_
  refine ev_iload_n d_L_contractOf_14 rfl ?_
  refine ev_aald d_L_contractOf_15 (K.cons) ⟨rfl, vp_in_nI (N := 8) (by omega) (by decide)⟩ (by rw [nI_clamp (show c < 2 ^ 31 by omega), if_pos hc]) ?_
  refine ev_goto (t := 20) d_L_contractOf_16 (by decide) ?_
  refine ev_astore_n (lo1 := [some (.ref (ct 0)), some (.int (nI c)), some (.ref (ct (200 + 4 * c)))]) d_L_contractOf_20 (Nat.le_of_ble_eq_true rfl) rfl ?_
  refine ev_aload_n d_L_contractOf_21 rfl ?_
  refine ev_ifnonnull (t := 35) d_L_contractOf_22 (by decide) ?_
  refine ev_aload_n d_L_contractOf_35 rfl ?_
  exact ev_aret d_L_contractOf_36 rfl
set_option maxRecDepth 20000 in
theorem c_L_contractOf_no {d : Nat} {M : xMm} {n sl : Nat} {ct : Nat → Nat} {tg : Nat → Option Nat} {Bn : xMm} {cn rq ln : Nat} {rt : Nat → Nat → Option Nat} {tx : Nat → List Int32} {iv : Nat → Int32} {av : Nat → Nat → Int32} (K : CR M n ct tg Bn cn rq ln rt tx iv av) (i : Int32) (hc : ¬ (0 ≤ i ∧ i < nI cn)) : xCl (d) k_L_contractOf [.ref (ct 0), .int i] (M, n, sl) (.inr "java/lang/IndexOutOfBoundsException", (M, n + 1, sl + 6)) := by
  have hb := K.cnt
  show xEv _ k_L_contractOf 0 [some (.ref (ct 0)), some (.int i), none] [] _ _
  refine ev_iload_n d_L_contractOf_0 rfl ?_
  refine ev_if_lt (t := 19) d_L_contractOf_1 (by decide) (fun c_1_1 => ?_) (fun c_1_1 => ?_)
  · refine ev_null d_L_contractOf_19 ?_
    refine ev_astore_nN (lo1 := [some (.ref (ct 0)), some (.int i), some (.null)]) d_L_contractOf_20 (Nat.le_of_ble_eq_true rfl) rfl ?_
    refine ev_aload_nN d_L_contractOf_21 rfl ?_
    refine ev_ifnonnullN d_L_contractOf_22 ?_
    exact ev_throw d_L_contractOf_25 rfl (Nat.le_of_ble_eq_true rfl)
  · refine ev_iload_n d_L_contractOf_4 rfl ?_
    refine ev_bipush (v := 8) d_L_contractOf_5 rfl ?_
    refine ev_icmp_ge (t := 19) d_L_contractOf_7 (by decide) (fun c_7_2 => ?_) (fun c_7_2 => ?_)
    · refine ev_null d_L_contractOf_19 ?_
      refine ev_astore_nN (lo1 := [some (.ref (ct 0)), some (.int i), some (.null)]) d_L_contractOf_20 (Nat.le_of_ble_eq_true rfl) rfl ?_
      refine ev_aload_nN d_L_contractOf_21 rfl ?_
      refine ev_ifnonnullN d_L_contractOf_22 ?_
      exact ev_throw d_L_contractOf_25 rfl (Nat.le_of_ble_eq_true rfl)
    · refine ev_aload_n d_L_contractOf_10 rfl ?_
      refine ev_get d_L_contractOf_11 f_0_21 (K.lt) rfl ?_
      refine ev_iload_n d_L_contractOf_14 rfl ?_
      refine ev_aald d_L_contractOf_15 (K.cons) ⟨rfl, (xin_i 8 (by decide) (by grind) (by grind))⟩ (by rw [if_neg (Nat.not_lt.mpr (cl_ge (by omega) (by grind) (by grind)))]) ?_
      refine ev_goto (t := 20) d_L_contractOf_16 (by decide) ?_
      refine ev_astore_nN (lo1 := [some (.ref (ct 0)), some (.int i), some (.null)]) d_L_contractOf_20 (Nat.le_of_ble_eq_true rfl) rfl ?_
      refine ev_aload_nN d_L_contractOf_21 rfl ?_
      refine ev_ifnonnullN d_L_contractOf_22 ?_
      exact ev_throw d_L_contractOf_25 rfl (Nat.le_of_ble_eq_true rfl)
set_option maxRecDepth 20000 in
theorem c_L_loanOf_ok {d : Nat} {M : xMm} {n sl : Nat} {ct : Nat → Nat} {tg : Nat → Option Nat} {Bn : xMm} {cn rq ln : Nat} {rt : Nat → Nat → Option Nat} {tx : Nat → List Int32} {iv : Nat → Int32} {av : Nat → Nat → Int32} (K : CR M n ct tg Bn cn rq ln rt tx iv av) (c : Nat) (hc : c < ln) : xCl (d) k_L_loanOf [.ref (ct 0), .int (nI c)] (M, n, sl) (.inl (some (.ref (ct (100 + 5 * c)))), (M, n, sl)) := by
  have hb := K.cnt
  show xEv _ k_L_loanOf 0 [some (.ref (ct 0)), some (.int (nI c)), none] [] _ _
  refine ev_iload_n d_L_loanOf_0 rfl ?_
  refine ev_if_lt (t := 19) d_L_loanOf_1 (by decide) (fun c_1 => absurd c_1 (nI_pos (by omega))) (fun _ => ?_)
  refine ev_iload_n d_L_loanOf_4 rfl ?_
  refine ev_bipush (v := 20) d_L_loanOf_5 rfl ?_
  refine ev_icmp_ge (t := 19) d_L_loanOf_7 (by decide) (fun c_7 => absurd c_7 (nI_ge (b := 20) (by omega) (by decide))) (fun _ => ?_)
  refine ev_aload_n d_L_loanOf_10 rfl ?_
  refine ev_get d_L_loanOf_11 f_0_33 (K.lt) rfl ?_
  refine ev_iload_n d_L_loanOf_14 rfl ?_
  refine ev_aald d_L_loanOf_15 (K.lons) ⟨rfl, vp_in_nI (N := 20) (by omega) (by decide)⟩ (by rw [nI_clamp (show c < 2 ^ 31 by omega), if_pos hc]) ?_
  refine ev_goto (t := 20) d_L_loanOf_16 (by decide) ?_
  refine ev_astore_n (lo1 := [some (.ref (ct 0)), some (.int (nI c)), some (.ref (ct (100 + 5 * c)))]) d_L_loanOf_20 (Nat.le_of_ble_eq_true rfl) rfl ?_
  refine ev_aload_n d_L_loanOf_21 rfl ?_
  refine ev_ifnonnull (t := 35) d_L_loanOf_22 (by decide) ?_
  refine ev_aload_n d_L_loanOf_35 rfl ?_
  exact ev_aret d_L_loanOf_36 rfl
set_option maxRecDepth 20000 in
theorem c_L_loanOf_no {d : Nat} {M : xMm} {n sl : Nat} {ct : Nat → Nat} {tg : Nat → Option Nat} {Bn : xMm} {cn rq ln : Nat} {rt : Nat → Nat → Option Nat} {tx : Nat → List Int32} {iv : Nat → Int32} {av : Nat → Nat → Int32} (K : CR M n ct tg Bn cn rq ln rt tx iv av) (i : Int32) (hc : ¬ (0 ≤ i ∧ i < nI ln)) : xCl (d) k_L_loanOf [.ref (ct 0), .int i] (M, n, sl) (.inr "java/lang/IndexOutOfBoundsException", (M, n + 1, sl + 6)) := by
  have hb := K.cnt
  show xEv _ k_L_loanOf 0 [some (.ref (ct 0)), some (.int i), none] [] _ _
  refine ev_iload_n d_L_loanOf_0 rfl ?_
  refine ev_if_lt (t := 19) d_L_loanOf_1 (by decide) (fun c_1_1 => ?_) (fun c_1_1 => ?_)
  · refine ev_null d_L_loanOf_19 ?_
    refine ev_astore_nN (lo1 := [some (.ref (ct 0)), some (.int i), some (.null)]) d_L_loanOf_20 (Nat.le_of_ble_eq_true rfl) rfl ?_
    refine ev_aload_nN d_L_loanOf_21 rfl ?_
    refine ev_ifnonnullN d_L_loanOf_22 ?_
    exact ev_throw d_L_loanOf_25 rfl (Nat.le_of_ble_eq_true rfl)
  · refine ev_iload_n d_L_loanOf_4 rfl ?_
    refine ev_bipush (v := 20) d_L_loanOf_5 rfl ?_
    refine ev_icmp_ge (t := 19) d_L_loanOf_7 (by decide) (fun c_7_2 => ?_) (fun c_7_2 => ?_)
    · refine ev_null d_L_loanOf_19 ?_
      refine ev_astore_nN (lo1 := [some (.ref (ct 0)), some (.int i), some (.null)]) d_L_loanOf_20 (Nat.le_of_ble_eq_true rfl) rfl ?_
      refine ev_aload_nN d_L_loanOf_21 rfl ?_
      refine ev_ifnonnullN d_L_loanOf_22 ?_
      exact ev_throw d_L_loanOf_25 rfl (Nat.le_of_ble_eq_true rfl)
    · refine ev_aload_n d_L_loanOf_10 rfl ?_
      refine ev_get d_L_loanOf_11 f_0_33 (K.lt) rfl ?_
      refine ev_iload_n d_L_loanOf_14 rfl ?_
      refine ev_aald d_L_loanOf_15 (K.lons) ⟨rfl, (xin_i 20 (by decide) (by grind) (by grind))⟩ (by rw [if_neg (Nat.not_lt.mpr (cl_ge (by omega) (by grind) (by grind)))]) ?_
      refine ev_goto (t := 20) d_L_loanOf_16 (by decide) ?_
      refine ev_astore_nN (lo1 := [some (.ref (ct 0)), some (.int i), some (.null)]) d_L_loanOf_20 (Nat.le_of_ble_eq_true rfl) rfl ?_
      refine ev_aload_nN d_L_loanOf_21 rfl ?_
      refine ev_ifnonnullN d_L_loanOf_22 ?_
      exact ev_throw d_L_loanOf_25 rfl (Nat.le_of_ble_eq_true rfl)
set_option maxRecDepth 20000 in
theorem c_L_inputOf_ok {d : Nat} {M : xMm} {n sl : Nat} {ct : Nat → Nat} {tg : Nat → Option Nat} {Bn : xMm} {cn rq ln : Nat} {rt : Nat → Nat → Option Nat} {tx : Nat → List Int32} {iv : Nat → Int32} {av : Nat → Nat → Int32} (K : CR M n ct tg Bn cn rq ln rt tx iv av) (c : Nat) (hc : c < 8) : xCl (d) k_L_inputOf [.ref (ct 0), .int (nI c)] (M, n, sl) (.inl (some (.ref (ct (10 + 3 * c)))), (M, n, sl)) := by
  have hb := K.cnt
  show xEv _ k_L_inputOf 0 [some (.ref (ct 0)), some (.int (nI c)), none] [] _ _
  refine ev_iload_n d_L_inputOf_0 rfl ?_
  refine ev_if_lt (t := 19) d_L_inputOf_1 (by decide) (fun c_1 => absurd c_1 (nI_pos (by omega))) (fun _ => ?_)
  refine ev_iload_n d_L_inputOf_4 rfl ?_
  refine ev_bipush (v := 8) d_L_inputOf_5 rfl ?_
  refine ev_icmp_ge (t := 19) d_L_inputOf_7 (by decide) (fun c_7 => absurd c_7 (nI_ge (b := 8) (by omega) (by decide))) (fun _ => ?_)
  refine ev_aload_n d_L_inputOf_10 rfl ?_
  refine ev_get d_L_inputOf_11 f_0_27 (K.lt) rfl ?_
  refine ev_iload_n d_L_inputOf_14 rfl ?_
  refine ev_aald d_L_inputOf_15 (K.inps) ⟨rfl, vp_in_nI (N := 8) (by omega) (by decide)⟩ (by rw [nI_clamp (show c < 2 ^ 31 by omega), if_pos hc]) ?_
  refine ev_goto (t := 20) d_L_inputOf_16 (by decide) ?_
  refine ev_astore_n (lo1 := [some (.ref (ct 0)), some (.int (nI c)), some (.ref (ct (10 + 3 * c)))]) d_L_inputOf_20 (Nat.le_of_ble_eq_true rfl) rfl ?_
  refine ev_aload_n d_L_inputOf_21 rfl ?_
  refine ev_ifnonnull (t := 35) d_L_inputOf_22 (by decide) ?_
  refine ev_aload_n d_L_inputOf_35 rfl ?_
  exact ev_aret d_L_inputOf_36 rfl
set_option maxRecDepth 20000 in
theorem c_L_inputOf_no {d : Nat} {M : xMm} {n sl : Nat} {ct : Nat → Nat} {tg : Nat → Option Nat} {Bn : xMm} {cn rq ln : Nat} {rt : Nat → Nat → Option Nat} {tx : Nat → List Int32} {iv : Nat → Int32} {av : Nat → Nat → Int32} (K : CR M n ct tg Bn cn rq ln rt tx iv av) (i : Int32) (hc : ¬ (0 ≤ i ∧ i < 8)) : xCl (d) k_L_inputOf [.ref (ct 0), .int i] (M, n, sl) (.inr "java/lang/IndexOutOfBoundsException", (M, n + 1, sl + 6)) := by
  show xEv _ k_L_inputOf 0 [some (.ref (ct 0)), some (.int i), none] [] _ _
  refine ev_iload_n d_L_inputOf_0 rfl ?_
  refine ev_if_lt (t := 19) d_L_inputOf_1 (by decide) (fun c_1_1 => ?_) (fun c_1_1 => ?_)
  · refine ev_null d_L_inputOf_19 ?_
    refine ev_astore_nN (lo1 := [some (.ref (ct 0)), some (.int i), some (.null)]) d_L_inputOf_20 (Nat.le_of_ble_eq_true rfl) rfl ?_
    refine ev_aload_nN d_L_inputOf_21 rfl ?_
    refine ev_ifnonnullN d_L_inputOf_22 ?_
    exact ev_throw d_L_inputOf_25 rfl (Nat.le_of_ble_eq_true rfl)
  · refine ev_iload_n d_L_inputOf_4 rfl ?_
    refine ev_bipush (v := 8) d_L_inputOf_5 rfl ?_
    refine ev_icmp_ge (t := 19) d_L_inputOf_7 (by decide) (fun _ => ?_) (fun c_7 => absurd (by grind) c_7)
    refine ev_null d_L_inputOf_19 ?_
    refine ev_astore_nN (lo1 := [some (.ref (ct 0)), some (.int i), some (.null)]) d_L_inputOf_20 (Nat.le_of_ble_eq_true rfl) rfl ?_
    refine ev_aload_nN d_L_inputOf_21 rfl ?_
    refine ev_ifnonnullN d_L_inputOf_22 ?_
    exact ev_throw d_L_inputOf_25 rfl (Nat.le_of_ble_eq_true rfl)
set_option maxRecDepth 20000 in
theorem c_L_signOrSize_no {d : Nat} {M : xMm} {n sl : Nat} {a b : Nat} {f : Nat → Int32} {z : Int32} (hab : a ≠ b) (ha : M a = some (.inr (6, [.ref b, .int z]))) (hb : M b = some (.inl (0, 240, .inl f))) (hz : z ≤ 240) (i : Int32) (h : ¬ (-1 ≤ i ∧ i < z)) : xCl (d + 1) k_L_signOrSize [.ref a, .int i] (M, n, sl) (.inr "java/lang/IndexOutOfBoundsException", (M, n + 1, sl + 6)) := by
  show xEv _ k_L_signOrSize 0 [some (.ref a), some (.int i)] [] _ _
  refine ev_iload_n d_L_signOrSize_0 rfl ?_
  refine ev_iconst (v := (-1)) d_L_signOrSize_1 rfl ?_
  refine ev_icmp_lt (t := 13) d_L_signOrSize_2 (by decide) (fun c_2_1 => ?_) (fun c_2_1 => ?_)
  · exact ev_throw d_L_signOrSize_13 rfl (Nat.le_of_ble_eq_true rfl)
  · refine ev_iload_n d_L_signOrSize_5 rfl ?_
    refine ev_aload_n d_L_signOrSize_6 rfl ?_
    refine ev_get d_L_signOrSize_7 f_0_54 (ha) rfl ?_
    refine ev_icmp_lt (t := 23) d_L_signOrSize_10 (by decide) (fun c_10 => absurd c_10 (by grind)) (fun _ => ?_)
    exact ev_throw d_L_signOrSize_13 rfl (Nat.le_of_ble_eq_true rfl)
set_option maxRecDepth 20000 in
theorem c_L_signOrSize_ok {d : Nat} {M : xMm} {n sl : Nat} {a b : Nat} {f : Nat → Int32} {z : Int32} (hab : a ≠ b) (ha : M a = some (.inr (6, [.ref b, .int z]))) (hb : M b = some (.inl (0, 240, .inl f))) (hz : z ≤ 240) (i : Int32) (h : -1 ≤ i ∧ i < z) : xCl (d + 1) k_L_signOrSize [.ref a, .int i] (M, n, sl) (.inl (some (.int (if i = -1 then z else f i.toNatClampNeg))), (M, n, sl)) := by
  show xEv _ k_L_signOrSize 0 [some (.ref a), some (.int i)] [] _ _
  refine ev_iload_n d_L_signOrSize_0 rfl ?_
  refine ev_iconst (v := (-1)) d_L_signOrSize_1 rfl ?_
  refine ev_icmp_lt (t := 13) d_L_signOrSize_2 (by decide) (fun c_2 => absurd c_2 (by grind)) (fun _ => ?_)
  refine ev_iload_n d_L_signOrSize_5 rfl ?_
  refine ev_aload_n d_L_signOrSize_6 rfl ?_
  refine ev_get d_L_signOrSize_7 f_0_54 (ha) rfl ?_
  refine ev_icmp_lt (t := 23) d_L_signOrSize_10 (by decide) (fun _ => ?_) (fun c_10 => absurd h.2 c_10)
  refine ev_iload_n d_L_signOrSize_23 rfl ?_
  refine ev_iconst (v := (-1)) d_L_signOrSize_24 rfl ?_
  refine ev_icmp_ne (t := 35) d_L_signOrSize_25 (by decide) (fun c_25_1 => ?_) (fun c_25_1 => ?_)
  · refine ev_aload_n d_L_signOrSize_35 rfl ?_
    refine ev_iload_n d_L_signOrSize_36 rfl ?_
    refine ev_v1r d_L_signOrSize_37 q_0_252 rfl ha ⟨rfl, Nat.le_of_ble_eq_true rfl, Nat.le_of_ble_eq_true rfl⟩ (c_W_signAt hab ha hb _ hz) ?_
    exact xEv.to (ev_iret d_L_signOrSize_40 rfl) (by grind)
  · refine ev_aload_n d_L_signOrSize_28 rfl ?_
    refine ev_get d_L_signOrSize_29 f_0_54 (ha) rfl ?_
    refine ev_goto (t := 40) d_L_signOrSize_32 (by decide) ?_
    exact xEv.to (ev_iret d_L_signOrSize_40 rfl) (by grind)
set_option maxRecDepth 20000 in
theorem c_L_numberAt {d : Nat} {M : xMm} {n sl : Nat} {ct : Nat → Nat} {tg : Nat → Option Nat} {Bn : xMm} {cn rq ln : Nat} {rt : Nat → Nat → Option Nat} {tx : Nat → List Int32} {iv : Nat → Int32} {av : Nat → Nat → Int32} (K : CR M n ct tg Bn cn rq ln rt tx iv av) (i : Int32) : xCl (d) k_L_numberAt [.ref (ct 0), .int i] (M, n, sl) (.inl (some (.int (if i < iv 33 then i else 100 + i - iv 33))), (M, n, sl)) := by
  show xEv _ k_L_numberAt 0 [some (.ref (ct 0)), some (.int i)] [] _ _
  refine ev_iload_n d_L_numberAt_0 rfl ?_
  refine ev_aload_n d_L_numberAt_1 rfl ?_
  refine ev_get d_L_numberAt_2 f_0_50 (K.lt) rfl ?_
  refine ev_icmp_ge (t := 12) d_L_numberAt_5 (by decide) (fun c_5_1 => ?_) (fun c_5_1 => ?_)
  · refine ev_bipush (v := 100) d_L_numberAt_12 rfl ?_
    refine ev_iload_n d_L_numberAt_14 rfl ?_
    refine ev_iadd d_L_numberAt_15 ?_
    refine ev_aload_n d_L_numberAt_16 rfl ?_
    refine ev_get d_L_numberAt_17 f_0_50 (K.lt) rfl ?_
    refine ev_isub d_L_numberAt_20 ?_
    exact xEv.to (ev_iret d_L_numberAt_21 rfl) (by grind)
  · refine ev_iload_n d_L_numberAt_8 rfl ?_
    refine ev_goto (t := 21) d_L_numberAt_9 (by decide) ?_
    exact xEv.to (ev_iret d_L_numberAt_21 rfl) (by grind)
set_option maxRecDepth 20000 in
theorem c_L_spanAt_r {d : Nat} {M : xMm} {n sl : Nat} {ct : Nat → Nat} {tg : Nat → Option Nat} {Bn : xMm} {cn rq ln : Nat} {rt : Nat → Nat → Option Nat} {tx : Nat → List Int32} {iv : Nat → Int32} {av : Nat → Nat → Int32} (K : CR M n ct tg Bn cn rq ln rt tx iv av) (r : Nat) (hr : r < rq) : xCl (d + 1) k_L_spanAt [.ref (ct 0), .int (nI r)] (M, n, sl) (.inl (some (.ref (ct (40 + r)))), (M, n, sl)) := by
  have hb := K.cnt
  show xEv _ k_L_spanAt 0 [some (.ref (ct 0)), some (.int (nI r)), none] [] _ _
  refine ev_iload_n d_L_spanAt_0 rfl ?_
  refine ev_if_lt (t := 19) d_L_spanAt_1 (by decide) (fun c_1 => absurd c_1 (nI_pos (by omega))) (fun _ => ?_)
  refine ev_iload_n d_L_spanAt_4 rfl ?_
  refine ev_aload_n d_L_spanAt_5 rfl ?_
  refine ev_get d_L_spanAt_6 f_0_50 (K.lt) rfl ?_
  refine ev_icmp_ge (t := 19) d_L_spanAt_9 (by decide) (fun c_9 => absurd c_9 (by rw [hb.2.2.2.2.1]; exact nI_ge hr (by omega))) (fun _ => ?_)
  refine ev_aload_n d_L_spanAt_12 rfl ?_
  refine ev_get d_L_spanAt_13 f_0_39 (K.lt) rfl ?_
  refine ev_iload_n d_L_spanAt_16 rfl ?_
  refine ev_aald d_L_spanAt_17 (K.reqs) ⟨rfl, vp_in_nI (N := 30) (by omega) (by decide)⟩ (by rw [nI_clamp (show r < 2 ^ 31 by omega), if_pos hr]) ?_
  exact ev_aret d_L_spanAt_18 rfl
set_option maxRecDepth 20000 in
theorem c_L_spanAt_l {d : Nat} {M : xMm} {n sl : Nat} {ct : Nat → Nat} {tg : Nat → Option Nat} {Bn : xMm} {cn rq ln : Nat} {rt : Nat → Nat → Option Nat} {tx : Nat → List Int32} {iv : Nat → Int32} {av : Nat → Nat → Int32} (K : CR M n ct tg Bn cn rq ln rt tx iv av) (l : Nat) (hl : l < ln) : xCl (d + 1) k_L_spanAt [.ref (ct 0), .int (nI (rq + l))] (M, n, sl) (.inl (some (.ref (ct (104 + 5 * l)))), (M, n, sl)) := by
  have hb := K.cnt
  show xEv _ k_L_spanAt 0 [some (.ref (ct 0)), some (.int (nI (rq + l))), none] [] _ _
  refine ev_iload_n d_L_spanAt_0 rfl ?_
  refine ev_if_lt (t := 19) d_L_spanAt_1 (by decide) (fun c_1 => absurd c_1 (nI_pos (by omega))) (fun _ => ?_)
  refine ev_iload_n d_L_spanAt_4 rfl ?_
  refine ev_aload_n d_L_spanAt_5 rfl ?_
  refine ev_get d_L_spanAt_6 f_0_50 (K.lt) rfl ?_
  refine ev_icmp_ge (t := 19) d_L_spanAt_9 (by decide) (fun _ => ?_) (fun c_9 => absurd (by rw [hb.2.2.2.2.1]; exact nI_le (by omega) (by omega)) c_9)
  refine ev_iload_n d_L_spanAt_19 rfl ?_
  refine ev_aload_n d_L_spanAt_20 rfl ?_
  refine ev_get d_L_spanAt_21 f_0_50 (K.lt) rfl ?_
  refine ev_isub d_L_spanAt_24 ?_
  rw [hb.2.2.2.2.1, pk_sub (by omega), Nat.add_sub_cancel_left]
  refine ev_istore_n (lo1 := [some (.ref (ct 0)), some (.int (nI (rq + l))), some (.int (nI l))]) d_L_spanAt_25 (Nat.le_of_ble_eq_true rfl) rfl ?_
  refine ev_iload_n d_L_spanAt_26 rfl ?_
  refine ev_if_lt (t := 49) d_L_spanAt_27 (by decide) (fun c_27 => absurd c_27 (nI_pos (by omega))) (fun _ => ?_)
  refine ev_iload_n d_L_spanAt_30 rfl ?_
  refine ev_aload_n d_L_spanAt_31 rfl ?_
  refine ev_get d_L_spanAt_32 f_0_47 (K.lt) rfl ?_
  refine ev_icmp_ge (t := 49) d_L_spanAt_35 (by decide) (fun c_35 => absurd c_35 (by rw [hb.2.2.2.2.2]; exact nI_ge hl (by omega))) (fun _ => ?_)
  refine ev_aload_n d_L_spanAt_38 rfl ?_
  refine ev_iload_n d_L_spanAt_39 rfl ?_
  refine ev_v1r d_L_spanAt_40 q_0_149 rfl K.lt ⟨rfl, Nat.le_of_ble_eq_true rfl, Nat.le_of_ble_eq_true rfl⟩ (c_L_loanOf_ok K l hl) ?_
  refine ev_get d_L_spanAt_43 f_0_160 ((K.lon l hl)) rfl ?_
  refine ev_goto (t := 50) d_L_spanAt_46 (by decide) ?_
  exact ev_aret d_L_spanAt_50 rfl
def cVal (f g : Nat → Int32) (h : Int32) : Nat → Int32
  | 0 => -1
  | i + 1 => if f i ≤ h then g i else cVal f g h i
theorem mVal_last (av : Nat → Nat → Int32) (k : Nat) (h : Int32) : ∀ n i v, mVal av k h (n + 1) i v = if av 19 (60 * k + (i + n)) ≤ h then av 20 (60 * k + (i + n)) else mVal av k h n i v
  | 0, i, v => rfl
  | n + 1, i, v => by
    rw [mVal, mVal_last av k h n (i + 1), show i + 1 + n = i + (n + 1) by omega, show mVal av k h (n + 1) i v = mVal av k h n (i + 1) (if av 19 (60 * k + i) ≤ h then av 20 (60 * k + i) else v) from rfl]
theorem cVal_eq (av : Nat → Nat → Int32) (k : Nat) (h : Int32) : ∀ n, n ≤ 60 → cVal (slc 60 (av 19) k) (slc 60 (av 20) k) h n = mVal av k h n 0 (-1)
  | 0, _ => rfl
  | n + 1, hn => by
    rw [mVal_last, cVal, slc_at _ _ (by omega), slc_at _ _ (by omega), cVal_eq av k h n (by omega), Nat.zero_add]
set_option maxRecDepth 20000 in
theorem l_I_valueAt {d : Nat} {M : xMm} {n sl : Nat} {a b c : Nat} {f g : Nat → Int32} {z p q : Int32} (ha : M a = some (.inr (2, [.ref b, .ref c, .int z, .int p, .int q]))) (hb : M b = some (.inl (0, 60, .inl f))) (hc : M c = some (.inl (0, 60, .inl g))) (h : Int32) : ∀ i, i ≤ 60 → xEv d k_I_valueAt 25 [some (.ref a), some (.int h), some (.int (nI i - 1))] [] (M, n, sl) (.inl (some (.int (cVal f g h i))), (M, n, sl)) := by
  intro i
  induction i with
  | zero =>
    intro hi
    refine ev_iload_n d_I_valueAt_25 rfl ?_
    refine ev_if_lt (t := 52) d_I_valueAt_26 (by decide) (fun _ => ?_) (fun c_26 => absurd (by decide) c_26)
    refine ev_iconst (v := (-1)) d_I_valueAt_52 rfl ?_
    exact ev_iret d_I_valueAt_53 rfl
  | succ i ih =>
    intro hi
    rw [nI_pred]
    refine ev_iload_n d_I_valueAt_25 rfl ?_
    refine ev_if_lt (t := 52) d_I_valueAt_26 (by decide) (fun c_26 => absurd c_26 (nI_pos (by omega))) (fun _ => ?_)
    refine ev_aload_n d_I_valueAt_29 rfl ?_
    refine ev_get d_I_valueAt_30 f_2_9 (ha) rfl ?_
    refine ev_iload_n d_I_valueAt_33 rfl ?_
    refine ev_iald d_I_valueAt_34 (hb) ⟨rfl, vp_in_nI (N := 60) (by omega) (by decide)⟩ rfl ?_
    rw [nI_clamp (show i < 2 ^ 31 by omega)]
    refine ev_iload_n d_I_valueAt_35 rfl ?_
    refine ev_icmp_gt (t := 46) d_I_valueAt_36 (by decide) (fun c_36_1 => ?_) (fun c_36_1 => ?_)
    · obtain ⟨x_2, ex_2⟩ : ∃ z : Int32, z = (nI i) + (-1) := ⟨_, rfl⟩
      refine ev_iinc (v := x_2) (lo1 := [some (.ref a), some (.int h), some (.int x_2)]) d_I_valueAt_46 rfl (by rw [ex_2]; rfl) rfl ?_
      refine ev_goto (t := 25) d_I_valueAt_49 (by decide) ?_
      rw [show x_2 = nI i - 1 from by rw [ex_2]; grind]
      exact xEv.to (ih (by omega)) (by rw [cVal, if_neg (by grind)])
    · refine ev_aload_n d_I_valueAt_39 rfl ?_
      refine ev_get d_I_valueAt_40 f_2_15 (ha) rfl ?_
      refine ev_iload_n d_I_valueAt_43 rfl ?_
      refine ev_iald d_I_valueAt_44 (hc) ⟨rfl, vp_in_nI (N := 60) (by omega) (by decide)⟩ rfl ?_
      rw [nI_clamp (show i < 2 ^ 31 by omega)]
      exact xEv.to (ev_iret d_I_valueAt_45 rfl) (by rw [cVal, if_pos (by grind)])
set_option maxRecDepth 20000 in
theorem c_I_valueAt {d : Nat} {M : xMm} {n sl : Nat} {a b c : Nat} {f g : Nat → Int32} {z p q : Int32} (ha : M a = some (.inr (2, [.ref b, .ref c, .int z, .int p, .int q]))) (hb : M b = some (.inl (0, 60, .inl f))) (hc : M c = some (.inl (0, 60, .inl g))) (h : Int32) (k : Nat) (hk : k ≤ 60) (hz : z = nI k) : xCl d k_I_valueAt [.ref a, .int h] (M, n, sl) (.inl (some (.int (if p ≤ h ∧ h ≤ q then -1 else cVal f g h k))), (M, n, sl)) := by
  show xEv _ k_I_valueAt 0 [some (.ref a), some (.int h), none] [] _ _
  refine ev_iload_n d_I_valueAt_0 rfl ?_
  refine ev_aload_n d_I_valueAt_1 rfl ?_
  refine ev_get d_I_valueAt_2 f_2_22 (ha) rfl ?_
  refine ev_icmp_lt (t := 18) d_I_valueAt_5 (by decide) (fun c_5_1 => ?_) (fun c_5_1 => ?_)
  · refine ev_aload_n d_I_valueAt_18 rfl ?_
    refine ev_get d_I_valueAt_19 f_2_18 (ha) rfl ?_
    rw [hz]
    refine ev_iconst (v := 1) d_I_valueAt_22 rfl ?_
    refine ev_isub d_I_valueAt_23 ?_
    refine ev_istore_n (lo1 := [some (.ref a), some (.int h), some (.int (nI k - 1))]) d_I_valueAt_24 (Nat.le_of_ble_eq_true rfl) rfl ?_
    exact xEv.to (l_I_valueAt ha hb hc h k hk) (by rw [if_neg (by grind)])
  · refine ev_iload_n d_I_valueAt_8 rfl ?_
    refine ev_aload_n d_I_valueAt_9 rfl ?_
    refine ev_get d_I_valueAt_10 f_2_25 (ha) rfl ?_
    refine ev_icmp_gt (t := 18) d_I_valueAt_13 (by decide) (fun c_13_2 => ?_) (fun c_13_2 => ?_)
    · refine ev_aload_n d_I_valueAt_18 rfl ?_
      refine ev_get d_I_valueAt_19 f_2_18 (ha) rfl ?_
      rw [hz]
      refine ev_iconst (v := 1) d_I_valueAt_22 rfl ?_
      refine ev_isub d_I_valueAt_23 ?_
      refine ev_istore_n (lo1 := [some (.ref a), some (.int h), some (.int (nI k - 1))]) d_I_valueAt_24 (Nat.le_of_ble_eq_true rfl) rfl ?_
      exact xEv.to (l_I_valueAt ha hb hc h k hk) (by rw [if_neg (by grind)])
    · refine ev_iconst (v := (-1)) d_I_valueAt_16 rfl ?_
      exact xEv.to (ev_iret d_I_valueAt_17 rfl) (by rw [if_pos (by grind)])
