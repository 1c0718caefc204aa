/-! The reference's picture: one object m, its arrays at ad k, ints iv k, contents av k; B elsewhere. -/
def mty (k : Nat) : Nat := if k = 28 ∨ k = 29 then 1 else 0
def mlen (k : Nat) : Nat := match k with
  | 2 => 80 | 4 => 8 | 5 => 48 | 6 => 8 | 7 => 1280 | 8 => 1280 | 9 => 1280 | 10 => 1280 | 11 => 1280 | 12 => 1280 | 13 => 160 | 14 => 400 | 16 => 400 | 18 => 8 | 19 => 480 | 20 => 480 | 21 => 8 | 22 => 8 | 24 => 20 | 25 => 20 | 26 => 20 | 27 => 20 | 28 => 20 | 29 => 120 | 30 => 20 | 31 => 2000 | 32 => 2000 | 34 => 30 | 35 => 30 | 36 => 30
  | _ => 0
/-- a field that holds an array -/
def mar (k : Nat) : Bool := decide (0 < mlen k)
def mF (iv : Nat → Int32) (ad : Nat → Nat) : List Value := [.int (iv 0), .int (iv 1), .ref (ad 2), .int (iv 3), .ref (ad 4), .ref (ad 5), .ref (ad 6), .ref (ad 7), .ref (ad 8), .ref (ad 9), .ref (ad 10), .ref (ad 11), .ref (ad 12), .ref (ad 13), .ref (ad 14), .int (iv 15), .ref (ad 16), .int (iv 17), .ref (ad 18), .ref (ad 19), .ref (ad 20), .ref (ad 21), .ref (ad 22), .int (iv 23), .ref (ad 24), .ref (ad 25), .ref (ad 26), .ref (ad 27), .ref (ad 28), .ref (ad 29), .ref (ad 30), .ref (ad 31), .ref (ad 32), .int (iv 33), .ref (ad 34), .ref (ad 35), .ref (ad 36)]
def mM (B : xMm) (ad : Nat → Nat) (ix : Nat → Option Nat) (iv : Nat → Int32) (av : Nat → Nat → Int32) : xMm := fun q => match ix q with
  | some k => if k = 0 then some (.inr (8, mF iv ad)) else some (.inl (mty k, mlen k, .inl (av k)))
  | none => B q
/-- the places are told apart by ix; the object's own place is ad 0 -/
def mOk (ad : Nat → Nat) (ix : Nat → Option Nat) : Prop := ix (ad 0) = some 0 ∧ (∀ k, mar k = true → ix (ad k) = some k) ∧ ∀ q k, ix q = some k → q = ad k ∧ (k = 0 ∨ mar k = true)
section MM
variable {B : xMm} {ad : Nat → Nat} {ix : Nat → Option Nat} {iv : Nat → Int32} {av : Nat → Nat → Int32}
theorem mM_obj (ok : mOk ad ix) : mM B ad ix iv av (ad 0) = some (.inr (8, mF iv ad)) := by
  unfold mM
  rw [ok.1]
  rfl
theorem mM_arr (ok : mOk ad ix) (k : Nat) (hk : mar k = true) : mM B ad ix iv av (ad k) = some (.inl (mty k, mlen k, .inl (av k))) := by
  unfold mM
  rw [ok.2.1 k hk]
  have h0 : k ≠ 0 := fun e => by subst e; exact absurd hk (by decide)
  exact if_neg h0
theorem mM_put (ok : mOk ad ix) {j : Nat} {x : Int32} (hj : (mF iv ad).set j (.int x) = mF (upd iv j x) ad) : xset (mM B ad ix iv av) (ad 0) (.inr (8, (mF iv ad).set j (.int x))) = mM B ad ix (upd iv j x) av := by
  funext q
  by_cases hq : q = ad 0
  · subst hq
    rw [xset_self, mM_obj ok, hj]
  · rw [xset_ne _ _ hq]
    unfold mM
    cases hi : ix q with
    | none => rfl
    | some k =>
      have h0 : k ≠ 0 := fun e => hq (by rw [(ok.2.2 q k hi).1, e])
      simp only [if_neg h0]
theorem mM_ast (ok : mOk ad ix) (k : Nat) (hk : mar k = true) {f : Nat → Int32} : xset (mM B ad ix iv av) (ad k) (.inl (mty k, mlen k, .inl f)) = mM B ad ix iv (va_up av k f) := by
  have h0 : k ≠ 0 := fun e => by subst e; exact absurd hk (by decide)
  funext q
  by_cases hq : q = ad k
  · subst hq
    rw [xset_self]
    unfold mM
    rw [ok.2.1 k hk]
    simp only [if_neg h0, va_up_self]
  · rw [xset_ne _ _ hq]
    unfold mM
    cases hi : ix q with
    | none => rfl
    | some j =>
      by_cases hj : j = 0
      · simp only [if_pos hj]
      · have hjk : j ≠ k := fun e => hq (by rw [(ok.2.2 q j hi).1, e])
        simp only [if_neg hj, va_up_ne _ _ hjk]
theorem mM_out (ok : mOk ad ix) {q : Nat} (h : ix q = none) : mM B ad ix iv av q = B q := by
  unfold mM
  rw [h]
end MM
theorem ev_top {d : Nat} {y : xMt} {pc : Nat} {lo : xL} {st : List Value} {σ : xS} {r : xO × xS} {v : Int32} (h : ∀ x : Int32, x = v → xEv d y pc lo (.int x :: st) σ r) : xEv d y pc lo (.int v :: st) σ r := h v rfl
theorem xEv.to {d : Nat} {y : xMt} {pc : Nat} {lo : xL} {st : List Value} {σ : xS} {r r1 : xO × xS} (h : xEv d y pc lo st σ r1) (e : r1 = r) : xEv d y pc lo st σ r := e ▸ h
theorem xCl.to {d : Nat} {y : xMt} {as : List Value} {σ : xS} {r r1 : xO × xS} (h : xCl d y as σ r1) (e : r1 = r) : xCl d y as σ r := e ▸ h
/-- a truth as an int -/
def xbi (p : Prop) [Decidable p] : Int32 := if p then 1 else 0
theorem xbi_t {p : Prop} {i : Decidable p} (h : p) : @xbi p i = 1 := if_pos h
theorem xbi_f {p : Prop} {i : Decidable p} (h : ¬ p) : @xbi p i = 0 := if_neg h
theorem xbi_01 (p : Prop) [Decidable p] : xbi p = 0 ∨ xbi p = 1 := by
  by_cases h : p
  · exact Or.inr (xbi_t h)
  · exact Or.inl (xbi_f h)
theorem xbi_z (p : Prop) [Decidable p] : xbi p = 0 ↔ ¬ p := by
  by_cases h : p
  · rw [xbi_t h]; exact ⟨fun e => absurd e (by decide), fun e => absurd h e⟩
  · rw [xbi_f h]; exact ⟨fun _ => h, fun _ => rfl⟩
