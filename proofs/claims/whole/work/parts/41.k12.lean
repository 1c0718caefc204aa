/-! reading a text: what is read, from where -/
def sg (s : Nat → Int32) (len p : Nat) : Int32 := if p < len then s p else 0
def isD (x : Int32) : Bool := decide (48 ≤ x ∧ x ≤ 57)
def isN (x : Int32) : Bool := decide ((97 ≤ x ∧ x ≤ 104) ∨ x = 121 ∨ x = 122)
def pNum (s : Nat → Int32) (len : Nat) : Nat → Nat → Nat → Nat × Nat
  | 0, m, p => (p, m)
  | k + 1, m, p => if isD (sg s len p) then pNum s len k (10 * m + ((sg s len p).toNatClampNeg - 48)) (p + 1) else (p, m)
def pName (s : Nat → Int32) (len p : Nat) : Nat × Option (List Den) :=
  if isN (sg s len p) then (if sg s len (p + 1) = 60 ∨ sg s len (p + 1) = 61 ∨ sg s len (p + 1) = 62 then (if isD (sg s len (p + 2)) then ((pNum s len 6 0 (p + 2)).1, some [leafD (sg s len p) (sg s len (p + 1)) (pNum s len 6 0 (p + 2)).2]) else (p + 2, none)) else (p + 1, none)) else (p, none)
/-- m = 0: a bit; 1: items under the joint j, as one; 2: further items behind a joint -/
def pP (s : Nat → Int32) (len : Nat) : Nat → Nat → Int32 → Nat → Nat → Nat → Nat × Option (List Den)
  | 0, _, _, _, _, p => (p, none)
  | f + 1, m, j, b, no, p =>
    if m = 0 then
      if sg s len p = 33 ∧ no < 3 then (match pP s len f 0 j b (no + 1) (p + 1) with
        | (q, some (D :: _)) => (q, some [notD D])
        | (q, _) => (q, none))
      else if sg s len p = 40 ∧ b < 5 then (match pP s len f 1 124 (b + 1) 0 (p + 1) with
        | (q, some Ds) => if sg s len q = 41 then (q + 1, some Ds) else (q, none)
        | (q, none) => (q, none))
      else pName s len p
    else if m = 1 then (match pP s len f (if j = 124 then 1 else 0) 38 b 0 p with
      | (q, some (D :: _)) => (match pP s len f 2 j b 0 q with
        | (r, some []) => (r, some [D])
        | (r, some (E :: Es)) => (r, some [grpD j (D :: E :: Es)])
        | (r, none) => (r, none))
      | (q, _) => (q, none))
    else if sg s len p = j then (match pP s len f (if j = 124 then 1 else 0) 38 b 0 (p + 1) with
      | (q, some (D :: _)) => (match pP s len f 2 j b 0 q with
        | (r, some Es) => (r, some (D :: Es))
        | (r, none) => (r, none))
      | (q, _) => (q, none))
    else (p, some [])
def rCh (B : xMm) (u : Nat) (P : Nat → Den → Prop) : List Den → Option Nat → Prop
  | [], q => q = none
  | D :: Ds, q => ∃ a, q = some a ∧ a < u ∧ P a D ∧ ∃ (kd nm nu : Int32) (i x : Option Nat), B a = some (.inr (4, [.int kd, .int nm, .int nu, va_rf i, va_rf x])) ∧ rCh B u P Ds x
def rN (B : xMm) (lo : Nat) : Nat → Nat → Den → Prop
  | 0, _, _ => False
  | h + 1, a, D => lo ≤ a ∧ ∃ (kd nm nu : Int32) (i x : Option Nat), B a = some (.inr (4, [.int kd, .int nm, .int nu, va_rf i, va_rf x])) ∧
    ((kd = 33 ∧ ∃ b D1, i = some b ∧ b < a ∧ rN B lo h b D1 ∧ D = notD D1) ∨
     ((kd = 124 ∨ kd = 38) ∧ ∃ Ds, rCh B a (rN B lo h) Ds i ∧ D = grpD kd Ds) ∨
     ((kd = 60 ∨ kd = 61 ∨ kd = 62) ∧ mNm nm ∧ ∃ m, m < 1000000 ∧ nu = nI m ∧ D = leafD nm kd m))
theorem rCh_mono {B B2 : xMm} {u u2 : Nat} {P Q : Nat → Den → Prop} (hu : u ≤ u2) (hP : ∀ a D, a < u → P a D → Q a D) (hB : ∀ a e, a < u → (∃ D, P a D) → B a = some e → B2 a = some e) : ∀ Ds q, rCh B u P Ds q → rCh B2 u2 Q Ds q
  | [], q, h => h
  | D :: Ds, q, h => by
    obtain ⟨a, e, h1, h2, kd, nm, nu, i, x, h3, h4⟩ := h
    exact ⟨a, e, by omega, hP a D h1 h2, kd, nm, nu, i, x, hB a _ h1 ⟨D, h2⟩ h3, rCh_mono hu hP hB Ds x h4⟩
theorem rN_lo {B : xMm} {lo h a : Nat} {D : Den} (hN : rN B lo h a D) : lo ≤ a := by
  cases h with
  | zero => exact absurd hN id
  | succ h => exact hN.1
theorem rN_up {B : xMm} {lo lo2 : Nat} (hl : lo2 ≤ lo) : ∀ h a D, rN B lo h a D → rN B lo2 (h + 1) a D ∧ rN B lo2 h a D
  | 0, a, D, hN => absurd hN id
  | h + 1, a, D, hN => by
    obtain ⟨h1, kd, nm, nu, i, x, h2, h3⟩ := hN
    refine ⟨⟨by omega, kd, nm, nu, i, x, h2, ?_⟩, ⟨by omega, kd, nm, nu, i, x, h2, ?_⟩⟩
    · rcases h3 with ⟨e, b, D1, e2, hb, h4, e3⟩ | ⟨e, Ds, h4, e2⟩ | h4
      · exact Or.inl ⟨e, b, D1, e2, hb, (rN_up hl h b D1 h4).1, e3⟩
      · exact Or.inr (Or.inl ⟨e, Ds, rCh_mono (Nat.le_refl _) (fun a D _ hh => (rN_up hl h a D hh).1) (fun _ _ _ _ hh => hh) Ds i h4, e2⟩)
      · exact Or.inr (Or.inr h4)
    · rcases h3 with ⟨e, b, D1, e2, hb, h4, e3⟩ | ⟨e, Ds, h4, e2⟩ | h4
      · exact Or.inl ⟨e, b, D1, e2, hb, (rN_up hl h b D1 h4).2, e3⟩
      · exact Or.inr (Or.inl ⟨e, Ds, rCh_mono (Nat.le_refl _) (fun a D _ hh => (rN_up hl h a D hh).2) (fun _ _ _ _ hh => hh) Ds i h4, e2⟩)
      · exact Or.inr (Or.inr h4)
theorem rN_h {B : xMm} {lo lo2 : Nat} (hl : lo2 ≤ lo) {a : Nat} {D : Den} {h h2 : Nat} (hh : h ≤ h2) (hN : rN B lo h a D) : rN B lo2 h2 a D := by
  obtain ⟨k, rfl⟩ := Nat.exists_eq_add_of_le hh
  clear hh
  induction k with
  | zero => exact (rN_up hl h a D hN).2
  | succ k ih => exact (rN_up (Nat.le_refl _) (h + k) a D ih).1
theorem rCh_keep {B B2 : xMm} {u : Nat} {P Q : Nat → Den → Prop} (hP : ∀ a D, a < u → P a D → Q a D) (hB : ∀ a e, a < u → (∃ D, P a D) → B a = some e → B2 a = some e) : ∀ Ds q, rCh B u P Ds q → rCh B2 u Q Ds q := rCh_mono (Nat.le_refl _) hP hB
/-- a tree is kept where its cells are, but for the root's own next -/
theorem rN_keep {B B2 : xMm} {lo : Nat} : ∀ h a D, rN B lo h a D → (∀ x e, lo ≤ x → x < a → B x = some e → B2 x = some e) → (∀ kd nm nu i x, B a = some (.inr (4, [.int kd, .int nm, .int nu, va_rf i, va_rf x])) → ∃ y, B2 a = some (.inr (4, [.int kd, .int nm, .int nu, va_rf i, va_rf y]))) → rN B2 lo h a D
  | 0, a, D, hN, _, _ => absurd hN id
  | h + 1, a, D, hN, hk, hr => by
    obtain ⟨h1, kd, nm, nu, i, x, h2, h3⟩ := hN
    obtain ⟨y, hy⟩ := hr kd nm nu i x h2
    refine ⟨h1, kd, nm, nu, i, y, hy, ?_⟩
    have hsub : ∀ b D1, b < a → rN B lo h b D1 → rN B2 lo h b D1 := fun b D1 hb hN => rN_keep h b D1 hN (fun x e g1 g2 g3 => hk x e g1 (by omega) g3) (fun kd nm nu i x g => ⟨x, hk b _ (rN_lo hN) hb g⟩)
    rcases h3 with ⟨e, b, D1, e2, hb, h4, e3⟩ | ⟨e, Ds, h4, e2⟩ | h4
    · exact Or.inl ⟨e, b, D1, e2, hb, hsub b D1 hb h4, e3⟩
    · exact Or.inr (Or.inl ⟨e, Ds, rCh_keep hsub (fun a e g1 g2 g3 => by obtain ⟨D9, g4⟩ := g2; exact hk a e (rN_lo g4) g1 g3) Ds i h4, e2⟩)
    · exact Or.inr (Or.inr h4)
theorem rN_c {B : xMm} {lo : Nat} : ∀ h a D, rN B lo h a D → cN B h a D
  | 0, a, D, hN => absurd hN id
  | h + 1, a, D, hN => by
    obtain ⟨h1, kd, nm, nu, i, x, h2, h3⟩ := hN
    refine ⟨kd, nm, nu, i, x, h2, ?_⟩
    rcases h3 with ⟨e, b, D1, e2, hb, h4, e3⟩ | ⟨e, Ds, h4, e2⟩ | h4
    · exact Or.inl ⟨e, b, D1, e2, rN_c h b D1 h4, e3⟩
    · refine Or.inr (Or.inl ⟨e, Ds, ?_, e2⟩)
      have : ∀ Ds q, rCh B a (rN B lo h) Ds q → cCh B (cN B h) Ds q := by
        intro Ds
        induction Ds with
        | nil => intro q hq; exact hq
        | cons D Ds ih =>
          intro q hq
          obtain ⟨a, e, g1, g2, kd, nm, nu, i, x, g3, g4⟩ := hq
          exact ⟨a, e, rN_c h a D g2, kd, nm, nu, i, x, g3, ih x g4⟩
      exact this Ds i h4
    · exact Or.inr (Or.inr h4)
/-! the reader -/
def rdM (N : xMm) (ra w p : Nat) : xMm := xset N ra (.inr (5, [.ref w, .int (nI p)]))
def RS (N : xMm) (n ra w b : Nat) (s : Nat → Int32) (len : Nat) : Prop := N w = some (.inr (6, [.ref b, .int (nI len)])) ∧ N b = some (.inl (0, 240, .inl s)) ∧ w ≠ ra ∧ b ≠ ra ∧ w ≠ b ∧ w < n ∧ b < n ∧ ra < n ∧ len ≤ 80
theorem RS.keep {N N2 : xMm} {n n2 ra w b : Nat} {s : Nat → Int32} {len : Nat} (h : RS N n ra w b s len) (hn : n ≤ n2) (hk : ∀ x, x < n → N2 x = N x) : RS N2 n2 ra w b s len := by
  obtain ⟨h1, h2, h3, h4, h5, h6, h7, h8, h9⟩ := h
  exact ⟨(hk w h6).trans h1, (hk b h7).trans h2, h3, h4, h5, by omega, by omega, by omega, h9⟩
theorem rd_put (N : xMm) (ra w p q : Nat) : xset (rdM N ra w p) ra (.inr (5, [.ref w, .int (nI q)])) = rdM N ra w q := xset_xset _ _ _ _
theorem rd_new (N : xMm) {ra w p n : Nat} (e : xE) (h : ra ≠ n) : xset (rdM N ra w p) n e = rdM (xset N n e) ra w p := xset_swap _ _ _ h
set_option maxRecDepth 20000 in
theorem c_R_sign {d : Nat} {N : xMm} {n sl ra w b : Nat} {s : Nat → Int32} {len : Nat} (hR : RS N n ra w b s len) (p : Nat) (hp : p ≤ 1000) : xCl (d + 1) k_R_sign [.ref ra] (rdM N ra w p, n, sl) (.inl (some (.int (sg s len p))), (rdM N ra w p, n, sl)) := by
  have h80 := hR.2.2.2.2.2.2.2.2
  have hsg : (if 0 ≤ nI p ∧ nI p < nI len then s (nI p).toNatClampNeg else 0) = sg s len p := by
    rw [nI_clamp (by omega), sg]
    by_cases h : p < len
    · rw [if_pos h, if_pos ⟨nI_pos' (by omega), nI_lt h (by omega)⟩]
    · rw [if_neg h, if_neg (fun g => absurd g.2 (nI_nlt (by omega) (by omega)))]
  show xEv _ k_R_sign 0 [some (.ref ra)] [] _ _
  refine ev_aload_n d_R_sign_0 rfl ?_
  refine ev_get d_R_sign_1 f_5_15 ((xset_self _ _ _)) rfl ?_
  refine ev_aload_n d_R_sign_4 rfl ?_
  refine ev_get d_R_sign_5 f_5_9 ((xset_self _ _ _)) rfl ?_
  refine ev_v1r d_R_sign_8 q_5_71 rfl ((xset_ne _ _ hR.2.2.1).trans hR.1) ⟨rfl, Nat.le_of_ble_eq_true rfl, Nat.le_of_ble_eq_true rfl⟩ (c_W_signAt hR.2.2.2.2.1 ((xset_ne _ _ hR.2.2.1).trans hR.1) ((xset_ne _ _ hR.2.2.2.1).trans hR.2.1) _ (nI_le (b := 240) (by have := hR.2.2.2.2.2.2.2.2; omega) (by decide))) ?_
  rw [hsg]
  exact ev_iret d_R_sign_11 rfl
set_option maxRecDepth 20000 in
theorem l_R_readNumber {d : Nat} {N : xMm} {n sl ra w b : Nat} {s : Nat → Int32} {len : Nat} (hR : RS N n ra w b s len)  : ∀ (j k m p : Nat), k + j = 6 → p + j ≤ 500 → xEv (d + 2) k_R_readNumber 4 [some (.ref ra), some (.int (nI m)), some (.int (nI k))] [] (rdM N ra w p, n, sl) (.inl (some (.int (nI (pNum s len j m p).2))), (rdM N ra w (pNum s len j m p).1, n, sl)) := by
  intro j
  induction j with
  | zero =>
    intro k m p hk hp
    refine ev_iload_n d_R_readNumber_4 rfl ?_
    refine ev_bipush (v := 6) d_R_readNumber_5 rfl ?_
    refine ev_icmp_ge (t := 49) d_R_readNumber_7 (by decide) (fun _ => ?_) (fun c_7 => absurd (nI_le (a := 6) (by omega) (by omega)) c_7)
    refine ev_iload_n d_R_readNumber_49 rfl ?_
    exact xEv.to (ev_iret d_R_readNumber_50 rfl) (by rfl)
  | succ j ih =>
    intro k m p hk hp
    by_cases hd : isD (sg s len p) = true
    · have hd2 : 48 ≤ sg s len p ∧ sg s len p ≤ 57 := by simpa [isD] using hd
      have hval : 10 * nI m + (sg s len p - 48) = nI (10 * m + ((sg s len p).toNatClampNeg - 48)) := by
        obtain ⟨v, hv, e⟩ := nI_of (x := sg s len p) (by grind)
        rw [e] at hd2 ⊢
        have h1 : 48 ≤ v := (nI_leI (a := 48) (by decide) (by omega)).mp hd2.1
        rw [nI_clamp (by omega), show (48 : Int32) = nI 48 from rfl, pk_sub h1, show (10 : Int32) = nI 10 from rfl, pk_mul, nI_add]
      refine ev_iload_n d_R_readNumber_4 rfl ?_
      refine ev_bipush (v := 6) d_R_readNumber_5 rfl ?_
      refine ev_icmp_ge (t := 49) d_R_readNumber_7 (by decide) (fun c_7 => absurd c_7 (nI_ge (b := 6) (by omega) (by decide))) (fun _ => ?_)
      refine ev_aload_n d_R_readNumber_10 rfl ?_
      refine ev_v0r d_R_readNumber_11 q_5_35 rfl (xset_self _ _ _) ⟨rfl, Nat.le_of_ble_eq_true rfl, Nat.le_of_ble_eq_true rfl⟩ (c_R_sign hR p (by omega)) ?_
      refine ev_s1r d_R_readNumber_14 q_5_62 rfl ⟨rfl, Nat.le_of_ble_eq_true rfl, Nat.le_of_ble_eq_true rfl⟩ (c_R_isDigit _) ?_
      refine ev_if_eq (t := 49) d_R_readNumber_17 (by decide) (fun c_17 => absurd c_17 (by rw [xbi_t hd2]; decide)) (fun _ => ?_)
      refine ev_bipush (v := 10) d_R_readNumber_20 rfl ?_
      refine ev_iload_n d_R_readNumber_22 rfl ?_
      refine ev_imul d_R_readNumber_23 ?_
      refine ev_aload_n d_R_readNumber_24 rfl ?_
      refine ev_v0r d_R_readNumber_25 q_5_35 rfl (xset_self _ _ _) ⟨rfl, Nat.le_of_ble_eq_true rfl, Nat.le_of_ble_eq_true rfl⟩ (c_R_sign hR p (by omega)) ?_
      refine ev_bipush (v := 48) d_R_readNumber_28 rfl ?_
      refine ev_isub d_R_readNumber_30 ?_
      refine ev_iadd d_R_readNumber_31 ?_
      refine ev_top (fun x_1 ex_1 => ?_)
      refine ev_istore_n (lo1 := [some (.ref ra), some (.int x_1), some (.int (nI k))]) d_R_readNumber_32 (Nat.le_of_ble_eq_true rfl) rfl ?_
      refine ev_aload_n d_R_readNumber_33 rfl ?_
      refine ev_dup d_R_readNumber_34 rfl ?_
      refine ev_get d_R_readNumber_35 f_5_9 ((xset_self _ _ _)) rfl ?_
      refine ev_iconst (v := 1) d_R_readNumber_38 rfl ?_
      refine ev_iadd d_R_readNumber_39 ?_
      refine ev_put (M1 := rdM N ra w (p + 1)) d_R_readNumber_40 f_5_9 ((xset_self _ _ _)) ⟨Nat.le_of_ble_eq_true rfl, (xfit_i rfl), Or.inl rfl⟩ (by rw [← nI_succ]; exact rd_put N ra w p (p + 1)) ?_
      obtain ⟨x_2, ex_2⟩ : ∃ z : Int32, z = (nI k) + 1 := ⟨_, rfl⟩
      refine ev_iinc (v := x_2) (lo1 := [some (.ref ra), some (.int x_1), some (.int x_2)]) d_R_readNumber_43 rfl (by rw [ex_2]; rfl) rfl ?_
      refine ev_goto (t := 4) d_R_readNumber_46 (by decide) ?_
      skip
      rw [show x_1 = nI (10 * m + ((sg s len p).toNatClampNeg - 48)) from by rw [ex_1]; exact hval, show x_2 = nI (k + 1) from by rw [ex_2, nI_succ]]
      exact xEv.to (ih (k + 1) _ (p + 1) (by omega) (by omega)) (by rw [pNum, if_pos hd])
    · skip
      refine ev_iload_n d_R_readNumber_4 rfl ?_
      refine ev_bipush (v := 6) d_R_readNumber_5 rfl ?_
      refine ev_icmp_ge (t := 49) d_R_readNumber_7 (by decide) (fun c_7 => absurd c_7 (nI_ge (b := 6) (by omega) (by decide))) (fun _ => ?_)
      refine ev_aload_n d_R_readNumber_10 rfl ?_
      refine ev_v0r d_R_readNumber_11 q_5_35 rfl (xset_self _ _ _) ⟨rfl, Nat.le_of_ble_eq_true rfl, Nat.le_of_ble_eq_true rfl⟩ (c_R_sign hR p (by omega)) ?_
      refine ev_s1r d_R_readNumber_14 q_5_62 rfl ⟨rfl, Nat.le_of_ble_eq_true rfl, Nat.le_of_ble_eq_true rfl⟩ (c_R_isDigit _) ?_
      refine ev_if_eq (t := 49) d_R_readNumber_17 (by decide) (fun _ => ?_) (fun c_17 => absurd (xbi_f (by simpa [isD] using hd)) c_17)
      refine ev_iload_n d_R_readNumber_49 rfl ?_
      exact xEv.to (ev_iret d_R_readNumber_50 rfl) (by rw [pNum, if_neg (by simpa using hd)])
set_option maxRecDepth 20000 in
theorem c_R_readNumber {d : Nat} {N : xMm} {n sl ra w b : Nat} {s : Nat → Int32} {len : Nat} (hR : RS N n ra w b s len) (p : Nat) (hp : p ≤ 200) : xCl (d + 2) k_R_readNumber [.ref ra] (rdM N ra w p, n, sl) (.inl (some (.int (nI (pNum s len 6 0 p).2))), (rdM N ra w (pNum s len 6 0 p).1, n, sl)) := by
  show xEv _ k_R_readNumber 0 [some (.ref ra), none, none] [] _ _
  refine ev_iconst (v := 0) d_R_readNumber_0 rfl ?_
  refine ev_istore_n (lo1 := [some (.ref ra), some (.int 0), none]) d_R_readNumber_1 (Nat.le_of_ble_eq_true rfl) rfl ?_
  refine ev_iconst (v := 0) d_R_readNumber_2 rfl ?_
  refine ev_istore_n (lo1 := [some (.ref ra), some (.int 0), some (.int 0)]) d_R_readNumber_3 (Nat.le_of_ble_eq_true rfl) rfl ?_
  exact l_R_readNumber hR 6 0 0 p (by omega) (by omega)
