/-! what a term is worth, and how it is written -/
abbrev Den : Type := ((Int32 → Option Int32) → Int32) × List Int32
def trn (s : Int32) : Int32 := if s = 2 then 2 else if s = 1 then 0 else 1
def notD (D : Den) : Den := (fun E => trn (D.1 E), [33] ++ D.2)
def grS (g : Int32) (E : Int32 → Option Int32) : List Den → Int32
  | [] => g
  | D :: Ds => if D.1 E = g then grS g E Ds else D.1 E
def grW (j : Int32) : Int32 → List Den → List Int32
  | _, [] => [41]
  | a, D :: Ds => [a] ++ D.2 ++ grW j j Ds
def grpD (j : Int32) (Ds : List Den) : Den := (fun E => grS (if j = 124 then 0 else 1) E Ds, grW j 40 Ds)
def leafD (nm sg : Int32) (nu : Nat) : Den := (fun E => lfS (E nm) sg (nI nu), [nm, sg] ++ dg nu)
def cCh (B : xMm) (P : Nat → Den → Prop) : List Den → Option Nat → Prop
  | [], q => q = none
  | D :: Ds, q => ∃ a, q = some a ∧ P a D ∧ ∃ (kd nm nu : Int32) (i x : Option Nat), B a = some (.inr (4, [.int kd, .int nm, .int nu, va_rf i, va_rf x])) ∧ cCh B P Ds x
def cN (B : xMm) : Nat → Nat → Den → Prop
  | 0, _, _ => False
  | h + 1, a, D => ∃ (kd nm nu : Int32) (i x : Option Nat), B a = some (.inr (4, [.int kd, .int nm, .int nu, va_rf i, va_rf x])) ∧
    ((kd = 33 ∧ ∃ b D1, i = some b ∧ cN B h b D1 ∧ D = notD D1) ∨
     ((kd = 124 ∨ kd = 38) ∧ ∃ Ds, cCh B (cN B h) Ds i ∧ D = grpD kd Ds) ∨
     ((kd = 60 ∨ kd = 61 ∨ kd = 62) ∧ mNm nm ∧ ∃ m, m < 1000000 ∧ nu = nI m ∧ D = leafD nm kd m))
theorem mE_val {av : Nat → Nat → Int32} {q rn : Nat} {h : Int32} (h0 : 0 ≤ h) (hrn : rn ≤ 60) : (if av 21 q ≤ h ∧ h ≤ av 22 q then -1 else cVal (slc 60 (av 19) q) (slc 60 (av 20) q) h rn) = mValue av q h rn := by
  rw [cVal_eq av q h rn hrn, mValue]
  by_cases hc : av 21 q ≤ h ∧ h ≤ av 22 q
  · rw [if_pos hc, if_pos ⟨by grind, hc⟩]
  · rw [if_neg hc, if_neg (fun g => hc g.2)]
set_option maxRecDepth 20000 in
theorem c_L_stateOfName_y {d : Nat} {M : xMm} {n sl : Nat} {ct : Nat → Nat} {tg : Nat → Option Nat} {Bn : xMm} {cn rq ln : Nat} {rt : Nat → Nat → Option Nat} {tx : Nat → List Int32} {iv : Nat → Int32} {av : Nat → Nat → Int32} (K : CR M n ct tg Bn cn rq ln rt tx iv av) {b : Nat} {kd nm nu : Int32} {i x : Value} (hb : M b = some (.inr (4, [.int kd, .int nm, .int nu, i, x]))) (hk : kd = 60 ∨ kd = 61 ∨ kd = 62) (l : Nat) (hl : l < ln) (h : Int32) (h0 : 0 ≤ h) (hrows : ∀ q, q < 8 → ∃ rn, rn ≤ 60 ∧ av 18 q = nI rn) (h1 : nm = 121) : xCl (d + 1) k_L_stateOfName [.ref (ct 0), .ref b, .ref (ct (100 + 5 * l)), .int h] (M, n, sl) (.inl (some (.int (lfS (mE av l h nm) kd nu))), (M, n, sl)) := by
  show xEv _ k_L_stateOfName 0 [some (.ref (ct 0)), some (.ref b), some (.ref (ct (100 + 5 * l))), some (.int h), none] [] _ _
  refine ev_aload_n d_L_stateOfName_0 rfl ?_
  refine ev_get d_L_stateOfName_1 f_0_283 (hb) rfl ?_
  refine ev_bipush (v := 121) d_L_stateOfName_4 rfl ?_
  refine ev_icmp_ne (t := 26) d_L_stateOfName_6 (by decide) (fun c_6 => absurd (by grind) c_6) (fun _ => ?_)
  refine ev_aload_n d_L_stateOfName_9 rfl ?_
  refine ev_iload_n d_L_stateOfName_10 rfl ?_
  refine ev_bipush (v := 24) d_L_stateOfName_11 rfl ?_
  refine ev_idiv d_L_stateOfName_13 (by decide) ?_
  refine ev_aload_n d_L_stateOfName_14 rfl ?_
  refine ev_get d_L_stateOfName_15 f_0_160 ((K.lon l hl)) rfl ?_
  refine ev_get d_L_stateOfName_18 f_0_213 ((K.lonP l hl)) rfl ?_
  refine ev_isub d_L_stateOfName_21 ?_
  refine ev_v1r d_L_stateOfName_22 q_0_286 rfl hb ⟨rfl, Nat.le_of_ble_eq_true rfl, Nat.le_of_ble_eq_true rfl⟩ (c_N_compared _ hb hk) ?_
  exact xEv.to (ev_iret d_L_stateOfName_25 rfl) (by simp [mE, h1])
set_option maxRecDepth 20000 in
theorem c_L_stateOfName_z {d : Nat} {M : xMm} {n sl : Nat} {ct : Nat → Nat} {tg : Nat → Option Nat} {Bn : xMm} {cn rq ln : Nat} {rt : Nat → Nat → Option Nat} {tx : Nat → List Int32} {iv : Nat → Int32} {av : Nat → Nat → Int32} (K : CR M n ct tg Bn cn rq ln rt tx iv av) {b : Nat} {kd nm nu : Int32} {i x : Value} (hb : M b = some (.inr (4, [.int kd, .int nm, .int nu, i, x]))) (hk : kd = 60 ∨ kd = 61 ∨ kd = 62) (l : Nat) (hl : l < ln) (h : Int32) (h0 : 0 ≤ h) (hrows : ∀ q, q < 8 → ∃ rn, rn ≤ 60 ∧ av 18 q = nI rn) (h1 : nm = 122) : xCl (d + 1) k_L_stateOfName [.ref (ct 0), .ref b, .ref (ct (100 + 5 * l)), .int h] (M, n, sl) (.inl (some (.int (lfS (mE av l h nm) kd nu))), (M, n, sl)) := by
  show xEv _ k_L_stateOfName 0 [some (.ref (ct 0)), some (.ref b), some (.ref (ct (100 + 5 * l))), some (.int h), none] [] _ _
  refine ev_aload_n d_L_stateOfName_0 rfl ?_
  refine ev_get d_L_stateOfName_1 f_0_283 (hb) rfl ?_
  refine ev_bipush (v := 121) d_L_stateOfName_4 rfl ?_
  refine ev_icmp_ne (t := 26) d_L_stateOfName_6 (by decide) (fun _ => ?_) (fun c_6 => absurd c_6 (by grind))
  refine ev_aload_n d_L_stateOfName_26 rfl ?_
  refine ev_get d_L_stateOfName_27 f_0_283 (hb) rfl ?_
  refine ev_bipush (v := 122) d_L_stateOfName_30 rfl ?_
  refine ev_icmp_ne (t := 52) d_L_stateOfName_32 (by decide) (fun c_32 => absurd (by grind) c_32) (fun _ => ?_)
  refine ev_aload_n d_L_stateOfName_35 rfl ?_
  refine ev_cutv (E := 48) (V := if av 28 l = 0 then 0 else 1) ?_ (fun hk_1 => ?_)
  · refine ev_v1r d_L_stateOfName_48 q_0_286 rfl hb ⟨rfl, Nat.le_of_ble_eq_true rfl, Nat.le_of_ble_eq_true rfl⟩ (c_N_compared _ hb hk) ?_
    exact xEv.to (ev_iret d_L_stateOfName_51 rfl) (by simp [mE, h1])
  · refine ev_aload_n d_L_stateOfName_36 rfl ?_
    refine ev_get d_L_stateOfName_37 f_0_153 ((K.lon l hl)) rfl ?_
    refine ev_if_eq (t := 47) d_L_stateOfName_40 (by decide) (fun c_40_2 => ?_) (fun c_40_2 => ?_)
    · refine ev_iconst (v := 0) d_L_stateOfName_47 rfl ?_
      exact hk_1 _ (by grind)
    · refine ev_iconst (v := 1) d_L_stateOfName_43 rfl ?_
      refine ev_goto (t := 48) d_L_stateOfName_44 (by decide) ?_
      exact hk_1 _ (by grind)
set_option maxRecDepth 20000 in
theorem c_L_stateOfName_n {d : Nat} {M : xMm} {n sl : Nat} {ct : Nat → Nat} {tg : Nat → Option Nat} {Bn : xMm} {cn rq ln : Nat} {rt : Nat → Nat → Option Nat} {tx : Nat → List Int32} {iv : Nat → Int32} {av : Nat → Nat → Int32} (K : CR M n ct tg Bn cn rq ln rt tx iv av) {b : Nat} {kd nm nu : Int32} {i x : Value} (hb : M b = some (.inr (4, [.int kd, .int nm, .int nu, i, x]))) (hk : kd = 60 ∨ kd = 61 ∨ kd = 62) (l : Nat) (hl : l < ln) (h : Int32) (h0 : 0 ≤ h) (hrows : ∀ q, q < 8 → ∃ rn, rn ≤ 60 ∧ av 18 q = nI rn) (q : Nat) (hq : q < 8) (h1 : nm = nI (97 + q)) : xCl (d + 1) k_L_stateOfName [.ref (ct 0), .ref b, .ref (ct (100 + 5 * l)), .int h] (M, n, sl) (.inl (some (.int (lfS (mE av l h nm) kd nu))), (M, n, sl)) := by
  have n1 : ¬ nm = 121 := by rw [h1]; intro e; have := (nI_eq (a := 97 + q) (b := 121) (by omega) (by decide)).mp e; omega
  have n2 : ¬ nm = 122 := by rw [h1]; intro e; have := (nI_eq (a := 97 + q) (b := 122) (by omega) (by decide)).mp e; omega
  obtain ⟨rn, hrn, hr⟩ := hrows q hq
  have eq : nm.toNatClampNeg - 97 = q := by rw [h1, nI_clamp (by omega)]; omega
  have hE : mE av l h nm = if mValue av q h rn = -1 then none else some (mValue av q h rn) := by rw [mE, if_neg n1, if_neg n2, eq, hr, nI_clamp (by omega)]
  show xEv _ k_L_stateOfName 0 [some (.ref (ct 0)), some (.ref b), some (.ref (ct (100 + 5 * l))), some (.int h), none] [] _ _
  refine ev_aload_n d_L_stateOfName_0 rfl ?_
  refine ev_get d_L_stateOfName_1 f_0_283 (hb) rfl ?_
  refine ev_bipush (v := 121) d_L_stateOfName_4 rfl ?_
  refine ev_icmp_ne (t := 26) d_L_stateOfName_6 (by decide) (fun _ => ?_) (fun c_6 => absurd c_6 n1)
  refine ev_aload_n d_L_stateOfName_26 rfl ?_
  refine ev_get d_L_stateOfName_27 f_0_283 (hb) rfl ?_
  refine ev_bipush (v := 122) d_L_stateOfName_30 rfl ?_
  refine ev_icmp_ne (t := 52) d_L_stateOfName_32 (by decide) (fun _ => ?_) (fun c_32 => absurd c_32 n2)
  refine ev_aload_n d_L_stateOfName_52 rfl ?_
  refine ev_aload_n d_L_stateOfName_53 rfl ?_
  refine ev_get d_L_stateOfName_54 f_0_283 (hb) rfl ?_
  refine ev_bipush (v := 97) d_L_stateOfName_57 rfl ?_
  refine ev_isub d_L_stateOfName_59 ?_
  rw [show nm - 97 = nI q from by rw [h1, show (97 : Int32) = nI 97 from rfl, pk_sub (by omega)]; simp]
  refine ev_v1r d_L_stateOfName_60 q_0_102 rfl K.lt ⟨rfl, Nat.le_of_ble_eq_true rfl, Nat.le_of_ble_eq_true rfl⟩ (c_L_inputOf_ok K q hq) ?_
  refine ev_iload_n d_L_stateOfName_63 rfl ?_
  refine ev_v1r d_L_stateOfName_64 q_0_289 rfl (K.inp q hq) ⟨rfl, Nat.le_of_ble_eq_true rfl, Nat.le_of_ble_eq_true rfl⟩ (c_I_valueAt (K.inp q hq) (K.inpH q hq) (K.inpV q hq) h rn hrn hr) ?_
  rw [mE_val h0 hrn]
  refine ev_top (fun x_1 ex_1 => ?_)
  refine ev_istore (lo1 := [some (.ref (ct 0)), some (.ref b), some (.ref (ct (100 + 5 * l))), some (.int h), some (.int x_1)]) d_L_stateOfName_67 (Nat.le_of_ble_eq_true rfl) rfl ?_
  refine ev_iload d_L_stateOfName_69 rfl ?_
  refine ev_iconst (v := (-1)) d_L_stateOfName_71 rfl ?_
  refine ev_icmp_ne (t := 79) d_L_stateOfName_72 (by decide) (fun c_72_2 => ?_) (fun c_72_2 => ?_)
  · refine ev_aload_n d_L_stateOfName_79 rfl ?_
    refine ev_iload d_L_stateOfName_80 rfl ?_
    refine ev_v1r d_L_stateOfName_82 q_0_286 rfl hb ⟨rfl, Nat.le_of_ble_eq_true rfl, Nat.le_of_ble_eq_true rfl⟩ (c_N_compared _ hb hk) ?_
    exact xEv.to (ev_iret d_L_stateOfName_85 rfl) (by rw [hE, if_neg (by grind)]; grind)
  · refine ev_iconst (v := 2) d_L_stateOfName_75 rfl ?_
    refine ev_goto (t := 85) d_L_stateOfName_76 (by decide) ?_
    exact xEv.to (ev_iret d_L_stateOfName_85 rfl) (by rw [hE, if_pos (by grind)]; rfl)
theorem c_L_stateOfName {d : Nat} {M : xMm} {n sl : Nat} {ct : Nat → Nat} {tg : Nat → Option Nat} {Bn : xMm} {cn rq ln : Nat} {rt : Nat → Nat → Option Nat} {tx : Nat → List Int32} {iv : Nat → Int32} {av : Nat → Nat → Int32} (K : CR M n ct tg Bn cn rq ln rt tx iv av) {b : Nat} {kd nm nu : Int32} {i x : Value} (hb : M b = some (.inr (4, [.int kd, .int nm, .int nu, i, x]))) (hk : kd = 60 ∨ kd = 61 ∨ kd = 62) (l : Nat) (hl : l < ln) (h : Int32) (h0 : 0 ≤ h) (hrows : ∀ q, q < 8 → ∃ rn, rn ≤ 60 ∧ av 18 q = nI rn) (hn : mNm nm) : xCl (d + 1) k_L_stateOfName [.ref (ct 0), .ref b, .ref (ct (100 + 5 * l)), .int h] (M, n, sl) (.inl (some (.int (lfS (mE av l h nm) kd nu))), (M, n, sl)) := by
  rcases hn with h1 | h1 | ⟨q, hq, h1⟩
  · exact c_L_stateOfName_y K hb hk l hl h h0 hrows h1
  · exact c_L_stateOfName_z K hb hk l hl h h0 hrows h1
  · exact c_L_stateOfName_n K hb hk l hl h h0 hrows q hq h1
theorem ev_astoreQ {d : Nat} {y : xMt} {pc : Nat} {lo : xL} {st : List Value} {σ : xS} {r : xO × xS} {k : Nat} {a : Option Nat} {lo1 : xL} (hd : decode (xC y) pc = .ok (.astore k, 2)) (hk : k < lo.length) (hs : lo.set k (some (va_rf a)) = lo1) (h : xEv d y (pc + 2) lo1 st σ r) : xEv d y pc lo (va_rf a :: st) σ r := by
  cases a with
  | none => exact ev_astoreN hd hk hs h
  | some a => exact ev_astore hd hk hs h
set_option maxRecDepth 20000 in
theorem l_L_stateOfGroup {d : Nat} {M : xMm} {n sl : Nat} {ct : Nat → Nat} {tg : Nat → Option Nat} {Bn : xMm} {cn rq ln : Nat} {rt : Nat → Nat → Option Nat} {tx : Nat → List Int32} {iv : Nat → Int32} {av : Nat → Nat → Int32} (K : CR M n ct tg Bn cn rq ln rt tx iv av) (l : Nat) (h : Int32) (P : Nat → Den → Prop) (v : Int32) (hP : ∀ b D, P b D → xCl d k_L_stateOf [.ref (ct 0), .ref b, .ref (ct (100 + 5 * l)), .int h, .int (v + 1)] (M, n, sl) (.inl (some (.int (D.1 (mE av l h)))), (M, n, sl))) (a : Nat) (g : Int32) : ∀ (Ds : List Den) (q : Option Nat), cCh Bn P Ds q → ∀ o7 : Option Value, xEv (d + 1) k_L_stateOfGroup 22 [some (.ref (ct 0)), some (.ref a), some (.ref (ct (100 + 5 * l))), some (.int h), some (.int v), some (.int g), some (va_rf q), o7] [] (M, n, sl) (.inl (some (.int (grS g (mE av l h) Ds))), (M, n, sl)) := by
  intro Ds
  induction Ds with
  | nil =>
    intro q hq o7
    have hq : q = none := hq
    subst hq
    show xEv _ _ _ [_, _, _, _, _, _, some Value.null, _] _ _ _
    refine ev_aloadN d_L_stateOfGroup_22 rfl ?_
    refine ev_ifnullN (t := 61) d_L_stateOfGroup_24 (by decide) ?_
    refine ev_iload d_L_stateOfGroup_61 rfl ?_
    exact ev_iret d_L_stateOfGroup_63 rfl
  | cons D Ds ih =>
    intro q hq o7
    obtain ⟨b, rfl, hb, kd, nm, nu, i, x, hB, hch⟩ := hq
    show xEv _ _ _ [_, _, _, _, _, _, some (Value.ref b), _] _ _ _
    refine ev_aload d_L_stateOfGroup_22 rfl ?_
    refine ev_ifnull d_L_stateOfGroup_24 ?_
    refine ev_aload_n d_L_stateOfGroup_27 rfl ?_
    refine ev_aload d_L_stateOfGroup_28 rfl ?_
    refine ev_aload_n d_L_stateOfGroup_30 rfl ?_
    refine ev_iload_n d_L_stateOfGroup_31 rfl ?_
    refine ev_iload d_L_stateOfGroup_32 rfl ?_
    refine ev_iconst (v := 1) d_L_stateOfGroup_34 rfl ?_
    refine ev_iadd d_L_stateOfGroup_35 ?_
    refine ev_v4r d_L_stateOfGroup_36 q_0_175 rfl K.lt ⟨rfl, Nat.le_of_ble_eq_true rfl, Nat.le_of_ble_eq_true rfl⟩ (hP b D hb) ?_
    refine ev_top (fun x_1 ex_1 => ?_)
    refine ev_istore (lo1 := [some (.ref (ct 0)), some (.ref a), some (.ref (ct (100 + 5 * l))), some (.int h), some (.int v), some (.int g), some (.ref b), some (.int x_1)]) d_L_stateOfGroup_39 (Nat.le_of_ble_eq_true rfl) rfl ?_
    refine ev_iload d_L_stateOfGroup_41 rfl ?_
    refine ev_iload d_L_stateOfGroup_43 rfl ?_
    refine ev_icmp_eq (t := 51) d_L_stateOfGroup_45 (by decide) (fun c_45_2 => ?_) (fun c_45_2 => ?_)
    · refine ev_aload d_L_stateOfGroup_51 rfl ?_
      refine ev_get d_L_stateOfGroup_53 f_0_280 ((K.nod b _ hB)) rfl ?_
      refine ev_astoreQ (lo1 := [some (.ref (ct 0)), some (.ref a), some (.ref (ct (100 + 5 * l))), some (.int h), some (.int v), some (.int g), some (va_rf x), some (.int x_1)]) d_L_stateOfGroup_56 (Nat.le_of_ble_eq_true rfl) rfl ?_
      refine ev_goto (t := 22) d_L_stateOfGroup_58 (by decide) ?_
      exact xEv.to (ih x hch _) (by rw [grS, if_pos (by grind)])
    · refine ev_iload d_L_stateOfGroup_48 rfl ?_
      exact xEv.to (ev_iret d_L_stateOfGroup_50 rfl) (by rw [grS, if_neg (by grind)]; grind)
set_option maxRecDepth 20000 in
theorem c_L_stateOfGroup {d : Nat} {M : xMm} {n sl : Nat} {ct : Nat → Nat} {tg : Nat → Option Nat} {Bn : xMm} {cn rq ln : Nat} {rt : Nat → Nat → Option Nat} {tx : Nat → List Int32} {iv : Nat → Int32} {av : Nat → Nat → Int32} (K : CR M n ct tg Bn cn rq ln rt tx iv av) (l : Nat) (h : Int32) (P : Nat → Den → Prop) (v : Int32) (hP : ∀ b D, P b D → xCl d k_L_stateOf [.ref (ct 0), .ref b, .ref (ct (100 + 5 * l)), .int h, .int (v + 1)] (M, n, sl) (.inl (some (.int (D.1 (mE av l h)))), (M, n, sl))) (a : Nat) {kd nm nu : Int32} {i x : Option Nat} (hB : Bn a = some (.inr (4, [.int kd, .int nm, .int nu, va_rf i, va_rf x]))) (Ds : List Den) (hch : cCh Bn P Ds i) : xCl (d + 1) k_L_stateOfGroup [.ref (ct 0), .ref a, .ref (ct (100 + 5 * l)), .int h, .int v] (M, n, sl) (.inl (some (.int ((grpD kd Ds).1 (mE av l h)))), (M, n, sl)) := by
  show xEv _ k_L_stateOfGroup 0 [some (.ref (ct 0)), some (.ref a), some (.ref (ct (100 + 5 * l))), some (.int h), some (.int v), none, none, none] [] _ _
  refine ev_cutv (E := 14) (V := if kd = 124 then 0 else 1) ?_ (fun hk_1 => ?_)
  · refine ev_top (fun x_2 ex_2 => ?_)
    refine ev_istore (lo1 := [some (.ref (ct 0)), some (.ref a), some (.ref (ct (100 + 5 * l))), some (.int h), some (.int v), some (.int x_2), none, none]) d_L_stateOfGroup_14 (Nat.le_of_ble_eq_true rfl) rfl ?_
    refine ev_aload_n d_L_stateOfGroup_16 rfl ?_
    refine ev_get d_L_stateOfGroup_17 f_0_266 ((K.nod a _ hB)) rfl ?_
    refine ev_astoreQ (lo1 := [some (.ref (ct 0)), some (.ref a), some (.ref (ct (100 + 5 * l))), some (.int h), some (.int v), some (.int x_2), some (va_rf i), none]) d_L_stateOfGroup_20 (Nat.le_of_ble_eq_true rfl) rfl ?_
    exact xEv.to (l_L_stateOfGroup K l h P v hP a _ Ds i hch none) (by rw [ex_2]; rfl)
  · refine ev_aload_n d_L_stateOfGroup_0 rfl ?_
    refine ev_get d_L_stateOfGroup_1 f_0_261 ((K.nod a _ hB)) rfl ?_
    refine ev_bipush (v := 124) d_L_stateOfGroup_4 rfl ?_
    refine ev_icmp_ne (t := 13) d_L_stateOfGroup_6 (by decide) (fun c_6_3 => ?_) (fun c_6_3 => ?_)
    · refine ev_iconst (v := 1) d_L_stateOfGroup_13 rfl ?_
      exact hk_1 _ (by grind)
    · refine ev_iconst (v := 0) d_L_stateOfGroup_9 rfl ?_
      refine ev_goto (t := 14) d_L_stateOfGroup_10 (by decide) ?_
      exact hk_1 _ (by grind)
set_option maxRecDepth 20000 in
theorem c_L_stateOf {M : xMm} {n sl : Nat} {ct : Nat → Nat} {tg : Nat → Option Nat} {Bn : xMm} {cn rq ln : Nat} {rt : Nat → Nat → Option Nat} {tx : Nat → List Int32} {iv : Nat → Int32} {av : Nat → Nat → Int32} (K : CR M n ct tg Bn cn rq ln rt tx iv av) (l : Nat) (hl : l < ln) (h : Int32) (h0 : 0 ≤ h) (hrows : ∀ q, q < 8 → ∃ rn, rn ≤ 60 ∧ av 18 q = nI rn)  : ∀ (H d a : Nat) (D : Den), cN Bn H a D → ∀ v : Int32, (∃ w, v = nI w ∧ w + H ≤ 41) → xCl (d + 2 * H + 1) k_L_stateOf [.ref (ct 0), .ref a, .ref (ct (100 + 5 * l)), .int h, .int v] (M, n, sl) (.inl (some (.int (D.1 (mE av l h)))), (M, n, sl)) := by
  intro H
  induction H with
  | zero =>
    intro d a D hN
    exact absurd hN id
  | succ H ih0 =>
    intro d a D hN v hv0
    obtain ⟨w, hw, hwH⟩ := hv0
    have hv : v ≤ 40 := by rw [hw]; exact nI_le (b := 40) (by omega) (by decide)
    have hv1 : ∃ w, v + 1 = nI w ∧ w + H ≤ 41 := ⟨w + 1, by rw [hw, nI_succ], by omega⟩
    have ih := fun b D hb v hv => ih0 (d + 1) b D hb v hv
    have ih2 := fun b D hb v hv => ih0 d b D hb v hv
    rw [show d + 2 * (H + 1) + 1 = (d + 1 + 2 * H + 1) + 1 by omega]
    obtain ⟨kd, nm, nu, i, x, hB, hk⟩ := hN
    rcases hk with ⟨rfl, b, D1, rfl, hN, rfl⟩ | ⟨hk, Ds, hch, rfl⟩ | ⟨hk, hnm, m, hm, rfl, rfl⟩
    · show xEv _ k_L_stateOf 0 [some (.ref (ct 0)), some (.ref a), some (.ref (ct (100 + 5 * l))), some (.int h), some (.int v)] [] _ _
      refine ev_aload_n d_L_stateOf_0 rfl ?_
      refine ev_ifnull d_L_stateOf_1 ?_
      refine ev_iload d_L_stateOf_4 rfl ?_
      refine ev_bipush (v := 40) d_L_stateOf_6 rfl ?_
      refine ev_icmp_le (t := 13) d_L_stateOf_8 (by decide) (fun _ => ?_) (fun c_8 => absurd hv c_8)
      refine ev_aload_n d_L_stateOf_13 rfl ?_
      refine ev_get d_L_stateOf_14 f_0_261 ((K.nod a _ hB)) rfl ?_
      refine ev_ls (t := 52) d_L_stateOf_17 (by decide) rfl (by decide) ?_
      refine ev_aload_n d_L_stateOf_52 rfl ?_
      refine ev_aload_n d_L_stateOf_53 rfl ?_
      refine ev_get d_L_stateOf_54 f_0_266 ((K.nod a _ hB)) rfl ?_
      refine ev_aload_n d_L_stateOf_57 rfl ?_
      refine ev_iload_n d_L_stateOf_58 rfl ?_
      refine ev_iload d_L_stateOf_59 rfl ?_
      refine ev_iconst (v := 1) d_L_stateOf_61 rfl ?_
      refine ev_iadd d_L_stateOf_62 ?_
      refine ev_v4r d_L_stateOf_63 q_0_175 rfl K.lt ⟨rfl, Nat.le_of_ble_eq_true rfl, Nat.le_of_ble_eq_true rfl⟩ (ih b D1 hN _ hv1) ?_
      refine ev_s1r d_L_stateOf_66 q_0_270 rfl ⟨rfl, Nat.le_of_ble_eq_true rfl, Nat.le_of_ble_eq_true rfl⟩ (c_L_turnedRound _) ?_
      exact xEv.to (ev_iret d_L_stateOf_69 rfl) (by rfl)
    · rw [show d + 1 + 2 * H + 1 = (d + 2 * H + 1) + 1 by omega]
      rcases hk with rfl | rfl
      · show xEv _ k_L_stateOf 0 [some (.ref (ct 0)), some (.ref a), some (.ref (ct (100 + 5 * l))), some (.int h), some (.int v)] [] _ _
        refine ev_aload_n d_L_stateOf_0 rfl ?_
        refine ev_ifnull d_L_stateOf_1 ?_
        refine ev_iload d_L_stateOf_4 rfl ?_
        refine ev_bipush (v := 40) d_L_stateOf_6 rfl ?_
        refine ev_icmp_le (t := 13) d_L_stateOf_8 (by decide) (fun _ => ?_) (fun c_8 => absurd hv c_8)
        refine ev_aload_n d_L_stateOf_13 rfl ?_
        refine ev_get d_L_stateOf_14 f_0_261 ((K.nod a _ hB)) rfl ?_
        refine ev_ls (t := 70) d_L_stateOf_17 (by decide) rfl (by decide) ?_
        refine ev_aload_n d_L_stateOf_70 rfl ?_
        refine ev_aload_n d_L_stateOf_71 rfl ?_
        refine ev_aload_n d_L_stateOf_72 rfl ?_
        refine ev_iload_n d_L_stateOf_73 rfl ?_
        refine ev_iload d_L_stateOf_74 rfl ?_
        refine ev_v4r d_L_stateOf_76 q_0_273 rfl K.lt ⟨rfl, Nat.le_of_ble_eq_true rfl, Nat.le_of_ble_eq_true rfl⟩ (c_L_stateOfGroup K l h (cN Bn H) v (fun b D hb => ih2 b D hb _ hv1) a hB Ds hch) ?_
        exact xEv.to (ev_iret d_L_stateOf_79 rfl) (by rfl)
      · show xEv _ k_L_stateOf 0 [some (.ref (ct 0)), some (.ref a), some (.ref (ct (100 + 5 * l))), some (.int h), some (.int v)] [] _ _
        refine ev_aload_n d_L_stateOf_0 rfl ?_
        refine ev_ifnull d_L_stateOf_1 ?_
        refine ev_iload d_L_stateOf_4 rfl ?_
        refine ev_bipush (v := 40) d_L_stateOf_6 rfl ?_
        refine ev_icmp_le (t := 13) d_L_stateOf_8 (by decide) (fun _ => ?_) (fun c_8 => absurd hv c_8)
        refine ev_aload_n d_L_stateOf_13 rfl ?_
        refine ev_get d_L_stateOf_14 f_0_261 ((K.nod a _ hB)) rfl ?_
        refine ev_ls (t := 70) d_L_stateOf_17 (by decide) rfl (by decide) ?_
        refine ev_aload_n d_L_stateOf_70 rfl ?_
        refine ev_aload_n d_L_stateOf_71 rfl ?_
        refine ev_aload_n d_L_stateOf_72 rfl ?_
        refine ev_iload_n d_L_stateOf_73 rfl ?_
        refine ev_iload d_L_stateOf_74 rfl ?_
        refine ev_v4r d_L_stateOf_76 q_0_273 rfl K.lt ⟨rfl, Nat.le_of_ble_eq_true rfl, Nat.le_of_ble_eq_true rfl⟩ (c_L_stateOfGroup K l h (cN Bn H) v (fun b D hb => ih2 b D hb _ hv1) a hB Ds hch) ?_
        exact xEv.to (ev_iret d_L_stateOf_79 rfl) (by rfl)
    · rcases hk with rfl | rfl | rfl
      · show xEv _ k_L_stateOf 0 [some (.ref (ct 0)), some (.ref a), some (.ref (ct (100 + 5 * l))), some (.int h), some (.int v)] [] _ _
        refine ev_aload_n d_L_stateOf_0 rfl ?_
        refine ev_ifnull d_L_stateOf_1 ?_
        refine ev_iload d_L_stateOf_4 rfl ?_
        refine ev_bipush (v := 40) d_L_stateOf_6 rfl ?_
        refine ev_icmp_le (t := 13) d_L_stateOf_8 (by decide) (fun _ => ?_) (fun c_8 => absurd hv c_8)
        refine ev_aload_n d_L_stateOf_13 rfl ?_
        refine ev_get d_L_stateOf_14 f_0_261 ((K.nod a _ hB)) rfl ?_
        refine ev_ls (t := 80) d_L_stateOf_17 (by decide) rfl (by decide) ?_
        refine ev_aload_n d_L_stateOf_80 rfl ?_
        refine ev_aload_n d_L_stateOf_81 rfl ?_
        refine ev_aload_n d_L_stateOf_82 rfl ?_
        refine ev_iload_n d_L_stateOf_83 rfl ?_
        refine ev_v3r d_L_stateOf_84 q_0_276 rfl K.lt ⟨rfl, Nat.le_of_ble_eq_true rfl, Nat.le_of_ble_eq_true rfl⟩ (c_L_stateOfName K (K.nod a _ hB) (by decide) l hl h h0 hrows hnm) ?_
        exact xEv.to (ev_iret d_L_stateOf_87 rfl) (by rfl)
      · show xEv _ k_L_stateOf 0 [some (.ref (ct 0)), some (.ref a), some (.ref (ct (100 + 5 * l))), some (.int h), some (.int v)] [] _ _
        refine ev_aload_n d_L_stateOf_0 rfl ?_
        refine ev_ifnull d_L_stateOf_1 ?_
        refine ev_iload d_L_stateOf_4 rfl ?_
        refine ev_bipush (v := 40) d_L_stateOf_6 rfl ?_
        refine ev_icmp_le (t := 13) d_L_stateOf_8 (by decide) (fun _ => ?_) (fun c_8 => absurd hv c_8)
        refine ev_aload_n d_L_stateOf_13 rfl ?_
        refine ev_get d_L_stateOf_14 f_0_261 ((K.nod a _ hB)) rfl ?_
        refine ev_ls (t := 80) d_L_stateOf_17 (by decide) rfl (by decide) ?_
        refine ev_aload_n d_L_stateOf_80 rfl ?_
        refine ev_aload_n d_L_stateOf_81 rfl ?_
        refine ev_aload_n d_L_stateOf_82 rfl ?_
        refine ev_iload_n d_L_stateOf_83 rfl ?_
        refine ev_v3r d_L_stateOf_84 q_0_276 rfl K.lt ⟨rfl, Nat.le_of_ble_eq_true rfl, Nat.le_of_ble_eq_true rfl⟩ (c_L_stateOfName K (K.nod a _ hB) (by decide) l hl h h0 hrows hnm) ?_
        exact xEv.to (ev_iret d_L_stateOf_87 rfl) (by rfl)
      · show xEv _ k_L_stateOf 0 [some (.ref (ct 0)), some (.ref a), some (.ref (ct (100 + 5 * l))), some (.int h), some (.int v)] [] _ _
        refine ev_aload_n d_L_stateOf_0 rfl ?_
        refine ev_ifnull d_L_stateOf_1 ?_
        refine ev_iload d_L_stateOf_4 rfl ?_
        refine ev_bipush (v := 40) d_L_stateOf_6 rfl ?_
        refine ev_icmp_le (t := 13) d_L_stateOf_8 (by decide) (fun _ => ?_) (fun c_8 => absurd hv c_8)
        refine ev_aload_n d_L_stateOf_13 rfl ?_
        refine ev_get d_L_stateOf_14 f_0_261 ((K.nod a _ hB)) rfl ?_
        refine ev_ls (t := 80) d_L_stateOf_17 (by decide) rfl (by decide) ?_
        refine ev_aload_n d_L_stateOf_80 rfl ?_
        refine ev_aload_n d_L_stateOf_81 rfl ?_
        refine ev_aload_n d_L_stateOf_82 rfl ?_
        refine ev_iload_n d_L_stateOf_83 rfl ?_
        refine ev_v3r d_L_stateOf_84 q_0_276 rfl K.lt ⟨rfl, Nat.le_of_ble_eq_true rfl, Nat.le_of_ble_eq_true rfl⟩ (c_L_stateOfName K (K.nod a _ hB) (by decide) l hl h h0 hrows hnm) ?_
        exact xEv.to (ev_iret d_L_stateOf_87 rfl) (by rfl)
