/-! contracts under the reference's eye; the meaning of its nodes -/
theorem d_con (s : Nat → Int32) (len : Nat) (h80 : len ≤ 80) : ∀ kk p q o, pC s len kk p = (q, o) → 1 ≤ kk → kk ≤ 6 → p ≤ len → ∀ g, p ≤ q ∧ q ≤ len ∧ ∃ Q, dGo s (q - p) p (0, 0, nI 0, nI (7 - kk), g) = some Q ∧ (o = none → Fail s len q Q) ∧ (o ≠ none → q = len ∧ ∃ t, Post s len q 0 t Q)
  | 0, p, q, o, h, h1, h6, hp, g => absurd h1 (by omega)
  | kk + 1, p, q, o, h, h1, h6, hp, g => by
    rw [pC] at h
    cases hq : pP s len 246 1 124 0 0 p with
    | mk r o1 =>
    have hb1 := pP_bd s len 246 1 124 0 0 p hp (by decide)
    rw [hq] at h hb1
    simp only at hb1
    obtain ⟨Q, g1, g2, g3⟩ := (d_all s len 246).2.1 124 0 p r o1 hp h80 (by omega) (Or.inl rfl) (by simp only [if_true]; omega) hq (nI (7 - (kk + 1))) g
    split at h
    · rename_i e
      cases e
      obtain ⟨g4, g5, g6⟩ := g3 (by simp)
      by_cases hl : len ≤ r
      · rw [if_pos hl] at h
        cases h
        exact ⟨hb1.1, hb1.2, Q, g1, fun e => (by cases e), fun _ => ⟨by omega, _, g4⟩⟩
      · rw [if_neg hl] at h
        have hr : r < len := by omega
        have nx := g4.next (by omega) hr
        rw [if_neg (fun g9 => absurd g9.2 (by omega))] at nx
        have t6 : (nI (7 - (kk + 1)) < 6) ↔ kk ≠ 0 := by
          rw [show (6 : Int32) = nI 6 from rfl, nI_ltI (by omega) (by decide)]
          omega
        by_cases h59 : sg s len r = 59 ∧ kk ≠ 0
        · rw [if_pos h59] at h
          have h59' := h59.1
          rw [sg_at hr] at h59'
          rw [if_pos ⟨h59', rfl, t6.mpr h59.2⟩] at nx
          cases hq2 : pC s len kk (r + 1) with
          | mk r2 o2 =>
          rw [hq2] at h
          obtain ⟨k0, k00, Q2, k1, k2, k3⟩ := d_con s len h80 kk (r + 1) r2 o2 hq2 (by omega) (by omega) (by omega) Q.2.2.2.2
          have s1 : dGo s (r + 1 - p) p (0, 0, nI 0, nI (7 - (kk + 1)), g) = some (0, 0, nI 0, nI (7 - kk), Q.2.2.2.2) := dGo_to (r := r) hb1.1 (by omega) g1 (by rw [Nat.add_sub_cancel_left, show 7 - kk = 7 - (kk + 1) + 1 by omega, nI_succ]; exact dGo_one nx)
          have tot := dGo_to (r := r + 1) (by omega) k0 s1 k1
          split at h
          · rename_i e
            cases e
            cases h
            exact ⟨by omega, k00, Q2, tot, fun e => (by cases e), fun _ => k3 (by simp)⟩
          · rename_i e
            cases e
            cases h
            exact ⟨by omega, k00, Q2, tot, fun _ => k2 rfl, fun e => absurd rfl e⟩
        · rw [if_neg h59] at h
          cases h
          refine ⟨hb1.1, hb1.2, Q, g1, fun _ => ⟨fun _ => ?_, fun e => by omega⟩, fun e => absurd rfl e⟩
          rw [nx, if_neg (fun g9 => h59 ⟨by rw [sg_at hr]; exact g9.1, t6.mp g9.2.2⟩), if_neg (by have := g6 rfl; rw [sg_at hr] at g5 this; grind)]
    · rename_i hne e
      cases e
      cases h
      refine ⟨hb1.1, hb1.2, Q, g1, fun _ => ?_, fun e => absurd rfl e⟩
      cases o1 with
      | none => exact g2 rfl
      | some Ds =>
        cases Ds with
        | nil =>
          obtain ⟨D, e9, -⟩ := (pP_len s len 246 1 124 0 0 p q [] hp (by decide) hq).1 (by omega)
          cases e9
        | cons D Ds => exact absurd rfl (hne D Ds)
theorem fa_eq (av : Nat → Nat → Int32) (pn : Nat) (h80 : pn ≤ 80) : (pC (av 2) pn 6 0).1 ≤ pn ∧ ((pC (av 2) pn 6 0).2 = none → mFa av pn pn 0 (0, 0, 0, 1, 0) = nI (pC (av 2) pn 6 0).1) ∧ ((pC (av 2) pn 6 0).2 ≠ none → mFa av pn pn 0 (0, 0, 0, 1, 0) = -1 ∧ (pC (av 2) pn 6 0).1 = pn) := by
  cases hq : pC (av 2) pn 6 0 with
  | mk q o =>
  obtain ⟨-, h1, Q, h2, h3, h4⟩ := d_con (av 2) pn h80 6 0 q o hq (by omega) (by omega) (by omega) 0
  rw [Nat.sub_zero] at h2
  have hrun := mFa_run av pn q 0 (0, 0, 0, 1, 0) Q (by omega) h2
  rw [Nat.sub_zero, Nat.zero_add] at hrun
  refine ⟨h1, fun e => ?_, fun e => ?_⟩
  · obtain ⟨f1, f2⟩ := h3 e
    rw [hrun]
    by_cases hlt : q < pn
    · rw [show pn - q = (pn - q - 1) + 1 by omega, mFa, f1 hlt]
    · rw [show pn - q = 0 by omega, mFa, if_neg (f2 (by omega)), show q = pn by omega]
  · obtain ⟨f1, t, f2⟩ := h4 e
    refine ⟨?_, f1⟩
    rw [hrun, show pn - q = 0 by omega, mFa, if_pos ((f2.st (by omega)).mpr rfl)]
/-! nodes -/
def chs (av : Nat → Nat → Int32) (c k : Nat) : Nat → Nat → List Nat
  | 0, _ => []
  | n + 1, lo => if av 8 (160 * c + lo) = nI k then lo :: chs av c k n (lo + 1) else chs av c k n (lo + 1)
theorem chs_add (av : Nat → Nat → Int32) (c k : Nat) : ∀ a b lo, chs av c k (a + b) lo = chs av c k a lo ++ chs av c k b (lo + a)
  | 0, b, lo => by rw [Nat.zero_add, Nat.add_zero]; rfl
  | a + 1, b, lo => by
    rw [show a + 1 + b = (a + b) + 1 by omega, chs, chs, chs_add av c k a b (lo + 1), show lo + 1 + a = lo + (a + 1) by omega]
    split
    · rfl
    · rfl
theorem chs_none (av : Nat → Nat → Int32) (c k : Nat) : ∀ n lo, (∀ j, lo ≤ j → j < lo + n → av 8 (160 * c + j) ≠ nI k) → chs av c k n lo = []
  | 0, lo, _ => rfl
  | n + 1, lo, h => by
    rw [chs, if_neg (h lo (by omega) (by omega))]
    exact chs_none av c k n (lo + 1) (fun j h1 h2 => h j (by omega) (by omega))
theorem chs_same (av av2 : Nat → Nat → Int32) (c k : Nat) : ∀ n lo, (∀ j, lo ≤ j → j < lo + n → av2 8 (160 * c + j) = av 8 (160 * c + j)) → chs av2 c k n lo = chs av c k n lo
  | 0, lo, _ => rfl
  | n + 1, lo, h => by rw [chs, chs, h lo (by omega) (by omega), chs_same av av2 c k n (lo + 1) (fun j h1 h2 => h j (by omega) (by omega))]
theorem chs_in (av : Nat → Nat → Int32) (c k : Nat) : ∀ n lo j, j ∈ chs av c k n lo → lo ≤ j ∧ j < lo + n
  | 0, lo, j, h => by cases h
  | n + 1, lo, j, h => by
    rw [chs] at h
    split at h
    · rcases List.mem_cons.mp h with e | h
      · omega
      · have := chs_in av c k n (lo + 1) j h
        omega
    · have := chs_in av c k n (lo + 1) j h
      omega
def fT (T : Nat → Int32) (z : Int32) : List Nat → Int32
  | [] => z
  | j :: js => if T j ≠ z then T j else fT T z js
theorem fnd_chs (av : Nat → Nat → Int32) (c k : Nat) (T : Nat → Int32) (z : Int32) : ∀ n lo, fnd av c k T z n lo = fT T z (chs av c k n lo)
  | 0, lo => rfl
  | n + 1, lo => by
    rw [fnd, chs, fnd_chs av c k T z n (lo + 1)]
    by_cases h1 : av 8 (160 * c + lo) = nI k
    · rw [if_pos h1, fT]
      by_cases h2 : T lo ≠ z
      · rw [if_pos ⟨h1, h2⟩, if_pos h2]
      · rw [if_neg (fun g => h2 g.2), if_neg h2]
    · rw [if_neg h1, if_neg (fun g => h1 g.1)]
def fX (jt : Int32) (W : Nat → List Int32) : List Nat → List Int32
  | [] => []
  | j :: js => W j ++ (js.map fun x => jt :: W x).flatten
theorem fX_snoc (jt : Int32) (W : Nat → List Int32) (js : List Nat) (x : Nat) : fX jt W (js ++ [x]) = fX jt W js ++ (if 0 < js.length then [jt] else []) ++ W x := by
  cases js with
  | nil => simp [fX]
  | cons j js => simp [fX]
theorem mX_chs (av : Nat → Nat → Int32) (c k : Nat) (W : Nat → List Int32) : ∀ i, mX av c k W i = fX (jn av c k) W (chs av c k i (k + 1)) ∧ nch av c k i = (chs av c k i (k + 1)).length
  | 0 => ⟨rfl, rfl⟩
  | i + 1 => by
    obtain ⟨h1, h2⟩ := mX_chs av c k W i
    rw [chs_add av c k i 1 (k + 1), mX, nch]
    by_cases hc : av 8 (160 * c + (k + 1 + i)) = nI k
    · rw [if_pos hc, if_pos hc, show chs av c k 1 (k + 1 + i) = [k + 1 + i] from by rw [chs, if_pos hc]; rfl, fX_snoc, h1, h2]
      exact ⟨rfl, by simp⟩
    · rw [if_neg hc, if_neg hc, show chs av c k 1 (k + 1 + i) = [] from by rw [chs, if_neg hc]; rfl, List.append_nil]
      exact ⟨h1, h2⟩
def okT (av : Nat → Nat → Int32) (c N : Nat) (E : Int32 → Option Int32) (T : Nat → Int32) : Prop := ∀ x, x < N → T x = tV av c N E T x
/-- a node stands for a term -/
def NR (av : Nat → Nat → Int32) (c N k : Nat) (D : Den) : Prop := (∀ E T, okT av c N E T → T k = D.1 E) ∧ (∀ f, N - k ≤ f → mW av c N f k = D.2) ∧ (∀ E, D.1 E = 0 ∨ D.1 E = 1 ∨ D.1 E = 2)
def pre : Nat → Den → Den
  | 0, D => D
  | k + 1, D => notD (pre k D)
theorem pre_not : ∀ k D, pre k (notD D) = notD (pre k D)
  | 0, D => rfl
  | k + 1, D => by rw [pre, pre, pre_not k D]
theorem pre_txt : ∀ k D, (pre k D).2 = List.replicate k 33 ++ D.2
  | 0, D => by simp [pre]
  | k + 1, D => by
    rw [pre]
    simp only [notD, pre_txt k D, List.replicate_succ]
    rfl
/-- one of several, or the one itself -/
def gD (j : Int32) (Ds : List Den) : Den := match Ds with
  | [D] => D
  | _ => grpD j Ds
def zip2 (P : Nat → Den → Prop) : List Nat → List Den → Prop
  | [], [] => True
  | j :: js, D :: Ds => P j D ∧ zip2 P js Ds
  | _, _ => False
theorem zip2_app {P : Nat → Den → Prop} : ∀ js Ds js2 Ds2, zip2 P js Ds → zip2 P js2 Ds2 → zip2 P (js ++ js2) (Ds ++ Ds2)
  | [], [], _, _, _, h2 => h2
  | j :: js, D :: Ds, js2, Ds2, h, h2 => ⟨h.1, zip2_app js Ds js2 Ds2 h.2 h2⟩
  | [], _ :: _, _, _, h, _ => absurd h id
  | _ :: _, [], _, _, h, _ => absurd h id
theorem zip2_mono {P Q : Nat → Den → Prop} : ∀ js Ds, (∀ j D, j ∈ js → P j D → Q j D) → zip2 P js Ds → zip2 Q js Ds
  | [], [], _, h => h
  | j :: js, D :: Ds, hp, h => ⟨hp j D List.mem_cons_self h.1, zip2_mono js Ds (fun a b g => hp a b (List.mem_cons_of_mem _ g)) h.2⟩
  | [], _ :: _, _, h => absurd h id
  | _ :: _, [], _, h => absurd h id
theorem zip2_len {P : Nat → Den → Prop} : ∀ js Ds, zip2 P js Ds → js.length = Ds.length
  | [], [], _ => rfl
  | j :: js, D :: Ds, h => by rw [List.length_cons, List.length_cons, zip2_len js Ds h.2]
  | [], _ :: _, h => absurd h id
  | _ :: _, [], h => absurd h id
theorem fT_grS {T : Nat → Int32} {z : Int32} {E : Int32 → Option Int32} : ∀ js Ds, zip2 (fun j D => T j = D.1 E) js Ds → fT T z js = grS z E Ds
  | [], [], _ => rfl
  | j :: js, D :: Ds, h => by
    rw [fT, grS, h.1, fT_grS js Ds h.2]
    by_cases g : D.1 E = z
    · rw [if_pos g, if_neg (fun g2 => g2 g)]
    · rw [if_neg g, if_pos g]
  | [], _ :: _, h => absurd h id
  | _ :: _, [], h => absurd h id
theorem grW_eq (j : Int32) : ∀ (Ds : List Den) (D : Den) (a : Int32), grW j a (D :: Ds) = [a] ++ (D.2 ++ (Ds.map fun x => j :: x.2).flatten) ++ [41]
  | [], D, a => by simp [grW]
  | E :: Es, D, a => by
    rw [grW, grW_eq j Es E j]
    simp
theorem fX_zip {jt : Int32} {W : Nat → List Int32} : ∀ js (Ds : List Den), zip2 (fun j D => W j = D.2) js Ds → (js.map fun x => jt :: W x).flatten = (Ds.map fun x => jt :: x.2).flatten
  | [], [], _ => rfl
  | j :: js, D :: Ds, h => by
    simp only [List.map_cons, List.flatten_cons, h.1, fX_zip js Ds h.2]
  | [], _ :: _, h => absurd h id
  | _ :: _, [], h => absurd h id
theorem grS_3 (z : Int32) (E : Int32 → Option Int32) (hz : z = 0 ∨ z = 1 ∨ z = 2) : ∀ Ds : List Den, (∀ D ∈ Ds, D.1 E = 0 ∨ D.1 E = 1 ∨ D.1 E = 2) → grS z E Ds = 0 ∨ grS z E Ds = 1 ∨ grS z E Ds = 2
  | [], _ => hz
  | D :: Ds, h => by
    rw [grS]
    split
    · exact grS_3 z E hz Ds (fun D2 g => h D2 (List.mem_cons_of_mem _ g))
    · exact h D List.mem_cons_self
theorem tV_pre {b tu : Nat} {x : Int32} {D : Den} {E : Int32 → Option Int32} (htu : tu ≤ 3) (hx : x = D.1 E) (h3 : D.1 E = 0 ∨ D.1 E = 1 ∨ D.1 E = 2) : (if x ≠ 2 ∧ nI tu - nI tu / 2 * 2 = 1 then 1 - x else x) = (pre tu D).1 E ∧ ((pre tu D).1 E = 0 ∨ (pre tu D).1 E = 1 ∨ (pre tu D).1 E = 2) := by
  subst hx
  have h : tu = 0 ∨ tu = 1 ∨ tu = 2 ∨ tu = 3 := by omega
  rcases h with rfl | rfl | rfl | rfl <;> rcases h3 with e | e | e <;> simp only [pre, notD, trn, e] <;> decide
/-- a leaf -/
theorem NR_leaf {av : Nat → Nat → Int32} {c N k tu nu : Nat} {nm sn : Int32} (hk : k < N) (h7 : av 7 (160 * c + k) = 0) (h9 : av 9 (160 * c + k) = nI tu) (htu : tu ≤ 3) (h10 : av 10 (160 * c + k) = nm) (h11 : av 11 (160 * c + k) = sn) (h12 : av 12 (160 * c + k) = nI nu) (hnu : nu < 1000000) : NR av c N k (pre tu (leafD nm sn nu)) := by
  have l3 : ∀ E, (leafD nm sn nu).1 E = 0 ∨ (leafD nm sn nu).1 E = 1 ∨ (leafD nm sn nu).1 E = 2 := by
    intro E
    simp only [leafD, lfS]
    split
    · exact Or.inr (Or.inr rfl)
    · split <;> split <;> first | exact Or.inl rfl | exact Or.inr (Or.inl rfl) | (split <;> first | exact Or.inl rfl | exact Or.inr (Or.inl rfl))
  refine ⟨fun E T hT => ?_, fun f hf => ?_, fun E => (tV_pre (b := 0) htu rfl (l3 E)).2⟩
  · rw [hT k hk, tV, h9]
    have : tB av c N E T k = (leafD nm sn nu).1 E := by rw [tB, if_pos h7, h10, h11, h12]; rfl
    rw [this]
    exact (tV_pre (b := 0) htu rfl (l3 E)).1
  · obtain ⟨f2, rfl⟩ : ∃ f2, f = f2 + 1 := ⟨f - 1, by omega⟩
    rw [mW, if_pos h7, h9, nI_clamp (by omega), h10, h11, h12, nI_clamp (by omega), pre_txt]
    rfl
/-- a group -/
theorem NR_grp {av : Nat → Nat → Int32} {c N k tu : Nat} {kd : Int32} {js : List Nat} {Ds : List Den} (hk : k < N) (h7 : av 7 (160 * c + k) = kd) (hkd : kd = 1 ∨ kd = 2) (h9 : av 9 (160 * c + k) = nI tu) (htu : tu ≤ 3) (hjs : chs av c k (N - 1 - k) (k + 1) = js) (hz : zip2 (fun j D => NR av c N j D) js Ds) (hne : Ds ≠ []) : NR av c N k (pre tu (gD (if kd = 2 then 124 else 38) Ds)) := by
  have hk0 : ¬ kd = 0 := by rcases hkd with e | e <;> rw [e] <;> decide
  have hjn : jn av c k = if kd = 2 then 124 else 38 := by rw [jn, h7]
  have hin : ∀ j, j ∈ js → k < j ∧ j < N := fun j hj => by rw [← hjs] at hj; have := chs_in _ _ _ _ _ _ hj; omega
  have hD3 : ∀ E D, D ∈ Ds → D.1 E = 0 ∨ D.1 E = 1 ∨ D.1 E = 2 := by
    intro E
    have : ∀ js Ds, zip2 (fun j D => NR av c N j D) js Ds → ∀ D, D ∈ Ds → D.1 E = 0 ∨ D.1 E = 1 ∨ D.1 E = 2 := by
      intro js
      induction js with
      | nil => intro Ds h D hD; cases Ds with | nil => cases hD | cons _ _ => exact absurd h id
      | cons j js ih =>
        intro Ds h D hD
        cases Ds with
        | nil => cases hD
        | cons D2 Ds =>
          rcases List.mem_cons.mp hD with e | hD
          · rw [e]; exact h.1.2.2 E
          · exact ih Ds h.2 D hD
    exact this js Ds hz
  have hzz : (if kd = 1 then (1 : Int32) else 0) = (if (if kd = 2 then (124 : Int32) else 38) = 124 then 0 else 1) := by rcases hkd with e | e <;> rw [e] <;> decide
  have hg : ∀ E, (gD (if kd = 2 then 124 else 38) Ds).1 E = grS (if kd = 1 then 1 else 0) E Ds := by
    intro E
    rw [hzz]
    cases Ds with
    | nil => exact absurd rfl hne
    | cons D Ds =>
      cases Ds with
      | nil =>
        simp only [gD, grS]
        split <;> simp_all
      | cons D2 Ds => rfl
  have g3 : ∀ E, (gD (if kd = 2 then 124 else 38) Ds).1 E = 0 ∨ (gD (if kd = 2 then 124 else 38) Ds).1 E = 1 ∨ (gD (if kd = 2 then 124 else 38) Ds).1 E = 2 := by
    intro E
    rw [hg E]
    exact grS_3 _ E (by split <;> simp) Ds (hD3 E)
  refine ⟨fun E T hT => ?_, fun f hf => ?_, fun E => (tV_pre (b := 0) htu rfl (g3 E)).2⟩
  · rw [hT k hk, tV, h9]
    have : tB av c N E T k = (gD (if kd = 2 then 124 else 38) Ds).1 E := by
      rw [tB, h7, if_neg hk0, fnd_chs, hjs, hg E]
      exact fT_grS js Ds (zip2_mono js Ds (fun j D _ h => h.1 E T hT) hz)
    rw [this]
    exact (tV_pre (b := 0) htu rfl (g3 E)).1
  · obtain ⟨f2, rfl⟩ : ∃ f2, f = f2 + 1 := ⟨f - 1, by omega⟩
    have hx := mX_chs av c k (mW av c N f2) (N - 1 - k)
    rw [hjs] at hx
    have hw : zip2 (fun j D => mW av c N f2 j = D.2) js Ds := zip2_mono js Ds (fun j D hj h => h.2.1 f2 (by have := hin j hj; omega)) hz
    have hl := zip2_len js Ds hz
    rw [mW, h7, if_neg hk0, h9, nI_clamp (by omega), hx.1, hx.2, hjn, pre_txt, hl]
    congr 1
    cases Ds with
    | nil => exact absurd rfl hne
    | cons D Ds =>
      cases js with
      | nil => cases hl
      | cons j js =>
        cases Ds with
        | nil =>
          cases js with
          | cons _ _ => cases hl
          | nil =>
            rw [if_neg (by simp)]
            simp only [fX, gD, List.map_nil, List.flatten_nil, List.append_nil]
            exact hw.1
        | cons D2 Ds =>
          rw [if_pos (by simp)]
          show [40] ++ fX _ _ (j :: js) ++ [41] = grW _ 40 (D :: D2 :: Ds)
          rw [grW_eq, fX, hw.1, fX_zip js (D2 :: Ds) hw.2]
