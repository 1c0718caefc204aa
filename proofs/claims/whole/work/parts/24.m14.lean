/-! the reference: the pile worked off -/
def mGood (av : Nat → Nat → Int32) (c N : Nat) : Prop := ∀ k, k < N → (∃ tu, tu < 1000 ∧ av 9 (160 * c + k) = nI tu) ∧ (∃ nu, nu < 1000000 ∧ av 12 (160 * c + k) = nI nu) ∧ (av 7 (160 * c + k) = 0 ∨ (0 < av 7 (160 * c + k) ∧ ¬ av 7 (160 * c + k) = 0 ∧ 0 < nch av c k (N - 1 - k)))
theorem mX_pos (av : Nat → Nat → Int32) (c k N : Nat) (W : Nat → List Int32) (hW : ∀ j, k < j → j < N → 1 ≤ (W j).length) : ∀ i, k + i < N → 0 < nch av c k i → 1 ≤ (mX av c k W i).length
  | 0, _, h => absurd h (by simp [nch])
  | i + 1, hi, h => by
    have h2 := hW (k + 1 + i) (by omega) (by omega)
    unfold mX
    split
    · simp
      omega
    · rename_i hc
      rw [nch, if_neg hc] at h
      exact mX_pos av c k N W hW i (by omega) (by omega)
theorem mU_len2 (av : Nat → Nat → Int32) (c k N : Nat) (W : Nat → List Int32) (hW : ∀ j, k < j → j < N → 1 ≤ (W j).length) : ∀ i, k + i < N → (mU av c k i).length ≤ (mX av c k W i).length
  | 0, _ => Nat.le_refl _
  | i + 1, hi => by
    have := mU_len2 av c k N W hW i (by omega)
    have h2 := hW (k + 1 + i) (by omega) (by omega)
    unfold mU mX
    split
    · split <;> simp <;> omega
    · exact this
theorem mW_pos (av : Nat → Nat → Int32) (c N : Nat) (hG : mGood av c N) : ∀ f k, k < N → N - k ≤ f → 1 ≤ (mW av c N f k).length
  | 0, k, h1, h2 => absurd h2 (by omega)
  | f + 1, k, h1, h2 => by
    have ih := fun j (g1 : k < j) (g2 : j < N) => mW_pos av c N hG f j g2 (by omega)
    unfold mW
    obtain ⟨-, -, h0 | ⟨-, h0, hn⟩⟩ := hG k h1
    · rw [if_pos h0]
      simp
      omega
    · have h3 := mX_pos av c k N (mW av c N f) ih (N - 1 - k) (by omega) hn
      rw [if_neg h0]
      split <;> simp <;> omega
theorem jn_01 (av : Nat → Nat → Int32) (c k : Nat) : ¬ (0 : Int32) ≤ 0 - jn av c k ∧ 0 - jn av c k < 0 ∧ 0 - (0 - jn av c k) = jn av c k := by
  unfold jn
  split <;> decide
theorem l_M_write_seq {d : Nat} {B : xMm} {ad : Nat → Nat} {ix : Nat → Option Nat} {iv : Nat → Int32} {av : Nat → Nat → Int32} {ns : Nat × Nat} (ok : mOk ad ix) (c N : Nat) (hc : c < 8) (hN : N ≤ 160) (t k : Nat) (W : Nat → List Int32) (hW : ∀ j, k < j → j < N → 1 ≤ (W j).length) (hIH : ∀ j, k < j → j < N → ∀ (P w : List Int32), P.length + (W j).length ≤ 400 → w.length + (W j).length ≤ 400 → ∀ g : Nat → Int32, ∃ g' : Nat → Int32, ∀ X : xO × xS, (∀ (o3 o4 o5 : Option Value), xEv (d + 2) k_M_write 39 [some (.ref (ad 0)), some (.int (nI c)), some (.int (nI t)), o3, o4, o5] [] (mM B ad ix (wI (upd iv 15 (nI (P).length)) (w ++ W j)) (wA (va_up av 14 (wrF g' (P))) (w ++ W j)), ns) X) → ∀ (o3 o4 o5 : Option Value), xEv (d + 2) k_M_write 39 [some (.ref (ad 0)), some (.int (nI c)), some (.int (nI t)), o3, o4, o5] [] (mM B ad ix (wI (upd iv 15 (nI (P ++ [nI j]).length)) (w)) (wA (va_up av 14 (wrF g (P ++ [nI j]))) (w)), ns) X) : ∀ i, k + i < N → ∀ (P w : List Int32), P.length + (mX av c k W i).length ≤ 400 → w.length + (mX av c k W i).length ≤ 400 → ∀ g : Nat → Int32, ∃ g' : Nat → Int32, ∀ X : xO × xS, (∀ (o3 o4 o5 : Option Value), xEv (d + 2) k_M_write 39 [some (.ref (ad 0)), some (.int (nI c)), some (.int (nI t)), o3, o4, o5] [] (mM B ad ix (wI (upd iv 15 (nI (P).length)) (w ++ mX av c k W i)) (wA (va_up av 14 (wrF g' (P))) (w ++ mX av c k W i)), ns) X) → ∀ (o3 o4 o5 : Option Value), xEv (d + 2) k_M_write 39 [some (.ref (ad 0)), some (.int (nI c)), some (.int (nI t)), o3, o4, o5] [] (mM B ad ix (wI (upd iv 15 (nI (P ++ mU av c k i).length)) (w)) (wA (va_up av 14 (wrF g (P ++ mU av c k i))) (w)), ns) X := by
  intro i
  induction i with
  | zero =>
    intro hi P w hP hw g
    refine ⟨g, fun X h => ?_⟩
    rw [show mX av c k W 0 = [] from rfl, List.append_nil] at h
    rw [show mU av c k 0 = [] from rfl, List.append_nil]
    exact h
  | succ i ih =>
    intro hi P w hP hw g
    by_cases hch : av 8 (160 * c + (k + 1 + i)) = nI k
    · have h1 := hW (k + 1 + i) (by omega) (by omega)
      have hju := jn_01 av c k
      by_cases h0 : 0 < nch av c k i
      · rw [show mX av c k W (i + 1) = mX av c k W i ++ [jn av c k] ++ W (k + 1 + i) from by rw [mX, if_pos hch, if_pos h0]] at hP hw ⊢
        rw [show P ++ mU av c k (i + 1) = (P ++ [nI (k + 1 + i)] ++ [0 - jn av c k]) ++ mU av c k i from by rw [mU, if_pos hch, if_pos h0]; simp]
        simp at hP hw
        obtain ⟨g1, t1⟩ := ih (by omega) (P ++ [nI (k + 1 + i)] ++ [0 - jn av c k]) w (by simp; omega) (by omega) g
        obtain ⟨g2, t2⟩ := hIH (k + 1 + i) (by omega) (by omega) P (w ++ mX av c k W i ++ [jn av c k]) (by omega) (by simp; omega) (wrF g1 (P ++ [nI (k + 1 + i)] ++ [0 - jn av c k]))
        refine ⟨g2, fun X h => t1 X (l_M_write_n ok t c hc (P ++ [nI (k + 1 + i)]) (w ++ mX av c k W i) (jn av c k) (0 - jn av c k) hju.1 hju.2.1 hju.2.2 (by simp; omega) (by simp; omega) g1 (t2 X ?_))⟩
        rw [← List.append_assoc, ← List.append_assoc] at h
        exact h
      · rw [show mX av c k W (i + 1) = mX av c k W i ++ W (k + 1 + i) from by rw [mX, if_pos hch, if_neg h0, List.append_nil]] at hP hw ⊢
        rw [show P ++ mU av c k (i + 1) = (P ++ [nI (k + 1 + i)]) ++ mU av c k i from by rw [mU, if_pos hch, if_neg h0]; simp]
        simp at hP hw
        obtain ⟨g1, t1⟩ := ih (by omega) (P ++ [nI (k + 1 + i)]) w (by simp; omega) (by omega) g
        obtain ⟨g2, t2⟩ := hIH (k + 1 + i) (by omega) (by omega) P (w ++ mX av c k W i) (by omega) (by simp; omega) g1
        refine ⟨g2, fun X h => t1 X (t2 X ?_)⟩
        rw [← List.append_assoc] at h
        exact h
    · rw [show mX av c k W (i + 1) = mX av c k W i from by rw [mX, if_neg hch]] at hP hw ⊢
      rw [show mU av c k (i + 1) = mU av c k i from by rw [mU, if_neg hch]]
      exact ih (by omega) P w hP hw g
set_option maxRecDepth 20000 in
theorem l_M_write_lf {d : Nat} {B : xMm} {ad : Nat → Nat} {ix : Nat → Option Nat} {iv : Nat → Int32} {av : Nat → Nat → Int32} {ns : Nat × Nat} (ok : mOk ad ix) {X : xO × xS} (t c k : Nat) (hc : c < 8) (hk : k < 160) (g : Nat → Int32) (P w : List Int32) (nu : Nat) (hnu : nu < 1000000) (h12 : av 12 (160 * c + k) = nI nu) (h0 : av 7 (160 * c + k) = 0) (hw : w.length + ([av 10 (160 * c + k), av 11 (160 * c + k)] ++ dg nu).length ≤ 400) (hend : ∀ (o3 o4 o5 : Option Value), xEv (d + 2) k_M_write 39 [some (.ref (ad 0)), some (.int (nI c)), some (.int (nI t)), o3, o4, o5] [] (mM B ad ix (wI (upd iv 15 (nI (P).length)) (w ++ ([av 10 (160 * c + k)] ++ ([av 11 (160 * c + k)] ++ dg nu)))) (wA (va_up av 14 (wrF g (P))) (w ++ ([av 10 (160 * c + k)] ++ ([av 11 (160 * c + k)] ++ dg nu)))), ns) X) (x : Int32) : xEv (d + 2) k_M_write 114 [some (.ref (ad 0)), some (.int (nI c)), some (.int (nI t)), some (.int (nI k)), some (.int (nI (160 * c + k))), some (.int x)] [] (mM B ad ix (wI (upd iv 15 (nI (P).length)) (w)) (wA (va_up av 14 (wrF g (P))) (w)), ns) X := by
  have ea : (nI (160 * c + k)).toNatClampNeg = 160 * c + k := nI_clamp (by omega)
  refine ev_iload_n d_M_write_114 rfl ?_
  refine ev_if_ge (t := 128) d_M_write_115 (by decide) (fun _ => ?_) (fun c_115 => absurd (nI_pos' (by omega)) c_115)
  refine ev_aload_n d_M_write_128 rfl ?_
  refine ev_get d_M_write_129 f_8_22 (mM_obj ok) rfl ?_
  refine ev_iload d_M_write_132 rfl ?_
  refine ev_iald d_M_write_134 (mM_arr ok 7 rfl) ⟨rfl, vp_in_nI (N := 1280) (by omega) (by decide)⟩ rfl ?_
  rw [s_ne (k := 7) (by decide) (by decide), ea, h0]
  refine ev_if_le (t := 147) d_M_write_135 (by decide) (fun _ => ?_) (fun c_135 => absurd (by decide) c_135)
  refine ev_aload_n d_M_write_147 rfl ?_
  refine ev_aload_n d_M_write_148 rfl ?_
  refine ev_get d_M_write_149 f_8_31 (mM_obj ok) rfl ?_
  refine ev_iload d_M_write_152 rfl ?_
  refine ev_iald d_M_write_154 (mM_arr ok 10 rfl) ⟨rfl, vp_in_nI (N := 1280) (by omega) (by decide)⟩ rfl ?_
  rw [s_ne (k := 10) (by decide) (by decide), ea]
  refine ev_v1o d_M_write_155 q_8_152 rfl (mM_obj ok) ⟨rfl, Nat.le_of_ble_eq_true rfl, Nat.le_of_ble_eq_true rfl⟩ (c_M_putw ok _ _ (by simp at hw ⊢; omega)) ?_
  refine ev_aload_n d_M_write_158 rfl ?_
  refine ev_aload_n d_M_write_159 rfl ?_
  refine ev_get d_M_write_160 f_8_34 (mM_obj ok) rfl ?_
  refine ev_iload d_M_write_163 rfl ?_
  refine ev_iald d_M_write_165 (mM_arr ok 11 rfl) ⟨rfl, vp_in_nI (N := 1280) (by omega) (by decide)⟩ rfl ?_
  rw [s_ne (k := 11) (by decide) (by decide), ea]
  refine ev_v1o d_M_write_166 q_8_152 rfl (mM_obj ok) ⟨rfl, Nat.le_of_ble_eq_true rfl, Nat.le_of_ble_eq_true rfl⟩ (c_M_putw ok _ _ (by simp at hw ⊢; omega)) ?_
  refine ev_aload_n d_M_write_169 rfl ?_
  refine ev_aload_n d_M_write_170 rfl ?_
  refine ev_get d_M_write_171 f_8_37 (mM_obj ok) rfl ?_
  refine ev_iload d_M_write_174 rfl ?_
  refine ev_iald d_M_write_176 (mM_arr ok 12 rfl) ⟨rfl, vp_in_nI (N := 1280) (by omega) (by decide)⟩ rfl ?_
  rw [s_ne (k := 12) (by decide) (by decide), ea, h12]
  refine ev_v1o d_M_write_177 q_8_165 rfl (mM_obj ok) ⟨rfl, Nat.le_of_ble_eq_true rfl, Nat.le_of_ble_eq_true rfl⟩ (c_M_putNumber ok nu hnu _ (by simp at hw ⊢; omega)) ?_
  refine ev_goto (t := 39) d_M_write_180 (by decide) ?_
  rw [List.append_assoc, List.append_assoc]
  exact hend _ _ _
set_option maxRecDepth 20000 in
theorem l_M_write_g2 {d : Nat} {B : xMm} {ad : Nat → Nat} {ix : Nat → Option Nat} {iv : Nat → Int32} {av : Nat → Nat → Int32} {ns : Nat × Nat} (ok : mOk ad ix) {X : xO × xS} (t : Nat) (c N k : Nat) (hc : c < 8) (hN : N ≤ 160) (h6 : av 6 c = nI N) (hk : k < N) (g : Nat → Int32) (P w : List Int32) (h0 : 0 < av 7 (160 * c + k)) (hn : 1 < nch av c k (N - 1 - k)) (hP : P.length + 1 + (mU av c k (N - 1 - k)).length ≤ 400) (hw : w.length < 400) (hend : ∀ (o3 o4 o5 : Option Value), xEv (d + 2) k_M_write 39 [some (.ref (ad 0)), some (.int (nI c)), some (.int (nI t)), o3, o4, o5] [] (mM B ad ix (wI (upd iv 15 (nI (P ++ [-41] ++ mU av c k (N - 1 - k)).length)) (w ++ [40])) (wA (va_up av 14 (wrF g (P ++ [-41] ++ mU av c k (N - 1 - k)))) (w ++ [40])), ns) X) (x : Int32) : xEv (d + 2) k_M_write 114 [some (.ref (ad 0)), some (.int (nI c)), some (.int (nI t)), some (.int (nI k)), some (.int (nI (160 * c + k))), some (.int x)] [] (mM B ad ix (wI (upd iv 15 (nI (P).length)) (w)) (wA (va_up av 14 (wrF g (P))) (w)), ns) X := by
  have ea : (nI (160 * c + k)).toNatClampNeg = 160 * c + k := nI_clamp (by omega)
  refine ev_iload_n d_M_write_114 rfl ?_
  refine ev_if_ge (t := 128) d_M_write_115 (by decide) (fun _ => ?_) (fun c_115 => absurd (nI_pos' (by omega)) c_115)
  refine ev_aload_n d_M_write_128 rfl ?_
  refine ev_get d_M_write_129 f_8_22 (mM_obj ok) rfl ?_
  refine ev_iload d_M_write_132 rfl ?_
  refine ev_iald d_M_write_134 (mM_arr ok 7 rfl) ⟨rfl, vp_in_nI (N := 1280) (by omega) (by decide)⟩ rfl ?_
  rw [s_ne (k := 7) (by decide) (by decide), ea]
  refine ev_if_le (t := 147) d_M_write_135 (by decide) (fun c_135 => absurd c_135 (by intro g9; grind)) (fun _ => ?_)
  refine ev_aload_n d_M_write_138 rfl ?_
  refine ev_iload_n d_M_write_139 rfl ?_
  refine ev_iload_n d_M_write_140 rfl ?_
  refine ev_v2o d_M_write_141 q_8_161 rfl (mM_obj ok) ⟨rfl, Nat.le_of_ble_eq_true rfl, Nat.le_of_ble_eq_true rfl⟩ (c_M_unfold_2 ok c N k hc hN h6 hk g _ _ hn hP hw) ?_
  refine ev_goto (t := 180) d_M_write_144 (by decide) ?_
  refine ev_goto (t := 39) d_M_write_180 (by decide) ?_
  exact hend _ _ _
set_option maxRecDepth 20000 in
theorem l_M_write_g1 {d : Nat} {B : xMm} {ad : Nat → Nat} {ix : Nat → Option Nat} {iv : Nat → Int32} {av : Nat → Nat → Int32} {ns : Nat × Nat} (ok : mOk ad ix) {X : xO × xS} (t : Nat) (c N k : Nat) (hc : c < 8) (hN : N ≤ 160) (h6 : av 6 c = nI N) (hk : k < N) (g : Nat → Int32) (P w : List Int32) (h0 : 0 < av 7 (160 * c + k)) (hn : ¬ 1 < nch av c k (N - 1 - k)) (hP : P.length + (mU av c k (N - 1 - k)).length ≤ 400) (hend : ∀ (o3 o4 o5 : Option Value), xEv (d + 2) k_M_write 39 [some (.ref (ad 0)), some (.int (nI c)), some (.int (nI t)), o3, o4, o5] [] (mM B ad ix (wI (upd iv 15 (nI (P ++ mU av c k (N - 1 - k)).length)) (w)) (wA (va_up av 14 (wrF g (P ++ mU av c k (N - 1 - k)))) (w)), ns) X) (x : Int32) : xEv (d + 2) k_M_write 114 [some (.ref (ad 0)), some (.int (nI c)), some (.int (nI t)), some (.int (nI k)), some (.int (nI (160 * c + k))), some (.int x)] [] (mM B ad ix (wI (upd iv 15 (nI (P).length)) (w)) (wA (va_up av 14 (wrF g (P))) (w)), ns) X := by
  have ea : (nI (160 * c + k)).toNatClampNeg = 160 * c + k := nI_clamp (by omega)
  refine ev_iload_n d_M_write_114 rfl ?_
  refine ev_if_ge (t := 128) d_M_write_115 (by decide) (fun _ => ?_) (fun c_115 => absurd (nI_pos' (by omega)) c_115)
  refine ev_aload_n d_M_write_128 rfl ?_
  refine ev_get d_M_write_129 f_8_22 (mM_obj ok) rfl ?_
  refine ev_iload d_M_write_132 rfl ?_
  refine ev_iald d_M_write_134 (mM_arr ok 7 rfl) ⟨rfl, vp_in_nI (N := 1280) (by omega) (by decide)⟩ rfl ?_
  rw [s_ne (k := 7) (by decide) (by decide), ea]
  refine ev_if_le (t := 147) d_M_write_135 (by decide) (fun c_135 => absurd c_135 (by intro g9; grind)) (fun _ => ?_)
  refine ev_aload_n d_M_write_138 rfl ?_
  refine ev_iload_n d_M_write_139 rfl ?_
  refine ev_iload_n d_M_write_140 rfl ?_
  refine ev_v2o d_M_write_141 q_8_161 rfl (mM_obj ok) ⟨rfl, Nat.le_of_ble_eq_true rfl, Nat.le_of_ble_eq_true rfl⟩ (c_M_unfold_1 ok c N k hc hN h6 hk g _ _ hn hP) ?_
  refine ev_goto (t := 180) d_M_write_144 (by decide) ?_
  refine ev_goto (t := 39) d_M_write_180 (by decide) ?_
  exact hend _ _ _
theorem l_M_write_node {d : Nat} {B : xMm} {ad : Nat → Nat} {ix : Nat → Option Nat} {iv : Nat → Int32} {av : Nat → Nat → Int32} {ns : Nat × Nat} (ok : mOk ad ix) (c N : Nat) (hc : c < 8) (hN : N ≤ 160) (h6 : av 6 c = nI N) (hG : mGood av c N) (t : Nat) : ∀ f k, k < N → N - k ≤ f → ∀ (P w : List Int32), P.length + (mW av c N f k).length ≤ 400 → w.length + (mW av c N f k).length ≤ 400 → ∀ g : Nat → Int32, ∃ g' : Nat → Int32, ∀ X : xO × xS, (∀ (o3 o4 o5 : Option Value), xEv (d + 2) k_M_write 39 [some (.ref (ad 0)), some (.int (nI c)), some (.int (nI t)), o3, o4, o5] [] (mM B ad ix (wI (upd iv 15 (nI (P).length)) (w ++ mW av c N f k)) (wA (va_up av 14 (wrF g' (P))) (w ++ mW av c N f k)), ns) X) → ∀ (o3 o4 o5 : Option Value), xEv (d + 2) k_M_write 39 [some (.ref (ad 0)), some (.int (nI c)), some (.int (nI t)), o3, o4, o5] [] (mM B ad ix (wI (upd iv 15 (nI (P ++ [nI k]).length)) (w)) (wA (va_up av 14 (wrF g (P ++ [nI k]))) (w)), ns) X := by
  intro f
  induction f with
  | zero => intro k h1 h2; omega
  | succ f ih =>
    intro k hk hf P w hP hw g
    obtain ⟨⟨tu, htu, h9⟩, ⟨nu, hnu, h12⟩, hkd⟩ := hG k hk
    have hpos := mW_pos av c N hG (f + 1) k hk hf
    have hWp : ∀ j, k < j → j < N → 1 ≤ (mW av c N f j).length := fun j g1 g2 => mW_pos av c N hG f j g2 (by omega)
    have eW : mW av c N (f + 1) k = List.replicate tu 33 ++ (if av 7 (160 * c + k) = 0 then [av 10 (160 * c + k), av 11 (160 * c + k)] ++ dg nu else if 1 < nch av c k (N - 1 - k) then [40] ++ mX av c k (mW av c N f) (N - 1 - k) ++ [41] else mX av c k (mW av c N f) (N - 1 - k)) := by rw [mW, h9, h12, nI_clamp (by omega), nI_clamp (by omega)]
    rcases hkd with h0 | ⟨h0, h0n, hn0⟩
    · rw [if_pos h0] at eW
      rw [eW] at hP hw ⊢
      have hP9 : P.length < 400 := by rw [eW] at hpos; omega
      refine ⟨wrF g (P ++ [nI k]), fun X hX => l_M_write_k ok t c k hc (by omega) P w hP9 g (l_M_write_b ok t c k hc (by omega) _ P (w ++ List.replicate tu 33) tu htu h9 (by simp at hw ⊢; omega) (fun x => ?_) tu 0 w (by omega) rfl)⟩
      refine l_M_write_lf ok t c k hc (by omega) _ P _ nu hnu h12 h0 (by simp at hw ⊢; omega) (fun o3 o4 o5 => ?_) x
      have := hX o3 o4 o5
      rw [← List.append_assoc] at this
      exact this
    · rw [if_neg h0n] at eW
      have hl := mU_len2 av c k N (mW av c N f) hWp (N - 1 - k) (by omega)
      by_cases hn : 1 < nch av c k (N - 1 - k)
      · rw [if_pos hn] at eW
        rw [eW] at hP hw ⊢
        simp at hP hw
        obtain ⟨g1, t1⟩ := l_M_write_seq (B := B) (d := d) (ns := ns) (iv := iv) ok c N hc hN t k (mW av c N f) hWp (fun j g1 g2 P w p1 p2 g => ih j g2 (by omega) P w p1 p2 g) (N - 1 - k) (by omega) (P ++ [-41]) (w ++ List.replicate tu 33 ++ [40]) (by simp; omega) (by simp; omega) (wrF g (P ++ [nI k]))
        refine ⟨wrF g1 (P ++ [-41]), fun X hX => l_M_write_k ok t c k hc (by omega) P w (by omega) g (l_M_write_b ok t c k hc (by omega) _ P (w ++ List.replicate tu 33) tu htu h9 (by simp; omega) (fun x => ?_) tu 0 w (by omega) rfl)⟩
        refine l_M_write_g2 ok t c N k hc hN h6 hk _ P _ h0 hn (by omega) (by simp; omega) (t1 X (l_M_write_n ok t c hc P _ 41 (-41) (by decide) (by decide) (by decide) (by omega) (by simp; omega) g1 (fun o3 o4 o5 => ?_))) x
        have := hX o3 o4 o5
        rw [show w ++ (List.replicate tu 33 ++ ([40] ++ mX av c k (mW av c N f) (N - 1 - k) ++ [41])) = w ++ List.replicate tu 33 ++ [40] ++ mX av c k (mW av c N f) (N - 1 - k) ++ [41] by simp] at this
        exact this
      · rw [if_neg hn] at eW
        have hpos2 := hpos
        rw [eW] at hP hw hpos2 ⊢
        simp at hP hw
        have hx1 := mX_pos av c k N (mW av c N f) hWp (N - 1 - k) (by omega) hn0
        obtain ⟨g1, t1⟩ := l_M_write_seq (B := B) (d := d) (ns := ns) (iv := iv) ok c N hc hN t k (mW av c N f) hWp (fun j g1 g2 P w p1 p2 g => ih j g2 (by omega) P w p1 p2 g) (N - 1 - k) (by omega) P (w ++ List.replicate tu 33) (by omega) (by simp; omega) (wrF g (P ++ [nI k]))
        refine ⟨g1, fun X hX => l_M_write_k ok t c k hc (by omega) P w (by omega) g (l_M_write_b ok t c k hc (by omega) _ P (w ++ List.replicate tu 33) tu htu h9 (by simp; omega) (fun x => ?_) tu 0 w (by omega) rfl)⟩
        refine l_M_write_g1 ok t c N k hc hN h6 hk _ P _ h0 hn (by omega) (t1 X (fun o3 o4 o5 => ?_)) x
        have := hX o3 o4 o5
        rw [← List.append_assoc] at this
        exact this
