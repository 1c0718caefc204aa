/-! the law, call by call -/
theorem LI.obj {M : xMm} {n a0 m0 ou : Nat} (h : LI M n a0 m0 ou) : ∃ fs, M a0 = some (.inr (0, fs)) := by
  obtain ⟨ct, tg, Bn, cn, rq, ln, rt, tx, iv, av, md, mx, rfl, rfl, L, V⟩ := h
  exact ⟨_, L.1.lt⟩
theorem LI.mod {M : xMm} {n a0 m0 ou : Nat} (h : LI M n a0 m0 ou) : (∃ fs, M m0 = some (.inr (8, fs))) ∧ m0 ≠ ou := by
  obtain ⟨ct, tg, Bn, cn, rq, ln, rt, tx, iv, av, md, mx, rfl, rfl, L, V⟩ := h
  refine ⟨⟨_, (congrFun L.2.2.1 (md 0)).trans (mM_obj L.2.1)⟩, fun e => ?_⟩
  have h1 := L.2.1.1
  rw [e, L.2.2.2.2.2.2] at h1
  cases h1
theorem RES.val {cd : List (String × Int32)} {o : xO} {bv : Option Value} {code9 : Int32} (h : RES false cd o bv code9) (hc : ∀ q ∈ cd, q.2 ≠ 0) : ∃ y : Int32, bv = some (.int y) ∧ (code9 = 0 → o = .inl (some (.int y))) := by
  rcases h with ⟨hc0, ⟨hv, -⟩ | ⟨-, x, h1, h2⟩⟩ | ⟨E, hE, hin, ⟨hv, -⟩ | ⟨-, y, h2⟩⟩
  · cases hv
  · exact ⟨x, h2, fun _ => h1⟩
  · cases hv
  · exact ⟨y, h2, fun e => absurd e (hc _ hin)⟩
theorem RES.void {cd : List (String × Int32)} {o : xO} {bv : Option Value} {code9 : Int32} (h : RES true cd o bv code9) : bv = none := by
  rcases h with ⟨hc0, ⟨-, h1, h2⟩ | ⟨hv, -⟩⟩ | ⟨E, hE, hin, ⟨-, h2⟩ | ⟨hv, -⟩⟩
  · exact h2
  · cases hv
  · exact h2
  · cases hv
theorem xCl_det {d : Nat} {z : xMt} {as : List Value} {σ : xS} {r1 r2 : xO × xS} (h1 : xCl d z as σ r1) (h2 : xCl d z as σ r2) : r1 = r2 := by
  obtain ⟨N1, g1⟩ := h1
  obtain ⟨N2, g2⟩ := h2
  have a := g1 (max N1 N2) (Nat.le_max_left _ _)
  have b := g2 (max N1 N2) (Nat.le_max_right _ _)
  exact Option.some.inj (a.symm.trans b)
theorem shield_b {M : xMm} {n sl a0 m0 ou : Nat} (h : LI M n a0 m0 ou) {l b x : Int32} (hb : b = 0 ∨ b = 1) {σ1 : xS} (hx : xCl 600 k_L_shield (.ref a0 :: [.int l, .int b]) (M, n, sl) (.inl (some (.int x)), σ1)) : x = 0 ∨ x = 1 := by
  obtain ⟨ct, tg, Bn, cn, rq, ln, rt, tx, iv, av, md, mx, rfl, rfl, L, V⟩ := h
  have hk := L.1.cnt
  by_cases h1 : 0 ≤ l ∧ l < nI ln
  · obtain ⟨j, hj, rfl⟩ := nI_ix (by omega) h1
    have := xCl_det hx (c_L_shield_ok L.1 j hj b hb)
    have e : x = xbi (av 28 j ≠ b) := by
      have e1 := congrArg Prod.fst this
      cases e1
      rfl
    rw [e]
    unfold xbi
    split
    · exact Or.inr rfl
    · exact Or.inl rfl
  · have := xCl_det hx (c_L_shield_no L.1 l b h1)
    have e1 := congrArg Prod.fst this
    cases e1
theorem xRl.forget2 {x0 x1 x2 x3 x4 o5 o6 : Option Value} {ls : Array Slot} (h : xRl [x0, x1, x2, x3, x4, o5, o6] ls 7) : xRl [x0, x1, x2, x3, x4, none, none] ls 7 := by
  obtain ⟨h1, h2, h3, h4⟩ := h
  refine ⟨rfl, h2, h3, fun i v hi => h4 i v ?_⟩
  match i, hi with
  | 0, hi => exact hi
  | 1, hi => exact hi
  | 2, hi => exact hi
  | 3, hi => exact hi
  | 4, hi => exact hi
  | 5, hi => cases hi
  | 6, hi => cases hi
  | i + 7, hi => exact hi
theorem lcmp_0 (x : Int64) : lg_cmp x x = 0 := by simp [lg_cmp]
def lRl (b a0 m0 ou i : Nat) (ls : Array Slot) : Prop := xRl [some (.ref b), some (.ref a0), some (.ref m0), some (.ref ou), some (.int (nI i)), none, none] ls 7
/-- what a call owes: on to 1363 -/
def lGo (D : va_G) (dT : Nat → ClassId) (l : Launch) (p : Program) (e : Env) (s : State) (m : MethodId) (below : List Frame) (meth : Method) (c : Code) (Q : State → Prop) (b L : Nat) (xs : Nat → Int32) (pc : Nat) : Prop :=
  ∀ (M : xMm) (n a0 m0 ou i : Nat) (f : Nat → Int64) (H : Heap) (locs : List Loc) (ls : Array Slot) (cells slots : Nat), LI M n a0 m0 ou → M ou = some (.inl (7, 1, .inr (.inl f))) → yAt D dT s (fun q => s.heap.size ≤ q) M n H locs → lRl b a0 m0 ou i ls → i + 5 ≤ L → cells + 90 ≤ 601024 → slots + 800 ≤ 7293034 →
    (∀ (M2 : xMm) (n2 : Nat) (g : Nat → Int64) (H2 : Heap) (locs2 : List Loc) (ls2 : Array Slot), LI M2 n2 a0 m0 ou → M2 ou = some (.inl (7, 1, .inr (.inl g))) → yAt D dT s (fun q => s.heap.size ≤ q) M2 n2 H2 locs2 → lRl b a0 m0 ou i ls2 → W p l e room_1 s m #[Value.ref b] below meth c H2 locs2 (cells + 90) (slots + 800) Q (F0 m 1363 ls2 [])) →
    W p l e room_1 s m #[Value.ref b] below meth c H locs cells slots Q (F0 m pc ls [])
section LW
variable {D : va_G} {dT : Nat → ClassId} {l : Launch} {p : Program} {e : Env} {s : State} {m : MethodId} {below : List Frame} {meth : Method} {c : Code} {Q : State → Prop} {b L : Nat} {xs : Nat → Int32}
set_option maxRecDepth 20000 in
theorem k_unit (C : yCx D dT l p s m #[Value.ref b] c code 7 (fun q => s.heap.size ≤ q)) (hX : va_X b L xs s s.heap) (hbl : b < s.heap.size) (hL : L ≤ 2560) : lGo D dT l p e s m below meth c Q b L xs 124 := by
  intro M n a0 m0 ou i f H locs ls cells slots hLI hou hA hl hi hc hs kk
  obtain ⟨hx0, hb, hml, hown, hts, hl0, hK, hT, hN⟩ := id C
  have hbA : ¬ (fun q : Nat => s.heap.size ≤ q) b := Nat.not_le.mpr hbl
  have hl : xRl [some (.ref b), some (.ref a0), some (.ref m0), some (.ref ou), some (.int (nI i)), none, none] ls 7 := hl
  obtain ⟨fs0, ha0⟩ := hLI.obj
  obtain ⟨⟨fs1, hm0⟩, hmo⟩ := hLI.mod
  obtain ⟨o, M1, n1, sl1, bv, cd9, hx, hn, ⟨ho1, ho2⟩, hR, hmod⟩ := s_unit (xs (i + 1)) M n 0 a0 m0 ou hLI
  obtain ⟨y, hbv, hy⟩ := hR.val (by decide)
  subst hbv
  refine lv_aload_n hx0 hb d_law_124 rfl (hl.get rfl) ?_
  refine lv_aload_n hx0 hb d_law_125 rfl (hl.get rfl) ?_
  refine lv_iload hx0 hb d_law_126 (hl.get rfl) ?_
  refine lv_iconst (v := 1) hx0 hb d_law_128 rfl ?_
  refine lv_iadd hx0 hb d_law_129 ?_
  rw [show nI i + 1 = nI (i + 1) from nI_add i 1]
  refine va_sld hx0 hb hX hbl hbA hA.2.2.1 (vp_in_nI (show i + 1 < L by omega) (by omega)) d_law_130 ?_
  rw [nI_clamp (show i + 1 < 2 ^ 31 by omega)]
  refine lv_aload_n hx0 hb d_law_131 rfl (hl.get rfl) ?_
  refine y_help (np := 3) (As := [.ref a0, .int (xs (i + 1)), .ref ou]) (rest := []) C hA (h_unit hl0 (xs (i + 1)) hou ha0 hx hn.2 ho1 hR) co_unit li_u_unit stt_unit w_ini ⟨by decide, by decide, by decide +kernel⟩ rfl (by show 614 ≤ 2048; omega) (by show 8 + (_ + 11) + 38660 ≤ 84000; omega) hl.2.1 (Nat.le_of_ble_eq_true rfl) d_law_132 ⟨hc, hs⟩ rfl (fun H1 locs1 g hg hn1 hn2 hA1 => ?_)
  obtain ⟨M2, hm1, hm2, hm3, hLI2⟩ := hmod (.inl (7, 1, .inr (.inl g))) H1.size 0 hn1 (fun v hv => hn2 v hv)
  refine lv_istore hx0 hb d_law_135 hl.has (hl.lt (i := 5) (Nat.le_of_ble_eq_true rfl)) rfl (fun ls2 h2 => ?_)
  have hl : xRl [some (.ref b), some (.ref a0), some (.ref m0), some (.ref ou), some (.int (nI i)), some (.int cd9), none] ls2 7 := hl.store (hl.lt (i := 5) (Nat.le_of_ble_eq_true rfl)) rfl h2
  refine lv_aload_n hx0 hb d_law_137 rfl (hl.get rfl) ?_
  refine lv_aload_n hx0 hb d_law_138 rfl (hl.get rfl) ?_
  refine lv_iload hx0 hb d_law_139 (hl.get rfl) ?_
  refine lv_iconst (v := 1) hx0 hb d_law_141 rfl ?_
  refine lv_iadd hx0 hb d_law_142 ?_
  rw [show nI i + 1 = nI (i + 1) from nI_add i 1]
  refine va_sld hx0 hb hX hbl hbA hA1.2.2.1 (vp_in_nI (show i + 1 < L by omega) (by omega)) d_law_143 ?_
  rw [nI_clamp (show i + 1 < 2 ^ 31 by omega)]
  refine y_callM (As := [.int (xs (i + 1))]) (rest := []) C hA1 o_M_unit li_M_unit in_M_unit se_M_unit hm1 (by intro v hv; simp at hv; rcases hv with rfl | rfl <;> rfl) rfl (Nat.le_of_ble_eq_true rfl) ((xset_ne _ _ hmo).trans (ho2.trans hm0)) (by show 600 + 12 + 1 ≤ 2048; omega) (by show 8 + (_ + 11) + (600 * 64 + 200) ≤ 84000; decide) hl.2.1 (Nat.le_of_ble_eq_true rfl) d_law_144 ⟨hc, hs⟩ rfl (fun H2 locs2 hA2 => ?_)
  obtain ⟨⟨fs2, hm0b⟩, -⟩ := hLI2.mod
  refine lv_istore hx0 hb d_law_147 hl.has (hl.lt (i := 6) (Nat.le_of_ble_eq_true rfl)) rfl (fun ls3 h3 => ?_)
  have hl : xRl [some (.ref b), some (.ref a0), some (.ref m0), some (.ref ou), some (.int (nI i)), some (.int cd9), some (.int y)] ls3 7 := hl.store (hl.lt (i := 6) (Nat.le_of_ble_eq_true rfl)) rfl h3
  refine lv_aload_n hx0 hb d_law_149 rfl (hl.get rfl) ?_
  refine y_callM (As := []) (rest := []) C hA2 o_M_thrown li_M_thrown in_M_thrown se_M_thrown hm3 (by intro v hv; simp at hv; rw [hv]; rfl) rfl (Nat.le_of_ble_eq_true rfl) hm0b (by show 600 + 12 + 1 ≤ 2048; omega) (by show 8 + (_ + 11) + (600 * 64 + 200) ≤ 84000; decide) hl.2.1 (Nat.le_of_ble_eq_true rfl) d_law_150 ⟨hc, hs⟩ rfl (fun H3 locs3 hA3 => ?_)
  refine lv_iload hx0 hb d_law_153 (hl.get rfl) ?_
  refine lv_icmp_eq (tgt := 160) hx0 hb d_law_155 (by decide) (fun _ => ?_) (fun c1 => absurd rfl c1)
  refine lv_iload hx0 hb d_law_160 (hl.get rfl) ?_
  have hend : W p l e room_1 s m #[Value.ref b] below meth c H3 locs3 (cells + 90) (slots + 800) Q (F0 m 177 ls3 []) := lv_goto (tgt := 1363) hx0 hb d_law_177 (by decide) (kk M2 H1.size g H3 locs3 ls3 hLI2 hm2 hA3 (xRl.forget2 hl))
  refine lv_if_ne (tgt := 177) hx0 hb d_law_162 (by decide) (fun _ => hend) (fun c1 => ?_)
  have hg0 := hg y (hy (c1))
  refine lv_aload_n hx0 hb d_law_165 rfl (hl.get rfl) ?_
  refine lv_iconst (v := 0) hx0 hb d_law_166 rfl ?_
  refine y_lald C hA3 hm2 d_law_167 ?_
  refine lv_iload hx0 hb d_law_168 (hl.get rfl) ?_
  refine lv_i2l (v := y.toInt64) hx0 hb d_law_170 rfl ?_
  refine W.lcmp hx0 hb d_law_171 ?_
  rw [hg0, lcmp_0]
  exact lv_if_eq (tgt := 177) hx0 hb d_law_172 (by decide) (fun _ => hend) (fun c2 => absurd rfl c2)
set_option maxRecDepth 20000 in
theorem k_read (C : yCx D dT l p s m #[Value.ref b] c code 7 (fun q => s.heap.size ≤ q)) (hX : va_X b L xs s s.heap) (hbl : b < s.heap.size) (hL : L ≤ 2560) : lGo D dT l p e s m below meth c Q b L xs 180 := by
  intro M n a0 m0 ou i f H locs ls cells slots hLI hou hA hl hi hc hs kk
  obtain ⟨hx0, hb, hml, hown, hts, hl0, hK, hT, hN⟩ := id C
  have hbA : ¬ (fun q : Nat => s.heap.size ≤ q) b := Nat.not_le.mpr hbl
  have hl : xRl [some (.ref b), some (.ref a0), some (.ref m0), some (.ref ou), some (.int (nI i)), none, none] ls 7 := hl
  obtain ⟨fs0, ha0⟩ := hLI.obj
  obtain ⟨⟨fs1, hm0⟩, hmo⟩ := hLI.mod
  obtain ⟨o, M1, n1, sl1, bv, cd9, hx, hn, ⟨ho1, ho2⟩, hR, hmod⟩ := s_read  M n 0 a0 m0 ou hLI
  obtain ⟨y, hbv, hy⟩ := hR.val (by decide)
  subst hbv
  refine lv_aload_n hx0 hb d_law_180 rfl (hl.get rfl) ?_
  refine lv_aload_n hx0 hb d_law_181 rfl (hl.get rfl) ?_
  refine y_help (np := 2) (As := [.ref a0, .ref ou]) (rest := []) C hA (h_read hl0  hou ha0 hx hn.2 ho1 hR) co_read li_u_read stt_read w_ini ⟨by decide, by decide, by decide +kernel⟩ rfl (by show 614 ≤ 2048; omega) (by show 8 + (_ + 11) + 38660 ≤ 84000; omega) hl.2.1 (Nat.le_of_ble_eq_true rfl) d_law_182 ⟨hc, hs⟩ rfl (fun H1 locs1 g hg hn1 hn2 hA1 => ?_)
  obtain ⟨M2, hm1, hm2, hm3, hLI2⟩ := hmod (.inl (7, 1, .inr (.inl g))) H1.size 0 hn1 (fun v hv => hn2 v hv)
  refine lv_istore hx0 hb d_law_185 hl.has (hl.lt (i := 5) (Nat.le_of_ble_eq_true rfl)) rfl (fun ls2 h2 => ?_)
  have hl : xRl [some (.ref b), some (.ref a0), some (.ref m0), some (.ref ou), some (.int (nI i)), some (.int cd9), none] ls2 7 := hl.store (hl.lt (i := 5) (Nat.le_of_ble_eq_true rfl)) rfl h2
  refine lv_aload_n hx0 hb d_law_187 rfl (hl.get rfl) ?_
  refine y_callM (As := []) (rest := []) C hA1 o_M_read li_M_read in_M_read se_M_read hm1 (by intro v hv; simp at hv; rw [hv]; rfl) rfl (Nat.le_of_ble_eq_true rfl) ((xset_ne _ _ hmo).trans (ho2.trans hm0)) (by show 600 + 12 + 1 ≤ 2048; omega) (by show 8 + (_ + 11) + (600 * 64 + 200) ≤ 84000; decide) hl.2.1 (Nat.le_of_ble_eq_true rfl) d_law_188 ⟨hc, hs⟩ rfl (fun H2 locs2 hA2 => ?_)
  obtain ⟨⟨fs2, hm0b⟩, -⟩ := hLI2.mod
  refine lv_istore hx0 hb d_law_191 hl.has (hl.lt (i := 6) (Nat.le_of_ble_eq_true rfl)) rfl (fun ls3 h3 => ?_)
  have hl : xRl [some (.ref b), some (.ref a0), some (.ref m0), some (.ref ou), some (.int (nI i)), some (.int cd9), some (.int y)] ls3 7 := hl.store (hl.lt (i := 6) (Nat.le_of_ble_eq_true rfl)) rfl h3
  refine lv_aload_n hx0 hb d_law_193 rfl (hl.get rfl) ?_
  refine y_callM (As := []) (rest := []) C hA2 o_M_thrown li_M_thrown in_M_thrown se_M_thrown hm3 (by intro v hv; simp at hv; rw [hv]; rfl) rfl (Nat.le_of_ble_eq_true rfl) hm0b (by show 600 + 12 + 1 ≤ 2048; omega) (by show 8 + (_ + 11) + (600 * 64 + 200) ≤ 84000; decide) hl.2.1 (Nat.le_of_ble_eq_true rfl) d_law_194 ⟨hc, hs⟩ rfl (fun H3 locs3 hA3 => ?_)
  refine lv_iload hx0 hb d_law_197 (hl.get rfl) ?_
  refine lv_icmp_eq (tgt := 204) hx0 hb d_law_199 (by decide) (fun _ => ?_) (fun c1 => absurd rfl c1)
  refine lv_iload hx0 hb d_law_204 (hl.get rfl) ?_
  have hend : W p l e room_1 s m #[Value.ref b] below meth c H3 locs3 (cells + 90) (slots + 800) Q (F0 m 221 ls3 []) := lv_goto (tgt := 1363) hx0 hb d_law_221 (by decide) (kk M2 H1.size g H3 locs3 ls3 hLI2 hm2 hA3 (xRl.forget2 hl))
  refine lv_if_ne (tgt := 221) hx0 hb d_law_206 (by decide) (fun _ => hend) (fun c1 => ?_)
  have hg0 := hg y (hy (c1))
  refine lv_aload_n hx0 hb d_law_209 rfl (hl.get rfl) ?_
  refine lv_iconst (v := 0) hx0 hb d_law_210 rfl ?_
  refine y_lald C hA3 hm2 d_law_211 ?_
  refine lv_iload hx0 hb d_law_212 (hl.get rfl) ?_
  refine lv_i2l (v := y.toInt64) hx0 hb d_law_214 rfl ?_
  refine W.lcmp hx0 hb d_law_215 ?_
  rw [hg0, lcmp_0]
  exact lv_if_eq (tgt := 221) hx0 hb d_law_216 (by decide) (fun _ => hend) (fun c2 => absurd rfl c2)
set_option maxRecDepth 20000 in
theorem k_terms (C : yCx D dT l p s m #[Value.ref b] c code 7 (fun q => s.heap.size ≤ q)) (hX : va_X b L xs s s.heap) (hbl : b < s.heap.size) (hL : L ≤ 2560) : lGo D dT l p e s m below meth c Q b L xs 224 := by
  intro M n a0 m0 ou i f H locs ls cells slots hLI hou hA hl hi hc hs kk
  obtain ⟨hx0, hb, hml, hown, hts, hl0, hK, hT, hN⟩ := id C
  have hbA : ¬ (fun q : Nat => s.heap.size ≤ q) b := Nat.not_le.mpr hbl
  have hl : xRl [some (.ref b), some (.ref a0), some (.ref m0), some (.ref ou), some (.int (nI i)), none, none] ls 7 := hl
  obtain ⟨fs0, ha0⟩ := hLI.obj
  obtain ⟨⟨fs1, hm0⟩, hmo⟩ := hLI.mod
  obtain ⟨o, M1, n1, sl1, bv, cd9, hx, hn, ⟨ho1, ho2⟩, hR, hmod⟩ := s_terms (xs (i + 1)) M n 0 a0 m0 ou hLI
  obtain ⟨y, hbv, hy⟩ := hR.val (by decide)
  subst hbv
  refine lv_aload_n hx0 hb d_law_224 rfl (hl.get rfl) ?_
  refine lv_aload_n hx0 hb d_law_225 rfl (hl.get rfl) ?_
  refine lv_iload hx0 hb d_law_226 (hl.get rfl) ?_
  refine lv_iconst (v := 1) hx0 hb d_law_228 rfl ?_
  refine lv_iadd hx0 hb d_law_229 ?_
  rw [show nI i + 1 = nI (i + 1) from nI_add i 1]
  refine va_sld hx0 hb hX hbl hbA hA.2.2.1 (vp_in_nI (show i + 1 < L by omega) (by omega)) d_law_230 ?_
  rw [nI_clamp (show i + 1 < 2 ^ 31 by omega)]
  refine lv_aload_n hx0 hb d_law_231 rfl (hl.get rfl) ?_
  refine y_help (np := 3) (As := [.ref a0, .int (xs (i + 1)), .ref ou]) (rest := []) C hA (h_terms hl0 (xs (i + 1)) hou ha0 hx hn.2 ho1 hR) co_terms li_u_terms stt_terms w_ini ⟨by decide, by decide, by decide +kernel⟩ rfl (by show 614 ≤ 2048; omega) (by show 8 + (_ + 11) + 38660 ≤ 84000; omega) hl.2.1 (Nat.le_of_ble_eq_true rfl) d_law_232 ⟨hc, hs⟩ rfl (fun H1 locs1 g hg hn1 hn2 hA1 => ?_)
  obtain ⟨M2, hm1, hm2, hm3, hLI2⟩ := hmod (.inl (7, 1, .inr (.inl g))) H1.size 0 hn1 (fun v hv => hn2 v hv)
  refine lv_istore hx0 hb d_law_235 hl.has (hl.lt (i := 5) (Nat.le_of_ble_eq_true rfl)) rfl (fun ls2 h2 => ?_)
  have hl : xRl [some (.ref b), some (.ref a0), some (.ref m0), some (.ref ou), some (.int (nI i)), some (.int cd9), none] ls2 7 := hl.store (hl.lt (i := 5) (Nat.le_of_ble_eq_true rfl)) rfl h2
  refine lv_aload_n hx0 hb d_law_237 rfl (hl.get rfl) ?_
  refine lv_aload_n hx0 hb d_law_238 rfl (hl.get rfl) ?_
  refine lv_iload hx0 hb d_law_239 (hl.get rfl) ?_
  refine lv_iconst (v := 1) hx0 hb d_law_241 rfl ?_
  refine lv_iadd hx0 hb d_law_242 ?_
  rw [show nI i + 1 = nI (i + 1) from nI_add i 1]
  refine va_sld hx0 hb hX hbl hbA hA1.2.2.1 (vp_in_nI (show i + 1 < L by omega) (by omega)) d_law_243 ?_
  rw [nI_clamp (show i + 1 < 2 ^ 31 by omega)]
  refine y_callM (As := [.int (xs (i + 1))]) (rest := []) C hA1 o_M_terms li_M_terms in_M_terms se_M_terms hm1 (by intro v hv; simp at hv; rcases hv with rfl | rfl <;> rfl) rfl (Nat.le_of_ble_eq_true rfl) ((xset_ne _ _ hmo).trans (ho2.trans hm0)) (by show 600 + 12 + 1 ≤ 2048; omega) (by show 8 + (_ + 11) + (600 * 64 + 200) ≤ 84000; decide) hl.2.1 (Nat.le_of_ble_eq_true rfl) d_law_244 ⟨hc, hs⟩ rfl (fun H2 locs2 hA2 => ?_)
  obtain ⟨⟨fs2, hm0b⟩, -⟩ := hLI2.mod
  refine lv_istore hx0 hb d_law_247 hl.has (hl.lt (i := 6) (Nat.le_of_ble_eq_true rfl)) rfl (fun ls3 h3 => ?_)
  have hl : xRl [some (.ref b), some (.ref a0), some (.ref m0), some (.ref ou), some (.int (nI i)), some (.int cd9), some (.int y)] ls3 7 := hl.store (hl.lt (i := 6) (Nat.le_of_ble_eq_true rfl)) rfl h3
  refine lv_aload_n hx0 hb d_law_249 rfl (hl.get rfl) ?_
  refine y_callM (As := []) (rest := []) C hA2 o_M_thrown li_M_thrown in_M_thrown se_M_thrown hm3 (by intro v hv; simp at hv; rw [hv]; rfl) rfl (Nat.le_of_ble_eq_true rfl) hm0b (by show 600 + 12 + 1 ≤ 2048; omega) (by show 8 + (_ + 11) + (600 * 64 + 200) ≤ 84000; decide) hl.2.1 (Nat.le_of_ble_eq_true rfl) d_law_250 ⟨hc, hs⟩ rfl (fun H3 locs3 hA3 => ?_)
  refine lv_iload hx0 hb d_law_253 (hl.get rfl) ?_
  refine lv_icmp_eq (tgt := 260) hx0 hb d_law_255 (by decide) (fun _ => ?_) (fun c1 => absurd rfl c1)
  refine lv_iload hx0 hb d_law_260 (hl.get rfl) ?_
  have hend : W p l e room_1 s m #[Value.ref b] below meth c H3 locs3 (cells + 90) (slots + 800) Q (F0 m 277 ls3 []) := lv_goto (tgt := 1363) hx0 hb d_law_277 (by decide) (kk M2 H1.size g H3 locs3 ls3 hLI2 hm2 hA3 (xRl.forget2 hl))
  refine lv_if_ne (tgt := 277) hx0 hb d_law_262 (by decide) (fun _ => hend) (fun c1 => ?_)
  have hg0 := hg y (hy (c1))
  refine lv_aload_n hx0 hb d_law_265 rfl (hl.get rfl) ?_
  refine lv_iconst (v := 0) hx0 hb d_law_266 rfl ?_
  refine y_lald C hA3 hm2 d_law_267 ?_
  refine lv_iload hx0 hb d_law_268 (hl.get rfl) ?_
  refine lv_i2l (v := y.toInt64) hx0 hb d_law_270 rfl ?_
  refine W.lcmp hx0 hb d_law_271 ?_
  rw [hg0, lcmp_0]
  exact lv_if_eq (tgt := 277) hx0 hb d_law_272 (by decide) (fun _ => hend) (fun c2 => absurd rfl c2)
set_option maxRecDepth 20000 in
theorem k_written (C : yCx D dT l p s m #[Value.ref b] c code 7 (fun q => s.heap.size ≤ q)) (hX : va_X b L xs s s.heap) (hbl : b < s.heap.size) (hL : L ≤ 2560) : lGo D dT l p e s m below meth c Q b L xs 280 := by
  intro M n a0 m0 ou i f H locs ls cells slots hLI hou hA hl hi hc hs kk
  obtain ⟨hx0, hb, hml, hown, hts, hl0, hK, hT, hN⟩ := id C
  have hbA : ¬ (fun q : Nat => s.heap.size ≤ q) b := Nat.not_le.mpr hbl
  have hl : xRl [some (.ref b), some (.ref a0), some (.ref m0), some (.ref ou), some (.int (nI i)), none, none] ls 7 := hl
  obtain ⟨fs0, ha0⟩ := hLI.obj
  obtain ⟨⟨fs1, hm0⟩, hmo⟩ := hLI.mod
  obtain ⟨o, M1, n1, sl1, bv, cd9, hx, hn, ⟨ho1, ho2⟩, hR, hmod⟩ := s_written (xs (i + 1)) (xs (i + 2)) M n 0 a0 m0 ou hLI
  obtain ⟨y, hbv, hy⟩ := hR.val (by decide)
  subst hbv
  refine lv_aload_n hx0 hb d_law_280 rfl (hl.get rfl) ?_
  refine lv_aload_n hx0 hb d_law_281 rfl (hl.get rfl) ?_
  refine lv_iload hx0 hb d_law_282 (hl.get rfl) ?_
  refine lv_iconst (v := 1) hx0 hb d_law_284 rfl ?_
  refine lv_iadd hx0 hb d_law_285 ?_
  rw [show nI i + 1 = nI (i + 1) from nI_add i 1]
  refine va_sld hx0 hb hX hbl hbA hA.2.2.1 (vp_in_nI (show i + 1 < L by omega) (by omega)) d_law_286 ?_
  rw [nI_clamp (show i + 1 < 2 ^ 31 by omega)]
  refine lv_aload_n hx0 hb d_law_287 rfl (hl.get rfl) ?_
  refine lv_iload hx0 hb d_law_288 (hl.get rfl) ?_
  refine lv_iconst (v := 2) hx0 hb d_law_290 rfl ?_
  refine lv_iadd hx0 hb d_law_291 ?_
  rw [show nI i + 2 = nI (i + 2) from nI_add i 2]
  refine va_sld hx0 hb hX hbl hbA hA.2.2.1 (vp_in_nI (show i + 2 < L by omega) (by omega)) d_law_292 ?_
  rw [nI_clamp (show i + 2 < 2 ^ 31 by omega)]
  refine lv_aload_n hx0 hb d_law_293 rfl (hl.get rfl) ?_
  refine y_help (np := 4) (As := [.ref a0, .int (xs (i + 1)), .int (xs (i + 2)), .ref ou]) (rest := []) C hA (h_written hl0 (xs (i + 1)) (xs (i + 2)) hou ha0 hx hn.2 ho1 hR) co_written li_u_written stt_written w_ini ⟨by decide, by decide, by decide +kernel⟩ rfl (by show 614 ≤ 2048; omega) (by show 8 + (_ + 11) + 38660 ≤ 84000; omega) hl.2.1 (Nat.le_of_ble_eq_true rfl) d_law_294 ⟨hc, hs⟩ rfl (fun H1 locs1 g hg hn1 hn2 hA1 => ?_)
  obtain ⟨M2, hm1, hm2, hm3, hLI2⟩ := hmod (.inl (7, 1, .inr (.inl g))) H1.size 0 hn1 (fun v hv => hn2 v hv)
  refine lv_istore hx0 hb d_law_297 hl.has (hl.lt (i := 5) (Nat.le_of_ble_eq_true rfl)) rfl (fun ls2 h2 => ?_)
  have hl : xRl [some (.ref b), some (.ref a0), some (.ref m0), some (.ref ou), some (.int (nI i)), some (.int cd9), none] ls2 7 := hl.store (hl.lt (i := 5) (Nat.le_of_ble_eq_true rfl)) rfl h2
  refine lv_aload_n hx0 hb d_law_299 rfl (hl.get rfl) ?_
  refine lv_aload_n hx0 hb d_law_300 rfl (hl.get rfl) ?_
  refine lv_iload hx0 hb d_law_301 (hl.get rfl) ?_
  refine lv_iconst (v := 1) hx0 hb d_law_303 rfl ?_
  refine lv_iadd hx0 hb d_law_304 ?_
  rw [show nI i + 1 = nI (i + 1) from nI_add i 1]
  refine va_sld hx0 hb hX hbl hbA hA1.2.2.1 (vp_in_nI (show i + 1 < L by omega) (by omega)) d_law_305 ?_
  rw [nI_clamp (show i + 1 < 2 ^ 31 by omega)]
  refine lv_aload_n hx0 hb d_law_306 rfl (hl.get rfl) ?_
  refine lv_iload hx0 hb d_law_307 (hl.get rfl) ?_
  refine lv_iconst (v := 2) hx0 hb d_law_309 rfl ?_
  refine lv_iadd hx0 hb d_law_310 ?_
  rw [show nI i + 2 = nI (i + 2) from nI_add i 2]
  refine va_sld hx0 hb hX hbl hbA hA1.2.2.1 (vp_in_nI (show i + 2 < L by omega) (by omega)) d_law_311 ?_
  rw [nI_clamp (show i + 2 < 2 ^ 31 by omega)]
  refine y_callM (As := [.int (xs (i + 1)), .int (xs (i + 2))]) (rest := []) C hA1 o_M_written li_M_written in_M_written se_M_written hm1 (by intro v hv; simp at hv; rcases hv with rfl | rfl | rfl <;> rfl) rfl (Nat.le_of_ble_eq_true rfl) ((xset_ne _ _ hmo).trans (ho2.trans hm0)) (by show 600 + 12 + 1 ≤ 2048; omega) (by show 8 + (_ + 11) + (600 * 64 + 200) ≤ 84000; decide) hl.2.1 (Nat.le_of_ble_eq_true rfl) d_law_312 ⟨hc, hs⟩ rfl (fun H2 locs2 hA2 => ?_)
  obtain ⟨⟨fs2, hm0b⟩, -⟩ := hLI2.mod
  refine lv_istore hx0 hb d_law_315 hl.has (hl.lt (i := 6) (Nat.le_of_ble_eq_true rfl)) rfl (fun ls3 h3 => ?_)
  have hl : xRl [some (.ref b), some (.ref a0), some (.ref m0), some (.ref ou), some (.int (nI i)), some (.int cd9), some (.int y)] ls3 7 := hl.store (hl.lt (i := 6) (Nat.le_of_ble_eq_true rfl)) rfl h3
  refine lv_aload_n hx0 hb d_law_317 rfl (hl.get rfl) ?_
  refine y_callM (As := []) (rest := []) C hA2 o_M_thrown li_M_thrown in_M_thrown se_M_thrown hm3 (by intro v hv; simp at hv; rw [hv]; rfl) rfl (Nat.le_of_ble_eq_true rfl) hm0b (by show 600 + 12 + 1 ≤ 2048; omega) (by show 8 + (_ + 11) + (600 * 64 + 200) ≤ 84000; decide) hl.2.1 (Nat.le_of_ble_eq_true rfl) d_law_318 ⟨hc, hs⟩ rfl (fun H3 locs3 hA3 => ?_)
  refine lv_iload hx0 hb d_law_321 (hl.get rfl) ?_
  refine lv_icmp_eq (tgt := 328) hx0 hb d_law_323 (by decide) (fun _ => ?_) (fun c1 => absurd rfl c1)
  refine lv_iload hx0 hb d_law_328 (hl.get rfl) ?_
  have hend : W p l e room_1 s m #[Value.ref b] below meth c H3 locs3 (cells + 90) (slots + 800) Q (F0 m 345 ls3 []) := lv_goto (tgt := 1363) hx0 hb d_law_345 (by decide) (kk M2 H1.size g H3 locs3 ls3 hLI2 hm2 hA3 (xRl.forget2 hl))
  refine lv_if_ne (tgt := 345) hx0 hb d_law_330 (by decide) (fun _ => hend) (fun c1 => ?_)
  have hg0 := hg y (hy (c1))
  refine lv_aload_n hx0 hb d_law_333 rfl (hl.get rfl) ?_
  refine lv_iconst (v := 0) hx0 hb d_law_334 rfl ?_
  refine y_lald C hA3 hm2 d_law_335 ?_
  refine lv_iload hx0 hb d_law_336 (hl.get rfl) ?_
  refine lv_i2l (v := y.toInt64) hx0 hb d_law_338 rfl ?_
  refine W.lcmp hx0 hb d_law_339 ?_
  rw [hg0, lcmp_0]
  exact lv_if_eq (tgt := 345) hx0 hb d_law_340 (by decide) (fun _ => hend) (fun c2 => absurd rfl c2)
set_option maxRecDepth 20000 in
theorem k_input (C : yCx D dT l p s m #[Value.ref b] c code 7 (fun q => s.heap.size ≤ q)) (hX : va_X b L xs s s.heap) (hbl : b < s.heap.size) (hL : L ≤ 2560) : lGo D dT l p e s m below meth c Q b L xs 348 := by
  intro M n a0 m0 ou i f H locs ls cells slots hLI hou hA hl hi hc hs kk
  obtain ⟨hx0, hb, hml, hown, hts, hl0, hK, hT, hN⟩ := id C
  have hbA : ¬ (fun q : Nat => s.heap.size ≤ q) b := Nat.not_le.mpr hbl
  have hl : xRl [some (.ref b), some (.ref a0), some (.ref m0), some (.ref ou), some (.int (nI i)), none, none] ls 7 := hl
  obtain ⟨fs0, ha0⟩ := hLI.obj
  obtain ⟨⟨fs1, hm0⟩, hmo⟩ := hLI.mod
  obtain ⟨o, M1, n1, sl1, bv, cd9, hx, hn, ⟨ho1, ho2⟩, hR, hmod⟩ := s_input (xs (i + 1)) (xs (i + 2)) (xs (i + 3)) M n 0 a0 m0 ou hLI
  obtain ⟨y, hbv, hy⟩ := hR.val (by decide)
  subst hbv
  refine lv_aload_n hx0 hb d_law_348 rfl (hl.get rfl) ?_
  refine lv_aload_n hx0 hb d_law_349 rfl (hl.get rfl) ?_
  refine lv_iload hx0 hb d_law_350 (hl.get rfl) ?_
  refine lv_iconst (v := 1) hx0 hb d_law_352 rfl ?_
  refine lv_iadd hx0 hb d_law_353 ?_
  rw [show nI i + 1 = nI (i + 1) from nI_add i 1]
  refine va_sld hx0 hb hX hbl hbA hA.2.2.1 (vp_in_nI (show i + 1 < L by omega) (by omega)) d_law_354 ?_
  rw [nI_clamp (show i + 1 < 2 ^ 31 by omega)]
  refine lv_aload_n hx0 hb d_law_355 rfl (hl.get rfl) ?_
  refine lv_iload hx0 hb d_law_356 (hl.get rfl) ?_
  refine lv_iconst (v := 2) hx0 hb d_law_358 rfl ?_
  refine lv_iadd hx0 hb d_law_359 ?_
  rw [show nI i + 2 = nI (i + 2) from nI_add i 2]
  refine va_sld hx0 hb hX hbl hbA hA.2.2.1 (vp_in_nI (show i + 2 < L by omega) (by omega)) d_law_360 ?_
  rw [nI_clamp (show i + 2 < 2 ^ 31 by omega)]
  refine lv_aload_n hx0 hb d_law_361 rfl (hl.get rfl) ?_
  refine lv_iload hx0 hb d_law_362 (hl.get rfl) ?_
  refine lv_iconst (v := 3) hx0 hb d_law_364 rfl ?_
  refine lv_iadd hx0 hb d_law_365 ?_
  rw [show nI i + 3 = nI (i + 3) from nI_add i 3]
  refine va_sld hx0 hb hX hbl hbA hA.2.2.1 (vp_in_nI (show i + 3 < L by omega) (by omega)) d_law_366 ?_
  rw [nI_clamp (show i + 3 < 2 ^ 31 by omega)]
  refine lv_aload_n hx0 hb d_law_367 rfl (hl.get rfl) ?_
  refine y_help (np := 5) (As := [.ref a0, .int (xs (i + 1)), .int (xs (i + 2)), .int (xs (i + 3)), .ref ou]) (rest := []) C hA (h_input hl0 (xs (i + 1)) (xs (i + 2)) (xs (i + 3)) hou ha0 hx hn.2 ho1 hR) co_input li_u_input stt_input w_ini ⟨by decide, by decide, by decide +kernel⟩ rfl (by show 614 ≤ 2048; omega) (by show 8 + (_ + 11) + 38660 ≤ 84000; omega) hl.2.1 (Nat.le_of_ble_eq_true rfl) d_law_368 ⟨hc, hs⟩ rfl (fun H1 locs1 g hg hn1 hn2 hA1 => ?_)
  obtain ⟨M2, hm1, hm2, hm3, hLI2⟩ := hmod (.inl (7, 1, .inr (.inl g))) H1.size 0 hn1 (fun v hv => hn2 v hv)
  refine lv_istore hx0 hb d_law_371 hl.has (hl.lt (i := 5) (Nat.le_of_ble_eq_true rfl)) rfl (fun ls2 h2 => ?_)
  have hl : xRl [some (.ref b), some (.ref a0), some (.ref m0), some (.ref ou), some (.int (nI i)), some (.int cd9), none] ls2 7 := hl.store (hl.lt (i := 5) (Nat.le_of_ble_eq_true rfl)) rfl h2
  refine lv_aload_n hx0 hb d_law_373 rfl (hl.get rfl) ?_
  refine lv_aload_n hx0 hb d_law_374 rfl (hl.get rfl) ?_
  refine lv_iload hx0 hb d_law_375 (hl.get rfl) ?_
  refine lv_iconst (v := 1) hx0 hb d_law_377 rfl ?_
  refine lv_iadd hx0 hb d_law_378 ?_
  rw [show nI i + 1 = nI (i + 1) from nI_add i 1]
  refine va_sld hx0 hb hX hbl hbA hA1.2.2.1 (vp_in_nI (show i + 1 < L by omega) (by omega)) d_law_379 ?_
  rw [nI_clamp (show i + 1 < 2 ^ 31 by omega)]
  refine lv_aload_n hx0 hb d_law_380 rfl (hl.get rfl) ?_
  refine lv_iload hx0 hb d_law_381 (hl.get rfl) ?_
  refine lv_iconst (v := 2) hx0 hb d_law_383 rfl ?_
  refine lv_iadd hx0 hb d_law_384 ?_
  rw [show nI i + 2 = nI (i + 2) from nI_add i 2]
  refine va_sld hx0 hb hX hbl hbA hA1.2.2.1 (vp_in_nI (show i + 2 < L by omega) (by omega)) d_law_385 ?_
  rw [nI_clamp (show i + 2 < 2 ^ 31 by omega)]
  refine lv_aload_n hx0 hb d_law_386 rfl (hl.get rfl) ?_
  refine lv_iload hx0 hb d_law_387 (hl.get rfl) ?_
  refine lv_iconst (v := 3) hx0 hb d_law_389 rfl ?_
  refine lv_iadd hx0 hb d_law_390 ?_
  rw [show nI i + 3 = nI (i + 3) from nI_add i 3]
  refine va_sld hx0 hb hX hbl hbA hA1.2.2.1 (vp_in_nI (show i + 3 < L by omega) (by omega)) d_law_391 ?_
  rw [nI_clamp (show i + 3 < 2 ^ 31 by omega)]
  refine y_callM (As := [.int (xs (i + 1)), .int (xs (i + 2)), .int (xs (i + 3))]) (rest := []) C hA1 o_M_input li_M_input in_M_input se_M_input hm1 (by intro v hv; simp at hv; rcases hv with rfl | rfl | rfl | rfl <;> rfl) rfl (Nat.le_of_ble_eq_true rfl) ((xset_ne _ _ hmo).trans (ho2.trans hm0)) (by show 600 + 12 + 1 ≤ 2048; omega) (by show 8 + (_ + 11) + (600 * 64 + 200) ≤ 84000; decide) hl.2.1 (Nat.le_of_ble_eq_true rfl) d_law_392 ⟨hc, hs⟩ rfl (fun H2 locs2 hA2 => ?_)
  obtain ⟨⟨fs2, hm0b⟩, -⟩ := hLI2.mod
  refine lv_istore hx0 hb d_law_395 hl.has (hl.lt (i := 6) (Nat.le_of_ble_eq_true rfl)) rfl (fun ls3 h3 => ?_)
  have hl : xRl [some (.ref b), some (.ref a0), some (.ref m0), some (.ref ou), some (.int (nI i)), some (.int cd9), some (.int y)] ls3 7 := hl.store (hl.lt (i := 6) (Nat.le_of_ble_eq_true rfl)) rfl h3
  refine lv_aload_n hx0 hb d_law_397 rfl (hl.get rfl) ?_
  refine y_callM (As := []) (rest := []) C hA2 o_M_thrown li_M_thrown in_M_thrown se_M_thrown hm3 (by intro v hv; simp at hv; rw [hv]; rfl) rfl (Nat.le_of_ble_eq_true rfl) hm0b (by show 600 + 12 + 1 ≤ 2048; omega) (by show 8 + (_ + 11) + (600 * 64 + 200) ≤ 84000; decide) hl.2.1 (Nat.le_of_ble_eq_true rfl) d_law_398 ⟨hc, hs⟩ rfl (fun H3 locs3 hA3 => ?_)
  refine lv_iload hx0 hb d_law_401 (hl.get rfl) ?_
  refine lv_icmp_eq (tgt := 408) hx0 hb d_law_403 (by decide) (fun _ => ?_) (fun c1 => absurd rfl c1)
  refine lv_iload hx0 hb d_law_408 (hl.get rfl) ?_
  have hend : W p l e room_1 s m #[Value.ref b] below meth c H3 locs3 (cells + 90) (slots + 800) Q (F0 m 425 ls3 []) := lv_goto (tgt := 1363) hx0 hb d_law_425 (by decide) (kk M2 H1.size g H3 locs3 ls3 hLI2 hm2 hA3 (xRl.forget2 hl))
  refine lv_if_ne (tgt := 425) hx0 hb d_law_410 (by decide) (fun _ => hend) (fun c1 => ?_)
  have hg0 := hg y (hy (c1))
  refine lv_aload_n hx0 hb d_law_413 rfl (hl.get rfl) ?_
  refine lv_iconst (v := 0) hx0 hb d_law_414 rfl ?_
  refine y_lald C hA3 hm2 d_law_415 ?_
  refine lv_iload hx0 hb d_law_416 (hl.get rfl) ?_
  refine lv_i2l (v := y.toInt64) hx0 hb d_law_418 rfl ?_
  refine W.lcmp hx0 hb d_law_419 ?_
  rw [hg0, lcmp_0]
  exact lv_if_eq (tgt := 425) hx0 hb d_law_420 (by decide) (fun _ => hend) (fun c2 => absurd rfl c2)
set_option maxRecDepth 20000 in
theorem k_fails (C : yCx D dT l p s m #[Value.ref b] c code 7 (fun q => s.heap.size ≤ q)) (hX : va_X b L xs s s.heap) (hbl : b < s.heap.size) (hL : L ≤ 2560) : lGo D dT l p e s m below meth c Q b L xs 428 := by
  intro M n a0 m0 ou i f H locs ls cells slots hLI hou hA hl hi hc hs kk
  obtain ⟨hx0, hb, hml, hown, hts, hl0, hK, hT, hN⟩ := id C
  have hbA : ¬ (fun q : Nat => s.heap.size ≤ q) b := Nat.not_le.mpr hbl
  have hl : xRl [some (.ref b), some (.ref a0), some (.ref m0), some (.ref ou), some (.int (nI i)), none, none] ls 7 := hl
  obtain ⟨fs0, ha0⟩ := hLI.obj
  obtain ⟨⟨fs1, hm0⟩, hmo⟩ := hLI.mod
  obtain ⟨o, M1, n1, sl1, bv, cd9, hx, hn, ⟨ho1, ho2⟩, hR, hmod⟩ := s_fails (xs (i + 1)) (xs (i + 2)) (xs (i + 3)) M n 0 a0 m0 ou hLI
  have hbv := hR.void
  subst hbv
  refine lv_aload_n hx0 hb d_law_428 rfl (hl.get rfl) ?_
  refine lv_aload_n hx0 hb d_law_429 rfl (hl.get rfl) ?_
  refine lv_iload hx0 hb d_law_430 (hl.get rfl) ?_
  refine lv_iconst (v := 1) hx0 hb d_law_432 rfl ?_
  refine lv_iadd hx0 hb d_law_433 ?_
  rw [show nI i + 1 = nI (i + 1) from nI_add i 1]
  refine va_sld hx0 hb hX hbl hbA hA.2.2.1 (vp_in_nI (show i + 1 < L by omega) (by omega)) d_law_434 ?_
  rw [nI_clamp (show i + 1 < 2 ^ 31 by omega)]
  refine lv_aload_n hx0 hb d_law_435 rfl (hl.get rfl) ?_
  refine lv_iload hx0 hb d_law_436 (hl.get rfl) ?_
  refine lv_iconst (v := 2) hx0 hb d_law_438 rfl ?_
  refine lv_iadd hx0 hb d_law_439 ?_
  rw [show nI i + 2 = nI (i + 2) from nI_add i 2]
  refine va_sld hx0 hb hX hbl hbA hA.2.2.1 (vp_in_nI (show i + 2 < L by omega) (by omega)) d_law_440 ?_
  rw [nI_clamp (show i + 2 < 2 ^ 31 by omega)]
  refine lv_aload_n hx0 hb d_law_441 rfl (hl.get rfl) ?_
  refine lv_iload hx0 hb d_law_442 (hl.get rfl) ?_
  refine lv_iconst (v := 3) hx0 hb d_law_444 rfl ?_
  refine lv_iadd hx0 hb d_law_445 ?_
  rw [show nI i + 3 = nI (i + 3) from nI_add i 3]
  refine va_sld hx0 hb hX hbl hbA hA.2.2.1 (vp_in_nI (show i + 3 < L by omega) (by omega)) d_law_446 ?_
  rw [nI_clamp (show i + 3 < 2 ^ 31 by omega)]
  refine y_help (np := 4) (As := [.ref a0, .int (xs (i + 1)), .int (xs (i + 2)), .int (xs (i + 3))]) (rest := []) C hA (h_fails hl0 (xs (i + 1)) (xs (i + 2)) (xs (i + 3)) hou ha0 hx hn.2 ho1 hR) co_fails li_u_fails stt_fails w_ini ⟨by decide, by decide, by decide +kernel⟩ rfl (by show 614 ≤ 2048; omega) (by show 8 + (_ + 11) + 38660 ≤ 84000; omega) hl.2.1 (Nat.le_of_ble_eq_true rfl) d_law_447 ⟨hc, hs⟩ rfl (fun H1 locs1 g hg hn1 hn2 hA1 => ?_)
  obtain ⟨M2, hm1, hm2, hm3, hLI2⟩ := hmod (.inl (7, 1, .inr (.inl g))) H1.size 0 hn1 (fun v hv => hn2 v hv)
  refine lv_istore hx0 hb d_law_450 hl.has (hl.lt (i := 5) (Nat.le_of_ble_eq_true rfl)) rfl (fun ls2 h2 => ?_)
  have hl : xRl [some (.ref b), some (.ref a0), some (.ref m0), some (.ref ou), some (.int (nI i)), some (.int cd9), none] ls2 7 := hl.store (hl.lt (i := 5) (Nat.le_of_ble_eq_true rfl)) rfl h2
  refine lv_aload_n hx0 hb d_law_452 rfl (hl.get rfl) ?_
  refine lv_aload_n hx0 hb d_law_453 rfl (hl.get rfl) ?_
  refine lv_iload hx0 hb d_law_454 (hl.get rfl) ?_
  refine lv_iconst (v := 1) hx0 hb d_law_456 rfl ?_
  refine lv_iadd hx0 hb d_law_457 ?_
  rw [show nI i + 1 = nI (i + 1) from nI_add i 1]
  refine va_sld hx0 hb hX hbl hbA hA1.2.2.1 (vp_in_nI (show i + 1 < L by omega) (by omega)) d_law_458 ?_
  rw [nI_clamp (show i + 1 < 2 ^ 31 by omega)]
  refine lv_aload_n hx0 hb d_law_459 rfl (hl.get rfl) ?_
  refine lv_iload hx0 hb d_law_460 (hl.get rfl) ?_
  refine lv_iconst (v := 2) hx0 hb d_law_462 rfl ?_
  refine lv_iadd hx0 hb d_law_463 ?_
  rw [show nI i + 2 = nI (i + 2) from nI_add i 2]
  refine va_sld hx0 hb hX hbl hbA hA1.2.2.1 (vp_in_nI (show i + 2 < L by omega) (by omega)) d_law_464 ?_
  rw [nI_clamp (show i + 2 < 2 ^ 31 by omega)]
  refine lv_aload_n hx0 hb d_law_465 rfl (hl.get rfl) ?_
  refine lv_iload hx0 hb d_law_466 (hl.get rfl) ?_
  refine lv_iconst (v := 3) hx0 hb d_law_468 rfl ?_
  refine lv_iadd hx0 hb d_law_469 ?_
  rw [show nI i + 3 = nI (i + 3) from nI_add i 3]
  refine va_sld hx0 hb hX hbl hbA hA1.2.2.1 (vp_in_nI (show i + 3 < L by omega) (by omega)) d_law_470 ?_
  rw [nI_clamp (show i + 3 < 2 ^ 31 by omega)]
  refine y_callM (As := [.int (xs (i + 1)), .int (xs (i + 2)), .int (xs (i + 3))]) (rest := []) C hA1 o_M_fails li_M_fails in_M_fails se_M_fails hm1 (by intro v hv; simp at hv; rcases hv with rfl | rfl | rfl | rfl <;> rfl) rfl (Nat.le_of_ble_eq_true rfl) ((xset_ne _ _ hmo).trans (ho2.trans hm0)) (by show 600 + 12 + 1 ≤ 2048; omega) (by show 8 + (_ + 11) + (600 * 64 + 200) ≤ 84000; decide) hl.2.1 (Nat.le_of_ble_eq_true rfl) d_law_471 ⟨hc, hs⟩ rfl (fun H2 locs2 hA2 => ?_)
  obtain ⟨⟨fs2, hm0b⟩, -⟩ := hLI2.mod
  refine lv_aload_n hx0 hb d_law_474 rfl (hl.get rfl) ?_
  refine y_callM (As := []) (rest := []) C hA2 o_M_thrown li_M_thrown in_M_thrown se_M_thrown hm3 (by intro v hv; simp at hv; rw [hv]; rfl) rfl (Nat.le_of_ble_eq_true rfl) hm0b (by show 600 + 12 + 1 ≤ 2048; omega) (by show 8 + (_ + 11) + (600 * 64 + 200) ≤ 84000; decide) hl.2.1 (Nat.le_of_ble_eq_true rfl) d_law_475 ⟨hc, hs⟩ rfl (fun H3 locs3 hA3 => ?_)
  refine lv_iload hx0 hb d_law_478 (hl.get rfl) ?_
  refine lv_icmp_eq (tgt := 485) hx0 hb d_law_480 (by decide) (fun _ => ?_) (fun c1 => absurd rfl c1)
  refine lv_goto (tgt := 1363) hx0 hb d_law_485 (by decide) ?_
  exact kk M2 H1.size g H3 locs3 ls2 hLI2 hm2 hA3 (xRl.forget2 hl)
set_option maxRecDepth 20000 in
theorem k_loan (C : yCx D dT l p s m #[Value.ref b] c code 7 (fun q => s.heap.size ≤ q)) (hX : va_X b L xs s s.heap) (hbl : b < s.heap.size) (hL : L ≤ 2560) : lGo D dT l p e s m below meth c Q b L xs 488 := by
  intro M n a0 m0 ou i f H locs ls cells slots hLI hou hA hl hi hc hs kk
  obtain ⟨hx0, hb, hml, hown, hts, hl0, hK, hT, hN⟩ := id C
  have hbA : ¬ (fun q : Nat => s.heap.size ≤ q) b := Nat.not_le.mpr hbl
  have hl : xRl [some (.ref b), some (.ref a0), some (.ref m0), some (.ref ou), some (.int (nI i)), none, none] ls 7 := hl
  obtain ⟨fs0, ha0⟩ := hLI.obj
  obtain ⟨⟨fs1, hm0⟩, hmo⟩ := hLI.mod
  obtain ⟨o, M1, n1, sl1, bv, cd9, hx, hn, ⟨ho1, ho2⟩, hR, hmod⟩ := s_loan (xs (i + 1)) (xs (i + 2)) (xs (i + 3)) (xs (i + 4)) M n 0 a0 m0 ou hLI
  obtain ⟨y, hbv, hy⟩ := hR.val (by decide)
  subst hbv
  refine lv_aload_n hx0 hb d_law_488 rfl (hl.get rfl) ?_
  refine lv_aload_n hx0 hb d_law_489 rfl (hl.get rfl) ?_
  refine lv_iload hx0 hb d_law_490 (hl.get rfl) ?_
  refine lv_iconst (v := 1) hx0 hb d_law_492 rfl ?_
  refine lv_iadd hx0 hb d_law_493 ?_
  rw [show nI i + 1 = nI (i + 1) from nI_add i 1]
  refine va_sld hx0 hb hX hbl hbA hA.2.2.1 (vp_in_nI (show i + 1 < L by omega) (by omega)) d_law_494 ?_
  rw [nI_clamp (show i + 1 < 2 ^ 31 by omega)]
  refine lv_aload_n hx0 hb d_law_495 rfl (hl.get rfl) ?_
  refine lv_iload hx0 hb d_law_496 (hl.get rfl) ?_
  refine lv_iconst (v := 2) hx0 hb d_law_498 rfl ?_
  refine lv_iadd hx0 hb d_law_499 ?_
  rw [show nI i + 2 = nI (i + 2) from nI_add i 2]
  refine va_sld hx0 hb hX hbl hbA hA.2.2.1 (vp_in_nI (show i + 2 < L by omega) (by omega)) d_law_500 ?_
  rw [nI_clamp (show i + 2 < 2 ^ 31 by omega)]
  refine lv_aload_n hx0 hb d_law_501 rfl (hl.get rfl) ?_
  refine lv_iload hx0 hb d_law_502 (hl.get rfl) ?_
  refine lv_iconst (v := 3) hx0 hb d_law_504 rfl ?_
  refine lv_iadd hx0 hb d_law_505 ?_
  rw [show nI i + 3 = nI (i + 3) from nI_add i 3]
  refine va_sld hx0 hb hX hbl hbA hA.2.2.1 (vp_in_nI (show i + 3 < L by omega) (by omega)) d_law_506 ?_
  rw [nI_clamp (show i + 3 < 2 ^ 31 by omega)]
  refine lv_aload_n hx0 hb d_law_507 rfl (hl.get rfl) ?_
  refine lv_iload hx0 hb d_law_508 (hl.get rfl) ?_
  refine lv_iconst (v := 4) hx0 hb d_law_510 rfl ?_
  refine lv_iadd hx0 hb d_law_511 ?_
  rw [show nI i + 4 = nI (i + 4) from nI_add i 4]
  refine va_sld hx0 hb hX hbl hbA hA.2.2.1 (vp_in_nI (show i + 4 < L by omega) (by omega)) d_law_512 ?_
  rw [nI_clamp (show i + 4 < 2 ^ 31 by omega)]
  refine lv_aload_n hx0 hb d_law_513 rfl (hl.get rfl) ?_
  refine y_help (np := 6) (As := [.ref a0, .int (xs (i + 1)), .int (xs (i + 2)), .int (xs (i + 3)), .int (xs (i + 4)), .ref ou]) (rest := []) C hA (h_loan hl0 (xs (i + 1)) (xs (i + 2)) (xs (i + 3)) (xs (i + 4)) hou ha0 hx hn.2 ho1 hR) co_loan li_u_loan stt_loan w_ini ⟨by decide, by decide, by decide +kernel⟩ rfl (by show 614 ≤ 2048; omega) (by show 8 + (_ + 11) + 38660 ≤ 84000; omega) hl.2.1 (Nat.le_of_ble_eq_true rfl) d_law_514 ⟨hc, hs⟩ rfl (fun H1 locs1 g hg hn1 hn2 hA1 => ?_)
  obtain ⟨M2, hm1, hm2, hm3, hLI2⟩ := hmod (.inl (7, 1, .inr (.inl g))) H1.size 0 hn1 (fun v hv => hn2 v hv)
  refine lv_istore hx0 hb d_law_517 hl.has (hl.lt (i := 5) (Nat.le_of_ble_eq_true rfl)) rfl (fun ls2 h2 => ?_)
  have hl : xRl [some (.ref b), some (.ref a0), some (.ref m0), some (.ref ou), some (.int (nI i)), some (.int cd9), none] ls2 7 := hl.store (hl.lt (i := 5) (Nat.le_of_ble_eq_true rfl)) rfl h2
  refine lv_aload_n hx0 hb d_law_519 rfl (hl.get rfl) ?_
  refine lv_aload_n hx0 hb d_law_520 rfl (hl.get rfl) ?_
  refine lv_iload hx0 hb d_law_521 (hl.get rfl) ?_
  refine lv_iconst (v := 1) hx0 hb d_law_523 rfl ?_
  refine lv_iadd hx0 hb d_law_524 ?_
  rw [show nI i + 1 = nI (i + 1) from nI_add i 1]
  refine va_sld hx0 hb hX hbl hbA hA1.2.2.1 (vp_in_nI (show i + 1 < L by omega) (by omega)) d_law_525 ?_
  rw [nI_clamp (show i + 1 < 2 ^ 31 by omega)]
  refine lv_aload_n hx0 hb d_law_526 rfl (hl.get rfl) ?_
  refine lv_iload hx0 hb d_law_527 (hl.get rfl) ?_
  refine lv_iconst (v := 2) hx0 hb d_law_529 rfl ?_
  refine lv_iadd hx0 hb d_law_530 ?_
  rw [show nI i + 2 = nI (i + 2) from nI_add i 2]
  refine va_sld hx0 hb hX hbl hbA hA1.2.2.1 (vp_in_nI (show i + 2 < L by omega) (by omega)) d_law_531 ?_
  rw [nI_clamp (show i + 2 < 2 ^ 31 by omega)]
  refine lv_aload_n hx0 hb d_law_532 rfl (hl.get rfl) ?_
  refine lv_iload hx0 hb d_law_533 (hl.get rfl) ?_
  refine lv_iconst (v := 3) hx0 hb d_law_535 rfl ?_
  refine lv_iadd hx0 hb d_law_536 ?_
  rw [show nI i + 3 = nI (i + 3) from nI_add i 3]
  refine va_sld hx0 hb hX hbl hbA hA1.2.2.1 (vp_in_nI (show i + 3 < L by omega) (by omega)) d_law_537 ?_
  rw [nI_clamp (show i + 3 < 2 ^ 31 by omega)]
  refine lv_aload_n hx0 hb d_law_538 rfl (hl.get rfl) ?_
  refine lv_iload hx0 hb d_law_539 (hl.get rfl) ?_
  refine lv_iconst (v := 4) hx0 hb d_law_541 rfl ?_
  refine lv_iadd hx0 hb d_law_542 ?_
  rw [show nI i + 4 = nI (i + 4) from nI_add i 4]
  refine va_sld hx0 hb hX hbl hbA hA1.2.2.1 (vp_in_nI (show i + 4 < L by omega) (by omega)) d_law_543 ?_
  rw [nI_clamp (show i + 4 < 2 ^ 31 by omega)]
  refine y_callM (As := [.int (xs (i + 1)), .int (xs (i + 2)), .int (xs (i + 3)), .int (xs (i + 4))]) (rest := []) C hA1 o_M_loan li_M_loan in_M_loan se_M_loan hm1 (by intro v hv; simp at hv; rcases hv with rfl | rfl | rfl | rfl | rfl <;> rfl) rfl (Nat.le_of_ble_eq_true rfl) ((xset_ne _ _ hmo).trans (ho2.trans hm0)) (by show 600 + 12 + 1 ≤ 2048; omega) (by show 8 + (_ + 11) + (600 * 64 + 200) ≤ 84000; decide) hl.2.1 (Nat.le_of_ble_eq_true rfl) d_law_544 ⟨hc, hs⟩ rfl (fun H2 locs2 hA2 => ?_)
  obtain ⟨⟨fs2, hm0b⟩, -⟩ := hLI2.mod
  refine lv_istore hx0 hb d_law_547 hl.has (hl.lt (i := 6) (Nat.le_of_ble_eq_true rfl)) rfl (fun ls3 h3 => ?_)
  have hl : xRl [some (.ref b), some (.ref a0), some (.ref m0), some (.ref ou), some (.int (nI i)), some (.int cd9), some (.int y)] ls3 7 := hl.store (hl.lt (i := 6) (Nat.le_of_ble_eq_true rfl)) rfl h3
  refine lv_aload_n hx0 hb d_law_549 rfl (hl.get rfl) ?_
  refine y_callM (As := []) (rest := []) C hA2 o_M_thrown li_M_thrown in_M_thrown se_M_thrown hm3 (by intro v hv; simp at hv; rw [hv]; rfl) rfl (Nat.le_of_ble_eq_true rfl) hm0b (by show 600 + 12 + 1 ≤ 2048; omega) (by show 8 + (_ + 11) + (600 * 64 + 200) ≤ 84000; decide) hl.2.1 (Nat.le_of_ble_eq_true rfl) d_law_550 ⟨hc, hs⟩ rfl (fun H3 locs3 hA3 => ?_)
  refine lv_iload hx0 hb d_law_553 (hl.get rfl) ?_
  refine lv_icmp_eq (tgt := 560) hx0 hb d_law_555 (by decide) (fun _ => ?_) (fun c1 => absurd rfl c1)
  refine lv_iload hx0 hb d_law_560 (hl.get rfl) ?_
  have hend : W p l e room_1 s m #[Value.ref b] below meth c H3 locs3 (cells + 90) (slots + 800) Q (F0 m 577 ls3 []) := lv_goto (tgt := 1363) hx0 hb d_law_577 (by decide) (kk M2 H1.size g H3 locs3 ls3 hLI2 hm2 hA3 (xRl.forget2 hl))
  refine lv_if_ne (tgt := 577) hx0 hb d_law_562 (by decide) (fun _ => hend) (fun c1 => ?_)
  have hg0 := hg y (hy (c1))
  refine lv_aload_n hx0 hb d_law_565 rfl (hl.get rfl) ?_
  refine lv_iconst (v := 0) hx0 hb d_law_566 rfl ?_
  refine y_lald C hA3 hm2 d_law_567 ?_
  refine lv_iload hx0 hb d_law_568 (hl.get rfl) ?_
  refine lv_i2l (v := y.toInt64) hx0 hb d_law_570 rfl ?_
  refine W.lcmp hx0 hb d_law_571 ?_
  rw [hg0, lcmp_0]
  exact lv_if_eq (tgt := 577) hx0 hb d_law_572 (by decide) (fun _ => hend) (fun c2 => absurd rfl c2)
set_option maxRecDepth 20000 in
theorem k_shield (C : yCx D dT l p s m #[Value.ref b] c code 7 (fun q => s.heap.size ≤ q)) (hX : va_X b L xs s s.heap) (hbl : b < s.heap.size) (hL : L ≤ 2560) : lGo D dT l p e s m below meth c Q b L xs 580 := by
  intro M n a0 m0 ou i f H locs ls cells slots hLI hou hA hl hi hc hs kk
  obtain ⟨hx0, hb, hml, hown, hts, hl0, hK, hT, hN⟩ := id C
  have hbA : ¬ (fun q : Nat => s.heap.size ≤ q) b := Nat.not_le.mpr hbl
  have hl : xRl [some (.ref b), some (.ref a0), some (.ref m0), some (.ref ou), some (.int (nI i)), none, none] ls 7 := hl
  obtain ⟨fs0, ha0⟩ := hLI.obj
  obtain ⟨⟨fs1, hm0⟩, hmo⟩ := hLI.mod
  obtain ⟨bb, hbb⟩ : ∃ bb : Int32, bb = if xs (i + 2) = 0 then 0 else 1 := ⟨_, rfl⟩
  have hb01 : bb = 0 ∨ bb = 1 := by rw [hbb]; split; exact Or.inl rfl; exact Or.inr rfl
  obtain ⟨o, M1, n1, sl1, bv, cd9, hx, hn, ⟨ho1, ho2⟩, hR, hmod⟩ := s_shield (xs (i + 1)) bb hb01 M n 0 a0 m0 ou hLI
  obtain ⟨y, hbv, hy⟩ := hR.val (by decide)
  subst hbv
  refine lv_aload_n hx0 hb d_law_580 rfl (hl.get rfl) ?_
  refine lv_aload_n hx0 hb d_law_581 rfl (hl.get rfl) ?_
  refine lv_iload hx0 hb d_law_582 (hl.get rfl) ?_
  refine lv_iconst (v := 1) hx0 hb d_law_584 rfl ?_
  refine lv_iadd hx0 hb d_law_585 ?_
  rw [show nI i + 1 = nI (i + 1) from nI_add i 1]
  refine va_sld hx0 hb hX hbl hbA hA.2.2.1 (vp_in_nI (show i + 1 < L by omega) (by omega)) d_law_586 ?_
  rw [nI_clamp (show i + 1 < 2 ^ 31 by omega)]
  refine lv_aload_n hx0 hb d_law_587 rfl (hl.get rfl) ?_
  refine lv_iload hx0 hb d_law_588 (hl.get rfl) ?_
  refine lv_iconst (v := 2) hx0 hb d_law_590 rfl ?_
  refine lv_iadd hx0 hb d_law_591 ?_
  rw [show nI i + 2 = nI (i + 2) from nI_add i 2]
  refine va_sld hx0 hb hX hbl hbA hA.2.2.1 (vp_in_nI (show i + 2 < L by omega) (by omega)) d_law_592 ?_
  rw [nI_clamp (show i + 2 < 2 ^ 31 by omega)]
  suffices hj : W p l e room_1 s m #[Value.ref b] below meth c H locs cells slots Q (F0 m 601 ls (.int bb :: [.int (xs (i + 1)), .ref a0])) by
    refine lv_if_eq (tgt := 600) hx0 hb d_law_593 (by decide) (fun c1 => ?_) (fun c1 => ?_)
    · refine lv_iconst (v := 0) hx0 hb d_law_600 rfl ?_
      rw [if_pos c1] at hbb
      rw [hbb] at hj
      exact hj
    · refine lv_iconst (v := 1) hx0 hb d_law_596 rfl ?_
      refine lv_goto (tgt := 601) hx0 hb d_law_597 (by decide) ?_
      rw [if_neg c1] at hbb
      rw [hbb] at hj
      exact hj
  refine lv_aload_n hx0 hb d_law_601 rfl (hl.get rfl) ?_
  refine y_help (np := 4) (As := [.ref a0, .int (xs (i + 1)), .int bb, .ref ou]) (rest := []) C hA (h_shield hl0 (xs (i + 1)) bb hou ha0 hx hn.2 ho1 hR (fun x hx9 => by rw [hx9] at hx; exact shield_b hLI hb01 hx)) co_shield li_u_shield stt_shield w_ini ⟨by decide, by decide, by decide +kernel⟩ rfl (by show 614 ≤ 2048; omega) (by show 8 + (_ + 11) + 38660 ≤ 84000; omega) hl.2.1 (Nat.le_of_ble_eq_true rfl) d_law_602 ⟨hc, hs⟩ rfl (fun H1 locs1 g hg hn1 hn2 hA1 => ?_)
  obtain ⟨M2, hm1, hm2, hm3, hLI2⟩ := hmod (.inl (7, 1, .inr (.inl g))) H1.size 0 hn1 (fun v hv => hn2 v hv)
  refine lv_istore hx0 hb d_law_605 hl.has (hl.lt (i := 5) (Nat.le_of_ble_eq_true rfl)) rfl (fun ls2 h2 => ?_)
  have hl : xRl [some (.ref b), some (.ref a0), some (.ref m0), some (.ref ou), some (.int (nI i)), some (.int cd9), none] ls2 7 := hl.store (hl.lt (i := 5) (Nat.le_of_ble_eq_true rfl)) rfl h2
  refine lv_aload_n hx0 hb d_law_607 rfl (hl.get rfl) ?_
  refine lv_aload_n hx0 hb d_law_608 rfl (hl.get rfl) ?_
  refine lv_iload hx0 hb d_law_609 (hl.get rfl) ?_
  refine lv_iconst (v := 1) hx0 hb d_law_611 rfl ?_
  refine lv_iadd hx0 hb d_law_612 ?_
  rw [show nI i + 1 = nI (i + 1) from nI_add i 1]
  refine va_sld hx0 hb hX hbl hbA hA1.2.2.1 (vp_in_nI (show i + 1 < L by omega) (by omega)) d_law_613 ?_
  rw [nI_clamp (show i + 1 < 2 ^ 31 by omega)]
  refine lv_aload_n hx0 hb d_law_614 rfl (hl.get rfl) ?_
  refine lv_iload hx0 hb d_law_615 (hl.get rfl) ?_
  refine lv_iconst (v := 2) hx0 hb d_law_617 rfl ?_
  refine lv_iadd hx0 hb d_law_618 ?_
  rw [show nI i + 2 = nI (i + 2) from nI_add i 2]
  refine va_sld hx0 hb hX hbl hbA hA1.2.2.1 (vp_in_nI (show i + 2 < L by omega) (by omega)) d_law_619 ?_
  rw [nI_clamp (show i + 2 < 2 ^ 31 by omega)]
  suffices hj : W p l e room_1 s m #[Value.ref b] below meth c H1 locs1 (cells + 90) (slots + 800) Q (F0 m 628 ls2 (.int bb :: [.int (xs (i + 1)), .ref m0])) by
    refine lv_if_eq (tgt := 627) hx0 hb d_law_620 (by decide) (fun c1 => ?_) (fun c1 => ?_)
    · refine lv_iconst (v := 0) hx0 hb d_law_627 rfl ?_
      rw [if_pos c1] at hbb
      rw [hbb] at hj
      exact hj
    · refine lv_iconst (v := 1) hx0 hb d_law_623 rfl ?_
      refine lv_goto (tgt := 628) hx0 hb d_law_624 (by decide) ?_
      rw [if_neg c1] at hbb
      rw [hbb] at hj
      exact hj
  refine y_callM (As := [.int (xs (i + 1)), .int bb]) (rest := []) C hA1 o_M_shield li_M_shield in_M_shield se_M_shield hm1 (by intro v hv; simp at hv; rcases hv with rfl | rfl | rfl <;> rfl) rfl (Nat.le_of_ble_eq_true rfl) ((xset_ne _ _ hmo).trans (ho2.trans hm0)) (by show 600 + 12 + 1 ≤ 2048; omega) (by show 8 + (_ + 11) + (600 * 64 + 200) ≤ 84000; decide) hl.2.1 (Nat.le_of_ble_eq_true rfl) d_law_628 ⟨hc, hs⟩ rfl (fun H2 locs2 hA2 => ?_)
  obtain ⟨⟨fs2, hm0b⟩, -⟩ := hLI2.mod
  refine lv_istore hx0 hb d_law_631 hl.has (hl.lt (i := 6) (Nat.le_of_ble_eq_true rfl)) rfl (fun ls3 h3 => ?_)
  have hl : xRl [some (.ref b), some (.ref a0), some (.ref m0), some (.ref ou), some (.int (nI i)), some (.int cd9), some (.int y)] ls3 7 := hl.store (hl.lt (i := 6) (Nat.le_of_ble_eq_true rfl)) rfl h3
  refine lv_aload_n hx0 hb d_law_633 rfl (hl.get rfl) ?_
  refine y_callM (As := []) (rest := []) C hA2 o_M_thrown li_M_thrown in_M_thrown se_M_thrown hm3 (by intro v hv; simp at hv; rw [hv]; rfl) rfl (Nat.le_of_ble_eq_true rfl) hm0b (by show 600 + 12 + 1 ≤ 2048; omega) (by show 8 + (_ + 11) + (600 * 64 + 200) ≤ 84000; decide) hl.2.1 (Nat.le_of_ble_eq_true rfl) d_law_634 ⟨hc, hs⟩ rfl (fun H3 locs3 hA3 => ?_)
  refine lv_iload hx0 hb d_law_637 (hl.get rfl) ?_
  refine lv_icmp_eq (tgt := 644) hx0 hb d_law_639 (by decide) (fun _ => ?_) (fun c1 => absurd rfl c1)
  refine lv_iload hx0 hb d_law_644 (hl.get rfl) ?_
  have hend : W p l e room_1 s m #[Value.ref b] below meth c H3 locs3 (cells + 90) (slots + 800) Q (F0 m 668 ls3 []) := lv_goto (tgt := 1363) hx0 hb d_law_668 (by decide) (kk M2 H1.size g H3 locs3 ls3 hLI2 hm2 hA3 (xRl.forget2 hl))
  refine lv_if_ne (tgt := 668) hx0 hb d_law_646 (by decide) (fun _ => hend) (fun c1 => ?_)
  have hg0 := hg y (hy (c1))
  refine lv_aload_n hx0 hb d_law_649 rfl (hl.get rfl) ?_
  refine lv_iconst (v := 0) hx0 hb d_law_650 rfl ?_
  refine y_lald C hA3 hm2 d_law_651 ?_
  refine lv_iload hx0 hb d_law_652 (hl.get rfl) ?_
  have hy01 : y = 0 ∨ y = 1 := by
    have := hy (c1)
    rw [this] at hx
    exact shield_b hLI hb01 hx
  refine lv_if_eq (tgt := 661) hx0 hb d_law_654 (by decide) (fun c2 => ?_) (fun c2 => ?_)
  · refine lv_lconst (v := 0) hx0 hb d_law_661 rfl ?_
    refine W.lcmp hx0 hb d_law_662 ?_
    rw [hg0, c2, show (0 : Int32).toInt64 = 0 from rfl, lcmp_0]
    exact lv_if_eq (tgt := 668) hx0 hb d_law_663 (by decide) (fun _ => hend) (fun c2 => absurd rfl c2)
  · refine lv_lconst (v := 1) hx0 hb d_law_657 rfl ?_
    refine lv_goto (tgt := 662) hx0 hb d_law_658 (by decide) ?_
    refine W.lcmp hx0 hb d_law_662 ?_
    rw [hg0, (hy01.resolve_left c2), show (1 : Int32).toInt64 = 1 from rfl, lcmp_0]
    exact lv_if_eq (tgt := 668) hx0 hb d_law_663 (by decide) (fun _ => hend) (fun c2 => absurd rfl c2)
set_option maxRecDepth 20000 in
theorem k_ask (C : yCx D dT l p s m #[Value.ref b] c code 7 (fun q => s.heap.size ≤ q)) (hX : va_X b L xs s s.heap) (hbl : b < s.heap.size) (hL : L ≤ 2560) : lGo D dT l p e s m below meth c Q b L xs 671 := by
  intro M n a0 m0 ou i f H locs ls cells slots hLI hou hA hl hi hc hs kk
  obtain ⟨hx0, hb, hml, hown, hts, hl0, hK, hT, hN⟩ := id C
  have hbA : ¬ (fun q : Nat => s.heap.size ≤ q) b := Nat.not_le.mpr hbl
  have hl : xRl [some (.ref b), some (.ref a0), some (.ref m0), some (.ref ou), some (.int (nI i)), none, none] ls 7 := hl
  obtain ⟨fs0, ha0⟩ := hLI.obj
  obtain ⟨⟨fs1, hm0⟩, hmo⟩ := hLI.mod
  obtain ⟨o, M1, n1, sl1, bv, cd9, hx, hn, ⟨ho1, ho2⟩, hR, hmod⟩ := s_ask (xs (i + 1)) (xs (i + 2)) M n 0 a0 m0 ou hLI
  obtain ⟨y, hbv, hy⟩ := hR.val (by decide)
  subst hbv
  refine lv_aload_n hx0 hb d_law_671 rfl (hl.get rfl) ?_
  refine lv_aload_n hx0 hb d_law_672 rfl (hl.get rfl) ?_
  refine lv_iload hx0 hb d_law_673 (hl.get rfl) ?_
  refine lv_iconst (v := 1) hx0 hb d_law_675 rfl ?_
  refine lv_iadd hx0 hb d_law_676 ?_
  rw [show nI i + 1 = nI (i + 1) from nI_add i 1]
  refine va_sld hx0 hb hX hbl hbA hA.2.2.1 (vp_in_nI (show i + 1 < L by omega) (by omega)) d_law_677 ?_
  rw [nI_clamp (show i + 1 < 2 ^ 31 by omega)]
  refine lv_aload_n hx0 hb d_law_678 rfl (hl.get rfl) ?_
  refine lv_iload hx0 hb d_law_679 (hl.get rfl) ?_
  refine lv_iconst (v := 2) hx0 hb d_law_681 rfl ?_
  refine lv_iadd hx0 hb d_law_682 ?_
  rw [show nI i + 2 = nI (i + 2) from nI_add i 2]
  refine va_sld hx0 hb hX hbl hbA hA.2.2.1 (vp_in_nI (show i + 2 < L by omega) (by omega)) d_law_683 ?_
  rw [nI_clamp (show i + 2 < 2 ^ 31 by omega)]
  refine lv_aload_n hx0 hb d_law_684 rfl (hl.get rfl) ?_
  refine y_help (np := 4) (As := [.ref a0, .int (xs (i + 1)), .int (xs (i + 2)), .ref ou]) (rest := []) C hA (h_ask hl0 (xs (i + 1)) (xs (i + 2)) hou ha0 hx hn.2 ho1 hR) co_ask li_u_ask stt_ask w_ini ⟨by decide, by decide, by decide +kernel⟩ rfl (by show 614 ≤ 2048; omega) (by show 8 + (_ + 11) + 38660 ≤ 84000; omega) hl.2.1 (Nat.le_of_ble_eq_true rfl) d_law_685 ⟨hc, hs⟩ rfl (fun H1 locs1 g hg hn1 hn2 hA1 => ?_)
  obtain ⟨M2, hm1, hm2, hm3, hLI2⟩ := hmod (.inl (7, 1, .inr (.inl g))) H1.size 0 hn1 (fun v hv => hn2 v hv)
  refine lv_istore hx0 hb d_law_688 hl.has (hl.lt (i := 5) (Nat.le_of_ble_eq_true rfl)) rfl (fun ls2 h2 => ?_)
  have hl : xRl [some (.ref b), some (.ref a0), some (.ref m0), some (.ref ou), some (.int (nI i)), some (.int cd9), none] ls2 7 := hl.store (hl.lt (i := 5) (Nat.le_of_ble_eq_true rfl)) rfl h2
  refine lv_aload_n hx0 hb d_law_690 rfl (hl.get rfl) ?_
  refine lv_aload_n hx0 hb d_law_691 rfl (hl.get rfl) ?_
  refine lv_iload hx0 hb d_law_692 (hl.get rfl) ?_
  refine lv_iconst (v := 1) hx0 hb d_law_694 rfl ?_
  refine lv_iadd hx0 hb d_law_695 ?_
  rw [show nI i + 1 = nI (i + 1) from nI_add i 1]
  refine va_sld hx0 hb hX hbl hbA hA1.2.2.1 (vp_in_nI (show i + 1 < L by omega) (by omega)) d_law_696 ?_
  rw [nI_clamp (show i + 1 < 2 ^ 31 by omega)]
  refine lv_aload_n hx0 hb d_law_697 rfl (hl.get rfl) ?_
  refine lv_iload hx0 hb d_law_698 (hl.get rfl) ?_
  refine lv_iconst (v := 2) hx0 hb d_law_700 rfl ?_
  refine lv_iadd hx0 hb d_law_701 ?_
  rw [show nI i + 2 = nI (i + 2) from nI_add i 2]
  refine va_sld hx0 hb hX hbl hbA hA1.2.2.1 (vp_in_nI (show i + 2 < L by omega) (by omega)) d_law_702 ?_
  rw [nI_clamp (show i + 2 < 2 ^ 31 by omega)]
  refine y_callM (As := [.int (xs (i + 1)), .int (xs (i + 2))]) (rest := []) C hA1 o_M_ask li_M_ask in_M_ask se_M_ask hm1 (by intro v hv; simp at hv; rcases hv with rfl | rfl | rfl <;> rfl) rfl (Nat.le_of_ble_eq_true rfl) ((xset_ne _ _ hmo).trans (ho2.trans hm0)) (by show 600 + 12 + 1 ≤ 2048; omega) (by show 8 + (_ + 11) + (600 * 64 + 200) ≤ 84000; decide) hl.2.1 (Nat.le_of_ble_eq_true rfl) d_law_703 ⟨hc, hs⟩ rfl (fun H2 locs2 hA2 => ?_)
  obtain ⟨⟨fs2, hm0b⟩, -⟩ := hLI2.mod
  refine lv_istore hx0 hb d_law_706 hl.has (hl.lt (i := 6) (Nat.le_of_ble_eq_true rfl)) rfl (fun ls3 h3 => ?_)
  have hl : xRl [some (.ref b), some (.ref a0), some (.ref m0), some (.ref ou), some (.int (nI i)), some (.int cd9), some (.int y)] ls3 7 := hl.store (hl.lt (i := 6) (Nat.le_of_ble_eq_true rfl)) rfl h3
  refine lv_aload_n hx0 hb d_law_708 rfl (hl.get rfl) ?_
  refine y_callM (As := []) (rest := []) C hA2 o_M_thrown li_M_thrown in_M_thrown se_M_thrown hm3 (by intro v hv; simp at hv; rw [hv]; rfl) rfl (Nat.le_of_ble_eq_true rfl) hm0b (by show 600 + 12 + 1 ≤ 2048; omega) (by show 8 + (_ + 11) + (600 * 64 + 200) ≤ 84000; decide) hl.2.1 (Nat.le_of_ble_eq_true rfl) d_law_709 ⟨hc, hs⟩ rfl (fun H3 locs3 hA3 => ?_)
  refine lv_iload hx0 hb d_law_712 (hl.get rfl) ?_
  refine lv_icmp_eq (tgt := 719) hx0 hb d_law_714 (by decide) (fun _ => ?_) (fun c1 => absurd rfl c1)
  refine lv_iload hx0 hb d_law_719 (hl.get rfl) ?_
  have hend : W p l e room_1 s m #[Value.ref b] below meth c H3 locs3 (cells + 90) (slots + 800) Q (F0 m 736 ls3 []) := lv_goto (tgt := 1363) hx0 hb d_law_736 (by decide) (kk M2 H1.size g H3 locs3 ls3 hLI2 hm2 hA3 (xRl.forget2 hl))
  refine lv_if_ne (tgt := 736) hx0 hb d_law_721 (by decide) (fun _ => hend) (fun c1 => ?_)
  have hg0 := hg y (hy (c1))
  refine lv_aload_n hx0 hb d_law_724 rfl (hl.get rfl) ?_
  refine lv_iconst (v := 0) hx0 hb d_law_725 rfl ?_
  refine y_lald C hA3 hm2 d_law_726 ?_
  refine lv_iload hx0 hb d_law_727 (hl.get rfl) ?_
  refine lv_i2l (v := y.toInt64) hx0 hb d_law_729 rfl ?_
  refine W.lcmp hx0 hb d_law_730 ?_
  rw [hg0, lcmp_0]
  exact lv_if_eq (tgt := 736) hx0 hb d_law_731 (by decide) (fun _ => hend) (fun c2 => absurd rfl c2)
set_option maxRecDepth 20000 in
theorem k_open (C : yCx D dT l p s m #[Value.ref b] c code 7 (fun q => s.heap.size ≤ q)) (hX : va_X b L xs s s.heap) (hbl : b < s.heap.size) (hL : L ≤ 2560) : lGo D dT l p e s m below meth c Q b L xs 739 := by
  intro M n a0 m0 ou i f H locs ls cells slots hLI hou hA hl hi hc hs kk
  obtain ⟨hx0, hb, hml, hown, hts, hl0, hK, hT, hN⟩ := id C
  have hbA : ¬ (fun q : Nat => s.heap.size ≤ q) b := Nat.not_le.mpr hbl
  have hl : xRl [some (.ref b), some (.ref a0), some (.ref m0), some (.ref ou), some (.int (nI i)), none, none] ls 7 := hl
  obtain ⟨fs0, ha0⟩ := hLI.obj
  obtain ⟨⟨fs1, hm0⟩, hmo⟩ := hLI.mod
  obtain ⟨o, M1, n1, sl1, bv, cd9, hx, hn, ⟨ho1, ho2⟩, hR, hmod⟩ := s_open (xs (i + 1)) (xs (i + 2)) (xs (i + 3)) M n 0 a0 m0 ou hLI
  obtain ⟨y, hbv, hy⟩ := hR.val (by decide)
  subst hbv
  refine lv_aload_n hx0 hb d_law_739 rfl (hl.get rfl) ?_
  refine lv_aload_n hx0 hb d_law_740 rfl (hl.get rfl) ?_
  refine lv_iload hx0 hb d_law_741 (hl.get rfl) ?_
  refine lv_iconst (v := 1) hx0 hb d_law_743 rfl ?_
  refine lv_iadd hx0 hb d_law_744 ?_
  rw [show nI i + 1 = nI (i + 1) from nI_add i 1]
  refine va_sld hx0 hb hX hbl hbA hA.2.2.1 (vp_in_nI (show i + 1 < L by omega) (by omega)) d_law_745 ?_
  rw [nI_clamp (show i + 1 < 2 ^ 31 by omega)]
  refine lv_aload_n hx0 hb d_law_746 rfl (hl.get rfl) ?_
  refine lv_iload hx0 hb d_law_747 (hl.get rfl) ?_
  refine lv_iconst (v := 2) hx0 hb d_law_749 rfl ?_
  refine lv_iadd hx0 hb d_law_750 ?_
  rw [show nI i + 2 = nI (i + 2) from nI_add i 2]
  refine va_sld hx0 hb hX hbl hbA hA.2.2.1 (vp_in_nI (show i + 2 < L by omega) (by omega)) d_law_751 ?_
  rw [nI_clamp (show i + 2 < 2 ^ 31 by omega)]
  refine lv_aload_n hx0 hb d_law_752 rfl (hl.get rfl) ?_
  refine lv_iload hx0 hb d_law_753 (hl.get rfl) ?_
  refine lv_iconst (v := 3) hx0 hb d_law_755 rfl ?_
  refine lv_iadd hx0 hb d_law_756 ?_
  rw [show nI i + 3 = nI (i + 3) from nI_add i 3]
  refine va_sld hx0 hb hX hbl hbA hA.2.2.1 (vp_in_nI (show i + 3 < L by omega) (by omega)) d_law_757 ?_
  rw [nI_clamp (show i + 3 < 2 ^ 31 by omega)]
  refine lv_aload_n hx0 hb d_law_758 rfl (hl.get rfl) ?_
  refine y_help (np := 5) (As := [.ref a0, .int (xs (i + 1)), .int (xs (i + 2)), .int (xs (i + 3)), .ref ou]) (rest := []) C hA (h_open hl0 (xs (i + 1)) (xs (i + 2)) (xs (i + 3)) hou ha0 hx hn.2 ho1 hR) co_open li_u_open stt_open w_ini ⟨by decide, by decide, by decide +kernel⟩ rfl (by show 614 ≤ 2048; omega) (by show 8 + (_ + 11) + 38660 ≤ 84000; omega) hl.2.1 (Nat.le_of_ble_eq_true rfl) d_law_759 ⟨hc, hs⟩ rfl (fun H1 locs1 g hg hn1 hn2 hA1 => ?_)
  obtain ⟨M2, hm1, hm2, hm3, hLI2⟩ := hmod (.inl (7, 1, .inr (.inl g))) H1.size 0 hn1 (fun v hv => hn2 v hv)
  refine lv_istore hx0 hb d_law_762 hl.has (hl.lt (i := 5) (Nat.le_of_ble_eq_true rfl)) rfl (fun ls2 h2 => ?_)
  have hl : xRl [some (.ref b), some (.ref a0), some (.ref m0), some (.ref ou), some (.int (nI i)), some (.int cd9), none] ls2 7 := hl.store (hl.lt (i := 5) (Nat.le_of_ble_eq_true rfl)) rfl h2
  refine lv_aload_n hx0 hb d_law_764 rfl (hl.get rfl) ?_
  refine lv_aload_n hx0 hb d_law_765 rfl (hl.get rfl) ?_
  refine lv_iload hx0 hb d_law_766 (hl.get rfl) ?_
  refine lv_iconst (v := 1) hx0 hb d_law_768 rfl ?_
  refine lv_iadd hx0 hb d_law_769 ?_
  rw [show nI i + 1 = nI (i + 1) from nI_add i 1]
  refine va_sld hx0 hb hX hbl hbA hA1.2.2.1 (vp_in_nI (show i + 1 < L by omega) (by omega)) d_law_770 ?_
  rw [nI_clamp (show i + 1 < 2 ^ 31 by omega)]
  refine lv_aload_n hx0 hb d_law_771 rfl (hl.get rfl) ?_
  refine lv_iload hx0 hb d_law_772 (hl.get rfl) ?_
  refine lv_iconst (v := 2) hx0 hb d_law_774 rfl ?_
  refine lv_iadd hx0 hb d_law_775 ?_
  rw [show nI i + 2 = nI (i + 2) from nI_add i 2]
  refine va_sld hx0 hb hX hbl hbA hA1.2.2.1 (vp_in_nI (show i + 2 < L by omega) (by omega)) d_law_776 ?_
  rw [nI_clamp (show i + 2 < 2 ^ 31 by omega)]
  refine lv_aload_n hx0 hb d_law_777 rfl (hl.get rfl) ?_
  refine lv_iload hx0 hb d_law_778 (hl.get rfl) ?_
  refine lv_iconst (v := 3) hx0 hb d_law_780 rfl ?_
  refine lv_iadd hx0 hb d_law_781 ?_
  rw [show nI i + 3 = nI (i + 3) from nI_add i 3]
  refine va_sld hx0 hb hX hbl hbA hA1.2.2.1 (vp_in_nI (show i + 3 < L by omega) (by omega)) d_law_782 ?_
  rw [nI_clamp (show i + 3 < 2 ^ 31 by omega)]
  refine y_callM (As := [.int (xs (i + 1)), .int (xs (i + 2)), .int (xs (i + 3))]) (rest := []) C hA1 o_M_open li_M_open in_M_open se_M_open hm1 (by intro v hv; simp at hv; rcases hv with rfl | rfl | rfl | rfl <;> rfl) rfl (Nat.le_of_ble_eq_true rfl) ((xset_ne _ _ hmo).trans (ho2.trans hm0)) (by show 600 + 12 + 1 ≤ 2048; omega) (by show 8 + (_ + 11) + (600 * 64 + 200) ≤ 84000; decide) hl.2.1 (Nat.le_of_ble_eq_true rfl) d_law_783 ⟨hc, hs⟩ rfl (fun H2 locs2 hA2 => ?_)
  obtain ⟨⟨fs2, hm0b⟩, -⟩ := hLI2.mod
  refine lv_istore hx0 hb d_law_786 hl.has (hl.lt (i := 6) (Nat.le_of_ble_eq_true rfl)) rfl (fun ls3 h3 => ?_)
  have hl : xRl [some (.ref b), some (.ref a0), some (.ref m0), some (.ref ou), some (.int (nI i)), some (.int cd9), some (.int y)] ls3 7 := hl.store (hl.lt (i := 6) (Nat.le_of_ble_eq_true rfl)) rfl h3
  refine lv_aload_n hx0 hb d_law_788 rfl (hl.get rfl) ?_
  refine y_callM (As := []) (rest := []) C hA2 o_M_thrown li_M_thrown in_M_thrown se_M_thrown hm3 (by intro v hv; simp at hv; rw [hv]; rfl) rfl (Nat.le_of_ble_eq_true rfl) hm0b (by show 600 + 12 + 1 ≤ 2048; omega) (by show 8 + (_ + 11) + (600 * 64 + 200) ≤ 84000; decide) hl.2.1 (Nat.le_of_ble_eq_true rfl) d_law_789 ⟨hc, hs⟩ rfl (fun H3 locs3 hA3 => ?_)
  refine lv_iload hx0 hb d_law_792 (hl.get rfl) ?_
  refine lv_icmp_eq (tgt := 799) hx0 hb d_law_794 (by decide) (fun _ => ?_) (fun c1 => absurd rfl c1)
  refine lv_iload hx0 hb d_law_799 (hl.get rfl) ?_
  have hend : W p l e room_1 s m #[Value.ref b] below meth c H3 locs3 (cells + 90) (slots + 800) Q (F0 m 816 ls3 []) := lv_goto (tgt := 1363) hx0 hb d_law_816 (by decide) (kk M2 H1.size g H3 locs3 ls3 hLI2 hm2 hA3 (xRl.forget2 hl))
  refine lv_if_ne (tgt := 816) hx0 hb d_law_801 (by decide) (fun _ => hend) (fun c1 => ?_)
  have hg0 := hg y (hy (c1))
  refine lv_aload_n hx0 hb d_law_804 rfl (hl.get rfl) ?_
  refine lv_iconst (v := 0) hx0 hb d_law_805 rfl ?_
  refine y_lald C hA3 hm2 d_law_806 ?_
  refine lv_iload hx0 hb d_law_807 (hl.get rfl) ?_
  refine lv_i2l (v := y.toInt64) hx0 hb d_law_809 rfl ?_
  refine W.lcmp hx0 hb d_law_810 ?_
  rw [hg0, lcmp_0]
  exact lv_if_eq (tgt := 816) hx0 hb d_law_811 (by decide) (fun _ => hend) (fun c2 => absurd rfl c2)
set_option maxRecDepth 20000 in
theorem k_told (C : yCx D dT l p s m #[Value.ref b] c code 7 (fun q => s.heap.size ≤ q)) (hX : va_X b L xs s s.heap) (hbl : b < s.heap.size) (hL : L ≤ 2560) : lGo D dT l p e s m below meth c Q b L xs 819 := by
  intro M n a0 m0 ou i f H locs ls cells slots hLI hou hA hl hi hc hs kk
  obtain ⟨hx0, hb, hml, hown, hts, hl0, hK, hT, hN⟩ := id C
  have hbA : ¬ (fun q : Nat => s.heap.size ≤ q) b := Nat.not_le.mpr hbl
  have hl : xRl [some (.ref b), some (.ref a0), some (.ref m0), some (.ref ou), some (.int (nI i)), none, none] ls 7 := hl
  obtain ⟨fs0, ha0⟩ := hLI.obj
  obtain ⟨⟨fs1, hm0⟩, hmo⟩ := hLI.mod
  obtain ⟨o, M1, n1, sl1, bv, cd9, hx, hn, ⟨ho1, ho2⟩, hR, hmod⟩ := s_told (xs (i + 1)) (xs (i + 2)) (xs (i + 3)) M n 0 a0 m0 ou hLI
  obtain ⟨y, hbv, hy⟩ := hR.val (by decide)
  subst hbv
  refine lv_aload_n hx0 hb d_law_819 rfl (hl.get rfl) ?_
  refine lv_aload_n hx0 hb d_law_820 rfl (hl.get rfl) ?_
  refine lv_iload hx0 hb d_law_821 (hl.get rfl) ?_
  refine lv_iconst (v := 1) hx0 hb d_law_823 rfl ?_
  refine lv_iadd hx0 hb d_law_824 ?_
  rw [show nI i + 1 = nI (i + 1) from nI_add i 1]
  refine va_sld hx0 hb hX hbl hbA hA.2.2.1 (vp_in_nI (show i + 1 < L by omega) (by omega)) d_law_825 ?_
  rw [nI_clamp (show i + 1 < 2 ^ 31 by omega)]
  refine lv_aload_n hx0 hb d_law_826 rfl (hl.get rfl) ?_
  refine lv_iload hx0 hb d_law_827 (hl.get rfl) ?_
  refine lv_iconst (v := 2) hx0 hb d_law_829 rfl ?_
  refine lv_iadd hx0 hb d_law_830 ?_
  rw [show nI i + 2 = nI (i + 2) from nI_add i 2]
  refine va_sld hx0 hb hX hbl hbA hA.2.2.1 (vp_in_nI (show i + 2 < L by omega) (by omega)) d_law_831 ?_
  rw [nI_clamp (show i + 2 < 2 ^ 31 by omega)]
  refine lv_aload_n hx0 hb d_law_832 rfl (hl.get rfl) ?_
  refine lv_iload hx0 hb d_law_833 (hl.get rfl) ?_
  refine lv_iconst (v := 3) hx0 hb d_law_835 rfl ?_
  refine lv_iadd hx0 hb d_law_836 ?_
  rw [show nI i + 3 = nI (i + 3) from nI_add i 3]
  refine va_sld hx0 hb hX hbl hbA hA.2.2.1 (vp_in_nI (show i + 3 < L by omega) (by omega)) d_law_837 ?_
  rw [nI_clamp (show i + 3 < 2 ^ 31 by omega)]
  refine lv_aload_n hx0 hb d_law_838 rfl (hl.get rfl) ?_
  refine y_help (np := 5) (As := [.ref a0, .int (xs (i + 1)), .int (xs (i + 2)), .int (xs (i + 3)), .ref ou]) (rest := []) C hA (h_told hl0 (xs (i + 1)) (xs (i + 2)) (xs (i + 3)) hou ha0 hx hn.2 ho1 hR) co_told li_u_told stt_told w_ini ⟨by decide, by decide, by decide +kernel⟩ rfl (by show 614 ≤ 2048; omega) (by show 8 + (_ + 11) + 38660 ≤ 84000; omega) hl.2.1 (Nat.le_of_ble_eq_true rfl) d_law_839 ⟨hc, hs⟩ rfl (fun H1 locs1 g hg hn1 hn2 hA1 => ?_)
  obtain ⟨M2, hm1, hm2, hm3, hLI2⟩ := hmod (.inl (7, 1, .inr (.inl g))) H1.size 0 hn1 (fun v hv => hn2 v hv)
  refine lv_istore hx0 hb d_law_842 hl.has (hl.lt (i := 5) (Nat.le_of_ble_eq_true rfl)) rfl (fun ls2 h2 => ?_)
  have hl : xRl [some (.ref b), some (.ref a0), some (.ref m0), some (.ref ou), some (.int (nI i)), some (.int cd9), none] ls2 7 := hl.store (hl.lt (i := 5) (Nat.le_of_ble_eq_true rfl)) rfl h2
  refine lv_aload_n hx0 hb d_law_844 rfl (hl.get rfl) ?_
  refine lv_aload_n hx0 hb d_law_845 rfl (hl.get rfl) ?_
  refine lv_iload hx0 hb d_law_846 (hl.get rfl) ?_
  refine lv_iconst (v := 1) hx0 hb d_law_848 rfl ?_
  refine lv_iadd hx0 hb d_law_849 ?_
  rw [show nI i + 1 = nI (i + 1) from nI_add i 1]
  refine va_sld hx0 hb hX hbl hbA hA1.2.2.1 (vp_in_nI (show i + 1 < L by omega) (by omega)) d_law_850 ?_
  rw [nI_clamp (show i + 1 < 2 ^ 31 by omega)]
  refine lv_aload_n hx0 hb d_law_851 rfl (hl.get rfl) ?_
  refine lv_iload hx0 hb d_law_852 (hl.get rfl) ?_
  refine lv_iconst (v := 2) hx0 hb d_law_854 rfl ?_
  refine lv_iadd hx0 hb d_law_855 ?_
  rw [show nI i + 2 = nI (i + 2) from nI_add i 2]
  refine va_sld hx0 hb hX hbl hbA hA1.2.2.1 (vp_in_nI (show i + 2 < L by omega) (by omega)) d_law_856 ?_
  rw [nI_clamp (show i + 2 < 2 ^ 31 by omega)]
  refine lv_aload_n hx0 hb d_law_857 rfl (hl.get rfl) ?_
  refine lv_iload hx0 hb d_law_858 (hl.get rfl) ?_
  refine lv_iconst (v := 3) hx0 hb d_law_860 rfl ?_
  refine lv_iadd hx0 hb d_law_861 ?_
  rw [show nI i + 3 = nI (i + 3) from nI_add i 3]
  refine va_sld hx0 hb hX hbl hbA hA1.2.2.1 (vp_in_nI (show i + 3 < L by omega) (by omega)) d_law_862 ?_
  rw [nI_clamp (show i + 3 < 2 ^ 31 by omega)]
  refine y_callM (As := [.int (xs (i + 1)), .int (xs (i + 2)), .int (xs (i + 3))]) (rest := []) C hA1 o_M_told li_M_told in_M_told se_M_told hm1 (by intro v hv; simp at hv; rcases hv with rfl | rfl | rfl | rfl <;> rfl) rfl (Nat.le_of_ble_eq_true rfl) ((xset_ne _ _ hmo).trans (ho2.trans hm0)) (by show 600 + 12 + 1 ≤ 2048; omega) (by show 8 + (_ + 11) + (600 * 64 + 200) ≤ 84000; decide) hl.2.1 (Nat.le_of_ble_eq_true rfl) d_law_863 ⟨hc, hs⟩ rfl (fun H2 locs2 hA2 => ?_)
  obtain ⟨⟨fs2, hm0b⟩, -⟩ := hLI2.mod
  refine lv_istore hx0 hb d_law_866 hl.has (hl.lt (i := 6) (Nat.le_of_ble_eq_true rfl)) rfl (fun ls3 h3 => ?_)
  have hl : xRl [some (.ref b), some (.ref a0), some (.ref m0), some (.ref ou), some (.int (nI i)), some (.int cd9), some (.int y)] ls3 7 := hl.store (hl.lt (i := 6) (Nat.le_of_ble_eq_true rfl)) rfl h3
  refine lv_aload_n hx0 hb d_law_868 rfl (hl.get rfl) ?_
  refine y_callM (As := []) (rest := []) C hA2 o_M_thrown li_M_thrown in_M_thrown se_M_thrown hm3 (by intro v hv; simp at hv; rw [hv]; rfl) rfl (Nat.le_of_ble_eq_true rfl) hm0b (by show 600 + 12 + 1 ≤ 2048; omega) (by show 8 + (_ + 11) + (600 * 64 + 200) ≤ 84000; decide) hl.2.1 (Nat.le_of_ble_eq_true rfl) d_law_869 ⟨hc, hs⟩ rfl (fun H3 locs3 hA3 => ?_)
  refine lv_iload hx0 hb d_law_872 (hl.get rfl) ?_
  refine lv_icmp_eq (tgt := 879) hx0 hb d_law_874 (by decide) (fun _ => ?_) (fun c1 => absurd rfl c1)
  refine lv_iload hx0 hb d_law_879 (hl.get rfl) ?_
  have hend : W p l e room_1 s m #[Value.ref b] below meth c H3 locs3 (cells + 90) (slots + 800) Q (F0 m 896 ls3 []) := lv_goto (tgt := 1363) hx0 hb d_law_896 (by decide) (kk M2 H1.size g H3 locs3 ls3 hLI2 hm2 hA3 (xRl.forget2 hl))
  refine lv_if_ne (tgt := 896) hx0 hb d_law_881 (by decide) (fun _ => hend) (fun c1 => ?_)
  have hg0 := hg y (hy (c1))
  refine lv_aload_n hx0 hb d_law_884 rfl (hl.get rfl) ?_
  refine lv_iconst (v := 0) hx0 hb d_law_885 rfl ?_
  refine y_lald C hA3 hm2 d_law_886 ?_
  refine lv_iload hx0 hb d_law_887 (hl.get rfl) ?_
  refine lv_i2l (v := y.toInt64) hx0 hb d_law_889 rfl ?_
  refine W.lcmp hx0 hb d_law_890 ?_
  rw [hg0, lcmp_0]
  exact lv_if_eq (tgt := 896) hx0 hb d_law_891 (by decide) (fun _ => hend) (fun c2 => absurd rfl c2)
set_option maxRecDepth 20000 in
theorem k_extend (C : yCx D dT l p s m #[Value.ref b] c code 7 (fun q => s.heap.size ≤ q)) (hX : va_X b L xs s s.heap) (hbl : b < s.heap.size) (hL : L ≤ 2560) : lGo D dT l p e s m below meth c Q b L xs 899 := by
  intro M n a0 m0 ou i f H locs ls cells slots hLI hou hA hl hi hc hs kk
  obtain ⟨hx0, hb, hml, hown, hts, hl0, hK, hT, hN⟩ := id C
  have hbA : ¬ (fun q : Nat => s.heap.size ≤ q) b := Nat.not_le.mpr hbl
  have hl : xRl [some (.ref b), some (.ref a0), some (.ref m0), some (.ref ou), some (.int (nI i)), none, none] ls 7 := hl
  obtain ⟨fs0, ha0⟩ := hLI.obj
  obtain ⟨⟨fs1, hm0⟩, hmo⟩ := hLI.mod
  obtain ⟨o, M1, n1, sl1, bv, cd9, hx, hn, ⟨ho1, ho2⟩, hR, hmod⟩ := s_extend (xs (i + 1)) (xs (i + 2)) (xs (i + 3)) M n 0 a0 m0 ou hLI
  obtain ⟨y, hbv, hy⟩ := hR.val (by decide)
  subst hbv
  refine lv_aload_n hx0 hb d_law_899 rfl (hl.get rfl) ?_
  refine lv_aload_n hx0 hb d_law_900 rfl (hl.get rfl) ?_
  refine lv_iload hx0 hb d_law_901 (hl.get rfl) ?_
  refine lv_iconst (v := 1) hx0 hb d_law_903 rfl ?_
  refine lv_iadd hx0 hb d_law_904 ?_
  rw [show nI i + 1 = nI (i + 1) from nI_add i 1]
  refine va_sld hx0 hb hX hbl hbA hA.2.2.1 (vp_in_nI (show i + 1 < L by omega) (by omega)) d_law_905 ?_
  rw [nI_clamp (show i + 1 < 2 ^ 31 by omega)]
  refine lv_aload_n hx0 hb d_law_906 rfl (hl.get rfl) ?_
  refine lv_iload hx0 hb d_law_907 (hl.get rfl) ?_
  refine lv_iconst (v := 2) hx0 hb d_law_909 rfl ?_
  refine lv_iadd hx0 hb d_law_910 ?_
  rw [show nI i + 2 = nI (i + 2) from nI_add i 2]
  refine va_sld hx0 hb hX hbl hbA hA.2.2.1 (vp_in_nI (show i + 2 < L by omega) (by omega)) d_law_911 ?_
  rw [nI_clamp (show i + 2 < 2 ^ 31 by omega)]
  refine lv_aload_n hx0 hb d_law_912 rfl (hl.get rfl) ?_
  refine lv_iload hx0 hb d_law_913 (hl.get rfl) ?_
  refine lv_iconst (v := 3) hx0 hb d_law_915 rfl ?_
  refine lv_iadd hx0 hb d_law_916 ?_
  rw [show nI i + 3 = nI (i + 3) from nI_add i 3]
  refine va_sld hx0 hb hX hbl hbA hA.2.2.1 (vp_in_nI (show i + 3 < L by omega) (by omega)) d_law_917 ?_
  rw [nI_clamp (show i + 3 < 2 ^ 31 by omega)]
  refine lv_aload_n hx0 hb d_law_918 rfl (hl.get rfl) ?_
  refine y_help (np := 5) (As := [.ref a0, .int (xs (i + 1)), .int (xs (i + 2)), .int (xs (i + 3)), .ref ou]) (rest := []) C hA (h_extend hl0 (xs (i + 1)) (xs (i + 2)) (xs (i + 3)) hou ha0 hx hn.2 ho1 hR) co_extend li_u_extend stt_extend w_ini ⟨by decide, by decide, by decide +kernel⟩ rfl (by show 614 ≤ 2048; omega) (by show 8 + (_ + 11) + 38660 ≤ 84000; omega) hl.2.1 (Nat.le_of_ble_eq_true rfl) d_law_919 ⟨hc, hs⟩ rfl (fun H1 locs1 g hg hn1 hn2 hA1 => ?_)
  obtain ⟨M2, hm1, hm2, hm3, hLI2⟩ := hmod (.inl (7, 1, .inr (.inl g))) H1.size 0 hn1 (fun v hv => hn2 v hv)
  refine lv_istore hx0 hb d_law_922 hl.has (hl.lt (i := 5) (Nat.le_of_ble_eq_true rfl)) rfl (fun ls2 h2 => ?_)
  have hl : xRl [some (.ref b), some (.ref a0), some (.ref m0), some (.ref ou), some (.int (nI i)), some (.int cd9), none] ls2 7 := hl.store (hl.lt (i := 5) (Nat.le_of_ble_eq_true rfl)) rfl h2
  refine lv_aload_n hx0 hb d_law_924 rfl (hl.get rfl) ?_
  refine lv_aload_n hx0 hb d_law_925 rfl (hl.get rfl) ?_
  refine lv_iload hx0 hb d_law_926 (hl.get rfl) ?_
  refine lv_iconst (v := 1) hx0 hb d_law_928 rfl ?_
  refine lv_iadd hx0 hb d_law_929 ?_
  rw [show nI i + 1 = nI (i + 1) from nI_add i 1]
  refine va_sld hx0 hb hX hbl hbA hA1.2.2.1 (vp_in_nI (show i + 1 < L by omega) (by omega)) d_law_930 ?_
  rw [nI_clamp (show i + 1 < 2 ^ 31 by omega)]
  refine lv_aload_n hx0 hb d_law_931 rfl (hl.get rfl) ?_
  refine lv_iload hx0 hb d_law_932 (hl.get rfl) ?_
  refine lv_iconst (v := 2) hx0 hb d_law_934 rfl ?_
  refine lv_iadd hx0 hb d_law_935 ?_
  rw [show nI i + 2 = nI (i + 2) from nI_add i 2]
  refine va_sld hx0 hb hX hbl hbA hA1.2.2.1 (vp_in_nI (show i + 2 < L by omega) (by omega)) d_law_936 ?_
  rw [nI_clamp (show i + 2 < 2 ^ 31 by omega)]
  refine lv_aload_n hx0 hb d_law_937 rfl (hl.get rfl) ?_
  refine lv_iload hx0 hb d_law_938 (hl.get rfl) ?_
  refine lv_iconst (v := 3) hx0 hb d_law_940 rfl ?_
  refine lv_iadd hx0 hb d_law_941 ?_
  rw [show nI i + 3 = nI (i + 3) from nI_add i 3]
  refine va_sld hx0 hb hX hbl hbA hA1.2.2.1 (vp_in_nI (show i + 3 < L by omega) (by omega)) d_law_942 ?_
  rw [nI_clamp (show i + 3 < 2 ^ 31 by omega)]
  refine y_callM (As := [.int (xs (i + 1)), .int (xs (i + 2)), .int (xs (i + 3))]) (rest := []) C hA1 o_M_extend li_M_extend in_M_extend se_M_extend hm1 (by intro v hv; simp at hv; rcases hv with rfl | rfl | rfl | rfl <;> rfl) rfl (Nat.le_of_ble_eq_true rfl) ((xset_ne _ _ hmo).trans (ho2.trans hm0)) (by show 600 + 12 + 1 ≤ 2048; omega) (by show 8 + (_ + 11) + (600 * 64 + 200) ≤ 84000; decide) hl.2.1 (Nat.le_of_ble_eq_true rfl) d_law_943 ⟨hc, hs⟩ rfl (fun H2 locs2 hA2 => ?_)
  obtain ⟨⟨fs2, hm0b⟩, -⟩ := hLI2.mod
  refine lv_istore hx0 hb d_law_946 hl.has (hl.lt (i := 6) (Nat.le_of_ble_eq_true rfl)) rfl (fun ls3 h3 => ?_)
  have hl : xRl [some (.ref b), some (.ref a0), some (.ref m0), some (.ref ou), some (.int (nI i)), some (.int cd9), some (.int y)] ls3 7 := hl.store (hl.lt (i := 6) (Nat.le_of_ble_eq_true rfl)) rfl h3
  refine lv_aload_n hx0 hb d_law_948 rfl (hl.get rfl) ?_
  refine y_callM (As := []) (rest := []) C hA2 o_M_thrown li_M_thrown in_M_thrown se_M_thrown hm3 (by intro v hv; simp at hv; rw [hv]; rfl) rfl (Nat.le_of_ble_eq_true rfl) hm0b (by show 600 + 12 + 1 ≤ 2048; omega) (by show 8 + (_ + 11) + (600 * 64 + 200) ≤ 84000; decide) hl.2.1 (Nat.le_of_ble_eq_true rfl) d_law_949 ⟨hc, hs⟩ rfl (fun H3 locs3 hA3 => ?_)
  refine lv_iload hx0 hb d_law_952 (hl.get rfl) ?_
  refine lv_icmp_eq (tgt := 959) hx0 hb d_law_954 (by decide) (fun _ => ?_) (fun c1 => absurd rfl c1)
  refine lv_iload hx0 hb d_law_959 (hl.get rfl) ?_
  have hend : W p l e room_1 s m #[Value.ref b] below meth c H3 locs3 (cells + 90) (slots + 800) Q (F0 m 976 ls3 []) := lv_goto (tgt := 1363) hx0 hb d_law_976 (by decide) (kk M2 H1.size g H3 locs3 ls3 hLI2 hm2 hA3 (xRl.forget2 hl))
  refine lv_if_ne (tgt := 976) hx0 hb d_law_961 (by decide) (fun _ => hend) (fun c1 => ?_)
  have hg0 := hg y (hy (c1))
  refine lv_aload_n hx0 hb d_law_964 rfl (hl.get rfl) ?_
  refine lv_iconst (v := 0) hx0 hb d_law_965 rfl ?_
  refine y_lald C hA3 hm2 d_law_966 ?_
  refine lv_iload hx0 hb d_law_967 (hl.get rfl) ?_
  refine lv_i2l (v := y.toInt64) hx0 hb d_law_969 rfl ?_
  refine W.lcmp hx0 hb d_law_970 ?_
  rw [hg0, lcmp_0]
  exact lv_if_eq (tgt := 976) hx0 hb d_law_971 (by decide) (fun _ => hend) (fun c2 => absurd rfl c2)
set_option maxRecDepth 20000 in
theorem k_request (C : yCx D dT l p s m #[Value.ref b] c code 7 (fun q => s.heap.size ≤ q)) (hX : va_X b L xs s s.heap) (hbl : b < s.heap.size) (hL : L ≤ 2560) : lGo D dT l p e s m below meth c Q b L xs 979 := by
  intro M n a0 m0 ou i f H locs ls cells slots hLI hou hA hl hi hc hs kk
  obtain ⟨hx0, hb, hml, hown, hts, hl0, hK, hT, hN⟩ := id C
  have hbA : ¬ (fun q : Nat => s.heap.size ≤ q) b := Nat.not_le.mpr hbl
  have hl : xRl [some (.ref b), some (.ref a0), some (.ref m0), some (.ref ou), some (.int (nI i)), none, none] ls 7 := hl
  obtain ⟨fs0, ha0⟩ := hLI.obj
  obtain ⟨⟨fs1, hm0⟩, hmo⟩ := hLI.mod
  obtain ⟨o, M1, n1, sl1, bv, cd9, hx, hn, ⟨ho1, ho2⟩, hR, hmod⟩ := s_request (xs (i + 1)) (xs (i + 2)) (xs (i + 3)) M n 0 a0 m0 ou hLI
  obtain ⟨y, hbv, hy⟩ := hR.val (by decide)
  subst hbv
  refine lv_aload_n hx0 hb d_law_979 rfl (hl.get rfl) ?_
  refine lv_aload_n hx0 hb d_law_980 rfl (hl.get rfl) ?_
  refine lv_iload hx0 hb d_law_981 (hl.get rfl) ?_
  refine lv_iconst (v := 1) hx0 hb d_law_983 rfl ?_
  refine lv_iadd hx0 hb d_law_984 ?_
  rw [show nI i + 1 = nI (i + 1) from nI_add i 1]
  refine va_sld hx0 hb hX hbl hbA hA.2.2.1 (vp_in_nI (show i + 1 < L by omega) (by omega)) d_law_985 ?_
  rw [nI_clamp (show i + 1 < 2 ^ 31 by omega)]
  refine lv_aload_n hx0 hb d_law_986 rfl (hl.get rfl) ?_
  refine lv_iload hx0 hb d_law_987 (hl.get rfl) ?_
  refine lv_iconst (v := 2) hx0 hb d_law_989 rfl ?_
  refine lv_iadd hx0 hb d_law_990 ?_
  rw [show nI i + 2 = nI (i + 2) from nI_add i 2]
  refine va_sld hx0 hb hX hbl hbA hA.2.2.1 (vp_in_nI (show i + 2 < L by omega) (by omega)) d_law_991 ?_
  rw [nI_clamp (show i + 2 < 2 ^ 31 by omega)]
  refine lv_aload_n hx0 hb d_law_992 rfl (hl.get rfl) ?_
  refine lv_iload hx0 hb d_law_993 (hl.get rfl) ?_
  refine lv_iconst (v := 3) hx0 hb d_law_995 rfl ?_
  refine lv_iadd hx0 hb d_law_996 ?_
  rw [show nI i + 3 = nI (i + 3) from nI_add i 3]
  refine va_sld hx0 hb hX hbl hbA hA.2.2.1 (vp_in_nI (show i + 3 < L by omega) (by omega)) d_law_997 ?_
  rw [nI_clamp (show i + 3 < 2 ^ 31 by omega)]
  refine lv_aload_n hx0 hb d_law_998 rfl (hl.get rfl) ?_
  refine y_help (np := 5) (As := [.ref a0, .int (xs (i + 1)), .int (xs (i + 2)), .int (xs (i + 3)), .ref ou]) (rest := []) C hA (h_request hl0 (xs (i + 1)) (xs (i + 2)) (xs (i + 3)) hou ha0 hx hn.2 ho1 hR) co_request li_u_request stt_request w_ini ⟨by decide, by decide, by decide +kernel⟩ rfl (by show 614 ≤ 2048; omega) (by show 8 + (_ + 11) + 38660 ≤ 84000; omega) hl.2.1 (Nat.le_of_ble_eq_true rfl) d_law_999 ⟨hc, hs⟩ rfl (fun H1 locs1 g hg hn1 hn2 hA1 => ?_)
  obtain ⟨M2, hm1, hm2, hm3, hLI2⟩ := hmod (.inl (7, 1, .inr (.inl g))) H1.size 0 hn1 (fun v hv => hn2 v hv)
  refine lv_istore hx0 hb d_law_1002 hl.has (hl.lt (i := 5) (Nat.le_of_ble_eq_true rfl)) rfl (fun ls2 h2 => ?_)
  have hl : xRl [some (.ref b), some (.ref a0), some (.ref m0), some (.ref ou), some (.int (nI i)), some (.int cd9), none] ls2 7 := hl.store (hl.lt (i := 5) (Nat.le_of_ble_eq_true rfl)) rfl h2
  refine lv_aload_n hx0 hb d_law_1004 rfl (hl.get rfl) ?_
  refine lv_aload_n hx0 hb d_law_1005 rfl (hl.get rfl) ?_
  refine lv_iload hx0 hb d_law_1006 (hl.get rfl) ?_
  refine lv_iconst (v := 1) hx0 hb d_law_1008 rfl ?_
  refine lv_iadd hx0 hb d_law_1009 ?_
  rw [show nI i + 1 = nI (i + 1) from nI_add i 1]
  refine va_sld hx0 hb hX hbl hbA hA1.2.2.1 (vp_in_nI (show i + 1 < L by omega) (by omega)) d_law_1010 ?_
  rw [nI_clamp (show i + 1 < 2 ^ 31 by omega)]
  refine lv_aload_n hx0 hb d_law_1011 rfl (hl.get rfl) ?_
  refine lv_iload hx0 hb d_law_1012 (hl.get rfl) ?_
  refine lv_iconst (v := 2) hx0 hb d_law_1014 rfl ?_
  refine lv_iadd hx0 hb d_law_1015 ?_
  rw [show nI i + 2 = nI (i + 2) from nI_add i 2]
  refine va_sld hx0 hb hX hbl hbA hA1.2.2.1 (vp_in_nI (show i + 2 < L by omega) (by omega)) d_law_1016 ?_
  rw [nI_clamp (show i + 2 < 2 ^ 31 by omega)]
  refine lv_aload_n hx0 hb d_law_1017 rfl (hl.get rfl) ?_
  refine lv_iload hx0 hb d_law_1018 (hl.get rfl) ?_
  refine lv_iconst (v := 3) hx0 hb d_law_1020 rfl ?_
  refine lv_iadd hx0 hb d_law_1021 ?_
  rw [show nI i + 3 = nI (i + 3) from nI_add i 3]
  refine va_sld hx0 hb hX hbl hbA hA1.2.2.1 (vp_in_nI (show i + 3 < L by omega) (by omega)) d_law_1022 ?_
  rw [nI_clamp (show i + 3 < 2 ^ 31 by omega)]
  refine y_callM (As := [.int (xs (i + 1)), .int (xs (i + 2)), .int (xs (i + 3))]) (rest := []) C hA1 o_M_request li_M_request in_M_request se_M_request hm1 (by intro v hv; simp at hv; rcases hv with rfl | rfl | rfl | rfl <;> rfl) rfl (Nat.le_of_ble_eq_true rfl) ((xset_ne _ _ hmo).trans (ho2.trans hm0)) (by show 600 + 12 + 1 ≤ 2048; omega) (by show 8 + (_ + 11) + (600 * 64 + 200) ≤ 84000; decide) hl.2.1 (Nat.le_of_ble_eq_true rfl) d_law_1023 ⟨hc, hs⟩ rfl (fun H2 locs2 hA2 => ?_)
  obtain ⟨⟨fs2, hm0b⟩, -⟩ := hLI2.mod
  refine lv_istore hx0 hb d_law_1026 hl.has (hl.lt (i := 6) (Nat.le_of_ble_eq_true rfl)) rfl (fun ls3 h3 => ?_)
  have hl : xRl [some (.ref b), some (.ref a0), some (.ref m0), some (.ref ou), some (.int (nI i)), some (.int cd9), some (.int y)] ls3 7 := hl.store (hl.lt (i := 6) (Nat.le_of_ble_eq_true rfl)) rfl h3
  refine lv_aload_n hx0 hb d_law_1028 rfl (hl.get rfl) ?_
  refine y_callM (As := []) (rest := []) C hA2 o_M_thrown li_M_thrown in_M_thrown se_M_thrown hm3 (by intro v hv; simp at hv; rw [hv]; rfl) rfl (Nat.le_of_ble_eq_true rfl) hm0b (by show 600 + 12 + 1 ≤ 2048; omega) (by show 8 + (_ + 11) + (600 * 64 + 200) ≤ 84000; decide) hl.2.1 (Nat.le_of_ble_eq_true rfl) d_law_1029 ⟨hc, hs⟩ rfl (fun H3 locs3 hA3 => ?_)
  refine lv_iload hx0 hb d_law_1032 (hl.get rfl) ?_
  refine lv_icmp_eq (tgt := 1039) hx0 hb d_law_1034 (by decide) (fun _ => ?_) (fun c1 => absurd rfl c1)
  refine lv_iload hx0 hb d_law_1039 (hl.get rfl) ?_
  have hend : W p l e room_1 s m #[Value.ref b] below meth c H3 locs3 (cells + 90) (slots + 800) Q (F0 m 1056 ls3 []) := lv_goto (tgt := 1363) hx0 hb d_law_1056 (by decide) (kk M2 H1.size g H3 locs3 ls3 hLI2 hm2 hA3 (xRl.forget2 hl))
  refine lv_if_ne (tgt := 1056) hx0 hb d_law_1041 (by decide) (fun _ => hend) (fun c1 => ?_)
  have hg0 := hg y (hy (c1))
  refine lv_aload_n hx0 hb d_law_1044 rfl (hl.get rfl) ?_
  refine lv_iconst (v := 0) hx0 hb d_law_1045 rfl ?_
  refine y_lald C hA3 hm2 d_law_1046 ?_
  refine lv_iload hx0 hb d_law_1047 (hl.get rfl) ?_
  refine lv_i2l (v := y.toInt64) hx0 hb d_law_1049 rfl ?_
  refine W.lcmp hx0 hb d_law_1050 ?_
  rw [hg0, lcmp_0]
  exact lv_if_eq (tgt := 1056) hx0 hb d_law_1051 (by decide) (fun _ => hend) (fun c2 => absurd rfl c2)
set_option maxRecDepth 20000 in
theorem k_clash (C : yCx D dT l p s m #[Value.ref b] c code 7 (fun q => s.heap.size ≤ q)) (hX : va_X b L xs s s.heap) (hbl : b < s.heap.size) (hL : L ≤ 2560) : lGo D dT l p e s m below meth c Q b L xs 1059 := by
  intro M n a0 m0 ou i f H locs ls cells slots hLI hou hA hl hi hc hs kk
  obtain ⟨hx0, hb, hml, hown, hts, hl0, hK, hT, hN⟩ := id C
  have hbA : ¬ (fun q : Nat => s.heap.size ≤ q) b := Nat.not_le.mpr hbl
  have hl : xRl [some (.ref b), some (.ref a0), some (.ref m0), some (.ref ou), some (.int (nI i)), none, none] ls 7 := hl
  obtain ⟨fs0, ha0⟩ := hLI.obj
  obtain ⟨⟨fs1, hm0⟩, hmo⟩ := hLI.mod
  obtain ⟨o, M1, n1, sl1, bv, cd9, hx, hn, ⟨ho1, ho2⟩, hR, hmod⟩ := s_clash (xs (i + 1)) (xs (i + 2)) M n 0 a0 m0 ou hLI
  obtain ⟨y, hbv, hy⟩ := hR.val (by decide)
  subst hbv
  refine lv_aload_n hx0 hb d_law_1059 rfl (hl.get rfl) ?_
  refine lv_aload_n hx0 hb d_law_1060 rfl (hl.get rfl) ?_
  refine lv_iload hx0 hb d_law_1061 (hl.get rfl) ?_
  refine lv_iconst (v := 1) hx0 hb d_law_1063 rfl ?_
  refine lv_iadd hx0 hb d_law_1064 ?_
  rw [show nI i + 1 = nI (i + 1) from nI_add i 1]
  refine va_sld hx0 hb hX hbl hbA hA.2.2.1 (vp_in_nI (show i + 1 < L by omega) (by omega)) d_law_1065 ?_
  rw [nI_clamp (show i + 1 < 2 ^ 31 by omega)]
  refine lv_aload_n hx0 hb d_law_1066 rfl (hl.get rfl) ?_
  refine lv_iload hx0 hb d_law_1067 (hl.get rfl) ?_
  refine lv_iconst (v := 2) hx0 hb d_law_1069 rfl ?_
  refine lv_iadd hx0 hb d_law_1070 ?_
  rw [show nI i + 2 = nI (i + 2) from nI_add i 2]
  refine va_sld hx0 hb hX hbl hbA hA.2.2.1 (vp_in_nI (show i + 2 < L by omega) (by omega)) d_law_1071 ?_
  rw [nI_clamp (show i + 2 < 2 ^ 31 by omega)]
  refine lv_aload_n hx0 hb d_law_1072 rfl (hl.get rfl) ?_
  refine y_help (np := 4) (As := [.ref a0, .int (xs (i + 1)), .int (xs (i + 2)), .ref ou]) (rest := []) C hA (h_clash hl0 (xs (i + 1)) (xs (i + 2)) hou ha0 hx hn.2 ho1 hR) co_clash li_u_clash stt_clash w_ini ⟨by decide, by decide, by decide +kernel⟩ rfl (by show 614 ≤ 2048; omega) (by show 8 + (_ + 11) + 38660 ≤ 84000; omega) hl.2.1 (Nat.le_of_ble_eq_true rfl) d_law_1073 ⟨hc, hs⟩ rfl (fun H1 locs1 g hg hn1 hn2 hA1 => ?_)
  obtain ⟨M2, hm1, hm2, hm3, hLI2⟩ := hmod (.inl (7, 1, .inr (.inl g))) H1.size 0 hn1 (fun v hv => hn2 v hv)
  refine lv_istore hx0 hb d_law_1076 hl.has (hl.lt (i := 5) (Nat.le_of_ble_eq_true rfl)) rfl (fun ls2 h2 => ?_)
  have hl : xRl [some (.ref b), some (.ref a0), some (.ref m0), some (.ref ou), some (.int (nI i)), some (.int cd9), none] ls2 7 := hl.store (hl.lt (i := 5) (Nat.le_of_ble_eq_true rfl)) rfl h2
  refine lv_aload_n hx0 hb d_law_1078 rfl (hl.get rfl) ?_
  refine lv_aload_n hx0 hb d_law_1079 rfl (hl.get rfl) ?_
  refine lv_iload hx0 hb d_law_1080 (hl.get rfl) ?_
  refine lv_iconst (v := 1) hx0 hb d_law_1082 rfl ?_
  refine lv_iadd hx0 hb d_law_1083 ?_
  rw [show nI i + 1 = nI (i + 1) from nI_add i 1]
  refine va_sld hx0 hb hX hbl hbA hA1.2.2.1 (vp_in_nI (show i + 1 < L by omega) (by omega)) d_law_1084 ?_
  rw [nI_clamp (show i + 1 < 2 ^ 31 by omega)]
  refine lv_aload_n hx0 hb d_law_1085 rfl (hl.get rfl) ?_
  refine lv_iload hx0 hb d_law_1086 (hl.get rfl) ?_
  refine lv_iconst (v := 2) hx0 hb d_law_1088 rfl ?_
  refine lv_iadd hx0 hb d_law_1089 ?_
  rw [show nI i + 2 = nI (i + 2) from nI_add i 2]
  refine va_sld hx0 hb hX hbl hbA hA1.2.2.1 (vp_in_nI (show i + 2 < L by omega) (by omega)) d_law_1090 ?_
  rw [nI_clamp (show i + 2 < 2 ^ 31 by omega)]
  refine y_callM (As := [.int (xs (i + 1)), .int (xs (i + 2))]) (rest := []) C hA1 o_M_clash li_M_clash in_M_clash se_M_clash hm1 (by intro v hv; simp at hv; rcases hv with rfl | rfl | rfl <;> rfl) rfl (Nat.le_of_ble_eq_true rfl) ((xset_ne _ _ hmo).trans (ho2.trans hm0)) (by show 600 + 12 + 1 ≤ 2048; omega) (by show 8 + (_ + 11) + (600 * 64 + 200) ≤ 84000; decide) hl.2.1 (Nat.le_of_ble_eq_true rfl) d_law_1091 ⟨hc, hs⟩ rfl (fun H2 locs2 hA2 => ?_)
  obtain ⟨⟨fs2, hm0b⟩, -⟩ := hLI2.mod
  refine lv_istore hx0 hb d_law_1094 hl.has (hl.lt (i := 6) (Nat.le_of_ble_eq_true rfl)) rfl (fun ls3 h3 => ?_)
  have hl : xRl [some (.ref b), some (.ref a0), some (.ref m0), some (.ref ou), some (.int (nI i)), some (.int cd9), some (.int y)] ls3 7 := hl.store (hl.lt (i := 6) (Nat.le_of_ble_eq_true rfl)) rfl h3
  refine lv_aload_n hx0 hb d_law_1096 rfl (hl.get rfl) ?_
  refine y_callM (As := []) (rest := []) C hA2 o_M_thrown li_M_thrown in_M_thrown se_M_thrown hm3 (by intro v hv; simp at hv; rw [hv]; rfl) rfl (Nat.le_of_ble_eq_true rfl) hm0b (by show 600 + 12 + 1 ≤ 2048; omega) (by show 8 + (_ + 11) + (600 * 64 + 200) ≤ 84000; decide) hl.2.1 (Nat.le_of_ble_eq_true rfl) d_law_1097 ⟨hc, hs⟩ rfl (fun H3 locs3 hA3 => ?_)
  refine lv_iload hx0 hb d_law_1100 (hl.get rfl) ?_
  refine lv_icmp_eq (tgt := 1107) hx0 hb d_law_1102 (by decide) (fun _ => ?_) (fun c1 => absurd rfl c1)
  refine lv_iload hx0 hb d_law_1107 (hl.get rfl) ?_
  have hend : W p l e room_1 s m #[Value.ref b] below meth c H3 locs3 (cells + 90) (slots + 800) Q (F0 m 1124 ls3 []) := lv_goto (tgt := 1363) hx0 hb d_law_1124 (by decide) (kk M2 H1.size g H3 locs3 ls3 hLI2 hm2 hA3 (xRl.forget2 hl))
  refine lv_if_ne (tgt := 1124) hx0 hb d_law_1109 (by decide) (fun _ => hend) (fun c1 => ?_)
  have hg0 := hg y (hy (c1))
  refine lv_aload_n hx0 hb d_law_1112 rfl (hl.get rfl) ?_
  refine lv_iconst (v := 0) hx0 hb d_law_1113 rfl ?_
  refine y_lald C hA3 hm2 d_law_1114 ?_
  refine lv_iload hx0 hb d_law_1115 (hl.get rfl) ?_
  refine lv_i2l (v := y.toInt64) hx0 hb d_law_1117 rfl ?_
  refine W.lcmp hx0 hb d_law_1118 ?_
  rw [hg0, lcmp_0]
  exact lv_if_eq (tgt := 1124) hx0 hb d_law_1119 (by decide) (fun _ => hend) (fun c2 => absurd rfl c2)
set_option maxRecDepth 20000 in
theorem k_days (C : yCx D dT l p s m #[Value.ref b] c code 7 (fun q => s.heap.size ≤ q)) (hX : va_X b L xs s s.heap) (hbl : b < s.heap.size) (hL : L ≤ 2560) : lGo D dT l p e s m below meth c Q b L xs 1127 := by
  intro M n a0 m0 ou i f H locs ls cells slots hLI hou hA hl hi hc hs kk
  obtain ⟨hx0, hb, hml, hown, hts, hl0, hK, hT, hN⟩ := id C
  have hbA : ¬ (fun q : Nat => s.heap.size ≤ q) b := Nat.not_le.mpr hbl
  have hl : xRl [some (.ref b), some (.ref a0), some (.ref m0), some (.ref ou), some (.int (nI i)), none, none] ls 7 := hl
  obtain ⟨fs0, ha0⟩ := hLI.obj
  obtain ⟨⟨fs1, hm0⟩, hmo⟩ := hLI.mod
  obtain ⟨o, M1, n1, sl1, bv, cd9, hx, hn, ⟨ho1, ho2⟩, hR, hmod⟩ := s_days (xs (i + 1)) M n 0 a0 m0 ou hLI
  obtain ⟨y, hbv, hy⟩ := hR.val (by decide)
  subst hbv
  refine lv_aload_n hx0 hb d_law_1127 rfl (hl.get rfl) ?_
  refine lv_aload_n hx0 hb d_law_1128 rfl (hl.get rfl) ?_
  refine lv_iload hx0 hb d_law_1129 (hl.get rfl) ?_
  refine lv_iconst (v := 1) hx0 hb d_law_1131 rfl ?_
  refine lv_iadd hx0 hb d_law_1132 ?_
  rw [show nI i + 1 = nI (i + 1) from nI_add i 1]
  refine va_sld hx0 hb hX hbl hbA hA.2.2.1 (vp_in_nI (show i + 1 < L by omega) (by omega)) d_law_1133 ?_
  rw [nI_clamp (show i + 1 < 2 ^ 31 by omega)]
  refine lv_aload_n hx0 hb d_law_1134 rfl (hl.get rfl) ?_
  refine y_help (np := 3) (As := [.ref a0, .int (xs (i + 1)), .ref ou]) (rest := []) C hA (h_days hl0 (xs (i + 1)) hou ha0 hx hn.2 ho1 hR) co_days li_u_days stt_days w_ini ⟨by decide, by decide, by decide +kernel⟩ rfl (by show 614 ≤ 2048; omega) (by show 8 + (_ + 11) + 38660 ≤ 84000; omega) hl.2.1 (Nat.le_of_ble_eq_true rfl) d_law_1135 ⟨hc, hs⟩ rfl (fun H1 locs1 g hg hn1 hn2 hA1 => ?_)
  obtain ⟨M2, hm1, hm2, hm3, hLI2⟩ := hmod (.inl (7, 1, .inr (.inl g))) H1.size 0 hn1 (fun v hv => hn2 v hv)
  refine lv_istore hx0 hb d_law_1138 hl.has (hl.lt (i := 5) (Nat.le_of_ble_eq_true rfl)) rfl (fun ls2 h2 => ?_)
  have hl : xRl [some (.ref b), some (.ref a0), some (.ref m0), some (.ref ou), some (.int (nI i)), some (.int cd9), none] ls2 7 := hl.store (hl.lt (i := 5) (Nat.le_of_ble_eq_true rfl)) rfl h2
  refine lv_aload_n hx0 hb d_law_1140 rfl (hl.get rfl) ?_
  refine lv_aload_n hx0 hb d_law_1141 rfl (hl.get rfl) ?_
  refine lv_iload hx0 hb d_law_1142 (hl.get rfl) ?_
  refine lv_iconst (v := 1) hx0 hb d_law_1144 rfl ?_
  refine lv_iadd hx0 hb d_law_1145 ?_
  rw [show nI i + 1 = nI (i + 1) from nI_add i 1]
  refine va_sld hx0 hb hX hbl hbA hA1.2.2.1 (vp_in_nI (show i + 1 < L by omega) (by omega)) d_law_1146 ?_
  rw [nI_clamp (show i + 1 < 2 ^ 31 by omega)]
  refine y_callM (As := [.int (xs (i + 1))]) (rest := []) C hA1 o_M_days li_M_days in_M_days se_M_days hm1 (by intro v hv; simp at hv; rcases hv with rfl | rfl <;> rfl) rfl (Nat.le_of_ble_eq_true rfl) ((xset_ne _ _ hmo).trans (ho2.trans hm0)) (by show 600 + 12 + 1 ≤ 2048; omega) (by show 8 + (_ + 11) + (600 * 64 + 200) ≤ 84000; decide) hl.2.1 (Nat.le_of_ble_eq_true rfl) d_law_1147 ⟨hc, hs⟩ rfl (fun H2 locs2 hA2 => ?_)
  obtain ⟨⟨fs2, hm0b⟩, -⟩ := hLI2.mod
  refine lv_istore hx0 hb d_law_1150 hl.has (hl.lt (i := 6) (Nat.le_of_ble_eq_true rfl)) rfl (fun ls3 h3 => ?_)
  have hl : xRl [some (.ref b), some (.ref a0), some (.ref m0), some (.ref ou), some (.int (nI i)), some (.int cd9), some (.int y)] ls3 7 := hl.store (hl.lt (i := 6) (Nat.le_of_ble_eq_true rfl)) rfl h3
  refine lv_aload_n hx0 hb d_law_1152 rfl (hl.get rfl) ?_
  refine y_callM (As := []) (rest := []) C hA2 o_M_thrown li_M_thrown in_M_thrown se_M_thrown hm3 (by intro v hv; simp at hv; rw [hv]; rfl) rfl (Nat.le_of_ble_eq_true rfl) hm0b (by show 600 + 12 + 1 ≤ 2048; omega) (by show 8 + (_ + 11) + (600 * 64 + 200) ≤ 84000; decide) hl.2.1 (Nat.le_of_ble_eq_true rfl) d_law_1153 ⟨hc, hs⟩ rfl (fun H3 locs3 hA3 => ?_)
  refine lv_iload hx0 hb d_law_1156 (hl.get rfl) ?_
  refine lv_icmp_eq (tgt := 1163) hx0 hb d_law_1158 (by decide) (fun _ => ?_) (fun c1 => absurd rfl c1)
  refine lv_iload hx0 hb d_law_1163 (hl.get rfl) ?_
  have hend : W p l e room_1 s m #[Value.ref b] below meth c H3 locs3 (cells + 90) (slots + 800) Q (F0 m 1180 ls3 []) := lv_goto (tgt := 1363) hx0 hb d_law_1180 (by decide) (kk M2 H1.size g H3 locs3 ls3 hLI2 hm2 hA3 (xRl.forget2 hl))
  refine lv_if_ne (tgt := 1180) hx0 hb d_law_1165 (by decide) (fun _ => hend) (fun c1 => ?_)
  have hg0 := hg y (hy (c1))
  refine lv_aload_n hx0 hb d_law_1168 rfl (hl.get rfl) ?_
  refine lv_iconst (v := 0) hx0 hb d_law_1169 rfl ?_
  refine y_lald C hA3 hm2 d_law_1170 ?_
  refine lv_iload hx0 hb d_law_1171 (hl.get rfl) ?_
  refine lv_i2l (v := y.toInt64) hx0 hb d_law_1173 rfl ?_
  refine W.lcmp hx0 hb d_law_1174 ?_
  rw [hg0, lcmp_0]
  exact lv_if_eq (tgt := 1180) hx0 hb d_law_1175 (by decide) (fun _ => hend) (fun c2 => absurd rfl c2)
set_option maxRecDepth 20000 in
theorem k_fee (C : yCx D dT l p s m #[Value.ref b] c code 7 (fun q => s.heap.size ≤ q)) (hX : va_X b L xs s s.heap) (hbl : b < s.heap.size) (hL : L ≤ 2560) : lGo D dT l p e s m below meth c Q b L xs 1183 := by
  intro M n a0 m0 ou i f H locs ls cells slots hLI hou hA hl hi hc hs kk
  obtain ⟨hx0, hb, hml, hown, hts, hl0, hK, hT, hN⟩ := id C
  have hbA : ¬ (fun q : Nat => s.heap.size ≤ q) b := Nat.not_le.mpr hbl
  have hl : xRl [some (.ref b), some (.ref a0), some (.ref m0), some (.ref ou), some (.int (nI i)), none, none] ls 7 := hl
  obtain ⟨fs0, ha0⟩ := hLI.obj
  obtain ⟨⟨fs1, hm0⟩, hmo⟩ := hLI.mod
  obtain ⟨o, M1, n1, sl1, bv, cd9, hx, hn, ⟨ho1, ho2⟩, hR, hmod⟩ := s_fee (xs (i + 1)) M n 0 a0 m0 ou hLI
  obtain ⟨y, hbv, hy⟩ := hR.val (by decide)
  subst hbv
  refine lv_aload_n hx0 hb d_law_1183 rfl (hl.get rfl) ?_
  refine lv_aload_n hx0 hb d_law_1184 rfl (hl.get rfl) ?_
  refine lv_iload hx0 hb d_law_1185 (hl.get rfl) ?_
  refine lv_iconst (v := 1) hx0 hb d_law_1187 rfl ?_
  refine lv_iadd hx0 hb d_law_1188 ?_
  rw [show nI i + 1 = nI (i + 1) from nI_add i 1]
  refine va_sld hx0 hb hX hbl hbA hA.2.2.1 (vp_in_nI (show i + 1 < L by omega) (by omega)) d_law_1189 ?_
  rw [nI_clamp (show i + 1 < 2 ^ 31 by omega)]
  refine lv_aload_n hx0 hb d_law_1190 rfl (hl.get rfl) ?_
  refine y_help (np := 3) (As := [.ref a0, .int (xs (i + 1)), .ref ou]) (rest := []) C hA (h_fee hl0 (xs (i + 1)) hou ha0 hx hn.2 ho1 hR) co_fee li_u_fee stt_fee w_ini ⟨by decide, by decide, by decide +kernel⟩ rfl (by show 614 ≤ 2048; omega) (by show 8 + (_ + 11) + 38660 ≤ 84000; omega) hl.2.1 (Nat.le_of_ble_eq_true rfl) d_law_1191 ⟨hc, hs⟩ rfl (fun H1 locs1 g hg hn1 hn2 hA1 => ?_)
  obtain ⟨M2, hm1, hm2, hm3, hLI2⟩ := hmod (.inl (7, 1, .inr (.inl g))) H1.size 0 hn1 (fun v hv => hn2 v hv)
  refine lv_istore hx0 hb d_law_1194 hl.has (hl.lt (i := 5) (Nat.le_of_ble_eq_true rfl)) rfl (fun ls2 h2 => ?_)
  have hl : xRl [some (.ref b), some (.ref a0), some (.ref m0), some (.ref ou), some (.int (nI i)), some (.int cd9), none] ls2 7 := hl.store (hl.lt (i := 5) (Nat.le_of_ble_eq_true rfl)) rfl h2
  refine lv_aload_n hx0 hb d_law_1196 rfl (hl.get rfl) ?_
  refine lv_aload_n hx0 hb d_law_1197 rfl (hl.get rfl) ?_
  refine lv_iload hx0 hb d_law_1198 (hl.get rfl) ?_
  refine lv_iconst (v := 1) hx0 hb d_law_1200 rfl ?_
  refine lv_iadd hx0 hb d_law_1201 ?_
  rw [show nI i + 1 = nI (i + 1) from nI_add i 1]
  refine va_sld hx0 hb hX hbl hbA hA1.2.2.1 (vp_in_nI (show i + 1 < L by omega) (by omega)) d_law_1202 ?_
  rw [nI_clamp (show i + 1 < 2 ^ 31 by omega)]
  refine y_callM (As := [.int (xs (i + 1))]) (rest := []) C hA1 o_M_fee li_M_fee in_M_fee se_M_fee hm1 (by intro v hv; simp at hv; rcases hv with rfl | rfl <;> rfl) rfl (Nat.le_of_ble_eq_true rfl) ((xset_ne _ _ hmo).trans (ho2.trans hm0)) (by show 600 + 12 + 1 ≤ 2048; omega) (by show 8 + (_ + 11) + (600 * 64 + 200) ≤ 84000; decide) hl.2.1 (Nat.le_of_ble_eq_true rfl) d_law_1203 ⟨hc, hs⟩ rfl (fun H2 locs2 hA2 => ?_)
  obtain ⟨⟨fs2, hm0b⟩, -⟩ := hLI2.mod
  refine lv_istore hx0 hb d_law_1206 hl.has (hl.lt (i := 6) (Nat.le_of_ble_eq_true rfl)) rfl (fun ls3 h3 => ?_)
  have hl : xRl [some (.ref b), some (.ref a0), some (.ref m0), some (.ref ou), some (.int (nI i)), some (.int cd9), some (.int y)] ls3 7 := hl.store (hl.lt (i := 6) (Nat.le_of_ble_eq_true rfl)) rfl h3
  refine lv_aload_n hx0 hb d_law_1208 rfl (hl.get rfl) ?_
  refine y_callM (As := []) (rest := []) C hA2 o_M_thrown li_M_thrown in_M_thrown se_M_thrown hm3 (by intro v hv; simp at hv; rw [hv]; rfl) rfl (Nat.le_of_ble_eq_true rfl) hm0b (by show 600 + 12 + 1 ≤ 2048; omega) (by show 8 + (_ + 11) + (600 * 64 + 200) ≤ 84000; decide) hl.2.1 (Nat.le_of_ble_eq_true rfl) d_law_1209 ⟨hc, hs⟩ rfl (fun H3 locs3 hA3 => ?_)
  refine lv_iload hx0 hb d_law_1212 (hl.get rfl) ?_
  refine lv_icmp_eq (tgt := 1219) hx0 hb d_law_1214 (by decide) (fun _ => ?_) (fun c1 => absurd rfl c1)
  refine lv_iload hx0 hb d_law_1219 (hl.get rfl) ?_
  have hend : W p l e room_1 s m #[Value.ref b] below meth c H3 locs3 (cells + 90) (slots + 800) Q (F0 m 1236 ls3 []) := lv_goto (tgt := 1363) hx0 hb d_law_1236 (by decide) (kk M2 H1.size g H3 locs3 ls3 hLI2 hm2 hA3 (xRl.forget2 hl))
  refine lv_if_ne (tgt := 1236) hx0 hb d_law_1221 (by decide) (fun _ => hend) (fun c1 => ?_)
  have hg0 := hg y (hy (c1))
  refine lv_aload_n hx0 hb d_law_1224 rfl (hl.get rfl) ?_
  refine lv_iconst (v := 0) hx0 hb d_law_1225 rfl ?_
  refine y_lald C hA3 hm2 d_law_1226 ?_
  refine lv_iload hx0 hb d_law_1227 (hl.get rfl) ?_
  refine lv_i2l (v := y.toInt64) hx0 hb d_law_1229 rfl ?_
  refine W.lcmp hx0 hb d_law_1230 ?_
  rw [hg0, lcmp_0]
  exact lv_if_eq (tgt := 1236) hx0 hb d_law_1231 (by decide) (fun _ => hend) (fun c2 => absurd rfl c2)
set_option maxRecDepth 20000 in
theorem k_letter (C : yCx D dT l p s m #[Value.ref b] c code 7 (fun q => s.heap.size ≤ q)) (hX : va_X b L xs s s.heap) (hbl : b < s.heap.size) (hL : L ≤ 2560) : lGo D dT l p e s m below meth c Q b L xs 1239 := by
  intro M n a0 m0 ou i f H locs ls cells slots hLI hou hA hl hi hc hs kk
  obtain ⟨hx0, hb, hml, hown, hts, hl0, hK, hT, hN⟩ := id C
  have hbA : ¬ (fun q : Nat => s.heap.size ≤ q) b := Nat.not_le.mpr hbl
  have hl : xRl [some (.ref b), some (.ref a0), some (.ref m0), some (.ref ou), some (.int (nI i)), none, none] ls 7 := hl
  obtain ⟨fs0, ha0⟩ := hLI.obj
  obtain ⟨⟨fs1, hm0⟩, hmo⟩ := hLI.mod
  obtain ⟨o, M1, n1, sl1, bv, cd9, hx, hn, ⟨ho1, ho2⟩, hR, hmod⟩ := s_letter (xs (i + 1)) (xs (i + 2)) M n 0 a0 m0 ou hLI
  obtain ⟨y, hbv, hy⟩ := hR.val (by decide)
  subst hbv
  refine lv_aload_n hx0 hb d_law_1239 rfl (hl.get rfl) ?_
  refine lv_aload_n hx0 hb d_law_1240 rfl (hl.get rfl) ?_
  refine lv_iload hx0 hb d_law_1241 (hl.get rfl) ?_
  refine lv_iconst (v := 1) hx0 hb d_law_1243 rfl ?_
  refine lv_iadd hx0 hb d_law_1244 ?_
  rw [show nI i + 1 = nI (i + 1) from nI_add i 1]
  refine va_sld hx0 hb hX hbl hbA hA.2.2.1 (vp_in_nI (show i + 1 < L by omega) (by omega)) d_law_1245 ?_
  rw [nI_clamp (show i + 1 < 2 ^ 31 by omega)]
  refine lv_aload_n hx0 hb d_law_1246 rfl (hl.get rfl) ?_
  refine lv_iload hx0 hb d_law_1247 (hl.get rfl) ?_
  refine lv_iconst (v := 2) hx0 hb d_law_1249 rfl ?_
  refine lv_iadd hx0 hb d_law_1250 ?_
  rw [show nI i + 2 = nI (i + 2) from nI_add i 2]
  refine va_sld hx0 hb hX hbl hbA hA.2.2.1 (vp_in_nI (show i + 2 < L by omega) (by omega)) d_law_1251 ?_
  rw [nI_clamp (show i + 2 < 2 ^ 31 by omega)]
  refine lv_aload_n hx0 hb d_law_1252 rfl (hl.get rfl) ?_
  refine y_help (np := 4) (As := [.ref a0, .int (xs (i + 1)), .int (xs (i + 2)), .ref ou]) (rest := []) C hA (h_letter hl0 (xs (i + 1)) (xs (i + 2)) hou ha0 hx hn.2 ho1 hR) co_letter li_u_letter stt_letter w_ini ⟨by decide, by decide, by decide +kernel⟩ rfl (by show 614 ≤ 2048; omega) (by show 8 + (_ + 11) + 38660 ≤ 84000; omega) hl.2.1 (Nat.le_of_ble_eq_true rfl) d_law_1253 ⟨hc, hs⟩ rfl (fun H1 locs1 g hg hn1 hn2 hA1 => ?_)
  obtain ⟨M2, hm1, hm2, hm3, hLI2⟩ := hmod (.inl (7, 1, .inr (.inl g))) H1.size 0 hn1 (fun v hv => hn2 v hv)
  refine lv_istore hx0 hb d_law_1256 hl.has (hl.lt (i := 5) (Nat.le_of_ble_eq_true rfl)) rfl (fun ls2 h2 => ?_)
  have hl : xRl [some (.ref b), some (.ref a0), some (.ref m0), some (.ref ou), some (.int (nI i)), some (.int cd9), none] ls2 7 := hl.store (hl.lt (i := 5) (Nat.le_of_ble_eq_true rfl)) rfl h2
  refine lv_aload_n hx0 hb d_law_1258 rfl (hl.get rfl) ?_
  refine lv_aload_n hx0 hb d_law_1259 rfl (hl.get rfl) ?_
  refine lv_iload hx0 hb d_law_1260 (hl.get rfl) ?_
  refine lv_iconst (v := 1) hx0 hb d_law_1262 rfl ?_
  refine lv_iadd hx0 hb d_law_1263 ?_
  rw [show nI i + 1 = nI (i + 1) from nI_add i 1]
  refine va_sld hx0 hb hX hbl hbA hA1.2.2.1 (vp_in_nI (show i + 1 < L by omega) (by omega)) d_law_1264 ?_
  rw [nI_clamp (show i + 1 < 2 ^ 31 by omega)]
  refine lv_aload_n hx0 hb d_law_1265 rfl (hl.get rfl) ?_
  refine lv_iload hx0 hb d_law_1266 (hl.get rfl) ?_
  refine lv_iconst (v := 2) hx0 hb d_law_1268 rfl ?_
  refine lv_iadd hx0 hb d_law_1269 ?_
  rw [show nI i + 2 = nI (i + 2) from nI_add i 2]
  refine va_sld hx0 hb hX hbl hbA hA1.2.2.1 (vp_in_nI (show i + 2 < L by omega) (by omega)) d_law_1270 ?_
  rw [nI_clamp (show i + 2 < 2 ^ 31 by omega)]
  refine y_callM (As := [.int (xs (i + 1)), .int (xs (i + 2))]) (rest := []) C hA1 o_M_letter li_M_letter in_M_letter se_M_letter hm1 (by intro v hv; simp at hv; rcases hv with rfl | rfl | rfl <;> rfl) rfl (Nat.le_of_ble_eq_true rfl) ((xset_ne _ _ hmo).trans (ho2.trans hm0)) (by show 600 + 12 + 1 ≤ 2048; omega) (by show 8 + (_ + 11) + (600 * 64 + 200) ≤ 84000; decide) hl.2.1 (Nat.le_of_ble_eq_true rfl) d_law_1271 ⟨hc, hs⟩ rfl (fun H2 locs2 hA2 => ?_)
  obtain ⟨⟨fs2, hm0b⟩, -⟩ := hLI2.mod
  refine lv_istore hx0 hb d_law_1274 hl.has (hl.lt (i := 6) (Nat.le_of_ble_eq_true rfl)) rfl (fun ls3 h3 => ?_)
  have hl : xRl [some (.ref b), some (.ref a0), some (.ref m0), some (.ref ou), some (.int (nI i)), some (.int cd9), some (.int y)] ls3 7 := hl.store (hl.lt (i := 6) (Nat.le_of_ble_eq_true rfl)) rfl h3
  refine lv_aload_n hx0 hb d_law_1276 rfl (hl.get rfl) ?_
  refine y_callM (As := []) (rest := []) C hA2 o_M_thrown li_M_thrown in_M_thrown se_M_thrown hm3 (by intro v hv; simp at hv; rw [hv]; rfl) rfl (Nat.le_of_ble_eq_true rfl) hm0b (by show 600 + 12 + 1 ≤ 2048; omega) (by show 8 + (_ + 11) + (600 * 64 + 200) ≤ 84000; decide) hl.2.1 (Nat.le_of_ble_eq_true rfl) d_law_1277 ⟨hc, hs⟩ rfl (fun H3 locs3 hA3 => ?_)
  refine lv_iload hx0 hb d_law_1280 (hl.get rfl) ?_
  refine lv_icmp_eq (tgt := 1287) hx0 hb d_law_1282 (by decide) (fun _ => ?_) (fun c1 => absurd rfl c1)
  refine lv_iload hx0 hb d_law_1287 (hl.get rfl) ?_
  have hend : W p l e room_1 s m #[Value.ref b] below meth c H3 locs3 (cells + 90) (slots + 800) Q (F0 m 1304 ls3 []) := lv_goto (tgt := 1363) hx0 hb d_law_1304 (by decide) (kk M2 H1.size g H3 locs3 ls3 hLI2 hm2 hA3 (xRl.forget2 hl))
  refine lv_if_ne (tgt := 1304) hx0 hb d_law_1289 (by decide) (fun _ => hend) (fun c1 => ?_)
  have hg0 := hg y (hy (c1))
  refine lv_aload_n hx0 hb d_law_1292 rfl (hl.get rfl) ?_
  refine lv_iconst (v := 0) hx0 hb d_law_1293 rfl ?_
  refine y_lald C hA3 hm2 d_law_1294 ?_
  refine lv_iload hx0 hb d_law_1295 (hl.get rfl) ?_
  refine lv_i2l (v := y.toInt64) hx0 hb d_law_1297 rfl ?_
  refine W.lcmp hx0 hb d_law_1298 ?_
  rw [hg0, lcmp_0]
  exact lv_if_eq (tgt := 1304) hx0 hb d_law_1299 (by decide) (fun _ => hend) (fun c2 => absurd rfl c2)
set_option maxRecDepth 20000 in
theorem k_count (C : yCx D dT l p s m #[Value.ref b] c code 7 (fun q => s.heap.size ≤ q)) (hX : va_X b L xs s s.heap) (hbl : b < s.heap.size) (hL : L ≤ 2560) : lGo D dT l p e s m below meth c Q b L xs 1307 := by
  intro M n a0 m0 ou i f H locs ls cells slots hLI hou hA hl hi hc hs kk
  obtain ⟨hx0, hb, hml, hown, hts, hl0, hK, hT, hN⟩ := id C
  have hbA : ¬ (fun q : Nat => s.heap.size ≤ q) b := Nat.not_le.mpr hbl
  have hl : xRl [some (.ref b), some (.ref a0), some (.ref m0), some (.ref ou), some (.int (nI i)), none, none] ls 7 := hl
  obtain ⟨fs0, ha0⟩ := hLI.obj
  obtain ⟨⟨fs1, hm0⟩, hmo⟩ := hLI.mod
  obtain ⟨o, M1, n1, sl1, bv, cd9, hx, hn, ⟨ho1, ho2⟩, hR, hmod⟩ := s_count (xs (i + 1)) M n 0 a0 m0 ou hLI
  obtain ⟨y, hbv, hy⟩ := hR.val (by decide)
  subst hbv
  refine lv_aload_n hx0 hb d_law_1307 rfl (hl.get rfl) ?_
  refine lv_aload_n hx0 hb d_law_1308 rfl (hl.get rfl) ?_
  refine lv_iload hx0 hb d_law_1309 (hl.get rfl) ?_
  refine lv_iconst (v := 1) hx0 hb d_law_1311 rfl ?_
  refine lv_iadd hx0 hb d_law_1312 ?_
  rw [show nI i + 1 = nI (i + 1) from nI_add i 1]
  refine va_sld hx0 hb hX hbl hbA hA.2.2.1 (vp_in_nI (show i + 1 < L by omega) (by omega)) d_law_1313 ?_
  rw [nI_clamp (show i + 1 < 2 ^ 31 by omega)]
  refine lv_aload_n hx0 hb d_law_1314 rfl (hl.get rfl) ?_
  refine y_help (np := 3) (As := [.ref a0, .int (xs (i + 1)), .ref ou]) (rest := []) C hA (h_count hl0 (xs (i + 1)) hou ha0 hx hn.2 ho1 hR) co_count li_u_count stt_count w_ini ⟨by decide, by decide, by decide +kernel⟩ rfl (by show 614 ≤ 2048; omega) (by show 8 + (_ + 11) + 38660 ≤ 84000; omega) hl.2.1 (Nat.le_of_ble_eq_true rfl) d_law_1315 ⟨hc, hs⟩ rfl (fun H1 locs1 g hg hn1 hn2 hA1 => ?_)
  obtain ⟨M2, hm1, hm2, hm3, hLI2⟩ := hmod (.inl (7, 1, .inr (.inl g))) H1.size 0 hn1 (fun v hv => hn2 v hv)
  refine lv_istore hx0 hb d_law_1318 hl.has (hl.lt (i := 5) (Nat.le_of_ble_eq_true rfl)) rfl (fun ls2 h2 => ?_)
  have hl : xRl [some (.ref b), some (.ref a0), some (.ref m0), some (.ref ou), some (.int (nI i)), some (.int cd9), none] ls2 7 := hl.store (hl.lt (i := 5) (Nat.le_of_ble_eq_true rfl)) rfl h2
  refine lv_aload_n hx0 hb d_law_1320 rfl (hl.get rfl) ?_
  refine lv_aload_n hx0 hb d_law_1321 rfl (hl.get rfl) ?_
  refine lv_iload hx0 hb d_law_1322 (hl.get rfl) ?_
  refine lv_iconst (v := 1) hx0 hb d_law_1324 rfl ?_
  refine lv_iadd hx0 hb d_law_1325 ?_
  rw [show nI i + 1 = nI (i + 1) from nI_add i 1]
  refine va_sld hx0 hb hX hbl hbA hA1.2.2.1 (vp_in_nI (show i + 1 < L by omega) (by omega)) d_law_1326 ?_
  rw [nI_clamp (show i + 1 < 2 ^ 31 by omega)]
  refine y_callM (As := [.int (xs (i + 1))]) (rest := []) C hA1 o_M_count li_M_count in_M_count se_M_count hm1 (by intro v hv; simp at hv; rcases hv with rfl | rfl <;> rfl) rfl (Nat.le_of_ble_eq_true rfl) ((xset_ne _ _ hmo).trans (ho2.trans hm0)) (by show 600 + 12 + 1 ≤ 2048; omega) (by show 8 + (_ + 11) + (600 * 64 + 200) ≤ 84000; decide) hl.2.1 (Nat.le_of_ble_eq_true rfl) d_law_1327 ⟨hc, hs⟩ rfl (fun H2 locs2 hA2 => ?_)
  obtain ⟨⟨fs2, hm0b⟩, -⟩ := hLI2.mod
  refine lv_istore hx0 hb d_law_1330 hl.has (hl.lt (i := 6) (Nat.le_of_ble_eq_true rfl)) rfl (fun ls3 h3 => ?_)
  have hl : xRl [some (.ref b), some (.ref a0), some (.ref m0), some (.ref ou), some (.int (nI i)), some (.int cd9), some (.int y)] ls3 7 := hl.store (hl.lt (i := 6) (Nat.le_of_ble_eq_true rfl)) rfl h3
  refine lv_aload_n hx0 hb d_law_1332 rfl (hl.get rfl) ?_
  refine y_callM (As := []) (rest := []) C hA2 o_M_thrown li_M_thrown in_M_thrown se_M_thrown hm3 (by intro v hv; simp at hv; rw [hv]; rfl) rfl (Nat.le_of_ble_eq_true rfl) hm0b (by show 600 + 12 + 1 ≤ 2048; omega) (by show 8 + (_ + 11) + (600 * 64 + 200) ≤ 84000; decide) hl.2.1 (Nat.le_of_ble_eq_true rfl) d_law_1333 ⟨hc, hs⟩ rfl (fun H3 locs3 hA3 => ?_)
  refine lv_iload hx0 hb d_law_1336 (hl.get rfl) ?_
  refine lv_icmp_eq (tgt := 1343) hx0 hb d_law_1338 (by decide) (fun _ => ?_) (fun c1 => absurd rfl c1)
  refine lv_iload hx0 hb d_law_1343 (hl.get rfl) ?_
  have hend : W p l e room_1 s m #[Value.ref b] below meth c H3 locs3 (cells + 90) (slots + 800) Q (F0 m 1360 ls3 []) := lv_goto (tgt := 1363) hx0 hb d_law_1360 (by decide) (kk M2 H1.size g H3 locs3 ls3 hLI2 hm2 hA3 (xRl.forget2 hl))
  refine lv_if_ne (tgt := 1360) hx0 hb d_law_1345 (by decide) (fun _ => hend) (fun c1 => ?_)
  have hg0 := hg y (hy (c1))
  refine lv_aload_n hx0 hb d_law_1348 rfl (hl.get rfl) ?_
  refine lv_iconst (v := 0) hx0 hb d_law_1349 rfl ?_
  refine y_lald C hA3 hm2 d_law_1350 ?_
  refine lv_iload hx0 hb d_law_1351 (hl.get rfl) ?_
  refine lv_i2l (v := y.toInt64) hx0 hb d_law_1353 rfl ?_
  refine W.lcmp hx0 hb d_law_1354 ?_
  rw [hg0, lcmp_0]
  exact lv_if_eq (tgt := 1360) hx0 hb d_law_1355 (by decide) (fun _ => hend) (fun c2 => absurd rfl c2)
end LW
