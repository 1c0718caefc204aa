/-! what the start gives -/
abbrev lw_gv (args : Array Value) (s : State) : Prop := (Jvm.Cond.and given_1 narrow_1).before args s = true
theorem g_nc {args : Array Value} {s : State} (h : lw_gv args s) : NC s := by
  have hs := flat_of_before _ h
  exact ⟨va_Nc.of (hs (.not (.castable eA eS)) (by decide +kernel)), va_Nc.of (hs (.not (.castable eB eS)) (by decide +kernel)), va_Nc.of (hs (.not (.castable eS eA)) (by decide +kernel)), va_Nc.of (hs (.not (.castable eB eA)) (by decide +kernel)), va_Nc.of (hs (.not (.castable eS eB)) (by decide +kernel)), va_Nc.of (hs (.not (.castable eA eB)) (by decide +kernel))⟩
theorem g_str_59 {args : Array Value} {s : State} (h : lw_gv args s) (hts : ∀ w ∈ lw_tbl, w.before args s = true) : ∃ sa, vk_R "LoanTerms" 59 "the pad is full" sa s := by
  obtain ⟨a, cQ, cell, kQ, ha, -⟩ := Cond.exactly_spec (flat_of_before _ h (.exactly (.string "LoanTerms" 59) "java/lang/String") (by decide +kernel))
  exact ⟨a, vk_R.of (hts (.stringRef "LoanTerms" 59 "the pad is full") (List.mem_of_getElem? (i := 189) (by decide +kernel))) ha⟩
theorem g_str_66 {args : Array Value} {s : State} (h : lw_gv args s) (hts : ∀ w ∈ lw_tbl, w.before args s = true) : ∃ sa, vk_R "LoanTerms" 66 "no sign" sa s := by
  obtain ⟨a, cQ, cell, kQ, ha, -⟩ := Cond.exactly_spec (flat_of_before _ h (.exactly (.string "LoanTerms" 66) "java/lang/String") (by decide +kernel))
  exact ⟨a, vk_R.of (hts (.stringRef "LoanTerms" 66 "no sign") (List.mem_of_getElem? (i := 225) (by decide +kernel))) ha⟩
theorem g_str_73 {args : Array Value} {s : State} (h : lw_gv args s) (hts : ∀ w ∈ lw_tbl, w.before args s = true) : ∃ sa, vk_R "LoanTerms" 73 "there are eight contracts" sa s := by
  obtain ⟨a, cQ, cell, kQ, ha, -⟩ := Cond.exactly_spec (flat_of_before _ h (.exactly (.string "LoanTerms" 73) "java/lang/String") (by decide +kernel))
  exact ⟨a, vk_R.of (hts (.stringRef "LoanTerms" 73 "there are eight contracts") (List.mem_of_getElem? (i := 243) (by decide +kernel))) ha⟩
theorem g_str_107 {args : Array Value} {s : State} (h : lw_gv args s) (hts : ∀ w ∈ lw_tbl, w.before args s = true) : ∃ sa, vk_R "LoanTerms" 107 "the input has 60 rows" sa s := by
  obtain ⟨a, cQ, cell, kQ, ha, -⟩ := Cond.exactly_spec (flat_of_before _ h (.exactly (.string "LoanTerms" 107) "java/lang/String") (by decide +kernel))
  exact ⟨a, vk_R.of (hts (.stringRef "LoanTerms" 107 "the input has 60 rows") (List.mem_of_getElem? (i := 427) (by decide +kernel))) ha⟩
theorem g_str_118 {args : Array Value} {s : State} (h : lw_gv args s) (hts : ∀ w ∈ lw_tbl, w.before args s = true) : ∃ sa, vk_R "LoanTerms" 118 "hour or value" sa s := by
  obtain ⟨a, cQ, cell, kQ, ha, -⟩ := Cond.exactly_spec (flat_of_before _ h (.exactly (.string "LoanTerms" 118) "java/lang/String") (by decide +kernel))
  exact ⟨a, vk_R.of (hts (.stringRef "LoanTerms" 118 "hour or value") (List.mem_of_getElem? (i := 437) (by decide +kernel))) ha⟩
theorem g_str_123 {args : Array Value} {s : State} (h : lw_gv args s) (hts : ∀ w ∈ lw_tbl, w.before args s = true) : ∃ sa, vk_R "LoanTerms" 123 "hours" sa s := by
  obtain ⟨a, cQ, cell, kQ, ha, -⟩ := Cond.exactly_spec (flat_of_before _ h (.exactly (.string "LoanTerms" 123) "java/lang/String") (by decide +kernel))
  exact ⟨a, vk_R.of (hts (.stringRef "LoanTerms" 123 "hours") (List.mem_of_getElem? (i := 449) (by decide +kernel))) ha⟩
theorem g_str_134 {args : Array Value} {s : State} (h : lw_gv args s) (hts : ∀ w ∈ lw_tbl, w.before args s = true) : ∃ sa, vk_R "LoanTerms" 134 "there are 20 loans" sa s := by
  obtain ⟨a, cQ, cell, kQ, ha, -⟩ := Cond.exactly_spec (flat_of_before _ h (.exactly (.string "LoanTerms" 134) "java/lang/String") (by decide +kernel))
  exact ⟨a, vk_R.of (hts (.stringRef "LoanTerms" 134 "there are 20 loans") (List.mem_of_getElem? (i := 461) (by decide +kernel))) ha⟩
theorem g_str_187 {args : Array Value} {s : State} (h : lw_gv args s) (hts : ∀ w ∈ lw_tbl, w.before args s = true) : ∃ sa, vk_R "LoanTerms" 187 "k is below 0" sa s := by
  obtain ⟨a, cQ, cell, kQ, ha, -⟩ := Cond.exactly_spec (flat_of_before _ h (.exactly (.string "LoanTerms" 187) "java/lang/String") (by decide +kernel))
  exact ⟨a, vk_R.of (hts (.stringRef "LoanTerms" 187 "k is below 0") (List.mem_of_getElem? (i := 598) (by decide +kernel))) ha⟩
theorem g_str_193 {args : Array Value} {s : State} (h : lw_gv args s) (hts : ∀ w ∈ lw_tbl, w.before args s = true) : ∃ sa, vk_R "LoanTerms" 193 "no such place" sa s := by
  obtain ⟨a, cQ, cell, kQ, ha, -⟩ := Cond.exactly_spec (flat_of_before _ h (.exactly (.string "LoanTerms" 193) "java/lang/String") (by decide +kernel))
  exact ⟨a, vk_R.of (hts (.stringRef "LoanTerms" 193 "no such place") (List.mem_of_getElem? (i := 606) (by decide +kernel))) ha⟩
theorem g_str_205 {args : Array Value} {s : State} (h : lw_gv args s) (hts : ∀ w ∈ lw_tbl, w.before args s = true) : ∃ sa, vk_R "LoanTerms" 205 "days" sa s := by
  obtain ⟨a, cQ, cell, kQ, ha, -⟩ := Cond.exactly_spec (flat_of_before _ h (.exactly (.string "LoanTerms" 205) "java/lang/String") (by decide +kernel))
  exact ⟨a, vk_R.of (hts (.stringRef "LoanTerms" 205 "days") (List.mem_of_getElem? (i := 469) (by decide +kernel))) ha⟩
theorem g_str_216 {args : Array Value} {s : State} (h : lw_gv args s) (hts : ∀ w ∈ lw_tbl, w.before args s = true) : ∃ sa, vk_R "LoanTerms" 216 "there are 30 requests" sa s := by
  obtain ⟨a, cQ, cell, kQ, ha, -⟩ := Cond.exactly_spec (flat_of_before _ h (.exactly (.string "LoanTerms" 216) "java/lang/String") (by decide +kernel))
  exact ⟨a, vk_R.of (hts (.stringRef "LoanTerms" 216 "there are 30 requests") (List.mem_of_getElem? (i := 621) (by decide +kernel))) ha⟩
theorem g_str_242 {args : Array Value} {s : State} (h : lw_gv args s) (hts : ∀ w ∈ lw_tbl, w.before args s = true) : ∃ sa, vk_R "LoanTerms" 242 "nothing that is counted" sa s := by
  obtain ⟨a, cQ, cell, kQ, ha, -⟩ := Cond.exactly_spec (flat_of_before _ h (.exactly (.string "LoanTerms" 242) "java/lang/String") (by decide +kernel))
  exact ⟨a, vk_R.of (hts (.stringRef "LoanTerms" 242 "nothing that is counted") (List.mem_of_getElem? (i := 679) (by decide +kernel))) ha⟩
theorem g_str_244 {args : Array Value} {s : State} (h : lw_gv args s) (hts : ∀ w ∈ lw_tbl, w.before args s = true) : ∃ sa, vk_R "LoanTerms" 244 "no such contract" sa s := by
  obtain ⟨a, cQ, cell, kQ, ha, -⟩ := Cond.exactly_spec (flat_of_before _ h (.exactly (.string "LoanTerms" 244) "java/lang/String") (by decide +kernel))
  exact ⟨a, vk_R.of (hts (.stringRef "LoanTerms" 244 "no such contract") (List.mem_of_getElem? (i := 396) (by decide +kernel))) ha⟩
theorem g_str_246 {args : Array Value} {s : State} (h : lw_gv args s) (hts : ∀ w ∈ lw_tbl, w.before args s = true) : ∃ sa, vk_R "LoanTerms" 246 "no such input" sa s := by
  obtain ⟨a, cQ, cell, kQ, ha, -⟩ := Cond.exactly_spec (flat_of_before _ h (.exactly (.string "LoanTerms" 246) "java/lang/String") (by decide +kernel))
  exact ⟨a, vk_R.of (hts (.stringRef "LoanTerms" 246 "no such input") (List.mem_of_getElem? (i := 426) (by decide +kernel))) ha⟩
theorem g_str_248 {args : Array Value} {s : State} (h : lw_gv args s) (hts : ∀ w ∈ lw_tbl, w.before args s = true) : ∃ sa, vk_R "LoanTerms" 248 "no such loan" sa s := by
  obtain ⟨a, cQ, cell, kQ, ha, -⟩ := Cond.exactly_spec (flat_of_before _ h (.exactly (.string "LoanTerms" 248) "java/lang/String") (by decide +kernel))
  exact ⟨a, vk_R.of (hts (.stringRef "LoanTerms" 248 "no such loan") (List.mem_of_getElem? (i := 496) (by decide +kernel))) ha⟩
theorem g_str_250 {args : Array Value} {s : State} (h : lw_gv args s) (hts : ∀ w ∈ lw_tbl, w.before args s = true) : ∃ sa, vk_R "LoanTerms" 250 "no such sign" sa s := by
  obtain ⟨a, cQ, cell, kQ, ha, -⟩ := Cond.exactly_spec (flat_of_before _ h (.exactly (.string "LoanTerms" 250) "java/lang/String") (by decide +kernel))
  exact ⟨a, vk_R.of (hts (.stringRef "LoanTerms" 250 "no such sign") (List.mem_of_getElem? (i := 413) (by decide +kernel))) ha⟩
theorem g_str_257 {args : Array Value} {s : State} (h : lw_gv args s) (hts : ∀ w ∈ lw_tbl, w.before args s = true) : ∃ sa, vk_R "LoanTerms" 257 "no hour" sa s := by
  obtain ⟨a, cQ, cell, kQ, ha, -⟩ := Cond.exactly_spec (flat_of_before _ h (.exactly (.string "LoanTerms" 257) "java/lang/String") (by decide +kernel))
  exact ⟨a, vk_R.of (hts (.stringRef "LoanTerms" 257 "no hour") (List.mem_of_getElem? (i := 551) (by decide +kernel))) ha⟩
theorem g_str_259 {args : Array Value} {s : State} (h : lw_gv args s) (hts : ∀ w ∈ lw_tbl, w.before args s = true) : ∃ sa, vk_R "LoanTerms" 259 "no such thing" sa s := by
  obtain ⟨a, cQ, cell, kQ, ha, -⟩ := Cond.exactly_spec (flat_of_before _ h (.exactly (.string "LoanTerms" 259) "java/lang/String") (by decide +kernel))
  exact ⟨a, vk_R.of (hts (.stringRef "LoanTerms" 259 "no such thing") (List.mem_of_getElem? (i := 460) (by decide +kernel))) ha⟩
theorem g_strs {args : Array Value} {s : State} (h : lw_gv args s) (hts : ∀ w ∈ lw_tbl, w.before args s = true) : ∀ q ∈ xStr, ∃ sa, vk_R "LoanTerms" q.1 q.2.1 sa s := by
  intro q hq
  unfold xStr at hq
  simp only [List.mem_cons, List.not_mem_nil, or_false] at hq
  rcases hq with rfl | rfl | rfl | rfl | rfl | rfl | rfl | rfl | rfl | rfl | rfl | rfl | rfl | rfl | rfl | rfl | rfl | rfl
  · exact g_str_59 h hts
  · exact g_str_66 h hts
  · exact g_str_73 h hts
  · exact g_str_107 h hts
  · exact g_str_118 h hts
  · exact g_str_123 h hts
  · exact g_str_134 h hts
  · exact g_str_187 h hts
  · exact g_str_193 h hts
  · exact g_str_205 h hts
  · exact g_str_216 h hts
  · exact g_str_242 h hts
  · exact g_str_244 h hts
  · exact g_str_246 h hts
  · exact g_str_248 h hts
  · exact g_str_250 h hts
  · exact g_str_257 h hts
  · exact g_str_259 h hts
theorem g_ao_Contract {args : Array Value} {s : State} (hts : ∀ w ∈ lw_tbl, w.before args s = true) : va_AO "LoanTerms$Contract" s := va_AO.of (hts (.arrayOver (.object "LoanTerms$Contract")) (List.mem_of_getElem? (i := 80) (by decide +kernel)))
theorem g_ao_Input {args : Array Value} {s : State} (hts : ∀ w ∈ lw_tbl, w.before args s = true) : va_AO "LoanTerms$Input" s := va_AO.of (hts (.arrayOver (.object "LoanTerms$Input")) (List.mem_of_getElem? (i := 82) (by decide +kernel)))
theorem g_ao_Loan {args : Array Value} {s : State} (hts : ∀ w ∈ lw_tbl, w.before args s = true) : va_AO "LoanTerms$Loan" s := va_AO.of (hts (.arrayOver (.object "LoanTerms$Loan")) (List.mem_of_getElem? (i := 84) (by decide +kernel)))
theorem g_ao_Span {args : Array Value} {s : State} (hts : ∀ w ∈ lw_tbl, w.before args s = true) : va_AO "LoanTerms$Span" s := va_AO.of (hts (.arrayOver (.object "LoanTerms$Span")) (List.mem_of_getElem? (i := 86) (by decide +kernel)))
theorem g_ao_Node {args : Array Value} {s : State} (hts : ∀ w ∈ lw_tbl, w.before args s = true) : va_AO "LoanTerms$Node" s := va_AO.of (hts (.arrayOver (.object "LoanTerms$Node")) (List.mem_of_getElem? (i := 269) (by decide +kernel)))
theorem g_ao {args : Array Value} {s : State} (hts : ∀ w ∈ lw_tbl, w.before args s = true) : ∀ (t : Nat) (C : String), xty[t]? = some (.object C) → va_AO C s := by
  intro t C h
  match t, h with
  | 0, h => cases h
  | 1, h => cases h
  | 2, h => cases h; exact g_ao_Contract hts
  | 3, h => cases h; exact g_ao_Input hts
  | 4, h => cases h; exact g_ao_Loan hts
  | 5, h => cases h; exact g_ao_Span hts
  | 6, h => cases h; exact g_ao_Node hts
  | 7, h => cases h
  | t + 8, h => cases h
theorem g_th {args : Array Value} {s : State} (h : lw_gv args s) (hts : ∀ w ∈ lw_tbl, w.before args s = true) : xTh (fun q => s.heap.size ≤ q) s := by
  have hs := flat_of_before _ h
  refine ⟨vx_Zqof (hts _ (List.mem_of_getElem? (i := 175) (by decide +kernel))) (hts _ (List.mem_of_getElem? (i := 44) (by decide +kernel))) (hs _ (by decide +kernel)) (fun a ha => Nat.not_le.mpr ha), vx_Zqof (hts _ (List.mem_of_getElem? (i := 177) (by decide +kernel))) (hts _ (List.mem_of_getElem? (i := 44) (by decide +kernel))) (hs _ (by decide +kernel)) (fun a ha => Nat.not_le.mpr ha), fun w hw => ?_, g_strs h hts, g_ao hts⟩
  obtain ⟨h1, h2⟩ := List.mem_filter.mp hw
  exact va_Nw.of (xk_on h2) (hts w h1)
theorem g_arr {args : Array Value} {s : State} {ty : FieldType} (h : (Jvm.Cond.arrayClass ty).before args s = true) (ht : ∀ C, ty ≠ .object C) : ∃ cA, ArrOfT s cA ty ∧ va_RA s cA ty := by
  obtain ⟨cA, kA, comp, h1, h2, h3⟩ := Cond.arrayClass_spec h
  refine ⟨cA, fun n z => ⟨fun k h => (by cases h), kA, h2, comp, h3⟩, ?_⟩
  cases ty with
  | object C => exact absurd rfl (ht C)
  | _ => exact h1
theorem g_arrO {s : State} {C : String} (h : va_AO C s) : ∃ cA, ArrOfT s cA (.object C) ∧ va_RA s cA (.object C) := by
  obtain ⟨comp, c, k, h1, h2, h3, h4, h5⟩ := Cond.arrayOver_spec h
  exact ⟨c, fun n z => ⟨fun k h => (by cases h), k, h3, comp, h4⟩, k, comp, h3, h4, h1, h5⟩
theorem g_world {args : Array Value} {s : State} (hts : ∀ w ∈ lw_tbl, w.before args s = true) : ∃ (D : va_G) (dT : Nat → ClassId), va_K D vwCl (xtys dT) s := by
  have htsB : ∀ w ∈ xTB, w.before args s = true := fun w hw => hts w (List.mem_filter.mp hw).1
  have h1 : ∀ c : Nat, ∃ (cC : ClassId), ∃ (iS : Nat → Nat), ∀ q : vw_C, vwCl[c]? = some q → u_Kn s q.1 q.2.1 q.2.2 cC iS := fun c => by
    cases e : vwCl[c]? with
    | none => exact ⟨default, fun _ => 0, fun q hq => by cases hq⟩
    | some q =>
      obtain ⟨C, T, N⟩ := q
      obtain ⟨k1, k2, k3, k4, k5, k6, k7, k8⟩ := x_kd e
      obtain ⟨cC, iS, hk⟩ := u_known (n := N) htsB k1 (htsB _ k7)
      exact ⟨cC, iS, fun q hq => by cases hq; exact hk⟩
  obtain ⟨dC, h2⟩ := Classical.axiomOfChoice h1
  obtain ⟨dI, h3⟩ := Classical.axiomOfChoice h2
  obtain ⟨c0, a0⟩ := g_arr (ty := .int) (htsB _ x_arr_int) (fun C h => by cases h)
  obtain ⟨c1, a1⟩ := g_arr (ty := .boolean) (htsB _ x_arr_bool) (fun C h => by cases h)
  obtain ⟨c2, a2⟩ := g_arrO (g_ao_Contract hts)
  obtain ⟨c3, a3⟩ := g_arrO (g_ao_Input hts)
  obtain ⟨c4, a4⟩ := g_arrO (g_ao_Loan hts)
  obtain ⟨c5, a5⟩ := g_arrO (g_ao_Span hts)
  obtain ⟨c6, a6⟩ := g_arrO (g_ao_Node hts)
  obtain ⟨c7, a7⟩ := g_arr (ty := .long) (htsB _ x_arr_long) (fun C h => by cases h)
  refine ⟨(dC, dI), fun t => if t = 0 then c0 else if t = 1 then c1 else if t = 2 then c2 else if t = 3 then c3 else if t = 4 then c4 else if t = 5 then c5 else if t = 6 then c6 else c7, fun c q hq => h3 c q hq, fun k q hq => ?_⟩
  match k, hq with
  | 0, hq => cases hq; exact a0
  | 1, hq => cases hq; exact a1
  | 2, hq => cases hq; exact a2
  | 3, hq => cases hq; exact a3
  | 4, hq => cases hq; exact a4
  | 5, hq => cases hq; exact a5
  | 6, hq => cases hq; exact a6
  | 7, hq => cases hq; exact a7
  | k + 8, hq => cases hq
