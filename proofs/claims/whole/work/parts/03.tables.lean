/-! tables: kinds of objects, methods, links, each with its place among the words -/
def xT0 : u_T := fun k => match k with
  | 0 => ("LoanTerms", "pad", "LLoanTerms$Row;", true)
  | 1 => ("LoanTerms", "letterRow", "LLoanTerms$Row;", true)
  | 2 => ("LoanTerms", "contracts", "[LLoanTerms$Contract;", true)
  | 3 => ("LoanTerms", "inputs", "[LLoanTerms$Input;", true)
  | 4 => ("LoanTerms", "loans", "[LLoanTerms$Loan;", true)
  | 5 => ("LoanTerms", "requests", "[LLoanTerms$Span;", true)
  | 6 => ("LoanTerms", "contractCount", "I", false)
  | 7 => ("LoanTerms", "loanCount", "I", false)
  | _ => ("LoanTerms", "requestCount", "I", false)
def xty0 : Nat → FieldType := fun k => match k with
  | 0 => (.object "LoanTerms$Row")
  | 1 => (.object "LoanTerms$Row")
  | 2 => (.array (.object "LoanTerms$Contract"))
  | 3 => (.array (.object "LoanTerms$Input"))
  | 4 => (.array (.object "LoanTerms$Loan"))
  | 5 => (.array (.object "LoanTerms$Span"))
  | 6 => .int
  | 7 => .int
  | _ => .int
def xT1 : u_T := fun k => match k with
  | 0 => ("LoanTerms$Contract", "roots", "[LLoanTerms$Node;", true)
  | 1 => ("LoanTerms$Contract", "text", "LLoanTerms$Row;", true)
  | _ => ("LoanTerms$Contract", "size", "I", false)
def xty1 : Nat → FieldType := fun k => match k with
  | 0 => (.array (.object "LoanTerms$Node"))
  | 1 => (.object "LoanTerms$Row")
  | _ => .int
def xT2 : u_T := fun k => match k with
  | 0 => ("LoanTerms$Input", "hours", "[I", true)
  | 1 => ("LoanTerms$Input", "values", "[I", true)
  | 2 => ("LoanTerms$Input", "size", "I", false)
  | 3 => ("LoanTerms$Input", "failsFrom", "I", false)
  | _ => ("LoanTerms$Input", "failsTo", "I", false)
def xty2 : Nat → FieldType := fun k => match k with
  | 0 => (.array .int)
  | 1 => (.array .int)
  | 2 => .int
  | 3 => .int
  | _ => .int
def xT3 : u_T := fun k => match k with
  | 0 => ("LoanTerms$Loan", "contract", "LLoanTerms$Contract;", true)
  | 1 => ("LoanTerms$Loan", "toldHours", "[I", true)
  | 2 => ("LoanTerms$Loan", "toldTerms", "[I", true)
  | 3 => ("LoanTerms$Loan", "standing", "[Z", true)
  | 4 => ("LoanTerms$Loan", "span", "LLoanTerms$Span;", false)
  | 5 => ("LoanTerms$Loan", "shielded", "Z", false)
  | _ => ("LoanTerms$Loan", "toldSize", "I", false)
def xty3 : Nat → FieldType := fun k => match k with
  | 0 => (.object "LoanTerms$Contract")
  | 1 => (.array .int)
  | 2 => (.array .int)
  | 3 => (.array .boolean)
  | 4 => (.object "LoanTerms$Span")
  | 5 => .boolean
  | _ => .int
def xT4 : u_T := fun k => match k with
  | 0 => ("LoanTerms$Node", "kind", "I", true)
  | 1 => ("LoanTerms$Node", "name", "I", true)
  | 2 => ("LoanTerms$Node", "number", "I", true)
  | 3 => ("LoanTerms$Node", "inner", "LLoanTerms$Node;", true)
  | _ => ("LoanTerms$Node", "next", "LLoanTerms$Node;", false)
def xty4 : Nat → FieldType := fun k => match k with
  | 0 => .int
  | 1 => .int
  | 2 => .int
  | 3 => (.object "LoanTerms$Node")
  | _ => (.object "LoanTerms$Node")
def xT5 : u_T := fun k => match k with
  | 0 => ("LoanTerms$Reader", "row", "LLoanTerms$Row;", true)
  | _ => ("LoanTerms$Reader", "place", "I", false)
def xty5 : Nat → FieldType := fun k => match k with
  | 0 => (.object "LoanTerms$Row")
  | _ => .int
def xT6 : u_T := fun k => match k with
  | 0 => ("LoanTerms$Row", "signs", "[I", true)
  | _ => ("LoanTerms$Row", "size", "I", false)
def xty6 : Nat → FieldType := fun k => match k with
  | 0 => (.array .int)
  | _ => .int
def xT7 : u_T := fun k => match k with
  | 0 => ("LoanTerms$Span", "thing", "I", true)
  | 1 => ("LoanTerms$Span", "first", "I", true)
  | _ => ("LoanTerms$Span", "last", "I", true)
def xty7 : Nat → FieldType := fun k => match k with
  | 0 => .int
  | 1 => .int
  | _ => .int
def xT8 : u_T := fun k => match k with
  | 0 => ("LoanTermsModel", "thrown", "I", false)
  | 1 => ("LoanTermsModel", "padded", "I", false)
  | 2 => ("LoanTermsModel", "pad", "[I", true)
  | 3 => ("LoanTermsModel", "contracts", "I", false)
  | 4 => ("LoanTermsModel", "many", "[I", true)
  | 5 => ("LoanTermsModel", "roots", "[I", true)
  | 6 => ("LoanTermsModel", "nodes", "[I", true)
  | 7 => ("LoanTermsModel", "kinds", "[I", true)
  | 8 => ("LoanTermsModel", "above", "[I", true)
  | 9 => ("LoanTermsModel", "turns", "[I", true)
  | 10 => ("LoanTermsModel", "names", "[I", true)
  | 11 => ("LoanTermsModel", "signs", "[I", true)
  | 12 => ("LoanTermsModel", "numbers", "[I", true)
  | 13 => ("LoanTermsModel", "truths", "[I", true)
  | 14 => ("LoanTermsModel", "pile", "[I", true)
  | 15 => ("LoanTermsModel", "top", "I", false)
  | 16 => ("LoanTermsModel", "written", "[I", true)
  | 17 => ("LoanTermsModel", "length", "I", false)
  | 18 => ("LoanTermsModel", "rows", "[I", true)
  | 19 => ("LoanTermsModel", "rowHours", "[I", true)
  | 20 => ("LoanTermsModel", "rowValues", "[I", true)
  | 21 => ("LoanTermsModel", "failFroms", "[I", true)
  | 22 => ("LoanTermsModel", "failTos", "[I", true)
  | 23 => ("LoanTermsModel", "loans", "I", false)
  | 24 => ("LoanTermsModel", "contractOf", "[I", true)
  | 25 => ("LoanTermsModel", "thingOf", "[I", true)
  | 26 => ("LoanTermsModel", "firstDays", "[I", true)
  | 27 => ("LoanTermsModel", "lastDays", "[I", true)
  | 28 => ("LoanTermsModel", "shields", "[Z", true)
  | 29 => ("LoanTermsModel", "bad", "[Z", true)
  | 30 => ("LoanTermsModel", "tolds", "[I", true)
  | 31 => ("LoanTermsModel", "toldHours", "[I", true)
  | 32 => ("LoanTermsModel", "toldTerms", "[I", true)
  | 33 => ("LoanTermsModel", "requests", "I", false)
  | 34 => ("LoanTermsModel", "requestThings", "[I", true)
  | 35 => ("LoanTermsModel", "requestFroms", "[I", true)
  | _ => ("LoanTermsModel", "requestTos", "[I", true)
def xty8 : Nat → FieldType := fun k => match k with
  | 0 => .int
  | 1 => .int
  | 2 => (.array .int)
  | 3 => .int
  | 4 => (.array .int)
  | 5 => (.array .int)
  | 6 => (.array .int)
  | 7 => (.array .int)
  | 8 => (.array .int)
  | 9 => (.array .int)
  | 10 => (.array .int)
  | 11 => (.array .int)
  | 12 => (.array .int)
  | 13 => (.array .int)
  | 14 => (.array .int)
  | 15 => .int
  | 16 => (.array .int)
  | 17 => .int
  | 18 => (.array .int)
  | 19 => (.array .int)
  | 20 => (.array .int)
  | 21 => (.array .int)
  | 22 => (.array .int)
  | 23 => .int
  | 24 => (.array .int)
  | 25 => (.array .int)
  | 26 => (.array .int)
  | 27 => (.array .int)
  | 28 => (.array .boolean)
  | 29 => (.array .boolean)
  | 30 => (.array .int)
  | 31 => (.array .int)
  | 32 => (.array .int)
  | 33 => .int
  | 34 => (.array .int)
  | 35 => (.array .int)
  | _ => (.array .int)
abbrev vwCl : List vw_C := [("LoanTerms", xT0, 9), ("LoanTerms$Contract", xT1, 3), ("LoanTerms$Input", xT2, 5), ("LoanTerms$Loan", xT3, 7), ("LoanTerms$Node", xT4, 5), ("LoanTerms$Reader", xT5, 2), ("LoanTerms$Row", xT6, 2), ("LoanTerms$Span", xT7, 3), ("LoanTermsModel", xT8, 37)]
def xCn (o : Nat) : String := ((vwCl[o]?).map fun r => r.1).getD ""
def xft (c : Nat) : Nat → FieldType := match c with
  | 0 => xty0
  | 1 => xty1
  | 2 => xty2
  | 3 => xty3
  | 4 => xty4
  | 5 => xty5
  | 6 => xty6
  | 7 => xty7
  | _ => xty8
def xdf (c : Nat) : List Value := match c with
  | 0 => [.null, .null, .null, .null, .null, .null, .int 0, .int 0, .int 0]
  | 1 => [.null, .null, .int 0]
  | 2 => [.null, .null, .int 0, .int 0, .int 0]
  | 3 => [.null, .null, .null, .null, .null, .int 0, .int 0]
  | 4 => [.int 0, .int 0, .int 0, .null, .null]
  | 5 => [.null, .int 0]
  | 6 => [.null, .int 0]
  | 7 => [.int 0, .int 0, .int 0]
  | _ => [.int 0, .int 0, .null, .int 0, .null, .null, .null, .null, .null, .null, .null, .null, .null, .null, .null, .int 0, .null, .int 0, .null, .null, .null, .null, .null, .int 0, .null, .null, .null, .null, .null, .null, .null, .null, .null, .int 0, .null, .null, .null]
def xfin (c k : Nat) : Bool := match vwCl[c]? with
  | some r => (r.2.1 k).2.2.2
  | none => true
def xfitb (c k : Nat) (v : Value) : Bool := decide (narrow (xft c k) v = v) && fits (xft c k) v
theorem x_fit {c k : Nat} {v : Value} (h : xfitb c k v = true) : narrow (xft c k) v = v ∧ fits (xft c k) v = true := by
  unfold xfitb at h
  rw [Bool.and_eq_true] at h
  exact ⟨of_decide_eq_true h.1, h.2⟩
def xty : List FieldType := [.int, .boolean, .object "LoanTerms$Contract", .object "LoanTerms$Input", .object "LoanTerms$Loan", .object "LoanTerms$Span", .object "LoanTerms$Node", .long]
def xtyo (t : Nat) : Option Nat := match t with
  | 2 => some 1
  | 3 => some 2
  | 4 => some 3
  | 5 => some 7
  | 6 => some 4
  | _ => none
def xtys (dT : Nat → ClassId) : List (ClassId × FieldType) := [(dT 0, .int), (dT 1, .boolean), (dT 2, .object "LoanTerms$Contract"), (dT 3, .object "LoanTerms$Input"), (dT 4, .object "LoanTerms$Loan"), (dT 5, .object "LoanTerms$Span"), (dT 6, .object "LoanTerms$Node"), (dT 7, .long)]
theorem xtys_at (dT : Nat → ClassId) {t : Nat} {ty : FieldType} (h : xty[t]? = some ty) : (xtys dT)[t]? = some (dT t, ty) := by
  match t, h with
  | 0, h => cases h; rfl
  | 1, h => cases h; rfl
  | 2, h => cases h; rfl
  | 3, h => cases h; rfl
  | 4, h => cases h; rfl
  | 5, h => cases h; rfl
  | 6, h => cases h; rfl
  | 7, h => cases h; rfl
  | t + 8, h => simp [xty] at h
theorem x_ty_int : xty[0]? = some .int := rfl
theorem x_ty_bool : xty[1]? = some .boolean := rfl
theorem x_tyo_ok {t c : Nat} (h : xtyo t = some c) : ∃ r : vw_C, vwCl[c]? = some r ∧ xty[t]? = some (.object r.1) := by
  unfold xtyo at h
  split at h
  · cases h; exact ⟨_, rfl, rfl⟩
  · cases h; exact ⟨_, rfl, rfl⟩
  · cases h; exact ⟨_, rfl, rfl⟩
  · cases h; exact ⟨_, rfl, rfl⟩
  · cases h; exact ⟨_, rfl, rfl⟩
  · cases h
def xTB : List Jvm.Cond := lw_tbl.filter goodWord
def xk (w : Jvm.Cond) : Bool := match w with
  | .methodLinkNest .. => true
  | .castable .. => true
  | .declares .. => true
  | _ => false
def xTB2 : List Jvm.Cond := lw_tbl.filter xk
theorem x_good : GoodIn xTB xTB := fun w hw => ⟨hw, good_of_word (List.mem_filter.mp hw).2⟩
theorem x_gin0 : GoodIn lw_tbl xTB := fun w hw => ⟨(List.mem_filter.mp hw).1, good_of_word (List.mem_filter.mp hw).2⟩
/-- a word at its place -/
def x_at (i : Nat) (w : Jvm.Cond) : Bool := decide (lw_tbl[i]? = some w)
theorem x_at_in {i : Nat} {w : Jvm.Cond} (h : x_at i w = true) (hg : goodWord w = true) : w ∈ xTB := List.mem_filter.mpr ⟨List.mem_of_getElem? (of_decide_eq_true h), hg⟩
theorem x_at_in2 {i : Nat} {w : Jvm.Cond} (h : x_at i w = true) (hg : xk w = true) : w ∈ xTB2 := List.mem_filter.mpr ⟨List.mem_of_getElem? (of_decide_eq_true h), hg⟩
theorem x_lay0 : u_ws "LoanTerms" xT0 9 = [120, 122, 124, 126, 128, 130, 132, 134, 136].filterMap (fun i => lw_tbl[i]?) := by decide +kernel
theorem x_lay1 : u_ws "LoanTerms$Contract" xT1 3 = [278, 280, 282].filterMap (fun i => lw_tbl[i]?) := by decide +kernel
theorem x_lay2 : u_ws "LoanTerms$Input" xT2 5 = [100, 102, 104, 106, 108].filterMap (fun i => lw_tbl[i]?) := by decide +kernel
theorem x_lay3 : u_ws "LoanTerms$Loan" xT3 7 = [518, 520, 522, 524, 526, 528, 530].filterMap (fun i => lw_tbl[i]?) := by decide +kernel
theorem x_lay4 : u_ws "LoanTerms$Node" xT4 5 = [326, 328, 330, 332, 334].filterMap (fun i => lw_tbl[i]?) := by decide +kernel
theorem x_lay5 : u_ws "LoanTerms$Reader" xT5 2 = [253, 255].filterMap (fun i => lw_tbl[i]?) := by decide +kernel
theorem x_lay6 : u_ws "LoanTerms$Row" xT6 2 = [73, 75].filterMap (fun i => lw_tbl[i]?) := by decide +kernel
theorem x_lay7 : u_ws "LoanTerms$Span" xT7 3 = [481, 483, 485].filterMap (fun i => lw_tbl[i]?) := by decide +kernel
theorem x_lay8 : u_ws "LoanTermsModel" xT8 37 = [723, 725, 727, 729, 731, 733, 735, 737, 739, 741, 743, 745, 747, 749, 751, 753, 755, 757, 759, 761, 763, 765, 767, 769, 771, 773, 775, 777, 779, 781, 783, 785, 787, 789, 791, 793, 795].filterMap (fun i => lw_tbl[i]?) := by decide +kernel
theorem x_layin {C : String} {T : u_T} {N : Nat} {ps : List Nat} (h : u_ws C T N = ps.filterMap (fun i => lw_tbl[i]?)) : ∀ w ∈ u_ws C T N, w ∈ xTB := by
  intro w hw
  refine List.mem_filter.mpr ⟨?_, ?_⟩
  · rw [h] at hw
    obtain ⟨i, -, hi⟩ := List.mem_filterMap.mp hw
    exact List.mem_of_getElem? hi
  · obtain ⟨k, -, rfl⟩ := List.mem_map.mp hw
    unfold u_lay
    split <;> rfl
/-- what holds of each kind of objects -/
def xKd (c : Nat) (C : String) (T : u_T) (N : Nat) : Prop := (∀ w ∈ u_ws C T N, w ∈ xTB) ∧ (∀ j, j < N → parseFieldDescriptor (T j).2.2.1 = some (xft c j)) ∧ (∀ a, a < N → ∀ b, b < N → a ≠ b → (T a).2.1 ≠ (T b).2.1) ∧ (∀ j, j < N → defaultValue (xft c j) = vp_V (xdf c) j) ∧ (xdf c).length = N ∧ (∀ j, j < N → (T j).1 = C) ∧ Jvm.Cond.instantiable C N ∈ xTB ∧ Jvm.Cond.initialized C ∈ xTB
theorem x_kd0 : xKd 0 "LoanTerms" xT0 9 := ⟨x_layin x_lay0, by decide +kernel, by decide +kernel, by decide +kernel, by decide +kernel, by decide +kernel, x_at_in (i := 56) (by decide +kernel) rfl, x_at_in (i := 40) (by decide +kernel) rfl⟩
theorem x_kd1 : xKd 1 "LoanTerms$Contract" xT1 3 := ⟨x_layin x_lay1, by decide +kernel, by decide +kernel, by decide +kernel, by decide +kernel, by decide +kernel, x_at_in (i := 263) (by decide +kernel) rfl, x_at_in (i := 50) (by decide +kernel) rfl⟩
theorem x_kd2 : xKd 2 "LoanTerms$Input" xT2 5 := ⟨x_layin x_lay2, by decide +kernel, by decide +kernel, by decide +kernel, by decide +kernel, by decide +kernel, x_at_in (i := 87) (by decide +kernel) rfl, x_at_in (i := 42) (by decide +kernel) rfl⟩
theorem x_kd3 : xKd 3 "LoanTerms$Loan" xT3 7 := ⟨x_layin x_lay3, by decide +kernel, by decide +kernel, by decide +kernel, by decide +kernel, by decide +kernel, x_at_in (i := 500) (by decide +kernel) rfl, x_at_in (i := 54) (by decide +kernel) rfl⟩
theorem x_kd4 : xKd 4 "LoanTerms$Node" xT4 5 := ⟨x_layin x_lay4, by decide +kernel, by decide +kernel, by decide +kernel, by decide +kernel, by decide +kernel, x_at_in (i := 306) (by decide +kernel) rfl, x_at_in (i := 51) (by decide +kernel) rfl⟩
theorem x_kd5 : xKd 5 "LoanTerms$Reader" xT5 2 := ⟨x_layin x_lay5, by decide +kernel, by decide +kernel, by decide +kernel, by decide +kernel, by decide +kernel, x_at_in (i := 245) (by decide +kernel) rfl, x_at_in (i := 49) (by decide +kernel) rfl⟩
theorem x_kd6 : xKd 6 "LoanTerms$Row" xT6 2 := ⟨x_layin x_lay6, by decide +kernel, by decide +kernel, by decide +kernel, by decide +kernel, by decide +kernel, x_at_in (i := 64) (by decide +kernel) rfl, x_at_in (i := 41) (by decide +kernel) rfl⟩
theorem x_kd7 : xKd 7 "LoanTerms$Span" xT7 3 := ⟨x_layin x_lay7, by decide +kernel, by decide +kernel, by decide +kernel, by decide +kernel, by decide +kernel, x_at_in (i := 470) (by decide +kernel) rfl, x_at_in (i := 53) (by decide +kernel) rfl⟩
theorem x_kd8 : xKd 8 "LoanTermsModel" xT8 37 := ⟨x_layin x_lay8, by decide +kernel, by decide +kernel, by decide +kernel, by decide +kernel, by decide +kernel, x_at_in (i := 681) (by decide +kernel) rfl, x_at_in (i := 43) (by decide +kernel) rfl⟩
theorem x_kd {c : Nat} {C : String} {T : u_T} {N : Nat} (h : vwCl[c]? = some (C, T, N)) : xKd c C T N := by
  match c, h with
  | 0, h => cases h; exact x_kd0
  | 1, h => cases h; exact x_kd1
  | 2, h => cases h; exact x_kd2
  | 3, h => cases h; exact x_kd3
  | 4, h => cases h; exact x_kd4
  | 5, h => cases h; exact x_kd5
  | 6, h => cases h; exact x_kd6
  | 7, h => cases h; exact x_kd7
  | 8, h => cases h; exact x_kd8
  | c + 9, h => simp [vwCl] at h
theorem x_cn {c : Nat} {r : vw_C} (h : vwCl[c]? = some r) : xCn c = r.1 := by unfold xCn; rw [h]; rfl
/-- links of fields: owner, entry, kind, field, place -/
def x_flT : List (Nat × Nat × Nat × Nat × Nat) := [(0, 10, 0, 0, 111), (0, 16, 0, 1, 112), (0, 21, 0, 2, 113), (0, 27, 0, 3, 114), (0, 33, 0, 4, 115), (0, 39, 0, 5, 116), (0, 43, 0, 6, 117), (0, 47, 0, 7, 118), (0, 50, 0, 8, 119), (0, 54, 6, 1, 71), (0, 87, 5, 1, 252), (0, 94, 1, 2, 276), (0, 95, 1, 1, 274), (0, 106, 2, 2, 95), (0, 125, 2, 3, 97), (0, 128, 2, 4, 99), (0, 153, 3, 5, 515), (0, 160, 3, 4, 513), (0, 167, 3, 0, 506), (0, 190, 3, 6, 517), (0, 195, 3, 1, 508), (0, 199, 3, 2, 510), (0, 207, 7, 2, 480), (0, 210, 7, 0, 476), (0, 213, 7, 1, 478), (0, 261, 4, 0, 313), (0, 266, 4, 3, 321), (0, 280, 4, 4, 325), (0, 283, 4, 1, 316), (1, 11, 1, 0, 272), (1, 20, 1, 1, 273), (1, 24, 1, 2, 275), (1, 36, 4, 0, 312), (1, 39, 4, 3, 320), (1, 46, 4, 1, 315), (1, 49, 4, 2, 318), (1, 55, 4, 4, 324), (2, 9, 2, 0, 92), (2, 15, 2, 1, 93), (2, 18, 2, 2, 94), (2, 22, 2, 3, 96), (2, 25, 2, 4, 98), (3, 9, 3, 1, 507), (3, 15, 3, 2, 509), (3, 18, 3, 3, 511), (3, 22, 3, 5, 514), (3, 26, 3, 6, 516), (3, 30, 3, 0, 505), (3, 34, 3, 4, 512), (3, 44, 1, 2, 277), (4, 9, 4, 4, 322), (4, 15, 4, 0, 311), (4, 19, 4, 1, 314), (4, 22, 4, 2, 317), (4, 25, 4, 3, 319), (5, 9, 5, 1, 251), (5, 15, 5, 0, 250), (5, 30, 6, 1, 72), (5, 42, 4, 4, 323), (6, 9, 6, 0, 69), (6, 15, 6, 1, 70), (7, 7, 7, 0, 475), (7, 13, 7, 1, 477), (7, 16, 7, 2, 479), (8, 7, 8, 2, 688), (8, 13, 8, 4, 690), (8, 16, 8, 5, 691), (8, 19, 8, 6, 692), (8, 22, 8, 7, 693), (8, 25, 8, 8, 694), (8, 28, 8, 9, 695), (8, 31, 8, 10, 696), (8, 34, 8, 11, 697), (8, 37, 8, 12, 698), (8, 40, 8, 13, 699), (8, 43, 8, 14, 700), (8, 46, 8, 16, 702), (8, 49, 8, 18, 704), (8, 52, 8, 19, 705), (8, 55, 8, 20, 706), (8, 58, 8, 21, 707), (8, 61, 8, 22, 708), (8, 64, 8, 24, 710), (8, 67, 8, 25, 711), (8, 70, 8, 26, 712), (8, 73, 8, 27, 713), (8, 76, 8, 28, 714), (8, 80, 8, 29, 715), (8, 83, 8, 30, 716), (8, 86, 8, 31, 717), (8, 89, 8, 32, 718), (8, 92, 8, 34, 720), (8, 95, 8, 35, 721), (8, 98, 8, 36, 722), (8, 101, 8, 0, 686), (8, 105, 8, 23, 709), (8, 109, 8, 1, 687), (8, 135, 8, 3, 689), (8, 149, 8, 17, 703), (8, 158, 8, 15, 701), (8, 196, 8, 33, 719)]
def x_flC (q : Nat × Nat × Nat × Nat × Nat) : Bool := match vwCl[q.2.2.1]? with
  | some r => decide (q.2.2.2.1 < r.2.2) && x_at q.2.2.2.2 (.fieldLink (xCn q.1) q.2.1 r.1 (r.2.1 q.2.2.2.1).2.1 (r.2.1 q.2.2.2.1).2.2.1)
  | none => false
theorem x_fl_all : x_flT.all x_flC = true := by decide +kernel
def xfl (ow k : Nat) : Option (Nat × Nat) := (x_flT.find? fun q => q.1 == ow && q.2.1 == k).map fun q => (q.2.2.1, q.2.2.2.1)
theorem x_fl_ok {ow k : Nat} {f : Nat × Nat} (h : xfl ow k = some f) : ∃ C T N, vwCl[f.1]? = some (C, T, N) ∧ f.2 < N ∧ Jvm.Cond.fieldLink (xCn ow) k C (T f.2).2.1 (T f.2).2.2.1 ∈ xTB ∧ (T f.2).1 = C ∧ (∀ w ∈ u_ws C T N, w ∈ xTB) ∧ (∀ j, j < N → parseFieldDescriptor (T j).2.2.1 = some (xft f.1 j)) ∧ (∀ a, a < N → ∀ b, b < N → a ≠ b → (T a).2.1 ≠ (T b).2.1) ∧ xfin f.1 f.2 = (T f.2).2.2.2 := by
  unfold xfl at h
  obtain ⟨q, hq, rfl⟩ := Option.map_eq_some_iff.mp h
  have h1 := List.all_eq_true.mp x_fl_all q (List.mem_of_find?_eq_some hq)
  have h2 := List.find?_some hq
  simp only [Bool.and_eq_true, beq_iff_eq] at h2
  obtain ⟨rfl, rfl⟩ := h2
  unfold x_flC at h1
  split at h1
  · rename_i r hr
    obtain ⟨C, T, N⟩ := r
    rw [Bool.and_eq_true] at h1
    have hk := of_decide_eq_true h1.1
    obtain ⟨k1, k2, k3, k4, k5, k6, k7, k8⟩ := x_kd hr
    exact ⟨C, T, N, hr, hk, x_at_in h1.2 rfl, k6 _ hk, k1, k2, k3, by unfold xfin; rw [hr]⟩
  · cases h1
def x_nwT : List (Nat × Nat × Nat × Nat) := [(0, 7, 6, 63), (0, 25, 2, 81), (0, 31, 3, 83), (0, 37, 7, 85), (0, 75, 5, 244), (1, 17, 6, 270), (5, 19, 1, 262), (5, 43, 4, 305)]
def x_nwC (q : Nat × Nat × Nat × Nat) : Bool := match vwCl[q.2.2.1]? with
  | some r => x_at q.2.2.2 (.classLink (xCn q.1) q.2.1 r.1)
  | none => false
theorem x_nw_all : x_nwT.all x_nwC = true := by decide +kernel
def xnw (ow k : Nat) : Option Nat := (x_nwT.find? fun q => q.1 == ow && q.2.1 == k).map fun q => q.2.2.1
theorem x_nw_ok {ow k c : Nat} (h : xnw ow k = some c) : ∃ C T N, vwCl[c]? = some (C, T, N) ∧ Jvm.Cond.classLink (xCn ow) k C ∈ xTB ∧ Jvm.Cond.instantiable C N ∈ xTB ∧ Jvm.Cond.initialized C ∈ xTB ∧ (∀ w ∈ u_ws C T N, w ∈ xTB) ∧ (∀ j, j < N → parseFieldDescriptor (T j).2.2.1 = some (xft c j)) ∧ (∀ j, j < N → defaultValue (xft c j) = vp_V (xdf c) j) ∧ (xdf c).length = N := by
  unfold xnw at h
  obtain ⟨q, hq, rfl⟩ := Option.map_eq_some_iff.mp h
  have h1 := List.all_eq_true.mp x_nw_all q (List.mem_of_find?_eq_some hq)
  have h2 := List.find?_some hq
  simp only [Bool.and_eq_true, beq_iff_eq] at h2
  obtain ⟨rfl, rfl⟩ := h2
  unfold x_nwC at h1
  split at h1
  · rename_i r hr
    obtain ⟨C, T, N⟩ := r
    obtain ⟨k1, k2, k3, k4, k5, k6, k7, k8⟩ := x_kd hr
    exact ⟨C, T, N, hr, x_at_in h1 rfl, k7, k8, k1, k2, k4, k5⟩
  · cases h1
def x_acT : List (Nat × Nat × Nat × Nat) := [(0, 19, 2, 79), (0, 25, 3, 81), (0, 31, 4, 83), (0, 37, 5, 85), (1, 9, 6, 268)]
def x_acC (q : Nat × Nat × Nat × Nat) : Bool := match xty[q.2.2.1]? with
  | some (.object C) => x_at q.2.2.2 (.classLink (xCn q.1) q.2.1 C)
  | _ => false
theorem x_ac_all : x_acT.all x_acC = true := by decide +kernel
def xac (ow k : Nat) : Option Nat := (x_acT.find? fun q => q.1 == ow && q.2.1 == k).map fun q => q.2.2.1
theorem x_ac_ok {ow k t : Nat} (h : xac ow k = some t) : ∃ C, xty[t]? = some (.object C) ∧ Jvm.Cond.classLink (xCn ow) k C ∈ xTB := by
  unfold xac at h
  obtain ⟨q, hq, rfl⟩ := Option.map_eq_some_iff.mp h
  have h1 := List.all_eq_true.mp x_ac_all q (List.mem_of_find?_eq_some hq)
  have h2 := List.find?_some hq
  simp only [Bool.and_eq_true, beq_iff_eq] at h2
  obtain ⟨rfl, rfl⟩ := h2
  unfold x_acC at h1
  split at h1
  · rename_i C hr
    exact ⟨C, hr, x_at_in h1 rfl⟩
  · cases h1
def x_ldT : List (Nat × Nat × Int32 × Nat) := [(0, 117, 999999, 436), (0, 255, 2400000, 431), (0, 256, 100000, 468), (8, 108, 100000, 891), (8, 171, 2400000, 875), (8, 172, 999999, 876)]
def x_ldC (q : Nat × Nat × Int32 × Nat) : Bool := x_at q.2.2.2 (.constant (xCn q.1) q.2.1 q.2.2.1)
theorem x_ld_all : x_ldT.all x_ldC = true := by decide +kernel
def xldc (ow k : Nat) : Option Int32 := (x_ldT.find? fun q => q.1 == ow && q.2.1 == k).map fun q => q.2.2.1
theorem x_ldc_ok {ow k : Nat} {v : Int32} (h : xldc ow k = some v) : Jvm.Cond.constant (xCn ow) k v ∈ xTB := by
  unfold xldc at h
  obtain ⟨q, hq, rfl⟩ := Option.map_eq_some_iff.mp h
  have h1 := List.all_eq_true.mp x_ld_all q (List.mem_of_find?_eq_some hq)
  have h2 := List.find?_some hq
  simp only [Bool.and_eq_true, beq_iff_eq] at h2
  obtain ⟨rfl, rfl⟩ := h2
  exact x_at_in h1 rfl
theorem x_arr_int : Jvm.Cond.arrayClass .int ∈ xTB := x_at_in (i := 78) (by decide +kernel) rfl
theorem x_arr_bool : Jvm.Cond.arrayClass .boolean ∈ xTB := x_at_in (i := 533) (by decide +kernel) rfl
theorem x_arr_long : Jvm.Cond.arrayClass .long ∈ xTB := x_at_in (i := 972) (by decide +kernel) rfl
/-- a method: name, code, locals, return, owner, parameters, throws (pc, what, the three entries, text, wide) -/
abbrev xTs : Type := Nat × String × Nat × Nat × Nat × String × Bool
abbrev xMt : Type := MethodName × ByteArray × Nat × Option FieldType × Nat × Nat × List xTs
def xN (y : xMt) : MethodName := y.1
def xC (y : xMt) : ByteArray := y.2.1
def xm (y : xMt) : Nat := y.2.2.1
def xR (y : xMt) : Option FieldType := y.2.2.2.1
def xo (y : xMt) : Nat := y.2.2.2.2.1
def xnp (y : xMt) : Nat := y.2.2.2.2.2.1
def xtl (y : xMt) : List xTs := y.2.2.2.2.2.2
def xth (y : xMt) (pc : Nat) : Option xTs := (xtl y).find? fun q => q.1 == pc
def k_L_init : xMt := (⟨"LoanTerms", "<init>", "()V"⟩, prog_1_method_1_code, 2, none, 0, 0, [])
def k_L_unit : xMt := (⟨"LoanTerms", "unit", "(I)I"⟩, prog_1_method_2_code, 2, some .int, 0, 1, [(12, "java/lang/IllegalStateException", 57, 59, 61, "the pad is full", false), (34, "java/lang/IllegalArgumentException", 64, 66, 68, "no sign", false)])
def k_L_read : xMt := (⟨"LoanTerms", "read", "()I"⟩, prog_1_method_3_code, 3, some .int, 0, 0, [(9, "java/lang/IllegalStateException", 57, 73, 61, "there are eight contracts", false)])
def k_L_terms : xMt := (⟨"LoanTerms", "terms", "(I)I"⟩, prog_1_method_4_code, 2, some .int, 0, 1, [])
def k_L_written : xMt := (⟨"LoanTerms", "written", "(II)I"⟩, prog_1_method_5_code, 3, some .int, 0, 2, [])
def k_L_input : xMt := (⟨"LoanTerms", "input", "(III)I"⟩, prog_1_method_6_code, 5, some .int, 0, 3, [(17, "java/lang/IllegalStateException", 57, 107, 61, "the input has 60 rows", false), (53, "java/lang/IllegalArgumentException", 64, 118, 68, "hour or value", false)])
def k_L_fails : xMt := (⟨"LoanTerms", "fails", "(III)V"⟩, prog_1_method_7_code, 5, none, 0, 3, [(26, "java/lang/IllegalArgumentException", 64, 123, 68, "hours", false)])
def k_L_loan : xMt := (⟨"LoanTerms", "loan", "(IIII)I"⟩, prog_1_method_8_code, 7, some .int, 0, 4, [(20, "java/lang/IllegalStateException", 57, 134, 61, "there are 20 loans", false)])
def k_L_shield : xMt := (⟨"LoanTerms", "shield", "(IZ)Z"⟩, prog_1_method_9_code, 5, some .boolean, 0, 2, [])
def k_L_ask : xMt := (⟨"LoanTerms", "ask", "(II)I"⟩, prog_1_method_10_code, 7, some .int, 0, 2, [])
def k_L_open : xMt := (⟨"LoanTerms", "open", "(III)I"⟩, prog_1_method_11_code, 7, some .int, 0, 3, [(11, "java/lang/IndexOutOfBoundsException", 185, 187, 189, "k is below 0", false)])
def k_L_told : xMt := (⟨"LoanTerms", "told", "(III)I"⟩, prog_1_method_12_code, 5, some .int, 0, 3, [(30, "java/lang/IndexOutOfBoundsException", 185, 193, 189, "no such place", false)])
def k_L_extend : xMt := (⟨"LoanTerms", "extend", "(III)I"⟩, prog_1_method_13_code, 6, some .int, 0, 3, [(21, "java/lang/IllegalArgumentException", 64, 205, 68, "days", false)])
def k_L_request : xMt := (⟨"LoanTerms", "request", "(III)I"⟩, prog_1_method_14_code, 4, some .int, 0, 3, [(13, "java/lang/IllegalStateException", 57, 216, 61, "there are 30 requests", false)])
def k_L_clash : xMt := (⟨"LoanTerms", "clash", "(II)I"⟩, prog_1_method_15_code, 6, some .int, 0, 2, [(13, "java/lang/IndexOutOfBoundsException", 185, 193, 189, "no such place", false)])
def k_L_days : xMt := (⟨"LoanTerms", "days", "(I)I"⟩, prog_1_method_16_code, 2, some .int, 0, 1, [])
def k_L_fee : xMt := (⟨"LoanTerms", "fee", "(I)I"⟩, prog_1_method_17_code, 2, some .int, 0, 1, [])
def k_L_letter : xMt := (⟨"LoanTerms", "letter", "(II)I"⟩, prog_1_method_18_code, 5, some .int, 0, 2, [])
def k_L_count : xMt := (⟨"LoanTerms", "count", "(I)I"⟩, prog_1_method_19_code, 2, some .int, 0, 1, [(64, "java/lang/IndexOutOfBoundsException", 185, 242, 189, "nothing that is counted", false)])
def k_L_inputRows : xMt := (⟨"LoanTerms", "inputRows", "()I"⟩, prog_1_method_20_code, 3, some .int, 0, 0, [])
def k_L_contractOf : xMt := (⟨"LoanTerms", "contractOf", "(I)LLoanTerms$Contract;"⟩, prog_1_method_21_code, 3, some (.object "LoanTerms$Contract"), 0, 1, [(25, "java/lang/IndexOutOfBoundsException", 185, 244, 189, "no such contract", false)])
def k_L_inputOf : xMt := (⟨"LoanTerms", "inputOf", "(I)LLoanTerms$Input;"⟩, prog_1_method_22_code, 3, some (.object "LoanTerms$Input"), 0, 1, [(25, "java/lang/IndexOutOfBoundsException", 185, 246, 189, "no such input", false)])
def k_L_loanOf : xMt := (⟨"LoanTerms", "loanOf", "(I)LLoanTerms$Loan;"⟩, prog_1_method_23_code, 3, some (.object "LoanTerms$Loan"), 0, 1, [(25, "java/lang/IndexOutOfBoundsException", 185, 248, 189, "no such loan", false)])
def k_L_spanAt : xMt := (⟨"LoanTerms", "spanAt", "(I)LLoanTerms$Span;"⟩, prog_1_method_24_code, 3, some (.object "LoanTerms$Span"), 0, 1, [])
def k_L_numberAt : xMt := (⟨"LoanTerms", "numberAt", "(I)I"⟩, prog_1_method_25_code, 2, some .int, 0, 1, [])
def k_L_clashesWithLoan : xMt := (⟨"LoanTerms", "clashesWithLoan", "(LLoanTerms$Span;I)Z"⟩, prog_1_method_26_code, 4, some .boolean, 0, 2, [])
def k_L_areClashing : xMt := (⟨"LoanTerms", "areClashing", "(LLoanTerms$Span;LLoanTerms$Span;)Z"⟩, prog_1_method_27_code, 2, some .boolean, 0, 2, [])
def k_L_signOrSize : xMt := (⟨"LoanTerms", "signOrSize", "(LLoanTerms$Row;I)I"⟩, prog_1_method_28_code, 2, some .int, 0, 2, [(13, "java/lang/IndexOutOfBoundsException", 185, 250, 189, "no such sign", false)])
def k_L_isHour : xMt := (⟨"LoanTerms", "isHour", "(I)Z"⟩, prog_1_method_29_code, 1, some .boolean, 0, 1, [])
def k_L_isDay : xMt := (⟨"LoanTerms", "isDay", "(I)Z"⟩, prog_1_method_30_code, 1, some .boolean, 0, 1, [])
def k_L_refuseNoHour : xMt := (⟨"LoanTerms", "refuseNoHour", "(I)V"⟩, prog_1_method_31_code, 1, none, 0, 1, [(7, "java/lang/IllegalArgumentException", 64, 257, 68, "no hour", true)])
def k_L_refuseNoDays : xMt := (⟨"LoanTerms", "refuseNoDays", "(II)V"⟩, prog_1_method_32_code, 2, none, 0, 2, [(19, "java/lang/IllegalArgumentException", 64, 205, 68, "days", false)])
def k_L_refuseNoThing : xMt := (⟨"LoanTerms", "refuseNoThing", "(I)V"⟩, prog_1_method_33_code, 1, none, 0, 1, [(10, "java/lang/IndexOutOfBoundsException", 185, 259, 189, "no such thing", true)])
def k_L_stateOf : xMt := (⟨"LoanTerms", "stateOf", "(LLoanTerms$Node;LLoanTerms$Loan;II)I"⟩, prog_1_method_34_code, 5, some .int, 0, 4, [])
def k_L_stateOfGroup : xMt := (⟨"LoanTerms", "stateOfGroup", "(LLoanTerms$Node;LLoanTerms$Loan;II)I"⟩, prog_1_method_35_code, 8, some .int, 0, 4, [])
def k_L_stateOfName : xMt := (⟨"LoanTerms", "stateOfName", "(LLoanTerms$Node;LLoanTerms$Loan;I)I"⟩, prog_1_method_36_code, 5, some .int, 0, 3, [])
def k_L_turnedRound : xMt := (⟨"LoanTerms", "turnedRound", "(I)I"⟩, prog_1_method_37_code, 1, some .int, 0, 1, [])
def k_C_init : xMt := (⟨"LoanTerms$Contract", "<init>", "()V"⟩, prog_2_method_1_code, 1, none, 1, 0, [])
def k_C_add : xMt := (⟨"LoanTerms$Contract", "add", "(LLoanTerms$Node;)V"⟩, prog_2_method_2_code, 2, none, 1, 1, [])
def k_C_termAt : xMt := (⟨"LoanTerms$Contract", "termAt", "(I)LLoanTerms$Node;"⟩, prog_2_method_3_code, 2, some (.object "LoanTerms$Node"), 1, 1, [])
def k_C_write : xMt := (⟨"LoanTerms$Contract", "write", "(LLoanTerms$Node;I)V"⟩, prog_2_method_4_code, 3, none, 1, 2, [])
def k_C_writeGroup : xMt := (⟨"LoanTerms$Contract", "writeGroup", "(LLoanTerms$Node;I)V"⟩, prog_2_method_5_code, 5, none, 1, 2, [])
def k_I_init : xMt := (⟨"LoanTerms$Input", "<init>", "()V"⟩, prog_3_method_1_code, 1, none, 2, 0, [])
def k_I_add : xMt := (⟨"LoanTerms$Input", "add", "(II)V"⟩, prog_3_method_2_code, 3, none, 2, 2, [])
def k_I_lastHour : xMt := (⟨"LoanTerms$Input", "lastHour", "()I"⟩, prog_3_method_3_code, 1, some .int, 2, 0, [])
def k_I_valueAt : xMt := (⟨"LoanTerms$Input", "valueAt", "(I)I"⟩, prog_3_method_4_code, 3, some .int, 2, 1, [])
def k_O_init : xMt := (⟨"LoanTerms$Loan", "<init>", "(LLoanTerms$Contract;LLoanTerms$Span;)V"⟩, prog_4_method_1_code, 3, none, 3, 2, [])
def k_O_forget : xMt := (⟨"LoanTerms$Loan", "forget", "(I)V"⟩, prog_4_method_2_code, 2, none, 3, 1, [])
def k_O_tell : xMt := (⟨"LoanTerms$Loan", "tell", "(II)V"⟩, prog_4_method_3_code, 3, none, 3, 2, [])
def k_O_price : xMt := (⟨"LoanTerms$Loan", "price", "()I"⟩, prog_4_method_4_code, 2, some .int, 3, 0, [])
def k_N_init : xMt := (⟨"LoanTerms$Node", "<init>", "(ILLoanTerms$Node;)V"⟩, prog_5_method_1_code, 3, none, 4, 2, [])
def k_N_init2 : xMt := (⟨"LoanTerms$Node", "<init>", "(III)V"⟩, prog_5_method_2_code, 4, none, 4, 3, [])
def k_N_compared : xMt := (⟨"LoanTerms$Node", "compared", "(I)I"⟩, prog_5_method_3_code, 3, some .int, 4, 1, [])
def k_R_init : xMt := (⟨"LoanTerms$Reader", "<init>", "(LLoanTerms$Row;)V"⟩, prog_6_method_1_code, 2, none, 5, 1, [])
def k_R_readContract : xMt := (⟨"LoanTerms$Reader", "readContract", "()LLoanTerms$Contract;"⟩, prog_6_method_2_code, 4, some (.object "LoanTerms$Contract"), 5, 0, [])
def k_R_readGroup : xMt := (⟨"LoanTerms$Reader", "readGroup", "(II)LLoanTerms$Node;"⟩, prog_6_method_3_code, 7, some (.object "LoanTerms$Node"), 5, 2, [])
def k_R_readItem : xMt := (⟨"LoanTerms$Reader", "readItem", "(II)LLoanTerms$Node;"⟩, prog_6_method_4_code, 3, some (.object "LoanTerms$Node"), 5, 2, [])
def k_R_readBit : xMt := (⟨"LoanTerms$Reader", "readBit", "(II)LLoanTerms$Node;"⟩, prog_6_method_5_code, 4, some (.object "LoanTerms$Node"), 5, 2, [])
def k_R_readName : xMt := (⟨"LoanTerms$Reader", "readName", "()LLoanTerms$Node;"⟩, prog_6_method_6_code, 3, some (.object "LoanTerms$Node"), 5, 0, [])
def k_R_readNumber : xMt := (⟨"LoanTerms$Reader", "readNumber", "()I"⟩, prog_6_method_7_code, 3, some .int, 5, 0, [])
def k_R_sign : xMt := (⟨"LoanTerms$Reader", "sign", "()I"⟩, prog_6_method_8_code, 1, some .int, 5, 0, [])
def k_R_isName : xMt := (⟨"LoanTerms$Reader", "isName", "(I)Z"⟩, prog_6_method_9_code, 1, some .boolean, 5, 1, [])
def k_R_isDigit : xMt := (⟨"LoanTerms$Reader", "isDigit", "(I)Z"⟩, prog_6_method_10_code, 1, some .boolean, 5, 1, [])
def k_W_init : xMt := (⟨"LoanTerms$Row", "<init>", "()V"⟩, prog_7_method_1_code, 1, none, 6, 0, [])
def k_W_clear : xMt := (⟨"LoanTerms$Row", "clear", "()V"⟩, prog_7_method_2_code, 1, none, 6, 0, [])
def k_W_add : xMt := (⟨"LoanTerms$Row", "add", "(I)V"⟩, prog_7_method_3_code, 2, none, 6, 1, [])
def k_W_addNumber : xMt := (⟨"LoanTerms$Row", "addNumber", "(I)V"⟩, prog_7_method_4_code, 5, none, 6, 1, [])
def k_W_signAt : xMt := (⟨"LoanTerms$Row", "signAt", "(I)I"⟩, prog_7_method_5_code, 2, some .int, 6, 1, [])
def k_P_init : xMt := (⟨"LoanTerms$Span", "<init>", "(III)V"⟩, prog_8_method_1_code, 4, none, 7, 3, [])
def k_P_hasDay : xMt := (⟨"LoanTerms$Span", "hasDay", "(I)Z"⟩, prog_8_method_2_code, 2, some .boolean, 7, 1, [])
def k_P_length : xMt := (⟨"LoanTerms$Span", "length", "()I"⟩, prog_8_method_3_code, 1, some .int, 7, 0, [])
def k_M_init : xMt := (⟨"LoanTermsModel", "<init>", "()V"⟩, prog_10_method_1_code, 2, none, 8, 0, [])
def k_M_thrown : xMt := (⟨"LoanTermsModel", "thrown", "()I"⟩, prog_10_method_2_code, 1, some .int, 8, 0, [])
def k_M_goes : xMt := (⟨"LoanTermsModel", "goes", "(ZZZ)Z"⟩, prog_10_method_3_code, 4, some .boolean, 8, 3, [])
def k_M_within : xMt := (⟨"LoanTermsModel", "within", "(III)Z"⟩, prog_10_method_4_code, 3, some .boolean, 8, 3, [])
def k_M_isLoan : xMt := (⟨"LoanTermsModel", "isLoan", "(I)Z"⟩, prog_10_method_5_code, 2, some .boolean, 8, 1, [])
def k_M_isThing : xMt := (⟨"LoanTermsModel", "isThing", "(I)Z"⟩, prog_10_method_6_code, 1, some .boolean, 8, 1, [])
def k_M_areDays : xMt := (⟨"LoanTermsModel", "areDays", "(II)Z"⟩, prog_10_method_7_code, 2, some .boolean, 8, 2, [])
def k_M_unit : xMt := (⟨"LoanTermsModel", "unit", "(I)I"⟩, prog_10_method_8_code, 2, some .int, 8, 1, [])
def k_M_isDigit : xMt := (⟨"LoanTermsModel", "isDigit", "(I)Z"⟩, prog_10_method_9_code, 1, some .boolean, 8, 1, [])
def k_M_isName : xMt := (⟨"LoanTermsModel", "isName", "(I)Z"⟩, prog_10_method_10_code, 1, some .boolean, 8, 1, [])
def k_M_fault : xMt := (⟨"LoanTermsModel", "fault", "()I"⟩, prog_10_method_11_code, 11, some .int, 8, 0, [])
def k_M_node : xMt := (⟨"LoanTermsModel", "node", "(III)I"⟩, prog_10_method_12_code, 5, some .int, 8, 3, [])
def k_M_begin : xMt := (⟨"LoanTermsModel", "begin", "(II)I"⟩, prog_10_method_13_code, 4, some .int, 8, 2, [])
def k_M_build : xMt := (⟨"LoanTermsModel", "build", "(I)V"⟩, prog_10_method_14_code, 9, none, 8, 1, [])
def k_M_read : xMt := (⟨"LoanTermsModel", "read", "()I"⟩, prog_10_method_15_code, 2, some .int, 8, 0, [])
def k_M_isContract : xMt := (⟨"LoanTermsModel", "isContract", "(I)Z"⟩, prog_10_method_16_code, 2, some .boolean, 8, 1, [])
def k_M_terms : xMt := (⟨"LoanTermsModel", "terms", "(I)I"⟩, prog_10_method_17_code, 2, some .int, 8, 1, [])
def k_M_put : xMt := (⟨"LoanTermsModel", "put", "(I)V"⟩, prog_10_method_18_code, 2, none, 8, 1, [])
def k_M_putNumber : xMt := (⟨"LoanTermsModel", "putNumber", "(I)V"⟩, prog_10_method_19_code, 3, none, 8, 1, [])
def k_M_children : xMt := (⟨"LoanTermsModel", "children", "(II)I"⟩, prog_10_method_20_code, 5, some .int, 8, 2, [])
def k_M_unfold : xMt := (⟨"LoanTermsModel", "unfold", "(II)V"⟩, prog_10_method_21_code, 6, none, 8, 2, [])
def k_M_write : xMt := (⟨"LoanTermsModel", "write", "(I)V"⟩, prog_10_method_22_code, 6, none, 8, 1, [])
def k_M_written : xMt := (⟨"LoanTermsModel", "written", "(II)I"⟩, prog_10_method_23_code, 4, some .int, 8, 2, [])
def k_M_input : xMt := (⟨"LoanTermsModel", "input", "(III)I"⟩, prog_10_method_24_code, 7, some .int, 8, 3, [])
def k_M_fails : xMt := (⟨"LoanTermsModel", "fails", "(III)V"⟩, prog_10_method_25_code, 4, none, 8, 3, [])
def k_M_valueAt : xMt := (⟨"LoanTermsModel", "valueAt", "(II)I"⟩, prog_10_method_26_code, 5, some .int, 8, 2, [])
def k_M_isOut : xMt := (⟨"LoanTermsModel", "isOut", "(IIII)Z"⟩, prog_10_method_27_code, 6, some .boolean, 8, 4, [])
def k_M_loan : xMt := (⟨"LoanTermsModel", "loan", "(IIII)I"⟩, prog_10_method_28_code, 5, some .int, 8, 4, [])
def k_M_shield : xMt := (⟨"LoanTermsModel", "shield", "(IZ)Z"⟩, prog_10_method_29_code, 4, some .boolean, 8, 2, [])
def k_M_leaf : xMt := (⟨"LoanTermsModel", "leaf", "(III)I"⟩, prog_10_method_30_code, 9, some .int, 8, 3, [])
def k_M_work : xMt := (⟨"LoanTermsModel", "work", "(II)V"⟩, prog_10_method_31_code, 9, none, 8, 2, [])
def k_M_ask : xMt := (⟨"LoanTermsModel", "ask", "(II)I"⟩, prog_10_method_32_code, 7, some .int, 8, 2, [])
def k_M_open : xMt := (⟨"LoanTermsModel", "open", "(III)I"⟩, prog_10_method_33_code, 7, some .int, 8, 3, [])
def k_M_told : xMt := (⟨"LoanTermsModel", "told", "(III)I"⟩, prog_10_method_34_code, 5, some .int, 8, 3, [])
def k_M_extend : xMt := (⟨"LoanTermsModel", "extend", "(III)I"⟩, prog_10_method_35_code, 4, some .int, 8, 3, [])
def k_M_request : xMt := (⟨"LoanTermsModel", "request", "(III)I"⟩, prog_10_method_36_code, 4, some .int, 8, 3, [])
def k_M_isPair : xMt := (⟨"LoanTermsModel", "isPair", "(II)Z"⟩, prog_10_method_37_code, 9, some .boolean, 8, 2, [])
def k_M_clash : xMt := (⟨"LoanTermsModel", "clash", "(II)I"⟩, prog_10_method_38_code, 6, some .int, 8, 2, [])
def k_M_allDays : xMt := (⟨"LoanTermsModel", "allDays", "(I)I"⟩, prog_10_method_39_code, 2, some .int, 8, 1, [])
def k_M_days : xMt := (⟨"LoanTermsModel", "days", "(I)I"⟩, prog_10_method_40_code, 2, some .int, 8, 1, [])
def k_M_allFee : xMt := (⟨"LoanTermsModel", "allFee", "(I)I"⟩, prog_10_method_41_code, 2, some .int, 8, 1, [])
def k_M_fee : xMt := (⟨"LoanTermsModel", "fee", "(I)I"⟩, prog_10_method_42_code, 2, some .int, 8, 1, [])
def k_M_writeLetter : xMt := (⟨"LoanTermsModel", "writeLetter", "(I)V"⟩, prog_10_method_43_code, 3, none, 8, 1, [])
def k_M_letter : xMt := (⟨"LoanTermsModel", "letter", "(II)I"⟩, prog_10_method_44_code, 4, some .int, 8, 2, [])
def k_M_count : xMt := (⟨"LoanTermsModel", "count", "(I)I"⟩, prog_10_method_45_code, 4, some .int, 8, 1, [])
def xMs : List xMt := [k_L_init, k_L_unit, k_L_read, k_L_terms, k_L_written, k_L_input, k_L_fails, k_L_loan, k_L_shield, k_L_ask, k_L_open, k_L_told, k_L_extend, k_L_request, k_L_clash, k_L_days, k_L_fee, k_L_letter, k_L_count, k_L_inputRows, k_L_contractOf, k_L_inputOf, k_L_loanOf, k_L_spanAt, k_L_numberAt, k_L_clashesWithLoan, k_L_areClashing, k_L_signOrSize, k_L_isHour, k_L_isDay, k_L_refuseNoHour, k_L_refuseNoDays, k_L_refuseNoThing, k_L_stateOf, k_L_stateOfGroup, k_L_stateOfName, k_L_turnedRound, k_C_init, k_C_add, k_C_termAt, k_C_write, k_C_writeGroup, k_I_init, k_I_add, k_I_lastHour, k_I_valueAt, k_O_init, k_O_forget, k_O_tell, k_O_price, k_N_init, k_N_init2, k_N_compared, k_R_init, k_R_readContract, k_R_readGroup, k_R_readItem, k_R_readBit, k_R_readName, k_R_readNumber, k_R_sign, k_R_isName, k_R_isDigit, k_W_init, k_W_clear, k_W_add, k_W_addNumber, k_W_signAt, k_P_init, k_P_hasDay, k_P_length, k_M_init, k_M_thrown, k_M_goes, k_M_within, k_M_isLoan, k_M_isThing, k_M_areDays, k_M_unit, k_M_isDigit, k_M_isName, k_M_fault, k_M_node, k_M_begin, k_M_build, k_M_read, k_M_isContract, k_M_terms, k_M_put, k_M_putNumber, k_M_children, k_M_unfold, k_M_write, k_M_written, k_M_input, k_M_fails, k_M_valueAt, k_M_isOut, k_M_loan, k_M_shield, k_M_leaf, k_M_work, k_M_ask, k_M_open, k_M_told, k_M_extend, k_M_request, k_M_isPair, k_M_clash, k_M_allDays, k_M_days, k_M_allFee, k_M_fee, k_M_writeLetter, k_M_letter, k_M_count]
/-- places: code, static?, static or of an object, chosen?, place -/
def x_mP : List (Nat × Nat × Nat × Nat × Nat) := [(59, 0, 58, 0, 0), (147, 0, 145, 1, 146), (242, 0, 240, 1, 241), (382, 0, 380, 1, 381), (409, 0, 407, 1, 408), (421, 0, 419, 1, 420), (448, 0, 446, 1, 447), (456, 0, 454, 1, 455), (540, 0, 538, 1, 539), (547, 0, 545, 1, 546), (597, 0, 595, 1, 596), (605, 0, 603, 1, 604), (613, 0, 611, 1, 612), (620, 0, 618, 1, 619), (628, 0, 626, 1, 627), (643, 0, 641, 1, 642), (654, 0, 652, 1, 653), (666, 0, 664, 1, 665), (674, 0, 672, 1, 673), (678, 0, 677, 1, 18), (386, 0, 385, 1, 9), (425, 0, 424, 1, 10), (495, 0, 494, 1, 12), (632, 0, 631, 1, 16), (636, 0, 635, 1, 17), (491, 0, 490, 1, 11), (499, 1, 498, 0, 0), (412, 1, 411, 0, 0), (430, 1, 429, 0, 0), (467, 1, 466, 0, 0), (550, 1, 549, 0, 0), (464, 1, 463, 0, 0), (459, 1, 458, 0, 0), (563, 0, 562, 1, 13), (570, 0, 569, 1, 14), (574, 0, 573, 1, 15), (566, 1, 565, 0, 0), (266, 0, 265, 0, 0), (357, 0, 355, 1, 356), (559, 0, 557, 1, 558), (361, 0, 360, 1, 7), (366, 0, 365, 1, 8), (90, 0, 89, 0, 0), (441, 0, 439, 1, 440), (435, 0, 433, 1, 434), (582, 0, 580, 1, 581), (503, 0, 502, 0, 0), (586, 0, 584, 1, 585), (590, 0, 588, 1, 589), (658, 0, 656, 1, 657), (309, 0, 308, 0, 0), (353, 0, 352, 0, 0), (578, 0, 576, 1, 577), (248, 0, 247, 0, 0), (261, 0, 259, 1, 260), (288, 0, 287, 1, 1), (292, 0, 291, 1, 2), (296, 0, 295, 1, 3), (340, 0, 339, 1, 5), (350, 0, 349, 1, 6), (300, 0, 299, 1, 4), (343, 1, 342, 0, 0), (346, 1, 345, 0, 0), (67, 0, 66, 0, 0), (374, 0, 372, 1, 373), (235, 0, 233, 1, 234), (370, 0, 368, 1, 369), (304, 0, 302, 1, 303), (473, 0, 472, 0, 0), (555, 0, 553, 1, 554), (647, 0, 645, 1, 646), (684, 0, 683, 0, 0), (801, 0, 799, 1, 800), (812, 0, 811, 1, 19), (808, 1, 807, 0, 0), (903, 0, 902, 1, 31), (887, 1, 886, 0, 0), (890, 1, 889, 0, 0), (805, 0, 803, 1, 804), (826, 1, 825, 0, 0), (823, 1, 822, 0, 0), (820, 0, 819, 1, 20), (838, 0, 837, 1, 23), (834, 0, 833, 1, 22), (830, 0, 829, 1, 21), (816, 0, 814, 1, 815), (846, 0, 845, 1, 24), (842, 0, 840, 1, 841), (858, 0, 857, 1, 26), (870, 0, 869, 1, 29), (866, 0, 865, 1, 28), (862, 0, 861, 1, 27), (854, 0, 853, 1, 25), (850, 0, 848, 1, 849), (874, 0, 872, 1, 873), (880, 0, 878, 1, 879), (919, 0, 918, 1, 34), (895, 0, 894, 1, 30), (884, 0, 882, 1, 883), (899, 0, 897, 1, 898), (915, 0, 914, 1, 33), (911, 0, 910, 1, 32), (907, 0, 905, 1, 906), (923, 0, 921, 1, 922), (927, 0, 925, 1, 926), (931, 0, 929, 1, 930), (935, 0, 933, 1, 934), (943, 0, 942, 1, 35), (939, 0, 937, 1, 938), (951, 0, 950, 1, 36), (947, 0, 945, 1, 946), (959, 0, 958, 1, 37), (955, 0, 953, 1, 954), (967, 0, 966, 1, 38), (963, 0, 961, 1, 962), (971, 0, 969, 1, 970)]
def x_mC (q : xMt × (Nat × Nat × Nat × Nat × Nat)) : Bool := x_at q.2.1 (.code (xN q.1) (xC q.1) (xm q.1) (xR q.1)) && (if q.2.2.1 = 1 then x_at q.2.2.2.1 (.static (xN q.1)) else x_at q.2.2.2.1 (.instanceMethod (xN q.1))) && (if q.2.2.2.2.1 = 1 then x_at q.2.2.2.2.2 (.selects (xN q.1).cls (xN q.1) (xN q.1)) else true) && decide ((xN q.1).cls = xCn (xo q.1)) && decide (xm q.1 ≤ 40) && plainName (xN q.1).cls && decide ((xN q.1).cls ≠ "java/lang/invoke/MethodHandle" ∧ (xN q.1).cls ≠ "java/lang/invoke/VarHandle") && decide ((parseMethodDescriptor (xN q.1).desc).map (fun d => d.parameters.length) = some (xnp q.1)) && decide (xo q.1 < 9)
theorem x_mc0 : x_mC (k_L_init, (59, 0, 58, 0, 0)) = true := by decide +kernel
theorem x_mc1 : x_mC (k_L_unit, (147, 0, 145, 1, 146)) = true := by decide +kernel
theorem x_mc2 : x_mC (k_L_read, (242, 0, 240, 1, 241)) = true := by decide +kernel
theorem x_mc3 : x_mC (k_L_terms, (382, 0, 380, 1, 381)) = true := by decide +kernel
theorem x_mc4 : x_mC (k_L_written, (409, 0, 407, 1, 408)) = true := by decide +kernel
theorem x_mc5 : x_mC (k_L_input, (421, 0, 419, 1, 420)) = true := by decide +kernel
theorem x_mc6 : x_mC (k_L_fails, (448, 0, 446, 1, 447)) = true := by decide +kernel
theorem x_mc7 : x_mC (k_L_loan, (456, 0, 454, 1, 455)) = true := by decide +kernel
theorem x_mc8 : x_mC (k_L_shield, (540, 0, 538, 1, 539)) = true := by decide +kernel
theorem x_mc9 : x_mC (k_L_ask, (547, 0, 545, 1, 546)) = true := by decide +kernel
theorem x_mc10 : x_mC (k_L_open, (597, 0, 595, 1, 596)) = true := by decide +kernel
theorem x_mc11 : x_mC (k_L_told, (605, 0, 603, 1, 604)) = true := by decide +kernel
theorem x_mc12 : x_mC (k_L_extend, (613, 0, 611, 1, 612)) = true := by decide +kernel
theorem x_mc13 : x_mC (k_L_request, (620, 0, 618, 1, 619)) = true := by decide +kernel
theorem x_mc14 : x_mC (k_L_clash, (628, 0, 626, 1, 627)) = true := by decide +kernel
theorem x_mc15 : x_mC (k_L_days, (643, 0, 641, 1, 642)) = true := by decide +kernel
theorem x_mc16 : x_mC (k_L_fee, (654, 0, 652, 1, 653)) = true := by decide +kernel
theorem x_mc17 : x_mC (k_L_letter, (666, 0, 664, 1, 665)) = true := by decide +kernel
theorem x_mc18 : x_mC (k_L_count, (674, 0, 672, 1, 673)) = true := by decide +kernel
theorem x_mc19 : x_mC (k_L_inputRows, (678, 0, 677, 1, 18)) = true := by decide +kernel
theorem x_mc20 : x_mC (k_L_contractOf, (386, 0, 385, 1, 9)) = true := by decide +kernel
theorem x_mc21 : x_mC (k_L_inputOf, (425, 0, 424, 1, 10)) = true := by decide +kernel
theorem x_mc22 : x_mC (k_L_loanOf, (495, 0, 494, 1, 12)) = true := by decide +kernel
theorem x_mc23 : x_mC (k_L_spanAt, (632, 0, 631, 1, 16)) = true := by decide +kernel
theorem x_mc24 : x_mC (k_L_numberAt, (636, 0, 635, 1, 17)) = true := by decide +kernel
theorem x_mc25 : x_mC (k_L_clashesWithLoan, (491, 0, 490, 1, 11)) = true := by decide +kernel
theorem x_mc26 : x_mC (k_L_areClashing, (499, 1, 498, 0, 0)) = true := by decide +kernel
theorem x_mc27 : x_mC (k_L_signOrSize, (412, 1, 411, 0, 0)) = true := by decide +kernel
theorem x_mc28 : x_mC (k_L_isHour, (430, 1, 429, 0, 0)) = true := by decide +kernel
theorem x_mc29 : x_mC (k_L_isDay, (467, 1, 466, 0, 0)) = true := by decide +kernel
theorem x_mc30 : x_mC (k_L_refuseNoHour, (550, 1, 549, 0, 0)) = true := by decide +kernel
theorem x_mc31 : x_mC (k_L_refuseNoDays, (464, 1, 463, 0, 0)) = true := by decide +kernel
theorem x_mc32 : x_mC (k_L_refuseNoThing, (459, 1, 458, 0, 0)) = true := by decide +kernel
theorem x_mc33 : x_mC (k_L_stateOf, (563, 0, 562, 1, 13)) = true := by decide +kernel
theorem x_mc34 : x_mC (k_L_stateOfGroup, (570, 0, 569, 1, 14)) = true := by decide +kernel
theorem x_mc35 : x_mC (k_L_stateOfName, (574, 0, 573, 1, 15)) = true := by decide +kernel
theorem x_mc36 : x_mC (k_L_turnedRound, (566, 1, 565, 0, 0)) = true := by decide +kernel
theorem x_mc37 : x_mC (k_C_init, (266, 0, 265, 0, 0)) = true := by decide +kernel
theorem x_mc38 : x_mC (k_C_add, (357, 0, 355, 1, 356)) = true := by decide +kernel
theorem x_mc39 : x_mC (k_C_termAt, (559, 0, 557, 1, 558)) = true := by decide +kernel
theorem x_mc40 : x_mC (k_C_write, (361, 0, 360, 1, 7)) = true := by decide +kernel
theorem x_mc41 : x_mC (k_C_writeGroup, (366, 0, 365, 1, 8)) = true := by decide +kernel
theorem x_mc42 : x_mC (k_I_init, (90, 0, 89, 0, 0)) = true := by decide +kernel
theorem x_mc43 : x_mC (k_I_add, (441, 0, 439, 1, 440)) = true := by decide +kernel
theorem x_mc44 : x_mC (k_I_lastHour, (435, 0, 433, 1, 434)) = true := by decide +kernel
theorem x_mc45 : x_mC (k_I_valueAt, (582, 0, 580, 1, 581)) = true := by decide +kernel
theorem x_mc46 : x_mC (k_O_init, (503, 0, 502, 0, 0)) = true := by decide +kernel
theorem x_mc47 : x_mC (k_O_forget, (586, 0, 584, 1, 585)) = true := by decide +kernel
theorem x_mc48 : x_mC (k_O_tell, (590, 0, 588, 1, 589)) = true := by decide +kernel
theorem x_mc49 : x_mC (k_O_price, (658, 0, 656, 1, 657)) = true := by decide +kernel
theorem x_mc50 : x_mC (k_N_init, (309, 0, 308, 0, 0)) = true := by decide +kernel
theorem x_mc51 : x_mC (k_N_init2, (353, 0, 352, 0, 0)) = true := by decide +kernel
theorem x_mc52 : x_mC (k_N_compared, (578, 0, 576, 1, 577)) = true := by decide +kernel
theorem x_mc53 : x_mC (k_R_init, (248, 0, 247, 0, 0)) = true := by decide +kernel
theorem x_mc54 : x_mC (k_R_readContract, (261, 0, 259, 1, 260)) = true := by decide +kernel
theorem x_mc55 : x_mC (k_R_readGroup, (288, 0, 287, 1, 1)) = true := by decide +kernel
theorem x_mc56 : x_mC (k_R_readItem, (292, 0, 291, 1, 2)) = true := by decide +kernel
theorem x_mc57 : x_mC (k_R_readBit, (296, 0, 295, 1, 3)) = true := by decide +kernel
theorem x_mc58 : x_mC (k_R_readName, (340, 0, 339, 1, 5)) = true := by decide +kernel
theorem x_mc59 : x_mC (k_R_readNumber, (350, 0, 349, 1, 6)) = true := by decide +kernel
theorem x_mc60 : x_mC (k_R_sign, (300, 0, 299, 1, 4)) = true := by decide +kernel
theorem x_mc61 : x_mC (k_R_isName, (343, 1, 342, 0, 0)) = true := by decide +kernel
theorem x_mc62 : x_mC (k_R_isDigit, (346, 1, 345, 0, 0)) = true := by decide +kernel
theorem x_mc63 : x_mC (k_W_init, (67, 0, 66, 0, 0)) = true := by decide +kernel
theorem x_mc64 : x_mC (k_W_clear, (374, 0, 372, 1, 373)) = true := by decide +kernel
theorem x_mc65 : x_mC (k_W_add, (235, 0, 233, 1, 234)) = true := by decide +kernel
theorem x_mc66 : x_mC (k_W_addNumber, (370, 0, 368, 1, 369)) = true := by decide +kernel
theorem x_mc67 : x_mC (k_W_signAt, (304, 0, 302, 1, 303)) = true := by decide +kernel
theorem x_mc68 : x_mC (k_P_init, (473, 0, 472, 0, 0)) = true := by decide +kernel
theorem x_mc69 : x_mC (k_P_hasDay, (555, 0, 553, 1, 554)) = true := by decide +kernel
theorem x_mc70 : x_mC (k_P_length, (647, 0, 645, 1, 646)) = true := by decide +kernel
theorem x_mc71 : x_mC (k_M_init, (684, 0, 683, 0, 0)) = true := by decide +kernel
theorem x_mc72 : x_mC (k_M_thrown, (801, 0, 799, 1, 800)) = true := by decide +kernel
theorem x_mc73 : x_mC (k_M_goes, (812, 0, 811, 1, 19)) = true := by decide +kernel
theorem x_mc74 : x_mC (k_M_within, (808, 1, 807, 0, 0)) = true := by decide +kernel
theorem x_mc75 : x_mC (k_M_isLoan, (903, 0, 902, 1, 31)) = true := by decide +kernel
theorem x_mc76 : x_mC (k_M_isThing, (887, 1, 886, 0, 0)) = true := by decide +kernel
theorem x_mc77 : x_mC (k_M_areDays, (890, 1, 889, 0, 0)) = true := by decide +kernel
theorem x_mc78 : x_mC (k_M_unit, (805, 0, 803, 1, 804)) = true := by decide +kernel
theorem x_mc79 : x_mC (k_M_isDigit, (826, 1, 825, 0, 0)) = true := by decide +kernel
theorem x_mc80 : x_mC (k_M_isName, (823, 1, 822, 0, 0)) = true := by decide +kernel
theorem x_mc81 : x_mC (k_M_fault, (820, 0, 819, 1, 20)) = true := by decide +kernel
theorem x_mc82 : x_mC (k_M_node, (838, 0, 837, 1, 23)) = true := by decide +kernel
theorem x_mc83 : x_mC (k_M_begin, (834, 0, 833, 1, 22)) = true := by decide +kernel
theorem x_mc84 : x_mC (k_M_build, (830, 0, 829, 1, 21)) = true := by decide +kernel
theorem x_mc85 : x_mC (k_M_read, (816, 0, 814, 1, 815)) = true := by decide +kernel
theorem x_mc86 : x_mC (k_M_isContract, (846, 0, 845, 1, 24)) = true := by decide +kernel
theorem x_mc87 : x_mC (k_M_terms, (842, 0, 840, 1, 841)) = true := by decide +kernel
theorem x_mc88 : x_mC (k_M_put, (858, 0, 857, 1, 26)) = true := by decide +kernel
theorem x_mc89 : x_mC (k_M_putNumber, (870, 0, 869, 1, 29)) = true := by decide +kernel
theorem x_mc90 : x_mC (k_M_children, (866, 0, 865, 1, 28)) = true := by decide +kernel
theorem x_mc91 : x_mC (k_M_unfold, (862, 0, 861, 1, 27)) = true := by decide +kernel
theorem x_mc92 : x_mC (k_M_write, (854, 0, 853, 1, 25)) = true := by decide +kernel
theorem x_mc93 : x_mC (k_M_written, (850, 0, 848, 1, 849)) = true := by decide +kernel
theorem x_mc94 : x_mC (k_M_input, (874, 0, 872, 1, 873)) = true := by decide +kernel
theorem x_mc95 : x_mC (k_M_fails, (880, 0, 878, 1, 879)) = true := by decide +kernel
theorem x_mc96 : x_mC (k_M_valueAt, (919, 0, 918, 1, 34)) = true := by decide +kernel
theorem x_mc97 : x_mC (k_M_isOut, (895, 0, 894, 1, 30)) = true := by decide +kernel
theorem x_mc98 : x_mC (k_M_loan, (884, 0, 882, 1, 883)) = true := by decide +kernel
theorem x_mc99 : x_mC (k_M_shield, (899, 0, 897, 1, 898)) = true := by decide +kernel
theorem x_mc100 : x_mC (k_M_leaf, (915, 0, 914, 1, 33)) = true := by decide +kernel
theorem x_mc101 : x_mC (k_M_work, (911, 0, 910, 1, 32)) = true := by decide +kernel
theorem x_mc102 : x_mC (k_M_ask, (907, 0, 905, 1, 906)) = true := by decide +kernel
theorem x_mc103 : x_mC (k_M_open, (923, 0, 921, 1, 922)) = true := by decide +kernel
theorem x_mc104 : x_mC (k_M_told, (927, 0, 925, 1, 926)) = true := by decide +kernel
theorem x_mc105 : x_mC (k_M_extend, (931, 0, 929, 1, 930)) = true := by decide +kernel
theorem x_mc106 : x_mC (k_M_request, (935, 0, 933, 1, 934)) = true := by decide +kernel
theorem x_mc107 : x_mC (k_M_isPair, (943, 0, 942, 1, 35)) = true := by decide +kernel
theorem x_mc108 : x_mC (k_M_clash, (939, 0, 937, 1, 938)) = true := by decide +kernel
theorem x_mc109 : x_mC (k_M_allDays, (951, 0, 950, 1, 36)) = true := by decide +kernel
theorem x_mc110 : x_mC (k_M_days, (947, 0, 945, 1, 946)) = true := by decide +kernel
theorem x_mc111 : x_mC (k_M_allFee, (959, 0, 958, 1, 37)) = true := by decide +kernel
theorem x_mc112 : x_mC (k_M_fee, (955, 0, 953, 1, 954)) = true := by decide +kernel
theorem x_mc113 : x_mC (k_M_writeLetter, (967, 0, 966, 1, 38)) = true := by decide +kernel
theorem x_mc114 : x_mC (k_M_letter, (963, 0, 961, 1, 962)) = true := by decide +kernel
theorem x_mc115 : x_mC (k_M_count, (971, 0, 969, 1, 970)) = true := by decide +kernel
theorem x_m_all : (xMs.zip x_mP).all x_mC = true := by
  show ([(k_L_init, (59, 0, 58, 0, 0)), (k_L_unit, (147, 0, 145, 1, 146)), (k_L_read, (242, 0, 240, 1, 241)), (k_L_terms, (382, 0, 380, 1, 381)), (k_L_written, (409, 0, 407, 1, 408)), (k_L_input, (421, 0, 419, 1, 420)), (k_L_fails, (448, 0, 446, 1, 447)), (k_L_loan, (456, 0, 454, 1, 455)), (k_L_shield, (540, 0, 538, 1, 539)), (k_L_ask, (547, 0, 545, 1, 546)), (k_L_open, (597, 0, 595, 1, 596)), (k_L_told, (605, 0, 603, 1, 604)), (k_L_extend, (613, 0, 611, 1, 612)), (k_L_request, (620, 0, 618, 1, 619)), (k_L_clash, (628, 0, 626, 1, 627)), (k_L_days, (643, 0, 641, 1, 642)), (k_L_fee, (654, 0, 652, 1, 653)), (k_L_letter, (666, 0, 664, 1, 665)), (k_L_count, (674, 0, 672, 1, 673)), (k_L_inputRows, (678, 0, 677, 1, 18)), (k_L_contractOf, (386, 0, 385, 1, 9)), (k_L_inputOf, (425, 0, 424, 1, 10)), (k_L_loanOf, (495, 0, 494, 1, 12)), (k_L_spanAt, (632, 0, 631, 1, 16)), (k_L_numberAt, (636, 0, 635, 1, 17)), (k_L_clashesWithLoan, (491, 0, 490, 1, 11)), (k_L_areClashing, (499, 1, 498, 0, 0)), (k_L_signOrSize, (412, 1, 411, 0, 0)), (k_L_isHour, (430, 1, 429, 0, 0)), (k_L_isDay, (467, 1, 466, 0, 0)), (k_L_refuseNoHour, (550, 1, 549, 0, 0)), (k_L_refuseNoDays, (464, 1, 463, 0, 0)), (k_L_refuseNoThing, (459, 1, 458, 0, 0)), (k_L_stateOf, (563, 0, 562, 1, 13)), (k_L_stateOfGroup, (570, 0, 569, 1, 14)), (k_L_stateOfName, (574, 0, 573, 1, 15)), (k_L_turnedRound, (566, 1, 565, 0, 0)), (k_C_init, (266, 0, 265, 0, 0)), (k_C_add, (357, 0, 355, 1, 356)), (k_C_termAt, (559, 0, 557, 1, 558)), (k_C_write, (361, 0, 360, 1, 7)), (k_C_writeGroup, (366, 0, 365, 1, 8)), (k_I_init, (90, 0, 89, 0, 0)), (k_I_add, (441, 0, 439, 1, 440)), (k_I_lastHour, (435, 0, 433, 1, 434)), (k_I_valueAt, (582, 0, 580, 1, 581)), (k_O_init, (503, 0, 502, 0, 0)), (k_O_forget, (586, 0, 584, 1, 585)), (k_O_tell, (590, 0, 588, 1, 589)), (k_O_price, (658, 0, 656, 1, 657)), (k_N_init, (309, 0, 308, 0, 0)), (k_N_init2, (353, 0, 352, 0, 0)), (k_N_compared, (578, 0, 576, 1, 577)), (k_R_init, (248, 0, 247, 0, 0)), (k_R_readContract, (261, 0, 259, 1, 260)), (k_R_readGroup, (288, 0, 287, 1, 1)), (k_R_readItem, (292, 0, 291, 1, 2)), (k_R_readBit, (296, 0, 295, 1, 3)), (k_R_readName, (340, 0, 339, 1, 5)), (k_R_readNumber, (350, 0, 349, 1, 6)), (k_R_sign, (300, 0, 299, 1, 4)), (k_R_isName, (343, 1, 342, 0, 0)), (k_R_isDigit, (346, 1, 345, 0, 0)), (k_W_init, (67, 0, 66, 0, 0)), (k_W_clear, (374, 0, 372, 1, 373)), (k_W_add, (235, 0, 233, 1, 234)), (k_W_addNumber, (370, 0, 368, 1, 369)), (k_W_signAt, (304, 0, 302, 1, 303)), (k_P_init, (473, 0, 472, 0, 0)), (k_P_hasDay, (555, 0, 553, 1, 554)), (k_P_length, (647, 0, 645, 1, 646)), (k_M_init, (684, 0, 683, 0, 0)), (k_M_thrown, (801, 0, 799, 1, 800)), (k_M_goes, (812, 0, 811, 1, 19)), (k_M_within, (808, 1, 807, 0, 0)), (k_M_isLoan, (903, 0, 902, 1, 31)), (k_M_isThing, (887, 1, 886, 0, 0)), (k_M_areDays, (890, 1, 889, 0, 0)), (k_M_unit, (805, 0, 803, 1, 804)), (k_M_isDigit, (826, 1, 825, 0, 0)), (k_M_isName, (823, 1, 822, 0, 0)), (k_M_fault, (820, 0, 819, 1, 20)), (k_M_node, (838, 0, 837, 1, 23)), (k_M_begin, (834, 0, 833, 1, 22)), (k_M_build, (830, 0, 829, 1, 21)), (k_M_read, (816, 0, 814, 1, 815)), (k_M_isContract, (846, 0, 845, 1, 24)), (k_M_terms, (842, 0, 840, 1, 841)), (k_M_put, (858, 0, 857, 1, 26)), (k_M_putNumber, (870, 0, 869, 1, 29)), (k_M_children, (866, 0, 865, 1, 28)), (k_M_unfold, (862, 0, 861, 1, 27)), (k_M_write, (854, 0, 853, 1, 25)), (k_M_written, (850, 0, 848, 1, 849)), (k_M_input, (874, 0, 872, 1, 873)), (k_M_fails, (880, 0, 878, 1, 879)), (k_M_valueAt, (919, 0, 918, 1, 34)), (k_M_isOut, (895, 0, 894, 1, 30)), (k_M_loan, (884, 0, 882, 1, 883)), (k_M_shield, (899, 0, 897, 1, 898)), (k_M_leaf, (915, 0, 914, 1, 33)), (k_M_work, (911, 0, 910, 1, 32)), (k_M_ask, (907, 0, 905, 1, 906)), (k_M_open, (923, 0, 921, 1, 922)), (k_M_told, (927, 0, 925, 1, 926)), (k_M_extend, (931, 0, 929, 1, 930)), (k_M_request, (935, 0, 933, 1, 934)), (k_M_isPair, (943, 0, 942, 1, 35)), (k_M_clash, (939, 0, 937, 1, 938)), (k_M_allDays, (951, 0, 950, 1, 36)), (k_M_days, (947, 0, 945, 1, 946)), (k_M_allFee, (959, 0, 958, 1, 37)), (k_M_fee, (955, 0, 953, 1, 954)), (k_M_writeLetter, (967, 0, 966, 1, 38)), (k_M_letter, (963, 0, 961, 1, 962)), (k_M_count, (971, 0, 969, 1, 970))] : List (xMt × (Nat × Nat × Nat × Nat × Nat))).all x_mC = true
  simp only [List.all_cons, List.all_nil, Bool.and_true, x_mc0, x_mc1, x_mc2, x_mc3, x_mc4, x_mc5, x_mc6, x_mc7, x_mc8, x_mc9, x_mc10, x_mc11, x_mc12, x_mc13, x_mc14, x_mc15, x_mc16, x_mc17, x_mc18, x_mc19, x_mc20, x_mc21, x_mc22, x_mc23, x_mc24, x_mc25, x_mc26, x_mc27, x_mc28, x_mc29, x_mc30, x_mc31, x_mc32, x_mc33, x_mc34, x_mc35, x_mc36, x_mc37, x_mc38, x_mc39, x_mc40, x_mc41, x_mc42, x_mc43, x_mc44, x_mc45, x_mc46, x_mc47, x_mc48, x_mc49, x_mc50, x_mc51, x_mc52, x_mc53, x_mc54, x_mc55, x_mc56, x_mc57, x_mc58, x_mc59, x_mc60, x_mc61, x_mc62, x_mc63, x_mc64, x_mc65, x_mc66, x_mc67, x_mc68, x_mc69, x_mc70, x_mc71, x_mc72, x_mc73, x_mc74, x_mc75, x_mc76, x_mc77, x_mc78, x_mc79, x_mc80, x_mc81, x_mc82, x_mc83, x_mc84, x_mc85, x_mc86, x_mc87, x_mc88, x_mc89, x_mc90, x_mc91, x_mc92, x_mc93, x_mc94, x_mc95, x_mc96, x_mc97, x_mc98, x_mc99, x_mc100, x_mc101, x_mc102, x_mc103, x_mc104, x_mc105, x_mc106, x_mc107, x_mc108, x_mc109, x_mc110, x_mc111, x_mc112, x_mc113, x_mc114, x_mc115]
theorem x_m_len : xMs.length = x_mP.length := by decide +kernel
/-- what holds of each method -/
def xOk (y : xMt) : Prop := Jvm.Cond.code (xN y) (xC y) (xm y) (xR y) ∈ xTB ∧ (xN y).cls = xCn (xo y) ∧ xm y ≤ 40 ∧ plainName (xN y).cls = true ∧ ((xN y).cls ≠ "java/lang/invoke/MethodHandle" ∧ (xN y).cls ≠ "java/lang/invoke/VarHandle") ∧ (parseMethodDescriptor (xN y).desc).map (fun d => d.parameters.length) = some (xnp y) ∧ Jvm.Cond.initialized (xN y).cls ∈ xTB ∧ y ∈ xMs
theorem x_ini {c : Nat} (h : c < 9) : Jvm.Cond.initialized (xCn c) ∈ xTB := by
  match c, h with
  | 0, _ => exact x_kd0.2.2.2.2.2.2.2
  | 1, _ => exact x_kd1.2.2.2.2.2.2.2
  | 2, _ => exact x_kd2.2.2.2.2.2.2.2
  | 3, _ => exact x_kd3.2.2.2.2.2.2.2
  | 4, _ => exact x_kd4.2.2.2.2.2.2.2
  | 5, _ => exact x_kd5.2.2.2.2.2.2.2
  | 6, _ => exact x_kd6.2.2.2.2.2.2.2
  | 7, _ => exact x_kd7.2.2.2.2.2.2.2
  | 8, _ => exact x_kd8.2.2.2.2.2.2.2
theorem x_mget {i : Nat} {y : xMt} (h : xMs[i]? = some y) : ∃ p, x_mP[i]? = some p ∧ x_mC (y, p) = true := by
  have hl : i < xMs.length := (List.getElem?_eq_some_iff.mp h).1
  have hp : i < x_mP.length := by rw [← x_m_len]; exact hl
  refine ⟨x_mP[i], List.getElem?_eq_getElem hp, ?_⟩
  refine List.all_eq_true.mp x_m_all _ (List.mem_of_getElem? (i := i) ?_)
  rw [List.getElem?_zip_eq_some]
  exact ⟨h, List.getElem?_eq_getElem hp⟩
theorem x_ok {i : Nat} {y : xMt} (h : xMs[i]? = some y) : xOk y := by
  obtain ⟨p, -, hc⟩ := x_mget h
  simp only [x_mC, Bool.and_eq_true, decide_eq_true_eq] at hc
  obtain ⟨⟨⟨⟨⟨⟨⟨⟨h1, h2⟩, h3⟩, h4⟩, h5⟩, h6⟩, h7⟩, h8⟩, h9⟩ := hc
  exact ⟨x_at_in h1 rfl, h4, h5, h6, h7, h8, by rw [h4]; exact x_ini h9, List.mem_of_getElem? h⟩
/-- calls: owner, entry, kind (0 static, 1 virtual, 2 a constructor, 3 Object, 4 a nest mate), method, place -/
def x_caT : List (Nat × Nat × Nat × Nat × Nat) := [(0, 1, 3, 0, 60), (0, 9, 4, 63, 65), (0, 53, 4, 42, 88), (0, 69, 1, 65, 232), (0, 77, 2, 53, 246), (0, 80, 1, 54, 258), (0, 84, 1, 64, 371), (0, 90, 1, 20, 383), (0, 98, 0, 27, 410), (0, 102, 1, 21, 422), (0, 109, 0, 28, 428), (0, 113, 1, 44, 432), (0, 120, 1, 43, 438), (0, 131, 0, 32, 457), (0, 136, 0, 31, 462), (0, 139, 2, 68, 471), (0, 142, 1, 25, 488), (0, 146, 2, 46, 501), (0, 149, 1, 22, 492), (0, 157, 0, 30, 548), (0, 164, 1, 69, 552), (0, 171, 1, 39, 556), (0, 175, 1, 33, 560), (0, 179, 1, 47, 583), (0, 182, 1, 48, 587), (0, 202, 0, 29, 465), (0, 218, 1, 23, 629), (0, 222, 0, 26, 497), (0, 226, 1, 24, 633), (0, 230, 1, 70, 644), (0, 233, 1, 49, 655), (0, 236, 1, 66, 667), (0, 239, 1, 19, 675), (0, 252, 1, 67, 414), (0, 270, 0, 36, 564), (0, 273, 1, 34, 567), (0, 276, 1, 35, 571), (0, 286, 1, 52, 575), (0, 289, 1, 45, 579), (1, 3, 3, 0, 267), (1, 19, 4, 63, 271), (1, 28, 1, 40, 358), (1, 32, 1, 65, 362), (1, 43, 1, 41, 363), (1, 52, 1, 66, 367), (2, 3, 3, 0, 91), (3, 3, 3, 0, 504), (3, 38, 1, 70, 659), (4, 3, 3, 0, 310), (5, 3, 3, 0, 249), (5, 21, 4, 37, 264), (5, 22, 1, 55, 285), (5, 26, 1, 38, 354), (5, 35, 1, 60, 297), (5, 39, 1, 56, 289), (5, 48, 2, 50, 307), (5, 51, 1, 57, 293), (5, 54, 1, 58, 337), (5, 58, 0, 61, 341), (5, 62, 0, 62, 344), (5, 65, 1, 59, 347), (5, 68, 2, 51, 351), (5, 71, 1, 67, 301), (6, 3, 3, 0, 68), (7, 1, 3, 0, 474), (8, 1, 3, 0, 685), (8, 112, 0, 74, 806), (8, 116, 1, 73, 809), (8, 120, 0, 80, 821), (8, 124, 0, 79, 824), (8, 127, 1, 82, 835), (8, 131, 1, 83, 831), (8, 138, 1, 81, 817), (8, 142, 1, 84, 827), (8, 146, 1, 86, 843), (8, 152, 1, 88, 855), (8, 155, 1, 90, 863), (8, 161, 1, 91, 859), (8, 165, 1, 89, 867), (8, 168, 1, 92, 851), (8, 173, 0, 76, 885), (8, 176, 0, 77, 888), (8, 180, 1, 97, 892), (8, 184, 1, 75, 900), (8, 187, 1, 96, 916), (8, 190, 1, 100, 912), (8, 193, 1, 101, 908), (8, 199, 1, 107, 940), (8, 202, 1, 109, 948), (8, 206, 1, 111, 956), (8, 209, 1, 113, 964)]
def x_caC (q : Nat × Nat × Nat × Nat × Nat) : Bool := match xMs[q.2.2.2.1]?, x_mP[q.2.2.2.1]? with
  | some z, some p => if q.2.2.1 = 3 then x_at q.2.2.2.2 (.methodLink (xCn q.1) q.2.1 objectInit) else if q.2.2.1 = 4 then x_at q.2.2.2.2 (.methodLinkNest (xCn q.1) q.2.1 (xN z) "LoanTerms") && decide ((xN z).name = "<init>" ∧ xR z = none ∧ p.2.1 = 0) else x_at q.2.2.2.2 (.methodLink (xCn q.1) q.2.1 (xN z)) && (if q.2.2.1 = 0 then decide (p.2.1 = 1) else if q.2.2.1 = 1 then decide (p.2.1 = 0 ∧ p.2.2.2.1 = 1) else decide (q.2.2.1 = 2 ∧ (xN z).name = "<init>" ∧ xR z = none ∧ p.2.1 = 0))
  | _, _ => false
theorem x_ca_all : x_caT.all x_caC = true := by decide +kernel
def xca (ow k : Nat) : Option (Nat × xMt) := (x_caT.find? fun q => q.1 == ow && q.2.1 == k).bind fun q => (xMs[q.2.2.2.1]?).map fun z => (q.2.2.1, z)
theorem x_ca_get {ow k kd : Nat} {z : xMt} (h : xca ow k = some (kd, z)) : ∃ i p pos, xMs[i]? = some z ∧ x_mP[i]? = some p ∧ x_mC (z, p) = true ∧ x_caC (ow, k, kd, i, pos) = true := by
  unfold xca at h
  obtain ⟨q, hq, h8⟩ := Option.bind_eq_some_iff.mp h
  obtain ⟨z1, hz, h9⟩ := Option.map_eq_some_iff.mp h8
  have h1 := List.all_eq_true.mp x_ca_all q (List.mem_of_find?_eq_some hq)
  have h2 := List.find?_some hq
  simp only [Bool.and_eq_true, beq_iff_eq] at h2
  obtain ⟨p, hp, hm⟩ := x_mget hz
  obtain ⟨q1, q2, q3, q4, q5⟩ := q
  have e1 : q1 = ow := h2.1
  have e2 : q2 = k := h2.2
  have e3 : q3 = kd ∧ z1 = z := by
    have h7 : (q3, z1) = (kd, z) := h9
    exact ⟨congrArg Prod.fst h7, congrArg Prod.snd h7⟩
  rw [← e1, ← e2, ← e3.1, ← e3.2]
  exact ⟨q4, p, q5, hz, hp, hm, h1⟩
theorem x_ca_ok {ow k kd : Nat} {z : xMt} (h : xca ow k = some (kd, z)) (h3 : kd ≠ 3) : xOk z ∧ (kd ≠ 4 → Jvm.Cond.methodLink (xCn ow) k (xN z) ∈ xTB) ∧ (kd = 0 → Jvm.Cond.static (xN z) ∈ xTB) ∧ (kd = 1 → Jvm.Cond.instanceMethod (xN z) ∈ xTB ∧ Jvm.Cond.selects (xN z).cls (xN z) (xN z) ∈ xTB) ∧ (kd = 2 ∨ kd = 4 → (xN z).name = "<init>" ∧ Jvm.Cond.instanceMethod (xN z) ∈ xTB ∧ xR z = none) ∧ (kd = 4 → Jvm.Cond.methodLinkNest (xCn ow) k (xN z) "LoanTerms" ∈ xTB2) := by
  obtain ⟨i, p, pos, hz, hp, hm, hc⟩ := x_ca_get h
  have hok := x_ok hz
  simp only [x_mC, Bool.and_eq_true] at hm
  obtain ⟨⟨⟨⟨⟨⟨⟨⟨-, m2⟩, m3⟩, -⟩, -⟩, -⟩, -⟩, -⟩, -⟩ := hm
  simp only [x_caC, hz, hp, if_neg h3] at hc
  refine ⟨hok, fun h4 => ?_, fun h0 => ?_, fun h1 => ?_, fun h2 => ?_, fun h4 => ?_⟩
  · rw [if_neg h4, Bool.and_eq_true] at hc
    exact x_at_in hc.1 rfl
  · subst h0
    simp only [if_neg (show ¬ (0 : Nat) = 4 by decide), if_pos, Bool.and_eq_true, decide_eq_true_eq] at hc
    rw [if_pos hc.2] at m2
    exact x_at_in m2 rfl
  · subst h1
    simp only [if_neg (show ¬ (1 : Nat) = 4 by decide), if_neg (show ¬ (1 : Nat) = 0 by decide), if_pos, Bool.and_eq_true, decide_eq_true_eq] at hc
    rw [if_neg (by rw [hc.2.1]; decide)] at m2
    rw [if_pos hc.2.2] at m3
    exact ⟨x_at_in m2 rfl, x_at_in m3 rfl⟩
  · rcases h2 with rfl | rfl
    · simp only [if_neg (show ¬ (2 : Nat) = 4 by decide), if_neg (show ¬ (2 : Nat) = 0 by decide), if_neg (show ¬ (2 : Nat) = 1 by decide), Bool.and_eq_true, decide_eq_true_eq] at hc
      rw [if_neg (by rw [hc.2.2.2.2]; decide)] at m2
      exact ⟨hc.2.2.1, x_at_in m2 rfl, hc.2.2.2.1⟩
    · simp only [if_pos, Bool.and_eq_true, decide_eq_true_eq] at hc
      rw [if_neg (by rw [hc.2.2.2]; decide)] at m2
      exact ⟨hc.2.1, x_at_in m2 rfl, hc.2.2.1⟩
  · subst h4
    simp only [if_pos, Bool.and_eq_true] at hc
    exact x_at_in2 hc.1 rfl
theorem x_ca_obj {ow k : Nat} {z : xMt} (h : xca ow k = some (3, z)) : Jvm.Cond.methodLink (xCn ow) k objectInit ∈ xTB ∧ Jvm.Cond.instanceMethod objectInit ∈ xTB ∧ Jvm.Cond.code objectInit ⟨#[0xb1]⟩ 1 none ∈ xTB := by
  obtain ⟨i, p, pos, hz, hp, hm, hc⟩ := x_ca_get h
  simp only [x_caC, hz, hp, if_pos] at hc
  exact ⟨x_at_in hc rfl, x_at_in (i := 61) (by decide +kernel) rfl, x_at_in (i := 62) (by decide +kernel) rfl⟩
def xStr : List (Nat × String × Nat) := [(59, "the pad is full", 189), (66, "no sign", 225), (73, "there are eight contracts", 243), (107, "the input has 60 rows", 427), (118, "hour or value", 437), (123, "hours", 449), (134, "there are 20 loans", 461), (187, "k is below 0", 598), (193, "no such place", 606), (205, "days", 469), (216, "there are 30 requests", 621), (242, "nothing that is counted", 679), (244, "no such contract", 396), (246, "no such input", 426), (248, "no such loan", 496), (250, "no such sign", 413), (257, "no hour", 551), (259, "no such thing", 460)]
def xnames : List String := ["java/lang/RuntimeException", "java/lang/Exception"]
/-- what is thrown: its name, entries of its constructor and of its kind, places -/
def x_thT : List (String × Nat × Nat × Nat × Nat) := [("java/lang/IllegalArgumentException", 68, 64, 216, 48), ("java/lang/IllegalStateException", 61, 57, 148, 47), ("java/lang/IndexOutOfBoundsException", 189, 185, 387, 52)]
def x_thW (w : Jvm.Cond) : Bool := (goodWord w && decide (w ∈ lw_tbl)) || (xk w && decide (w ∈ lw_tbl))
def x_thC (q : String × Nat × Nat × Nat × Nat) : Bool := Bundle.fit q.1 && x_at q.2.2.2.1 (.classLink "LoanTerms" q.2.2.1 q.1) && x_at q.2.2.2.2 (.initialized q.1) && (vx_atS "LoanTerms" q.2.1 q.1 xnames).all x_thW && (Jvm.Cond.classLink "LoanTerms" q.2.2.1 q.1 :: Jvm.Cond.initialized q.1 :: vx_atS "LoanTerms" q.2.1 q.1 xnames).all vx_ot
theorem x_th0 : (x_thT[0]?).map x_thC = some true := by decide +kernel
theorem x_th1 : (x_thT[1]?).map x_thC = some true := by decide +kernel
theorem x_th2 : (x_thT[2]?).map x_thC = some true := by decide +kernel
theorem x_th_all : ∀ q ∈ x_thT, x_thC q = true := by
  intro q hq
  obtain ⟨i, hi⟩ := List.getElem?_of_mem hq
  match i, hi with
  | 0, hi => have h := x_th0; rw [hi] at h; exact Option.some.inj h
  | 1, hi => have h := x_th1; rw [hi] at h; exact Option.some.inj h
  | 2, hi => have h := x_th2; rw [hi] at h; exact Option.some.inj h
  | i + 3, hi => simp [x_thT] at hi
/-- a place of a throw: its five instructions -/
def x_tsC (y : xMt) (q : xTs) : Bool := decide ((xN y).cls = "LoanTerms") && decide (decode (xC y) q.1 = .ok (.new q.2.2.1, 3)) && decide (decode (xC y) (q.1 + 3) = .ok (.dup, 1)) && (if q.2.2.2.2.2.2 = true then decide (decode (xC y) (q.1 + 4) = .ok (.ldc_w q.2.2.2.1, 3)) && decide (decode (xC y) (q.1 + 7) = .ok (.invokespecial q.2.2.2.2.1, 3)) && decide (decode (xC y) (q.1 + 10) = .ok (.athrow, 1)) else decide (decode (xC y) (q.1 + 4) = .ok (.ldc q.2.2.2.1, 2)) && decide (decode (xC y) (q.1 + 6) = .ok (.invokespecial q.2.2.2.2.1, 3)) && decide (decode (xC y) (q.1 + 9) = .ok (.athrow, 1))) && (x_thT.any fun t => decide (t.1 = q.2.1 ∧ t.2.1 = q.2.2.2.2.1 ∧ t.2.2.1 = q.2.2.1)) && (xStr.any fun t => decide (t.1 = q.2.2.2.1 ∧ t.2.1 = q.2.2.2.2.2.1))
theorem x_ts_all : xMs.all (fun y => (xtl y).all (x_tsC y)) = true := by decide +kernel
