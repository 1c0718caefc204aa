section
-- ===== PART A: goes FIRST, ahead of the names: the tables' words, and 'selects' of the private methods out of them =====
/-- a method of its own that the tables say can be made, by its rows of tables_1 -/
def lw_okq (q : MethodName × Nat) : Prop := (q.1.cls ≠ "java/lang/invoke/MethodHandle" ∧ q.1.cls ≠ "java/lang/invoke/VarHandle") ∧ Cond.instantiable q.1.cls q.2 ∈ tables_1 ∧ Cond.privateMethod q.1 ∈ tables_1 ∧ Cond.instanceMethod q.1 ∈ tables_1
theorem lw_p0 : lw_okq (⟨"java/lang/Throwable", "fillInStackTrace", "(I)Ljava/lang/Throwable;"⟩, 6) := ⟨⟨by decide +kernel, by decide +kernel⟩, List.mem_of_getElem? (i := 148) (by decide +kernel), List.mem_of_getElem? (i := 146) (by decide +kernel), List.mem_of_getElem? (i := 147) (by decide +kernel)⟩
theorem lw_p1 : lw_okq (⟨"LoanTerms$Reader", "readGroup", "(II)LLoanTerms$Node;"⟩, 2) := ⟨⟨by decide +kernel, by decide +kernel⟩, List.mem_of_getElem? (i := 206) (by decide +kernel), List.mem_of_getElem? (i := 247) (by decide +kernel), List.mem_of_getElem? (i := 248) (by decide +kernel)⟩
theorem lw_p2 : lw_okq (⟨"LoanTerms$Reader", "readItem", "(II)LLoanTerms$Node;"⟩, 2) := ⟨⟨by decide +kernel, by decide +kernel⟩, List.mem_of_getElem? (i := 206) (by decide +kernel), List.mem_of_getElem? (i := 251) (by decide +kernel), List.mem_of_getElem? (i := 252) (by decide +kernel)⟩
theorem lw_p3 : lw_okq (⟨"LoanTerms$Reader", "readBit", "(II)LLoanTerms$Node;"⟩, 2) := ⟨⟨by decide +kernel, by decide +kernel⟩, List.mem_of_getElem? (i := 206) (by decide +kernel), List.mem_of_getElem? (i := 255) (by decide +kernel), List.mem_of_getElem? (i := 256) (by decide +kernel)⟩
theorem lw_p4 : lw_okq (⟨"LoanTerms$Reader", "sign", "()I"⟩, 2) := ⟨⟨by decide +kernel, by decide +kernel⟩, List.mem_of_getElem? (i := 206) (by decide +kernel), List.mem_of_getElem? (i := 259) (by decide +kernel), List.mem_of_getElem? (i := 260) (by decide +kernel)⟩
theorem lw_p5 : lw_okq (⟨"LoanTerms$Reader", "readName", "()LLoanTerms$Node;"⟩, 2) := ⟨⟨by decide +kernel, by decide +kernel⟩, List.mem_of_getElem? (i := 206) (by decide +kernel), List.mem_of_getElem? (i := 299) (by decide +kernel), List.mem_of_getElem? (i := 300) (by decide +kernel)⟩
theorem lw_p6 : lw_okq (⟨"LoanTerms$Reader", "readNumber", "()I"⟩, 2) := ⟨⟨by decide +kernel, by decide +kernel⟩, List.mem_of_getElem? (i := 206) (by decide +kernel), List.mem_of_getElem? (i := 309) (by decide +kernel), List.mem_of_getElem? (i := 310) (by decide +kernel)⟩
theorem lw_p7 : lw_okq (⟨"LoanTerms$Contract", "write", "(LLoanTerms$Node;I)V"⟩, 3) := ⟨⟨by decide +kernel, by decide +kernel⟩, List.mem_of_getElem? (i := 224) (by decide +kernel), List.mem_of_getElem? (i := 320) (by decide +kernel), List.mem_of_getElem? (i := 321) (by decide +kernel)⟩
theorem lw_p8 : lw_okq (⟨"LoanTerms$Contract", "writeGroup", "(LLoanTerms$Node;I)V"⟩, 3) := ⟨⟨by decide +kernel, by decide +kernel⟩, List.mem_of_getElem? (i := 224) (by decide +kernel), List.mem_of_getElem? (i := 325) (by decide +kernel), List.mem_of_getElem? (i := 326) (by decide +kernel)⟩
theorem lw_p9 : lw_okq (⟨"LoanTerms", "contractOf", "(I)LLoanTerms$Contract;"⟩, 9) := ⟨⟨by decide +kernel, by decide +kernel⟩, List.mem_of_getElem? (i := 17) (by decide +kernel), List.mem_of_getElem? (i := 345) (by decide +kernel), List.mem_of_getElem? (i := 346) (by decide +kernel)⟩
theorem lw_p10 : lw_okq (⟨"LoanTerms", "inputOf", "(I)LLoanTerms$Input;"⟩, 9) := ⟨⟨by decide +kernel, by decide +kernel⟩, List.mem_of_getElem? (i := 17) (by decide +kernel), List.mem_of_getElem? (i := 384) (by decide +kernel), List.mem_of_getElem? (i := 385) (by decide +kernel)⟩
theorem lw_p11 : lw_okq (⟨"LoanTerms", "clashesWithLoan", "(LLoanTerms$Span;I)Z"⟩, 9) := ⟨⟨by decide +kernel, by decide +kernel⟩, List.mem_of_getElem? (i := 17) (by decide +kernel), List.mem_of_getElem? (i := 450) (by decide +kernel), List.mem_of_getElem? (i := 451) (by decide +kernel)⟩
theorem lw_p12 : lw_okq (⟨"LoanTerms", "loanOf", "(I)LLoanTerms$Loan;"⟩, 9) := ⟨⟨by decide +kernel, by decide +kernel⟩, List.mem_of_getElem? (i := 17) (by decide +kernel), List.mem_of_getElem? (i := 454) (by decide +kernel), List.mem_of_getElem? (i := 455) (by decide +kernel)⟩
theorem lw_p13 : lw_okq (⟨"LoanTerms", "stateOf", "(LLoanTerms$Node;LLoanTerms$Loan;II)I"⟩, 9) := ⟨⟨by decide +kernel, by decide +kernel⟩, List.mem_of_getElem? (i := 17) (by decide +kernel), List.mem_of_getElem? (i := 522) (by decide +kernel), List.mem_of_getElem? (i := 523) (by decide +kernel)⟩
theorem lw_p14 : lw_okq (⟨"LoanTerms", "stateOfGroup", "(LLoanTerms$Node;LLoanTerms$Loan;II)I"⟩, 9) := ⟨⟨by decide +kernel, by decide +kernel⟩, List.mem_of_getElem? (i := 17) (by decide +kernel), List.mem_of_getElem? (i := 529) (by decide +kernel), List.mem_of_getElem? (i := 530) (by decide +kernel)⟩
theorem lw_p15 : lw_okq (⟨"LoanTerms", "stateOfName", "(LLoanTerms$Node;LLoanTerms$Loan;I)I"⟩, 9) := ⟨⟨by decide +kernel, by decide +kernel⟩, List.mem_of_getElem? (i := 17) (by decide +kernel), List.mem_of_getElem? (i := 533) (by decide +kernel), List.mem_of_getElem? (i := 534) (by decide +kernel)⟩
def lw_privs_1 : List (MethodName × Nat) := [(⟨"java/lang/Throwable", "fillInStackTrace", "(I)Ljava/lang/Throwable;"⟩, 6), (⟨"LoanTerms$Reader", "readGroup", "(II)LLoanTerms$Node;"⟩, 2), (⟨"LoanTerms$Reader", "readItem", "(II)LLoanTerms$Node;"⟩, 2), (⟨"LoanTerms$Reader", "readBit", "(II)LLoanTerms$Node;"⟩, 2), (⟨"LoanTerms$Reader", "sign", "()I"⟩, 2), (⟨"LoanTerms$Reader", "readName", "()LLoanTerms$Node;"⟩, 2), (⟨"LoanTerms$Reader", "readNumber", "()I"⟩, 2), (⟨"LoanTerms$Contract", "write", "(LLoanTerms$Node;I)V"⟩, 3), (⟨"LoanTerms$Contract", "writeGroup", "(LLoanTerms$Node;I)V"⟩, 3), (⟨"LoanTerms", "contractOf", "(I)LLoanTerms$Contract;"⟩, 9), (⟨"LoanTerms", "inputOf", "(I)LLoanTerms$Input;"⟩, 9), (⟨"LoanTerms", "clashesWithLoan", "(LLoanTerms$Span;I)Z"⟩, 9), (⟨"LoanTerms", "loanOf", "(I)LLoanTerms$Loan;"⟩, 9), (⟨"LoanTerms", "stateOf", "(LLoanTerms$Node;LLoanTerms$Loan;II)I"⟩, 9), (⟨"LoanTerms", "stateOfGroup", "(LLoanTerms$Node;LLoanTerms$Loan;II)I"⟩, 9), (⟨"LoanTerms", "stateOfName", "(LLoanTerms$Node;LLoanTerms$Loan;I)I"⟩, 9)]
theorem lw_r1 : ∀ q ∈ lw_privs_1, lw_okq q := List.forall_mem_cons.mpr ⟨lw_p0, List.forall_mem_cons.mpr ⟨lw_p1, List.forall_mem_cons.mpr ⟨lw_p2, List.forall_mem_cons.mpr ⟨lw_p3, List.forall_mem_cons.mpr ⟨lw_p4, List.forall_mem_cons.mpr ⟨lw_p5, List.forall_mem_cons.mpr ⟨lw_p6, List.forall_mem_cons.mpr ⟨lw_p7, List.forall_mem_cons.mpr ⟨lw_p8, List.forall_mem_cons.mpr ⟨lw_p9, List.forall_mem_cons.mpr ⟨lw_p10, List.forall_mem_cons.mpr ⟨lw_p11, List.forall_mem_cons.mpr ⟨lw_p12, List.forall_mem_cons.mpr ⟨lw_p13, List.forall_mem_cons.mpr ⟨lw_p14, List.forall_mem_cons.mpr ⟨lw_p15, fun _ h => absurd h List.not_mem_nil⟩⟩⟩⟩⟩⟩⟩⟩⟩⟩⟩⟩⟩⟩⟩⟩
theorem lw_p16 : lw_okq (⟨"LoanTerms", "spanAt", "(I)LLoanTerms$Span;"⟩, 9) := ⟨⟨by decide +kernel, by decide +kernel⟩, List.mem_of_getElem? (i := 17) (by decide +kernel), List.mem_of_getElem? (i := 591) (by decide +kernel), List.mem_of_getElem? (i := 592) (by decide +kernel)⟩
theorem lw_p17 : lw_okq (⟨"LoanTerms", "numberAt", "(I)I"⟩, 9) := ⟨⟨by decide +kernel, by decide +kernel⟩, List.mem_of_getElem? (i := 17) (by decide +kernel), List.mem_of_getElem? (i := 595) (by decide +kernel), List.mem_of_getElem? (i := 596) (by decide +kernel)⟩
theorem lw_p18 : lw_okq (⟨"LoanTerms", "inputRows", "()I"⟩, 9) := ⟨⟨by decide +kernel, by decide +kernel⟩, List.mem_of_getElem? (i := 17) (by decide +kernel), List.mem_of_getElem? (i := 637) (by decide +kernel), List.mem_of_getElem? (i := 638) (by decide +kernel)⟩
theorem lw_p19 : lw_okq (⟨"LoanTermsModel", "goes", "(ZZZ)Z"⟩, 37) := ⟨⟨by decide +kernel, by decide +kernel⟩, List.mem_of_getElem? (i := 642) (by decide +kernel), List.mem_of_getElem? (i := 771) (by decide +kernel), List.mem_of_getElem? (i := 772) (by decide +kernel)⟩
theorem lw_p20 : lw_okq (⟨"LoanTermsModel", "fault", "()I"⟩, 37) := ⟨⟨by decide +kernel, by decide +kernel⟩, List.mem_of_getElem? (i := 642) (by decide +kernel), List.mem_of_getElem? (i := 779) (by decide +kernel), List.mem_of_getElem? (i := 780) (by decide +kernel)⟩
theorem lw_p21 : lw_okq (⟨"LoanTermsModel", "build", "(I)V"⟩, 37) := ⟨⟨by decide +kernel, by decide +kernel⟩, List.mem_of_getElem? (i := 642) (by decide +kernel), List.mem_of_getElem? (i := 789) (by decide +kernel), List.mem_of_getElem? (i := 790) (by decide +kernel)⟩
theorem lw_p22 : lw_okq (⟨"LoanTermsModel", "begin", "(II)I"⟩, 37) := ⟨⟨by decide +kernel, by decide +kernel⟩, List.mem_of_getElem? (i := 642) (by decide +kernel), List.mem_of_getElem? (i := 793) (by decide +kernel), List.mem_of_getElem? (i := 794) (by decide +kernel)⟩
theorem lw_p23 : lw_okq (⟨"LoanTermsModel", "node", "(III)I"⟩, 37) := ⟨⟨by decide +kernel, by decide +kernel⟩, List.mem_of_getElem? (i := 642) (by decide +kernel), List.mem_of_getElem? (i := 797) (by decide +kernel), List.mem_of_getElem? (i := 798) (by decide +kernel)⟩
theorem lw_p24 : lw_okq (⟨"LoanTermsModel", "isContract", "(I)Z"⟩, 37) := ⟨⟨by decide +kernel, by decide +kernel⟩, List.mem_of_getElem? (i := 642) (by decide +kernel), List.mem_of_getElem? (i := 805) (by decide +kernel), List.mem_of_getElem? (i := 806) (by decide +kernel)⟩
theorem lw_p25 : lw_okq (⟨"LoanTermsModel", "write", "(I)V"⟩, 37) := ⟨⟨by decide +kernel, by decide +kernel⟩, List.mem_of_getElem? (i := 642) (by decide +kernel), List.mem_of_getElem? (i := 813) (by decide +kernel), List.mem_of_getElem? (i := 814) (by decide +kernel)⟩
theorem lw_p26 : lw_okq (⟨"LoanTermsModel", "put", "(I)V"⟩, 37) := ⟨⟨by decide +kernel, by decide +kernel⟩, List.mem_of_getElem? (i := 642) (by decide +kernel), List.mem_of_getElem? (i := 817) (by decide +kernel), List.mem_of_getElem? (i := 818) (by decide +kernel)⟩
theorem lw_p27 : lw_okq (⟨"LoanTermsModel", "unfold", "(II)V"⟩, 37) := ⟨⟨by decide +kernel, by decide +kernel⟩, List.mem_of_getElem? (i := 642) (by decide +kernel), List.mem_of_getElem? (i := 821) (by decide +kernel), List.mem_of_getElem? (i := 822) (by decide +kernel)⟩
theorem lw_p28 : lw_okq (⟨"LoanTermsModel", "children", "(II)I"⟩, 37) := ⟨⟨by decide +kernel, by decide +kernel⟩, List.mem_of_getElem? (i := 642) (by decide +kernel), List.mem_of_getElem? (i := 825) (by decide +kernel), List.mem_of_getElem? (i := 826) (by decide +kernel)⟩
theorem lw_p29 : lw_okq (⟨"LoanTermsModel", "putNumber", "(I)V"⟩, 37) := ⟨⟨by decide +kernel, by decide +kernel⟩, List.mem_of_getElem? (i := 642) (by decide +kernel), List.mem_of_getElem? (i := 829) (by decide +kernel), List.mem_of_getElem? (i := 830) (by decide +kernel)⟩
theorem lw_p30 : lw_okq (⟨"LoanTermsModel", "isOut", "(IIII)Z"⟩, 37) := ⟨⟨by decide +kernel, by decide +kernel⟩, List.mem_of_getElem? (i := 642) (by decide +kernel), List.mem_of_getElem? (i := 854) (by decide +kernel), List.mem_of_getElem? (i := 855) (by decide +kernel)⟩
theorem lw_p31 : lw_okq (⟨"LoanTermsModel", "isLoan", "(I)Z"⟩, 37) := ⟨⟨by decide +kernel, by decide +kernel⟩, List.mem_of_getElem? (i := 642) (by decide +kernel), List.mem_of_getElem? (i := 862) (by decide +kernel), List.mem_of_getElem? (i := 863) (by decide +kernel)⟩
def lw_privs_2 : List (MethodName × Nat) := [(⟨"LoanTerms", "spanAt", "(I)LLoanTerms$Span;"⟩, 9), (⟨"LoanTerms", "numberAt", "(I)I"⟩, 9), (⟨"LoanTerms", "inputRows", "()I"⟩, 9), (⟨"LoanTermsModel", "goes", "(ZZZ)Z"⟩, 37), (⟨"LoanTermsModel", "fault", "()I"⟩, 37), (⟨"LoanTermsModel", "build", "(I)V"⟩, 37), (⟨"LoanTermsModel", "begin", "(II)I"⟩, 37), (⟨"LoanTermsModel", "node", "(III)I"⟩, 37), (⟨"LoanTermsModel", "isContract", "(I)Z"⟩, 37), (⟨"LoanTermsModel", "write", "(I)V"⟩, 37), (⟨"LoanTermsModel", "put", "(I)V"⟩, 37), (⟨"LoanTermsModel", "unfold", "(II)V"⟩, 37), (⟨"LoanTermsModel", "children", "(II)I"⟩, 37), (⟨"LoanTermsModel", "putNumber", "(I)V"⟩, 37), (⟨"LoanTermsModel", "isOut", "(IIII)Z"⟩, 37), (⟨"LoanTermsModel", "isLoan", "(I)Z"⟩, 37)]
theorem lw_r2 : ∀ q ∈ lw_privs_2, lw_okq q := List.forall_mem_cons.mpr ⟨lw_p16, List.forall_mem_cons.mpr ⟨lw_p17, List.forall_mem_cons.mpr ⟨lw_p18, List.forall_mem_cons.mpr ⟨lw_p19, List.forall_mem_cons.mpr ⟨lw_p20, List.forall_mem_cons.mpr ⟨lw_p21, List.forall_mem_cons.mpr ⟨lw_p22, List.forall_mem_cons.mpr ⟨lw_p23, List.forall_mem_cons.mpr ⟨lw_p24, List.forall_mem_cons.mpr ⟨lw_p25, List.forall_mem_cons.mpr ⟨lw_p26, List.forall_mem_cons.mpr ⟨lw_p27, List.forall_mem_cons.mpr ⟨lw_p28, List.forall_mem_cons.mpr ⟨lw_p29, List.forall_mem_cons.mpr ⟨lw_p30, List.forall_mem_cons.mpr ⟨lw_p31, fun _ h => absurd h List.not_mem_nil⟩⟩⟩⟩⟩⟩⟩⟩⟩⟩⟩⟩⟩⟩⟩⟩
theorem lw_p32 : lw_okq (⟨"LoanTermsModel", "work", "(II)V"⟩, 37) := ⟨⟨by decide +kernel, by decide +kernel⟩, List.mem_of_getElem? (i := 642) (by decide +kernel), List.mem_of_getElem? (i := 870) (by decide +kernel), List.mem_of_getElem? (i := 871) (by decide +kernel)⟩
theorem lw_p33 : lw_okq (⟨"LoanTermsModel", "leaf", "(III)I"⟩, 37) := ⟨⟨by decide +kernel, by decide +kernel⟩, List.mem_of_getElem? (i := 642) (by decide +kernel), List.mem_of_getElem? (i := 874) (by decide +kernel), List.mem_of_getElem? (i := 875) (by decide +kernel)⟩
theorem lw_p34 : lw_okq (⟨"LoanTermsModel", "valueAt", "(II)I"⟩, 37) := ⟨⟨by decide +kernel, by decide +kernel⟩, List.mem_of_getElem? (i := 642) (by decide +kernel), List.mem_of_getElem? (i := 878) (by decide +kernel), List.mem_of_getElem? (i := 879) (by decide +kernel)⟩
theorem lw_p35 : lw_okq (⟨"LoanTermsModel", "isPair", "(II)Z"⟩, 37) := ⟨⟨by decide +kernel, by decide +kernel⟩, List.mem_of_getElem? (i := 642) (by decide +kernel), List.mem_of_getElem? (i := 902) (by decide +kernel), List.mem_of_getElem? (i := 903) (by decide +kernel)⟩
theorem lw_p36 : lw_okq (⟨"LoanTermsModel", "allDays", "(I)I"⟩, 37) := ⟨⟨by decide +kernel, by decide +kernel⟩, List.mem_of_getElem? (i := 642) (by decide +kernel), List.mem_of_getElem? (i := 910) (by decide +kernel), List.mem_of_getElem? (i := 911) (by decide +kernel)⟩
theorem lw_p37 : lw_okq (⟨"LoanTermsModel", "allFee", "(I)I"⟩, 37) := ⟨⟨by decide +kernel, by decide +kernel⟩, List.mem_of_getElem? (i := 642) (by decide +kernel), List.mem_of_getElem? (i := 918) (by decide +kernel), List.mem_of_getElem? (i := 919) (by decide +kernel)⟩
theorem lw_p38 : lw_okq (⟨"LoanTermsModel", "writeLetter", "(I)V"⟩, 37) := ⟨⟨by decide +kernel, by decide +kernel⟩, List.mem_of_getElem? (i := 642) (by decide +kernel), List.mem_of_getElem? (i := 926) (by decide +kernel), List.mem_of_getElem? (i := 927) (by decide +kernel)⟩
def lw_privs_3 : List (MethodName × Nat) := [(⟨"LoanTermsModel", "work", "(II)V"⟩, 37), (⟨"LoanTermsModel", "leaf", "(III)I"⟩, 37), (⟨"LoanTermsModel", "valueAt", "(II)I"⟩, 37), (⟨"LoanTermsModel", "isPair", "(II)Z"⟩, 37), (⟨"LoanTermsModel", "allDays", "(I)I"⟩, 37), (⟨"LoanTermsModel", "allFee", "(I)I"⟩, 37), (⟨"LoanTermsModel", "writeLetter", "(I)V"⟩, 37)]
theorem lw_r3 : ∀ q ∈ lw_privs_3, lw_okq q := List.forall_mem_cons.mpr ⟨lw_p32, List.forall_mem_cons.mpr ⟨lw_p33, List.forall_mem_cons.mpr ⟨lw_p34, List.forall_mem_cons.mpr ⟨lw_p35, List.forall_mem_cons.mpr ⟨lw_p36, List.forall_mem_cons.mpr ⟨lw_p37, List.forall_mem_cons.mpr ⟨lw_p38, fun _ h => absurd h List.not_mem_nil⟩⟩⟩⟩⟩⟩⟩
def lw_privs : List (MethodName × Nat) := lw_privs_1 ++ (lw_privs_2 ++ (lw_privs_3))
def lw_tbl : List Cond := k2_sels lw_privs ++ tables_1
theorem lw_privs_ok : ∀ q ∈ lw_privs, lw_okq q := by
  show ∀ q ∈ lw_privs_1 ++ (lw_privs_2 ++ (lw_privs_3)), lw_okq q
  exact List.forall_mem_append.mpr ⟨lw_r1, List.forall_mem_append.mpr ⟨lw_r2, lw_r3⟩⟩
end
section
/-! ===== BEGIN words of one list among another's, by their places ===== -/
theorem goodIn_r {big : List Cond} (ws : List Cond) (ps : List Nat) (hp : ws = ps.filterMap (fun i => big[i]?)) (h : ws.all goodWord = true) : GoodIn big ws := by
  intro w hw
  have h1 := List.all_eq_true.mp h w hw
  rw [hp] at hw
  obtain ⟨i, -, hi⟩ := List.mem_filterMap.mp hw
  have hm : w ∈ big := by first | exact List.mem_of_getElem? hi | exact List.getElem?_mem hi
  exact ⟨hm, good_of_word h1⟩
theorem goodIn_app {big a b : List Cond} (ha : GoodIn big a) (hb : GoodIn big b) : GoodIn big (a ++ b) := fun w h => (List.mem_append.mp h).elim (ha w) (hb w)
theorem goodIn_ca {big a b : List Cond} {c : Cond} (ha : GoodIn big (c :: a)) (hb : GoodIn big b) : GoodIn big (c :: (a ++ b)) := fun w h => (List.mem_cons.mp h).elim (fun e => ha w (List.mem_cons.mpr (Or.inl e))) (fun h => (List.mem_append.mp h).elim (fun h => ha w (List.mem_cons.mpr (Or.inr h))) (hb w))
theorem goodIn_sub {big ws : List Cond} (hm : ∀ w ∈ ws, w ∈ big) (h : ws.all goodWord = true) : GoodIn big ws := fun w hw => ⟨hm w hw, good_of_word (List.all_eq_true.mp h w hw)⟩
/-! ===== END ===== -/

/-! ===== BEGIN exceptions that leave a method, and their catching by the caller (launches without stack traces) ===== -/
section VXA
/-! The laws vx_back, vx_callV, vx_callS, vx_callSW, vx_throw0, vx_throwS follow proofs of the library, with one case more: JvmDerived/Free/Laws.lean (Back.of_free), Shelf42/LK1.lean (callV, callS), Shelf/KitTraced.lean (throwNew0V, throwNewS). -/
/-- where a method has thrown q: the class by its name, the cell, what was written, the world -/
def vx_T (XC : String → State → State → Prop) (st : State) (q : Addr) (t : State) (mc ms : Nat) (free : Addr → Prop) : Prop :=
  ∃ (E : String) (ce : Cell) (L : List Loc), XC E st t ∧ t.heap[q]? = some ce ∧ ce.vm = .none ∧ st.vm.findClass E = some ce.cls ∧ st.WarmedH t.vm ∧ st.sameButNew ({ t with vm := st.vm } : State) L mc ms ∧ ∀ z ∈ L, free z.base
def vx_Q (Qc : Array Value → State → Outcome → State → Prop) (XC : String → State → State → Prop) (mc ms : Nat) (free : Addr → Prop) : Array Value → State → Outcome → State → Prop := fun a st o t =>
  (Qc a st o t ∧ ∃ L, FrameEnd st o t L mc ms ∧ ∀ q ∈ L, free q.base) ∨ ∃ q, o = .threw q ∧ vx_T XC st q t mc ms free
/-- a callee that returns or throws -/
def vx_Met (l : Launch) (y : MethodName) (ws : List Cond) (rm : Room) (Pc : Array Value → State → Prop) (Qc : Array Value → State → Outcome → State → Prop) (XC : String → State → State → Prop) (mc ms : Nat) (free : Addr → Prop) : Prop :=
  MetFree l y (headSpec ws rm) Pc (fun _ _ _ _ _ => True) (vx_Q Qc XC mc ms free)
def vx_Post (XC : String → State → State → Prop) (mc ms : Nat) (free : Addr → Prop) : Pt → Array Value → Addr → Pt → Prop := fun A a q B =>
  ∃ (g : JFrame) (mk : MethodId) (t : State) (L : List Loc) (E : String) (ce : Cell), B.U.heap = t.heap ∧ B.U.vm = t.vm ∧ XC E (A.U.calling g mk a) t ∧ t.heap[q]? = some ce ∧ ce.vm = .none ∧ A.U.vm.findClass E = some ce.cls ∧ B.locs = A.locs ++ L ∧ (∀ z ∈ L, free z.base) ∧ B.cells = A.cells + mc ∧ B.slots = A.slots + ms
def vx_Back (l : Launch) (R : Room) (p : Program) (e : Env) (below : List Frame) (s : State) (sargs : Array Value) (y : MethodName) (len W9 : Nat)
    (Pre : Pt → Array Value → Prop) (Post : Pt → Array Value → Option Value → Pt → Prop) (PostX : Pt → Array Value → Addr → Pt → Prop) : Prop :=
  ∀ (m : MethodId) (meth : Method) (c : Code) (A : Pt) (g : JFrame) (ig : Instr) (mk : MethodId) (a : Array Value),
    Stand p l e R s m sargs below meth c A.U A.locs A.cells A.slots → g.method = m → g.locals.size = c.maxLocals → decode c.code g.pc = .ok (ig, len) →
    2 * g.monitorRoom + (g.stack.map fun v => v.category).sum ≤ W9 → A.U.methodNamed? y = some mk → Pre A a →
    (∃ (v : Option Value) (B : Pt), Stand p l e R s m sargs below meth c B.U B.locs B.cells B.slots ∧ Post A a v B ∧
      Steps p.tables e below (doInvoke e (A.U.setTop g) [] mk a).1 (B.U.setTop { g with pc := g.pc + len, stack := v.toList ++ g.stack })) ∨
    (∃ (q : Addr) (B : Pt), Stand p l e R s m sargs below meth c B.U B.locs B.cells B.slots ∧ PostX A a q B ∧
      Steps p.tables e below (doInvoke e (A.U.setTop g) [] mk a).1 ((B.U.setTop g).pushFrame (.throwing q)))
section Payer
variable {l : Launch} {R : Room} {p : Program} {e : Env} {below : List Frame} {s : State} {sargs : Array Value} {y : MethodName} {len W9 : Nat}
theorem vx_back {ws : List Cond} {rm : Room} {Pc : Array Value → State → Prop} {Qc : Array Value → State → Outcome → State → Prop} {XC : String → State → State → Prop} {mc ms : Nat} {free : Addr → Prop} {bytes : ByteArray} {maxL : Nat} {ret : Option FieldType}
    (hM : vx_Met l y ws rm Pc Qc XC mc ms free) (hblind : FrameBlind Pc) (hrc : rm.cells = mc) (hrs : rm.slots = ms)
    (hframes : rm.frames + 1 ≤ R.frames) (hlocals : W9 + (maxL + 11) + rm.locals ≤ R.locals)
    (hws : ∀ w ∈ ws, ∀ a' U, s.WarmedH U.vm → w.before a' U = true) (hcode : Cond.code y bytes maxL ret ∈ ws) (hinit : ∀ a' U, s.WarmedH U.vm → (Cond.initialized y.cls).before a' U = true) :
    vx_Back l R p e below s sargs y len W9 (PreOf R mc ms Pc) (PostOf Qc mc ms free) (vx_Post XC mc ms free) := by
  intro m meth c A g ig mk a X hg hsize hdg hW hn hp
  have h1 : (headSpec ws rm).pre.before a A.U = true := atoms_intro fun w hw => hws w hw _ _ X.warmed
  have h2 : (Cond.code y bytes maxL ret).before a A.U = true := hws _ hcode _ _ X.warmed
  have h3 : (Cond.initialized y.cls).before a A.U = true := hinit _ _ X.warmed
  have h4 : A.cells + (headSpec ws rm).room.cells ≤ R.cells := by rw [show (headSpec ws rm).room.cells = mc from hrc]; exact hp.1
  have h5 : A.slots + (headSpec ws rm).room.slots ≤ R.slots := by rw [show (headSpec ws rm).room.slots = ms from hrs]; exact hp.2.1
  have hPc : Pc a (A.U.calling g mk a) := hblind _ _ _ _ hp.2.2
  obtain ⟨U, Ls, c0, s0⟩ := A
  dsimp only [Pt.U, Pt.locs, Pt.cells, Pt.slots] at h1 h2 h3 h4 h5 X hn hPc ⊢
  obtain ⟨methY, cY, hmY, hcY, -, hlY, -, -, -, -⟩ := Cond.code_spec hn h2
  obtain ⟨kY, hkY, -⟩ := className_of_methodNamed hn
  have hinitY : kY.init = .initialized := Cond.initialized_spec (findClass_of_methodNamed hn) hkY h3
  have h : At U g.method c below := by rw [hg]; exact X.here
  have hlocals9 : W9 + (maxL + 11) + (headSpec ws rm).room.locals ≤ R.locals := hlocals
  have happ : (headSpec ws rm).appliesLoose y e.platform (U.calling g mk a) = true :=
    Spec.appliesLoose_calling (g := g) h hdg hn hkY hinitY
      (X.room_calling (g := g) (R' := (headSpec ws rm).room) hsize hmY hcY hframes (by rw [hlY]; omega) h4 h5) h1
  obtain ⟨mid, hmid⟩ := h.above
  have hfr : (U.setTop g).frames = (.java g :: mid) ++ below := by rw [State.frames_setTop' g h.top, hmid]; rfl
  obtain ⟨o, s₂, hsteps, -, hend, hq⟩ := Steps.callFree hM p X.admits X.cas X.clock (acts := []) hfr happ hPc trivial
  have hq' : vx_Q Qc XC mc ms free a (U.calling g mk a) o s₂ := hq
  rw [State.frames_setTop' g h.top] at hend
  obtain ⟨g₀, hg0⟩ := Option.isSome_iff_exists.mp h.top
  obtain ⟨r, hr⟩ := State.topJava?_eq_some.mp hg0
  have hr' : (({ U with heap := s₂.heap, slotsUsed := s₂.slotsUsed } : State).setVm s₂.vm).frames = .java g₀ :: r := hr
  rcases hq' with ⟨hqc, L, hfe, hL⟩ | ⟨q, rfl, E, ce, L, hx, hce, hcv, hcl, hW₂, hsm, hL⟩
  · obtain ⟨⟨v, rfl⟩, hW₂, e2, q2, q3, q4, q5, q6⟩ := id hfe
    have e3 : s₂ = ({ (U.calling g mk a).setFrames s₂.frames with heap := s₂.heap, slotsUsed := s₂.slotsUsed } : State).setVm s₂.vm := by
      have : s₂ = ({ s₂ with vm := (U.calling g mk a).vm } : State).setVm s₂.vm := rfl
      rw [e2] at this
      exact this
    obtain ⟨c₂, i₂, len₂, hc₂, hd₂, hf₂⟩ := hend
    have hW' : U.WarmedH s₂.vm := hW₂
    have hcc : c₂ = c := by
      have h1 : s₂.code? g.method = U.code? g.method := by
        rw [State.code?_eq, State.code?_eq, hW'.alike.method?]
      exact Option.some.inj (hc₂.symm.trans (h1.trans h.code))
    subst hcc
    have hlen : len₂ = len := by rw [hdg] at hd₂; cases hd₂; rfl
    subst hlen
    have hs₂ : s₂ = (({ U with heap := s₂.heap, slotsUsed := s₂.slotsUsed } : State).setVm s₂.vm).setTop { g with pc := g.pc + len₂, stack := v.toList ++ g.stack } := by
      refine e3.trans ?_
      rw [hf₂, State.calling_eq h.top, State.setFrames_setFrames, State.setTop_of_frames _ hr', hr]
      rfl
    have hsame : U.sameButNew ({ U with heap := s₂.heap, slotsUsed := s₂.slotsUsed } : State) L mc ms := by
      refine ⟨?_, q2, q3, q4, q5, q6⟩
      obtain ⟨t, ht, -⟩ := State.frames_cons hr
      show ({ U with heap := s₂.heap, slotsUsed := s₂.slotsUsed } : State) = { U.setFrames U.frames with heap := s₂.heap, slotsUsed := s₂.slotsUsed }
      rw [State.setFrames_self ht]
    subst hg
    refine Or.inl ⟨v, ⟨(({ U with heap := s₂.heap, slotsUsed := s₂.slotsUsed } : State).setVm s₂.vm), Ls ++ L, c0 + mc, s0 + ms⟩,
      ⟨X.admits, X.cas, X.clock, X.frames, X.room, X.hears, X.method, X.code, (X.here.setHeapUsed s₂.heap s₂.slotsUsed).setVm hW'.alike, X.tail, State.WarmedH.trans X.warmed hW', X.limits, X.bytes, X.same.trans (hsame.setVm s.vm)⟩,
      ⟨g, mk, s₂, L, rfl, rfl, hqc, rfl, hL, rfl, rfl⟩, ?_⟩
    show Steps p.tables e below _ ((({ U with heap := s₂.heap, slotsUsed := s₂.slotsUsed } : State).setVm s₂.vm).setTop { g with pc := g.pc + len₂, stack := v.toList ++ g.stack })
    rw [← hs₂]
    exact hsteps
  · obtain ⟨e2, q2, q3, q4, q5, q6⟩ := id hsm
    have e3 : s₂ = ({ (U.calling g mk a).setFrames s₂.frames with heap := s₂.heap, slotsUsed := s₂.slotsUsed } : State).setVm s₂.vm := by
      have : s₂ = ({ s₂ with vm := (U.calling g mk a).vm } : State).setVm s₂.vm := rfl
      rw [e2] at this
      exact this
    have hf₂ : s₂.frames = .throwing q :: .java g :: U.frames.tail := hend
    have hW' : U.WarmedH s₂.vm := hW₂
    have hs₂ : s₂ = ((({ U with heap := s₂.heap, slotsUsed := s₂.slotsUsed } : State).setVm s₂.vm).setTop g).pushFrame (.throwing q) := by
      refine e3.trans ?_
      rw [hf₂, State.calling_eq h.top, State.setFrames_setFrames, State.pushFrame, State.frames_setTop _ hr', State.setTop_of_frames _ hr', State.setFrames_setFrames, hr]
      rfl
    have hsame : U.sameButNew ({ U with heap := s₂.heap, slotsUsed := s₂.slotsUsed } : State) L mc ms := by
      refine ⟨?_, q2, q3, q4, q5, q6⟩
      obtain ⟨t, ht, -⟩ := State.frames_cons hr
      show ({ U with heap := s₂.heap, slotsUsed := s₂.slotsUsed } : State) = { U.setFrames U.frames with heap := s₂.heap, slotsUsed := s₂.slotsUsed }
      rw [State.setFrames_self ht]
    subst hg
    refine Or.inr ⟨q, ⟨(({ U with heap := s₂.heap, slotsUsed := s₂.slotsUsed } : State).setVm s₂.vm), Ls ++ L, c0 + mc, s0 + ms⟩,
      ⟨X.admits, X.cas, X.clock, X.frames, X.room, X.hears, X.method, X.code, (X.here.setHeapUsed s₂.heap s₂.slotsUsed).setVm hW'.alike, X.tail, State.WarmedH.trans X.warmed hW', X.limits, X.bytes, X.same.trans (hsame.setVm s.vm)⟩,
      ⟨g, mk, s₂, L, E, ce, rfl, rfl, hx, hce, hcv, hcl, rfl, hL, rfl, rfl⟩, ?_⟩
    show Steps p.tables e below _ (((({ U with heap := s₂.heap, slotsUsed := s₂.slotsUsed } : State).setVm s₂.vm).setTop g).pushFrame (.throwing q))
    rw [← hs₂]
    exact hsteps
end Payer
section Calls
variable {p : Program} {l : Launch} {e : Env} {R : Room} {s : State} {m : MethodId} {args : Array Value} {below : List Frame} {meth : Method} {c : Code} {T : State} {locs : List Loc} {cells slots : Nat}
theorem vx_callV (X : Stand p l e R s m args below meth c T locs cells slots) (hexec : p.tables.exec = Jvm.exec) {own C : String} {index : Nat} {y : MethodName} {bytes : ByteArray} {maxL : Nat} {ret : Option FieldType}
    (hown : s.vm.findClass own = some m.cls) (hlink : (Cond.methodLink own index y).before args s = true) (hinst : (Cond.instanceMethod y).before args s = true) (hsel : (Cond.selects C y y).before args s = true)
    (hcode : (Cond.code y bytes maxL ret).before args s = true) (hy : y.cls ≠ "java/lang/invoke/MethodHandle" ∧ y.cls ≠ "java/lang/invoke/VarHandle")
    {W9 : Nat} {Pre : Pt → Array Value → Prop} {Post : Pt → Array Value → Option Value → Pt → Prop} {PostX : Pt → Array Value → Addr → Pt → Prop} (hK : vx_Back l R p e below s args y 3 W9 Pre Post PostX)
    {b : Addr} {cellB : Cell} (hcell : T.heap[b]? = some cellB) (hobj : cellB.vm.isStatics = false) (hcls : s.vm.findClass C = some cellB.cls)
    {g : JFrame} (hg : g.method = m) (hsize : g.locals.size = c.maxLocals) {argsL rest : List Value} (hlen : ∀ sig, parseMethodDescriptor y.desc = some sig → argsL.length = sig.parameters.length)
    (hstack : g.stack = argsL.reverse ++ .ref b :: rest) (hW : 2 * g.monitorRoom + (rest.map fun v => v.category).sum ≤ W9) (hdg : decode c.code g.pc = .ok (.invokevirtual index, 3))
    (hpre : ∀ vm₁, s.WarmedH vm₁ → Pre ⟨T.setVm vm₁, locs, cells, slots⟩ (Value.ref b :: argsL).toArray) :
    (∃ (v : Option Value) (vm₁ : Vm) (B : Pt), s.WarmedH vm₁ ∧ Stand p l e R s m args below meth c B.U B.locs B.cells B.slots ∧ Post ⟨T.setVm vm₁, locs, cells, slots⟩ (Value.ref b :: argsL).toArray v B ∧
      ∀ target, Steps p.tables e below (B.U.setTop { g with pc := g.pc + 3, stack := v.toList ++ rest }) target → Steps p.tables e below (T.setTop g) target) ∨
    (∃ (q : Addr) (vm₁ : Vm) (B : Pt), s.WarmedH vm₁ ∧ Stand p l e R s m args below meth c B.U B.locs B.cells B.slots ∧ PostX ⟨T.setVm vm₁, locs, cells, slots⟩ (Value.ref b :: argsL).toArray q B ∧
      Steps p.tables e below (T.setTop g) ((B.U.setTop { g with stack := rest }).pushFrame (.throwing q))) := by
  obtain ⟨mk, methM, hnamed, hmethM, hstM, habM⟩ := Cond.instanceMethod_spec hinst
  obtain ⟨methM', cM, hmethM', -, -, -, -, -, -, hsigM⟩ := Cond.code_spec hnamed hcode
  cases hmethM.symm.trans hmethM'
  obtain ⟨c2, r2, m2, q1, q2, q3, q4, kP, hkP, hkPi⟩ := Cond.selects_spec hsel
  cases hcls.symm.trans q1
  cases (State.methodFound?_of_named hnamed hy).symm.trans q2
  cases hnamed.symm.trans q3
  have hselP : selectMethod e.platform s.vm cellB.cls mk = .method mk := by rw [Launch.admits_selectMethod X.admits]; exact q4
  obtain ⟨vm₁, X₁, hstep₁⟩ := X.invokevirtual hexec hown hlink hnamed hmethM hstM hkP hkPi hy (a := b) (cell := cellB) hcell
    (fun z h => by rw [h] at hobj; cases hobj) hselP hmethM habM hkP hkPi (g := g) hg (argsL := argsL) (rest := rest) (hlen _ hsigM) hstack hdg
  rcases hK m meth c ⟨T.setVm vm₁, locs, cells, slots⟩ { g with stack := rest } (.invokevirtual index) mk (Value.ref b :: argsL).toArray X₁ hg hsize hdg hW (X₁.named hnamed) (hpre vm₁ X₁.warmed) with ⟨v, B, X', hpost, hsteps⟩ | ⟨q, B, X', hpost, hsteps⟩
  · exact Or.inl ⟨v, vm₁, B, X₁.warmed, X', hpost, fun target h => hstep₁ _ fun acts => by rw [doInvoke_state]; exact hsteps.trans h⟩
  · exact Or.inr ⟨q, vm₁, B, X₁.warmed, X', hpost, hstep₁ _ fun acts => by rw [doInvoke_state]; exact hsteps⟩
theorem vx_callS (X : Stand p l e R s m args below meth c T locs cells slots) (hexec : p.tables.exec = Jvm.exec) {own : String} {index : Nat} {y : MethodName} {bytes : ByteArray} {maxL : Nat} {ret : Option FieldType}
    (hown : s.vm.findClass own = some m.cls) (hlink : (Cond.methodLink own index y).before args s = true) (hstat : (Cond.static y).before args s = true) (hinit : (Cond.initialized y.cls).before args s = true)
    (hcode : (Cond.code y bytes maxL ret).before args s = true) (hy : y.cls ≠ "java/lang/invoke/MethodHandle" ∧ y.cls ≠ "java/lang/invoke/VarHandle")
    {W9 : Nat} {Pre : Pt → Array Value → Prop} {Post : Pt → Array Value → Option Value → Pt → Prop} {PostX : Pt → Array Value → Addr → Pt → Prop} (hK : vx_Back l R p e below s args y 3 W9 Pre Post PostX)
    {g : JFrame} (hg : g.method = m) (hsize : g.locals.size = c.maxLocals) {argsL rest : List Value} (hlen : ∀ sig, parseMethodDescriptor y.desc = some sig → argsL.length = sig.parameters.length)
    (hstack : g.stack = argsL.reverse ++ rest) (hW : 2 * g.monitorRoom + (rest.map fun v => v.category).sum ≤ W9) (hdg : decode c.code g.pc = .ok (.invokestatic index, 3))
    (hpre : ∀ vm₁, s.WarmedH vm₁ → Pre ⟨T.setVm vm₁, locs, cells, slots⟩ argsL.toArray) :
    (∃ (v : Option Value) (vm₁ : Vm) (B : Pt), s.WarmedH vm₁ ∧ Stand p l e R s m args below meth c B.U B.locs B.cells B.slots ∧ Post ⟨T.setVm vm₁, locs, cells, slots⟩ argsL.toArray v B ∧
      ∀ target, Steps p.tables e below (B.U.setTop { g with pc := g.pc + 3, stack := v.toList ++ rest }) target → Steps p.tables e below (T.setTop g) target) ∨
    (∃ (q : Addr) (vm₁ : Vm) (B : Pt), s.WarmedH vm₁ ∧ Stand p l e R s m args below meth c B.U B.locs B.cells B.slots ∧ PostX ⟨T.setVm vm₁, locs, cells, slots⟩ argsL.toArray q B ∧
      Steps p.tables e below (T.setTop g) ((B.U.setTop { g with stack := rest }).pushFrame (.throwing q))) := by
  obtain ⟨mk, hnamed⟩ := Cond.code_named hcode
  obtain ⟨methM, cM, hmethM, -, -, -, -, -, -, hsigM⟩ := Cond.code_spec hnamed hcode
  have hstatic : methM.isStatic = true := Cond.static_spec hnamed hmethM hstat
  obtain ⟨kP, hkP, -⟩ := className_of_methodNamed hnamed
  have hinitP : kP.init = .initialized := Cond.initialized_spec (findClass_of_methodNamed hnamed) hkP hinit
  obtain ⟨vm₁, X₁, hstep₁⟩ := X.invokestatic hexec hown hlink hnamed hmethM hstatic hkP hinitP hy (g := g) hg (argsL := argsL) (rest := rest) (hlen _ hsigM) hstack hdg
  rcases hK m meth c ⟨T.setVm vm₁, locs, cells, slots⟩ { g with stack := rest } (.invokestatic index) mk argsL.toArray X₁ hg hsize hdg hW (X₁.named hnamed) (hpre vm₁ X₁.warmed) with ⟨v, B, X', hpost, hsteps⟩ | ⟨q, B, X', hpost, hsteps⟩
  · exact Or.inl ⟨v, vm₁, B, X₁.warmed, X', hpost, fun target h => hstep₁ _ fun acts => by rw [doInvoke_state]; exact hsteps.trans h⟩
  · exact Or.inr ⟨q, vm₁, B, X₁.warmed, X', hpost, hstep₁ _ fun acts => by rw [doInvoke_state]; exact hsteps⟩
end Calls
theorem vx_cls {s : State} {T : State} {vm₁ : Vm} {E : String} {k : ClassId} (hW : s.WarmedH vm₁) (h : (T.setVm vm₁).vm.findClass E = some k) : s.vm.findClass E = some k := by
  have h1 : vm₁.findClass E = some k := h
  rw [hW.alike.findClass] at h1
  exact h1
/-- the method's frame g, with q thrown over it -/
def vx_W (p : Program) (l : Launch) (e : Env) (R : Room) (s : State) (m : MethodId) (args : Array Value) (below : List Frame) (meth : Method) (c : Code) (H : Heap) (locs : List Loc) (cells slots : Nat) (Q : State → Prop) (g : JFrame) (q : Addr) : Prop :=
  ∀ T : State, T.heap = H → Stand p l e R s m args below meth c T locs cells slots → ∃ t, Steps p.tables e below ((T.setTop g).pushFrame (.throwing q)) t ∧ Q t
def vx_Run (p : Program) (l : Launch) (e : Env) (R : Room) (s : State) (m : MethodId) (args : Array Value) (below : List Frame) (meth : Method) (c : Code) (H : Heap) (locs : List Loc) (cells slots mc ms : Nat) (g : JFrame) (rest : List Value) (Qa : State → Outcome → State → Prop) (XC : String → State → State → Prop) (free : Addr → Prop) : Prop :=
  ∀ T : State, T.heap = H → Stand p l e R s m args below meth c T locs cells slots →
    (∃ (v : Option Value) (st₀ t T' : State) (L : List Loc), st₀.heap = H ∧ Stand p l e R s m args below meth c T' (locs ++ L) (cells + mc) (slots + ms) ∧ (∀ q ∈ L, free q.base) ∧ T'.heap = t.heap ∧ T'.vm = t.vm ∧ Qa st₀ (.returned v) t ∧
      Goes p e below T g T' { g with pc := g.pc + 3, stack := v.toList ++ rest }) ∨
    (∃ (q : Addr) (st₀ t T' : State) (L : List Loc) (E : String) (ce : Cell), st₀.heap = H ∧ Stand p l e R s m args below meth c T' (locs ++ L) (cells + mc) (slots + ms) ∧ (∀ z ∈ L, free z.base) ∧ T'.heap = t.heap ∧ T'.vm = t.vm ∧ XC E st₀ t ∧ t.heap[q]? = some ce ∧ ce.vm = .none ∧ s.vm.findClass E = some ce.cls ∧
      Steps p.tables e below (T.setTop g) ((T'.setTop { g with stack := rest }).pushFrame (.throwing q)))
def vx_X {S : Type} (px : S → Prop) (B : String → S → State → Prop) (A : Nat → Prop) : String → State → State → Prop := fun E st t => ∃ u : S, px u ∧ B E u t ∧ va_F A st t
section Runs
variable {p : Program} {l : Launch} {e : Env} {R : Room} {s : State} {m : MethodId} {args : Array Value} {below : List Frame} {meth : Method} {c : Code} {H : Heap} {locs : List Loc} {cells slots : Nat}
variable {y : MethodName} {bytes cc : ByteArray} {maxL nL mc ms n index : Nat} {ret : Option FieldType} {ws : List Cond} {rm : Room} {Pc : Array Value → State → Prop} {Qc : Array Value → State → Outcome → State → Prop} {XC : String → State → State → Prop} {free : Addr → Prop} {Ts : List Cond} {own C : String} {b : Addr} {As rest : List Value} {g : JFrame}
theorem vx_callBack (cb : CallB R s args own index y bytes maxL ret ws rm mc ms n) (hM : vx_Met l y ws rm Pc Qc XC mc ms free) (hbl : FrameBlind Pc) : vx_Back l R p e below s args y 3 8 (PreOf R mc ms Pc) (PostOf Qc mc ms free) (vx_Post XC mc ms free) := by
  obtain ⟨hrc, hrs, hfr, hlo, hws, hcw, -, hini, -⟩ := cb
  exact vx_back (bytes := bytes) (maxL := maxL) (ret := ret) hM hbl hrc hrs hfr hlo hws hcw (fun a' U hW => word_at hW (Or.inl (by first | rfl | simp [Cond.onTables, Cond.keeps, Cond.steady])) hini)
theorem vx_runV (S : CallFix p m c cc nL s args Ts own) (hM : vx_Met l y ws rm Pc Qc XC mc ms free) (cw : CallW R s args own C index y bytes maxL ret ws rm mc ms n) (hp : PreV s H C b Pc As)
    (hg : g.method = m) (hn : As.length = n) (hsize : g.locals.size = nL) (hstack : g.stack = As.reverse ++ .ref b :: rest) (hW : 2 * g.monitorRoom + (rest.map fun v => v.category).sum ≤ 8) (hdg : decode cc g.pc = .ok (.invokevirtual index, 3)) (hf : cells + mc ≤ R.cells ∧ slots + ms ≤ R.slots) :
    vx_Run p l e R s m args below meth c H locs cells slots mc ms g rest (Qc (Value.ref b :: As).toArray) XC free := by
  have hK : vx_Back l R p e below s args y 3 8 (PreOf R mc ms Pc) (PostOf Qc mc ms free) (vx_Post XC mc ms free) := vx_callBack cw.1 hM hp.1
  obtain ⟨⟨-, -, -, -, -, -, hcode, -, hy, hlen, hl⟩, hin, hse⟩ := cw
  obtain ⟨hx, hb, hml, ho, -⟩ := S
  obtain ⟨-, ⟨cellB, hcB, hoB, hclB⟩, hPc⟩ := hp
  intro T hT X
  rcases vx_callV X hx (C := C) (bytes := bytes) (maxL := maxL) (ret := ret) ho hl hin hse hcode hy hK (by rw [hT]; exact hcB) hoB hclB hg (hsize.trans hml.symm) (argsL := As) (rest := rest) (fun sig h => hn.trans (hlen sig h)) hstack hW (by rw [hb]; exact hdg)
    (fun vm₁ hW₁ => ⟨hf.1, hf.2, hPc (T.setVm vm₁) hT hW₁⟩) with ⟨v, vm₁, ⟨U', l2, c2, s2⟩, hW₁, X', ⟨g', mk, t, L, e1, e2, hq, h1, hL, h2, h3⟩, st⟩ | ⟨q, vm₁, ⟨U', l2, c2, s2⟩, hW₁, X', ⟨g', mk, t, L, E, ce, e1, e2, hq, hce, hcv, hcl, h1, hL, h2, h3⟩, st⟩
  · dsimp only [Pt.U, Pt.locs, Pt.cells, Pt.slots] at X' e1 e2 h1 h2 h3 st
    subst h1; subst h2; subst h3
    exact Or.inl ⟨v, (T.setVm vm₁).calling g' mk (Value.ref b :: As).toArray, t, U', L, hT, X', hL, e1, e2, hq, st⟩
  · dsimp only [Pt.U, Pt.locs, Pt.cells, Pt.slots] at X' e1 e2 h1 h2 h3 st hcl
    subst h1; subst h2; subst h3
    exact Or.inr ⟨q, (T.setVm vm₁).calling g' mk (Value.ref b :: As).toArray, t, U', L, E, ce, hT, X', hL, e1, e2, hq, hce, hcv, vx_cls hW₁ hcl, st⟩
theorem vx_runS (S : CallFix p m c cc nL s args Ts own) (hM : vx_Met l y ws rm Pc Qc XC mc ms free) (cw : CallB R s args own index y bytes maxL ret ws rm mc ms n ∧ (Cond.static y).before args s = true) (hp : PreS s H Pc As)
    (hg : g.method = m) (hn : As.length = n) (hsize : g.locals.size = nL) (hstack : g.stack = As.reverse ++ rest) (hW : 2 * g.monitorRoom + (rest.map fun v => v.category).sum ≤ 8) (hdg : decode cc g.pc = .ok (.invokestatic index, 3)) (hf : cells + mc ≤ R.cells ∧ slots + ms ≤ R.slots) :
    vx_Run p l e R s m args below meth c H locs cells slots mc ms g rest (Qc As.toArray) XC free := by
  have hK : vx_Back l R p e below s args y 3 8 (PreOf R mc ms Pc) (PostOf Qc mc ms free) (vx_Post XC mc ms free) := vx_callBack cw.1 hM hp.1
  obtain ⟨⟨-, -, -, -, -, -, hcode, hini, hy, hlen, hl⟩, hstt⟩ := cw
  obtain ⟨hx, hb, hml, ho, -⟩ := S
  intro T hT X
  rcases vx_callS X hx (bytes := bytes) (maxL := maxL) (ret := ret) ho hl hstt hini hcode hy hK hg (hsize.trans hml.symm) (argsL := As) (rest := rest) (fun sig h => hn.trans (hlen sig h)) hstack hW (by rw [hb]; exact hdg)
    (fun vm₁ hW₁ => ⟨hf.1, hf.2, hp.2 (T.setVm vm₁) hT hW₁⟩) with ⟨v, vm₁, ⟨U', l2, c2, s2⟩, hW₁, X', ⟨g', mk, t, L, e1, e2, hq, h1, hL, h2, h3⟩, st⟩ | ⟨q, vm₁, ⟨U', l2, c2, s2⟩, hW₁, X', ⟨g', mk, t, L, E, ce, e1, e2, hq, hce, hcv, hcl, h1, hL, h2, h3⟩, st⟩
  · dsimp only [Pt.U, Pt.locs, Pt.cells, Pt.slots] at X' e1 e2 h1 h2 h3 st
    subst h1; subst h2; subst h3
    exact Or.inl ⟨v, (T.setVm vm₁).calling g' mk As.toArray, t, U', L, hT, X', hL, e1, e2, hq, st⟩
  · dsimp only [Pt.U, Pt.locs, Pt.cells, Pt.slots] at X' e1 e2 h1 h2 h3 st hcl
    subst h1; subst h2; subst h3
    exact Or.inr ⟨q, (T.setVm vm₁).calling g' mk As.toArray, t, U', L, E, ce, hT, X', hL, e1, e2, hq, hce, hcv, vx_cls hW₁ hcl, st⟩
end Runs
section Rows
variable {p : Program} {l : Launch} {e : Env} {R : Room} {s : State} {m : MethodId} {args : Array Value} {below : List Frame} {meth : Method} {c : Code} {H : Heap} {locs : List Loc} {cells slots : Nat} {Q : State → Prop}
variable {mc ms : Nat} {free : Addr → Prop} {A0 A1 : Nat → Prop} {H0 : Heap} {a : Array Value} {pc : Nat} {ls : Array Slot} {st0 rest : List Value}
theorem vx_keep {st₀ t T' : State} {L : List Loc} (h0 : st₀.heap = H) (e1 : T'.heap = t.heap) (hS : va_S A0 H0 H locs) (hA : ∀ q, q < H.size → A1 q → A0 q) (hf : ∀ q, free q → A0 q) (hL : ∀ q ∈ L, free q.base) (hF : va_F A1 st₀ t) :
    H.size ≤ T'.heap.size ∧ (∀ q : Nat, q < H.size → ¬ A1 q → T'.heap[q]? = H[q]?) ∧ va_S A0 H0 T'.heap (locs ++ L) := by
  obtain ⟨hz, hk⟩ := hF
  rw [h0] at hz hk
  exact ⟨by rw [e1]; exact hz, fun q h1 h2 => by rw [e1]; exact hk q h1 h2,
    ⟨Nat.le_trans hS.1 (by rw [e1]; exact hz), fun q h1 h2 => by rw [e1, hk q (Nat.lt_of_lt_of_le h1 hS.1) (fun z => h2 (hA q (Nat.lt_of_lt_of_le h1 hS.1) z))]; exact hS.2.1 q h1 h2, fun q hq => by
      rcases List.mem_append.mp hq with h | h
      · exact hS.2.2 q h
      · exact hf _ (hL q h)⟩⟩
theorem vx_calli {S SX : Type} {post : Int32 → S → Prop} {px : SX → Prop} {B : S → State → Prop} {BX : String → SX → State → Prop} {AX : Nat → Prop} (hr : vx_Run p l e R s m args below meth c H locs cells slots mc ms (F0 m pc ls st0) rest (va_Qi post B A1 a) (vx_X px BX AX) free) (hS : va_S A0 H0 H locs) (hA : ∀ q, q < H.size → A1 q → A0 q) (hf : ∀ q, free q → A0 q) (hAX : ∀ q, q < H.size → AX q → A0 q)
    (kx : ∀ (E : String) (ce : Cell) (q9 : Addr) (u : SX) (t : State) (H1 : Heap) (locs1 : List Loc), t.heap = H1 → s.vm.Alike t.vm → px u → BX E u t → H.size ≤ H1.size → (∀ q : Nat, q < H.size → ¬ AX q → H1[q]? = H[q]?) → va_S A0 H0 H1 locs1 → H1[q9]? = some ce → ce.vm = .none → s.vm.findClass E = some ce.cls → vx_W p l e R s m args below meth c H1 locs1 (cells + mc) (slots + ms) Q (F0 m pc ls rest) q9)
    (kk : ∀ (r : Int32) (u : S) (t : State) (H1 : Heap) (locs1 : List Loc), t.heap = H1 → s.vm.Alike t.vm → post r u → B u t → H.size ≤ H1.size → (∀ q : Nat, q < H.size → ¬ A1 q → H1[q]? = H[q]?) → va_S A0 H0 H1 locs1 → W p l e R s m args below meth c H1 locs1 (cells + mc) (slots + ms) Q (F0 m (pc + 3) ls (.int r :: rest))) : W p l e R s m args below meth c H locs cells slots Q (F0 m pc ls st0) := by
  intro T hT X
  rcases hr T hT X with ⟨v, st₀, t, T', L, h0, X', hL, e1, e2, ⟨⟨r, u, hv, hp, hb⟩, hF⟩, st⟩ | ⟨q, st₀, t, T', L, E, ce, h0, X', hL, e1, e2, ⟨u, hp, hb, hF⟩, hce, hcv, hcl, st⟩
  · cases hv
    obtain ⟨k1, k2, k3⟩ := vx_keep h0 e1 hS hA hf hL hF
    obtain ⟨t2, a1, b1⟩ := kk r u t T'.heap (locs ++ L) e1.symm (by rw [← e2]; exact X'.warmed.alike) hp hb k1 k2 k3 T' rfl X'
    exact ⟨t2, st t2 a1, b1⟩
  · obtain ⟨k1, k2, k3⟩ := vx_keep h0 e1 hS hAX hf hL hF
    obtain ⟨t2, a1, b1⟩ := kx E ce q u t T'.heap (locs ++ L) e1.symm (by rw [← e2]; exact X'.warmed.alike) hp hb k1 k2 k3 (by rw [e1]; exact hce) hcv hcl T' rfl X'
    exact ⟨t2, st.trans a1, b1⟩
theorem vx_calll {S SX : Type} {post : Int64 → S → Prop} {px : SX → Prop} {B : S → State → Prop} {BX : String → SX → State → Prop} {AX : Nat → Prop} (hr : vx_Run p l e R s m args below meth c H locs cells slots mc ms (F0 m pc ls st0) rest (va_Ql post B A1 a) (vx_X px BX AX) free) (hS : va_S A0 H0 H locs) (hA : ∀ q, q < H.size → A1 q → A0 q) (hf : ∀ q, free q → A0 q) (hAX : ∀ q, q < H.size → AX q → A0 q)
    (kx : ∀ (E : String) (ce : Cell) (q9 : Addr) (u : SX) (t : State) (H1 : Heap) (locs1 : List Loc), t.heap = H1 → s.vm.Alike t.vm → px u → BX E u t → H.size ≤ H1.size → (∀ q : Nat, q < H.size → ¬ AX q → H1[q]? = H[q]?) → va_S A0 H0 H1 locs1 → H1[q9]? = some ce → ce.vm = .none → s.vm.findClass E = some ce.cls → vx_W p l e R s m args below meth c H1 locs1 (cells + mc) (slots + ms) Q (F0 m pc ls rest) q9)
    (kk : ∀ (r : Int64) (u : S) (t : State) (H1 : Heap) (locs1 : List Loc), t.heap = H1 → s.vm.Alike t.vm → post r u → B u t → H.size ≤ H1.size → (∀ q : Nat, q < H.size → ¬ A1 q → H1[q]? = H[q]?) → va_S A0 H0 H1 locs1 → W p l e R s m args below meth c H1 locs1 (cells + mc) (slots + ms) Q (F0 m (pc + 3) ls (.long r :: rest))) : W p l e R s m args below meth c H locs cells slots Q (F0 m pc ls st0) := by
  intro T hT X
  rcases hr T hT X with ⟨v, st₀, t, T', L, h0, X', hL, e1, e2, ⟨⟨r, u, hv, hp, hb⟩, hF⟩, st⟩ | ⟨q, st₀, t, T', L, E, ce, h0, X', hL, e1, e2, ⟨u, hp, hb, hF⟩, hce, hcv, hcl, st⟩
  · cases hv
    obtain ⟨k1, k2, k3⟩ := vx_keep h0 e1 hS hA hf hL hF
    obtain ⟨t2, a1, b1⟩ := kk r u t T'.heap (locs ++ L) e1.symm (by rw [← e2]; exact X'.warmed.alike) hp hb k1 k2 k3 T' rfl X'
    exact ⟨t2, st t2 a1, b1⟩
  · obtain ⟨k1, k2, k3⟩ := vx_keep h0 e1 hS hAX hf hL hF
    obtain ⟨t2, a1, b1⟩ := kx E ce q u t T'.heap (locs ++ L) e1.symm (by rw [← e2]; exact X'.warmed.alike) hp hb k1 k2 k3 (by rw [e1]; exact hce) hcv hcl T' rfl X'
    exact ⟨t2, st.trans a1, b1⟩
theorem vx_callf {S SX : Type} {post : UInt32 → S → Prop} {px : SX → Prop} {B : S → State → Prop} {BX : String → SX → State → Prop} {AX : Nat → Prop} (hr : vx_Run p l e R s m args below meth c H locs cells slots mc ms (F0 m pc ls st0) rest (va_Qf post B A1 a) (vx_X px BX AX) free) (hS : va_S A0 H0 H locs) (hA : ∀ q, q < H.size → A1 q → A0 q) (hf : ∀ q, free q → A0 q) (hAX : ∀ q, q < H.size → AX q → A0 q)
    (kx : ∀ (E : String) (ce : Cell) (q9 : Addr) (u : SX) (t : State) (H1 : Heap) (locs1 : List Loc), t.heap = H1 → s.vm.Alike t.vm → px u → BX E u t → H.size ≤ H1.size → (∀ q : Nat, q < H.size → ¬ AX q → H1[q]? = H[q]?) → va_S A0 H0 H1 locs1 → H1[q9]? = some ce → ce.vm = .none → s.vm.findClass E = some ce.cls → vx_W p l e R s m args below meth c H1 locs1 (cells + mc) (slots + ms) Q (F0 m pc ls rest) q9)
    (kk : ∀ (r : UInt32) (u : S) (t : State) (H1 : Heap) (locs1 : List Loc), t.heap = H1 → s.vm.Alike t.vm → post r u → B u t → H.size ≤ H1.size → (∀ q : Nat, q < H.size → ¬ A1 q → H1[q]? = H[q]?) → va_S A0 H0 H1 locs1 → W p l e R s m args below meth c H1 locs1 (cells + mc) (slots + ms) Q (F0 m (pc + 3) ls (.float r :: rest))) : W p l e R s m args below meth c H locs cells slots Q (F0 m pc ls st0) := by
  intro T hT X
  rcases hr T hT X with ⟨v, st₀, t, T', L, h0, X', hL, e1, e2, ⟨⟨r, u, hv, hp, hb⟩, hF⟩, st⟩ | ⟨q, st₀, t, T', L, E, ce, h0, X', hL, e1, e2, ⟨u, hp, hb, hF⟩, hce, hcv, hcl, st⟩
  · cases hv
    obtain ⟨k1, k2, k3⟩ := vx_keep h0 e1 hS hA hf hL hF
    obtain ⟨t2, a1, b1⟩ := kk r u t T'.heap (locs ++ L) e1.symm (by rw [← e2]; exact X'.warmed.alike) hp hb k1 k2 k3 T' rfl X'
    exact ⟨t2, st t2 a1, b1⟩
  · obtain ⟨k1, k2, k3⟩ := vx_keep h0 e1 hS hAX hf hL hF
    obtain ⟨t2, a1, b1⟩ := kx E ce q u t T'.heap (locs ++ L) e1.symm (by rw [← e2]; exact X'.warmed.alike) hp hb k1 k2 k3 (by rw [e1]; exact hce) hcv hcl T' rfl X'
    exact ⟨t2, st.trans a1, b1⟩
theorem vx_calld {S SX : Type} {post : UInt64 → S → Prop} {px : SX → Prop} {B : S → State → Prop} {BX : String → SX → State → Prop} {AX : Nat → Prop} (hr : vx_Run p l e R s m args below meth c H locs cells slots mc ms (F0 m pc ls st0) rest (va_Qd post B A1 a) (vx_X px BX AX) free) (hS : va_S A0 H0 H locs) (hA : ∀ q, q < H.size → A1 q → A0 q) (hf : ∀ q, free q → A0 q) (hAX : ∀ q, q < H.size → AX q → A0 q)
    (kx : ∀ (E : String) (ce : Cell) (q9 : Addr) (u : SX) (t : State) (H1 : Heap) (locs1 : List Loc), t.heap = H1 → s.vm.Alike t.vm → px u → BX E u t → H.size ≤ H1.size → (∀ q : Nat, q < H.size → ¬ AX q → H1[q]? = H[q]?) → va_S A0 H0 H1 locs1 → H1[q9]? = some ce → ce.vm = .none → s.vm.findClass E = some ce.cls → vx_W p l e R s m args below meth c H1 locs1 (cells + mc) (slots + ms) Q (F0 m pc ls rest) q9)
    (kk : ∀ (r : UInt64) (u : S) (t : State) (H1 : Heap) (locs1 : List Loc), t.heap = H1 → s.vm.Alike t.vm → post r u → B u t → H.size ≤ H1.size → (∀ q : Nat, q < H.size → ¬ A1 q → H1[q]? = H[q]?) → va_S A0 H0 H1 locs1 → W p l e R s m args below meth c H1 locs1 (cells + mc) (slots + ms) Q (F0 m (pc + 3) ls (.double r :: rest))) : W p l e R s m args below meth c H locs cells slots Q (F0 m pc ls st0) := by
  intro T hT X
  rcases hr T hT X with ⟨v, st₀, t, T', L, h0, X', hL, e1, e2, ⟨⟨r, u, hv, hp, hb⟩, hF⟩, st⟩ | ⟨q, st₀, t, T', L, E, ce, h0, X', hL, e1, e2, ⟨u, hp, hb, hF⟩, hce, hcv, hcl, st⟩
  · cases hv
    obtain ⟨k1, k2, k3⟩ := vx_keep h0 e1 hS hA hf hL hF
    obtain ⟨t2, a1, b1⟩ := kk r u t T'.heap (locs ++ L) e1.symm (by rw [← e2]; exact X'.warmed.alike) hp hb k1 k2 k3 T' rfl X'
    exact ⟨t2, st t2 a1, b1⟩
  · obtain ⟨k1, k2, k3⟩ := vx_keep h0 e1 hS hAX hf hL hF
    obtain ⟨t2, a1, b1⟩ := kx E ce q u t T'.heap (locs ++ L) e1.symm (by rw [← e2]; exact X'.warmed.alike) hp hb k1 k2 k3 (by rw [e1]; exact hce) hcv hcl T' rfl X'
    exact ⟨t2, st.trans a1, b1⟩
theorem vx_callv {S SX : Type} {post : S → Prop} {px : SX → Prop} {B : S → State → Prop} {BX : String → SX → State → Prop} {AX : Nat → Prop} (hr : vx_Run p l e R s m args below meth c H locs cells slots mc ms (F0 m pc ls st0) rest (va_Qv post B A1 a) (vx_X px BX AX) free) (hS : va_S A0 H0 H locs) (hA : ∀ q, q < H.size → A1 q → A0 q) (hf : ∀ q, free q → A0 q) (hAX : ∀ q, q < H.size → AX q → A0 q)
    (kx : ∀ (E : String) (ce : Cell) (q9 : Addr) (u : SX) (t : State) (H1 : Heap) (locs1 : List Loc), t.heap = H1 → s.vm.Alike t.vm → px u → BX E u t → H.size ≤ H1.size → (∀ q : Nat, q < H.size → ¬ AX q → H1[q]? = H[q]?) → va_S A0 H0 H1 locs1 → H1[q9]? = some ce → ce.vm = .none → s.vm.findClass E = some ce.cls → vx_W p l e R s m args below meth c H1 locs1 (cells + mc) (slots + ms) Q (F0 m pc ls rest) q9)
    (kk : ∀ (u : S) (t : State) (H1 : Heap) (locs1 : List Loc), t.heap = H1 → s.vm.Alike t.vm → post u → B u t → H.size ≤ H1.size → (∀ q : Nat, q < H.size → ¬ A1 q → H1[q]? = H[q]?) → va_S A0 H0 H1 locs1 → W p l e R s m args below meth c H1 locs1 (cells + mc) (slots + ms) Q (F0 m (pc + 3) ls (rest))) : W p l e R s m args below meth c H locs cells slots Q (F0 m pc ls st0) := by
  intro T hT X
  rcases hr T hT X with ⟨v, st₀, t, T', L, h0, X', hL, e1, e2, ⟨⟨u, hv, hp, hb⟩, hF⟩, st⟩ | ⟨q, st₀, t, T', L, E, ce, h0, X', hL, e1, e2, ⟨u, hp, hb, hF⟩, hce, hcv, hcl, st⟩
  · cases hv
    obtain ⟨k1, k2, k3⟩ := vx_keep h0 e1 hS hA hf hL hF
    obtain ⟨t2, a1, b1⟩ := kk u t T'.heap (locs ++ L) e1.symm (by rw [← e2]; exact X'.warmed.alike) hp hb k1 k2 k3 T' rfl X'
    exact ⟨t2, st t2 a1, b1⟩
  · obtain ⟨k1, k2, k3⟩ := vx_keep h0 e1 hS hAX hf hL hF
    obtain ⟨t2, a1, b1⟩ := kx E ce q u t T'.heap (locs ++ L) e1.symm (by rw [← e2]; exact X'.warmed.alike) hp hb k1 k2 k3 (by rw [e1]; exact hce) hcv hcl T' rfl X'
    exact ⟨t2, st.trans a1, b1⟩
/-- caught by the row x of this method's table; the rows ahead don't take it -/
theorem vx_catch {own name : String} {E : String} {ce : Cell} {q : Addr} (hown : s.vm.findClass own = some m.cls) (pre : List ExceptionTableEntry) (x : ExceptionTableEntry) (suf : List ExceptionTableEntry) (hsplit : c.exceptionTable.toList = pre ++ x :: suf)
    (hpass : ∀ z ∈ pre, covers z pc = false ∨ (z.catchType ≠ 0 ∧ ∃ nm : String, (Cond.classLink own z.catchType nm).before args s = true ∧ va_Nc E nm s)) (hx : covers x pc = true) (h0 : x.catchType ≠ 0)
    (hlink : (Cond.classLink own x.catchType name).before args s = true) (hcast : (Cond.castable E name).before args s = true) (hcell : H[q]? = some ce) (hv : ce.vm = .none) (hcl : s.vm.findClass E = some ce.cls)
    (kk : W p l e R s m args below meth c H locs cells slots Q (F0 m x.handlerPc ls [.ref q])) : vx_W p l e R s m args below meth c H locs cells slots Q (F0 m pc ls rest) q := by
  intro T hT X
  have hpl : e.platform.magicAccessors = ({} : Platform).magicAccessors := by rw [X.admits.platform]
  obtain ⟨c3, c4, hc3, hc4, hasg⟩ := Cond.castable_spec hcast
  cases Option.some.inj (hc3.symm.trans hcl)
  obtain ⟨c5, hc5, hcl5⟩ := Cond.classLink_spec hown hlink e.platform hpl
  cases Option.some.inj (hc4.symm.trans hc5)
  obtain ⟨vm', X', st⟩ := X.thenCaughtThrough q (g := F0 m pc ls rest) rfl (Steps.refl _) (by rw [hT]; exact hcell) (by rw [hv]; rfl) (by obtain ⟨k9, h9, -⟩ := Vm.findClass_spec hcl; exact ⟨k9, h9⟩) pre x suf hsplit
    (fun z hz => by
      rcases hpass z hz with h | ⟨hz0, nm, hl1, hn1⟩
      · exact Or.inl h
      · obtain ⟨c6, hc6, hcl6⟩ := Cond.classLink_spec hown hl1 e.platform hpl
        obtain ⟨a8, b8, h1, h2, h3⟩ := hn1
        cases Option.some.inj (h1.symm.trans hcl)
        cases Option.some.inj (h2.symm.trans hc6)
        exact Or.inr ⟨hz0, _, hcl6, h3⟩) hx (Or.inr ⟨h0, c4, hcl5, hasg⟩)
  obtain ⟨t, a1, b1⟩ := kk (T.setVm vm') hT X'
  exact ⟨t, st.trans a1, b1⟩
end Rows
section Ends
variable {p : Program} {l : Launch} {e : Env} {R : Room} {s : State} {m : MethodId} {args : Array Value} {below : List Frame} {meth : Method} {c : Code} {H : Heap} {locs : List Loc} {cells slots : Nat} {Q : State → Prop}
variable {mc ms : Nat} {free : Addr → Prop} {A0 A1 : Nat → Prop} {H0 : Heap} {a : Array Value} {ls : Array Slot} {st0 rest : List Value}
variable {Qc : Array Value → State → Outcome → State → Prop} {XC : String → State → State → Prop}
/-- what a body that may throw owes at its end -/
def vx_MQ (below : List Frame) (Qc : Array Value → State → Outcome → State → Prop) (XC : String → State → State → Prop) (a : Array Value) (s : State) (mc ms : Nat) (free : Addr → Prop) : State → Prop := fun t =>
  ∃ o, t.status = .running ∧ Ended t below o ∧ vx_Q Qc XC mc ms free a s o t
theorem vx_ret {g : JFrame} {mc ms : Nat} (k : W p l e R s m args below meth c H locs cells slots (MQ below Qc args s mc ms free) g) : W p l e R s m args below meth c H locs cells slots (vx_MQ below Qc XC args s mc ms free) g := by
  intro T hT X
  obtain ⟨t, a1, o, b1, b2, b3, b4⟩ := k T hT X
  exact ⟨t, a1, o, b1, b2, Or.inl ⟨b3, b4⟩⟩
/-- not caught here: it goes on to the caller -/
theorem vx_widen {g : JFrame} {q : Addr} {k n : Nat} (h1 : cells ≤ k) (h2 : slots ≤ n) (kk : vx_W p l e R s m args below meth c H locs k n Q g q) : vx_W p l e R s m args below meth c H locs cells slots Q g q := fun T hT X => kk T hT (stand_widen X h1 h2)
theorem vx_out {pc : Nat} {E : String} {ce : Cell} {q : Addr} {mc ms : Nat} (hout : ∀ x ∈ c.exceptionTable.toList, covers x pc = false) (hlocks : meth.locks = false) (hcell : H[q]? = some ce) (hv : ce.vm = .none) (hcl : s.vm.findClass E = some ce.cls)
    (hx : ∀ t : State, t.heap = H → s.vm.Alike t.vm → XC E s t) (hf : ∀ z ∈ locs, free z.base) (hc : cells ≤ mc) (hs : slots ≤ ms) :
    vx_W p l e R s m args below meth c H locs cells slots (vx_MQ below Qc XC args s mc ms free) (F0 m pc ls rest) q := by
  intro T hT X
  obtain ⟨st1, hrun, hend, hW, hsm⟩ := X.leaveThrown q (g := F0 m pc ls rest) rfl rfl rfl hout hlocks
  have hcell9 : (T.setFrames (.throwing q :: below)).heap[q]? = some ce := by
    show T.heap[q]? = some ce
    rw [hT]; exact hcell
  exact ⟨_, st1, .threw q, hrun, hend, Or.inr ⟨q, rfl, E, ce, locs, hx _ hT hW.alike, hcell9, hv, hcl, hW, hsm.mono hc hs, hf⟩⟩
theorem vx_frame {U : State} {k n : Nat} (h : s.sameButNew ({ U with vm := s.vm } : State) locs k n) : s.heap.size ≤ U.heap.size ∧ ∀ q : Nat, q < s.heap.size → (∀ z ∈ locs, z.base ≠ q) → U.heap[q]? = s.heap[q]? := by
  obtain ⟨-, h2, -, -, -, h6⟩ := h
  refine ⟨h2, fun q hq hz => ?_⟩
  obtain ⟨c9, e1, e2, e3, e4⟩ := h6 q _ (Array.getElem?_eq_getElem hq)
  have hs : c9.slots = (s.heap[q]).slots := Array.ext_getElem? fun i => e4 i fun hm => hz _ hm rfl
  have h9 : c9 = s.heap[q] := by
    rw [hs] at e2
    exact e2
  have e5 : U.heap[q]? = some c9 := e1
  rw [e5, h9, Array.getElem?_eq_getElem hq]
/-- the words of a throw but the four that speak of the heap -/
def vx_no (w : Cond) : Bool := decide (w ≠ .isRef (.static Bundle.tN "UNASSIGNED_STACK" Bundle.steD)) && decide (w ≠ .isRef (.static Bundle.tN "SUPPRESSED_SENTINEL" Bundle.listD)) && decide (w ≠ .laysStatic Bundle.tN "UNASSIGNED_STACK" Bundle.steD) && decide (w ≠ .laysStatic Bundle.tN "SUPPRESSED_SENTINEL" Bundle.listD)
def vx_at0 (own : String) (ic : Nat) (X : String) (names : List String) : List Cond := (Bundle.ownAtoms0 own ic X names).filter vx_no
def vx_atS (own : String) (ic : Nat) (X : String) (names : List String) : List Cond := (Bundle.ownAtoms own ic X names).filter vx_no
/-- a word that the tables alone decide, or a good one -/
def vx_ot (w : Cond) : Bool := w.onTables || goodWord w
theorem vx_ot_at {args a' : Array Value} {s U : State} {w : Cond} (hW : s.WarmedH U.vm) (hvm : s.vm = U.vm) (hg : vx_ot w = true) (h : w.before args s = true) : w.before a' U = true := by
  simp only [vx_ot, Bool.or_eq_true] at hg
  rcases hg with hg | hg
  · exact va_tabs hg hvm h
  · exact word_at hW (good_of_word hg) h
/-- a list's words: the good ones out of the method's own list, the others by premises of their own -/
theorem vx_hat {args : Array Value} {s : State} {L B : List Cond} (h1 : ∀ w ∈ L.filter goodWord, w.before args s = true) (h2 : ∀ w ∈ L.filter (fun w => !goodWord w), w ∈ B) (h3 : ∀ w ∈ B, w.before args s = true) : ∀ w ∈ L, w.before args s = true := by
  intro w hw
  by_cases g : goodWord w = true
  · exact h1 w (List.mem_filter.mpr ⟨hw, g⟩)
  · refine h3 w (h2 w (List.mem_filter.mpr ⟨hw, ?_⟩))
    show (!goodWord w) = true
    cases hgw : goodWord w
    · rfl
    · exact absurd hgw g
theorem vx_c {args : Array Value} {s : State} {w : Cond} {B : List Cond} (h : w.before args s = true) (t : ∀ w ∈ B, w.before args s = true) : ∀ w' ∈ w :: B, w'.before args s = true := fun w' h' => (List.mem_cons.mp h').elim (fun e => by rw [e]; exact h) (t w')
theorem vx_n {args : Array Value} {s : State} : ∀ w ∈ ([] : List Cond), w.before args s = true := fun _ h => nomatch h
theorem vx_own {args : Array Value} {s : State} {L : List Cond} (h1 : ∀ w ∈ L.filter vx_no, w.before args s = true)
    (hU : (Cond.isRef (.static Bundle.tN "UNASSIGNED_STACK" Bundle.steD)).before args s = true) (hN : (Cond.isRef (.static Bundle.tN "SUPPRESSED_SENTINEL" Bundle.listD)).before args s = true)
    (lU : (Cond.laysStatic Bundle.tN "UNASSIGNED_STACK" Bundle.steD).before args s = true) (lN : (Cond.laysStatic Bundle.tN "SUPPRESSED_SENTINEL" Bundle.listD).before args s = true) : ∀ w ∈ L, w.before args s = true := by
  intro w hw
  by_cases e1 : w = .isRef (.static Bundle.tN "UNASSIGNED_STACK" Bundle.steD)
  · rw [e1]; exact hU
  · by_cases e2 : w = .isRef (.static Bundle.tN "SUPPRESSED_SENTINEL" Bundle.listD)
    · rw [e2]; exact hN
    · by_cases e3 : w = .laysStatic Bundle.tN "UNASSIGNED_STACK" Bundle.steD
      · rw [e3]; exact lU
      · by_cases e4 : w = .laysStatic Bundle.tN "SUPPRESSED_SENTINEL" Bundle.listD
        · rw [e4]; exact lN
        · exact h1 w (List.mem_filter.mpr ⟨hw, by unfold vx_no; rw [decide_eq_true e1, decide_eq_true e2, decide_eq_true e3, decide_eq_true e4]; rfl⟩)
/-- where a static field lies, its class's statics cell in H -/
def vx_L (C n d : String) (A : Nat → Prop) (U : State) (H : Heap) : Prop := ∃ (c : ClassId) (k : Class) (i : Nat) (f : Field) (a : Nat) (cell : Cell), U.vm.findClass C = some c ∧ U.fieldFound? C n d = some (c, k, i, f) ∧ f.isStatic = true ∧ k.statics = some a ∧ H[a]? = some cell ∧ cell.vm.isStatics = true ∧ cell.cls = c ∧ f.slot < cell.slots.size ∧ k.staticTypes[f.slot]? = some f.type ∧ ¬ A a
theorem vx_L.moved {C n d : String} {A : Nat → Prop} {u U : State} {H : Heap} (hvm : u.vm.Alike U.vm) (h : vx_L C n d A u H) : vx_L C n d A U H := by
  obtain ⟨c, k, i, f, a, cell, h1, h2, h3, h4, h5, h6, h7, h8, h9, h10⟩ := h
  obtain ⟨k', hi', he⟩ := State.fieldFound?_setVm hvm h2
  exact ⟨c, k', i, f, a, cell, by rw [hvm.findClass]; exact h1, hi', h3, by rw [he]; exact h4, h5, h6, h7, h8, by rw [he]; exact h9, h10⟩
theorem vx_L.kept {C n d : String} {A : Nat → Prop} {U : State} {H H1 : Heap} (h : vx_L C n d A U H) (hq : ∀ a : Nat, a < H.size → ¬ A a → H1[a]? = H[a]?) : vx_L C n d A U H1 := by
  obtain ⟨c, k, i, f, a, cell, h1, h2, h3, h4, h5, h6, h7, h8, h9, h10⟩ := h
  exact ⟨c, k, i, f, a, cell, h1, h2, h3, h4, by rw [hq a (Array.getElem?_eq_some_iff.mp h5).1 h10]; exact h5, h6, h7, h8, h9, h10⟩
theorem vx_L.narrow {C n d : String} {A B : Nat → Prop} {U : State} {H : Heap} (h : vx_L C n d A U H) (hAB : ∀ q, B q → A q) : vx_L C n d B U H := by
  obtain ⟨c, k, i, f, a, cell, h1, h2, h3, h4, h5, h6, h7, h8, h9, h10⟩ := h
  exact ⟨c, k, i, f, a, cell, h1, h2, h3, h4, h5, h6, h7, h8, h9, fun z => h10 (hAB _ z)⟩
theorem vx_L.word {C n d : String} {A : Nat → Prop} {s : State} {args : Array Value} (h : vx_L C n d A s s.heap) : (Cond.laysStatic C n d).before args s = true := by
  obtain ⟨c, k, i, f, a, cell, h1, h2, h3, h4, h5, h6, h7, h8, h9, -⟩ := h
  show (Cond.laysStatic C n d).holds args s none s [] = true
  exact Cond.laysStatic_of h1 h2 h3 h4 h5 h6 h7 h8 h9
/-- .. and what it holds: null or some reference -/
def vx_Zq (C n d : String) (A : Nat → Prop) (U : State) (H : Heap) : Prop := va_Zq C n d A U H ∧ vx_L C n d A U H
theorem vx_Zq.moved {C n d : String} {A : Nat → Prop} {u U : State} {H : Heap} (hvm : u.vm.Alike U.vm) (h : vx_Zq C n d A u H) : vx_Zq C n d A U H := ⟨va_Zq.moved hvm h.1, vx_L.moved hvm h.2⟩
theorem vx_Zq.kept {C n d : String} {A : Nat → Prop} {U : State} {H H1 : Heap} (h : vx_Zq C n d A U H) (hq : ∀ a : Nat, a < H.size → ¬ A a → H1[a]? = H[a]?) : vx_Zq C n d A U H1 := ⟨va_Zq.kept h.1 hq, vx_L.kept h.2 hq⟩
theorem vx_Zq.narrow {C n d : String} {A B : Nat → Prop} {U : State} {H : Heap} (h : vx_Zq C n d A U H) (hAB : ∀ q, B q → A q) : vx_Zq C n d B U H := ⟨va_Zq.narrow h.1 hAB, vx_L.narrow h.2 hAB⟩
theorem vx_Zqof {args : Array Value} {s : State} {C n d : String} {A : Nat → Prop} (hl : (Cond.laysStatic C n d).before args s = true) (hini : (Cond.initialized C).before args s = true) (h : (Cond.isRef (.static C n d)).before args s = true) (hA : ∀ a : Nat, a < s.heap.size → ¬ A a) : vx_Zq C n d A s s.heap := by
  refine ⟨va_Zqof hl hini h hA, ?_⟩
  obtain ⟨c, k, i, f, a, cell, h1, h2, h3, h4, h5, h6, h7, h8, h9⟩ := Cond.laysStatic_spec hl
  exact ⟨c, k, i, f, a, cell, h1, h2, h3, h4, h5, h6, h7, h8, h9, hA a (Array.getElem?_eq_some_iff.mp h5).1⟩
theorem vx_isRef {C n d : String} {v : Value} {A : Nat → Prop} {s : State} {args : Array Value} (h : va_Z C n d v A s s.heap) (hv : v.isRef = true) : (Cond.isRef (.static C n d)).before args s = true := by
  obtain ⟨cf, kf, fi, f, a, cell, h1, h2, h3, h4, h5, h6, h7, -⟩ := h
  have he : (Term.static C n d).eval args s none [] s = some v := by
    simp [Term.eval, State.fieldNamed?, h1, h2, h4, h5, h6, h7]
  simp only [Cond.before, Cond.holds, Cond.value, he]
  cases v <;> simp_all [Value.isRef]
theorem vx_isRefq {C n d : String} {A : Nat → Prop} {s : State} {args : Array Value} (h : va_Zq C n d A s s.heap) : (Cond.isRef (.static C n d)).before args s = true := by
  rcases h with h | ⟨t, h⟩
  · exact vx_isRef h rfl
  · exact vx_isRef h rfl
/-- the same frame, seen from here: as if the method were called anew in this heap -/
theorem vx_rebase {T : State} (X : Stand p l e R s m args below meth c T locs cells slots) {R' : Room} (hf : R'.frames ≤ R.frames) (hl : R'.locals ≤ R.locals) (hc : cells + R'.cells ≤ R.cells) (hs : slots + R'.slots ≤ R.slots) :
    Stand p l e R' ((T.setVm s.vm).setFrames (.invoking m args :: below)) m args below meth c T [] 0 0 := by
  have htop : (T.setVm s.vm).topJava?.isSome := X.here.top
  have hF : ((T.setVm s.vm).setFrames (.invoking m args :: below)).frames = .invoking m args :: below := State.frames_setFrames _ (State.cur_lt_of_top htop)
  obtain ⟨g₀, hg0⟩ := Option.isSome_iff_exists.mp htop
  obtain ⟨r, hr⟩ := State.topJava?_eq_some.mp hg0
  have hl9 : e.platform.stackLimits (T.setVm s.vm).me = e.platform.stackLimits s.me := X.limits
  have hb9 : (T.setVm s.vm).me.stackBytes = s.me.stackBytes := X.bytes
  refine ⟨X.admits, X.cas, X.clock, hF, ?_, X.hears, X.method, X.code, X.here, X.tail, X.warmed, ?_, ?_, ?_⟩
  · have h := X.room
    have hU : ((T.setVm s.vm).setFrames (.invoking m args :: below)).localsInUse = s.localsInUse := by
      rw [State.localsInUse_invoking hF (meth := meth) (c := c) X.method X.code, State.localsInUse_invoking X.frames X.method X.code]
    simp only [State.hasRoom, Bool.and_eq_true, decide_eq_true_eq] at h ⊢
    obtain ⟨⟨⟨⟨h1, h2, h3, h4, h5, h6⟩, h7⟩, h8⟩, h9⟩ := h
    rw [X.frames, List.length_cons] at h2 h3
    have q1 := X.heapSize
    have q2 := X.used
    simp only [hF, hU, List.length_cons, State.stackLimits_setFrames, State.stackBytes_setFrames, hl9, hb9]
    refine ⟨⟨⟨⟨by omega, by omega, by omega, by omega, by omega, h6⟩, ?_⟩, ?_⟩, X.book⟩
    · show T.heap.size + R'.cells ≤ e.platform.maxCells
      omega
    · show T.slotsUsed + R'.slots ≤ e.platform.maxSlots
      omega
  · rw [State.stackLimits_setFrames]; rfl
  · rw [State.stackBytes_setFrames]; rfl
  · refine ⟨?_, Nat.le_refl _, Nat.le_refl _, ?_, ?_, fun a c9 h9 => ⟨c9, h9, rfl, rfl, fun _ _ => rfl⟩⟩
    · obtain ⟨t, ht, -⟩ := State.frames_cons hr
      show T.setVm s.vm = { ((T.setVm s.vm).setFrames (.invoking m args :: below)).setFrames (T.setVm s.vm).frames with heap := T.heap, slotsUsed := T.slotsUsed }
      rw [State.setFrames_setFrames, State.setFrames_self ht]
      rfl
    · show T.slotsUsed = T.slotsUsed + ((T.heap.toList.drop T.heap.size).map (·.slots.size)).sum
      rw [List.drop_eq_nil_of_le (Nat.le_of_eq Array.length_toList)]
      rfl
    · show ((T.heap.toList.drop T.heap.size).map (·.slots.size)).sum ≤ 0
      rw [List.drop_eq_nil_of_le (Nat.le_of_eq Array.length_toList)]
      exact Nat.le_refl _
/-- 'throw new E()': new; dup; invokespecial; athrow -/
theorem vx_throw0 {cc : ByteArray} {pc : Nat} (hexec : p.tables.exec = Jvm.exec) (hb : c.code = cc) (hl : l.stackTraces = false) {own cls : String} {names : List String} {ik ic mc ms : Nat} {A : Nat → Prop}
    (hown : s.vm.findClass own = some m.cls) (hcls : Bundle.fit cls = true) (hnames : ∀ n ∈ names, Bundle.fit n = true)
    (hk : (Cond.classLink own ik cls).before args s = true) (hini : (Cond.initialized cls).before args s = true) (hat : ∀ w ∈ vx_at0 own ic cls names, w.before args s = true)
    (hgood : ∀ w ∈ Cond.classLink own ik cls :: Cond.initialized cls :: vx_at0 own ic cls names, vx_ot w = true)
    (hU : vx_Zq Bundle.tN "UNASSIGNED_STACK" Bundle.steD A s s.heap) (hN : vx_Zq Bundle.tN "SUPPRESSED_SENTINEL" Bundle.listD A s s.heap) (hS : va_S A s.heap H locs) (hsize : ls.size = c.maxLocals)
    (d0 : decode cc pc = .ok (.new ik, 3)) (d3 : decode cc (pc + 3) = .ok (.dup, 1)) (d4 : decode cc (pc + 4) = .ok (.invokespecial ic, 3)) (d7 : decode cc (pc + 7) = .ok (.athrow, 1))
    (hout : ∀ x ∈ c.exceptionTable.toList, covers x (pc + 7) = false)
    (hRframes : names.length + 3 < R.frames) (hRlocals : (rest.map fun v => v.category).sum + (13 * (names.length + 1) + 42) ≤ R.locals) (hRcells : cells + 1 ≤ R.cells) (hRslots : slots + 6 ≤ R.slots) (hlocks : meth.locks = false)
    (hx : ∀ t : State, s.vm.Alike t.vm → H.size ≤ t.heap.size → (∀ q : Nat, q < H.size → t.heap[q]? = H[q]?) → XC cls s t)
    (hf : ∀ z ∈ locs, free z.base) (hc : cells + 1 ≤ mc) (hs : slots + 6 ≤ ms) :
    W p l e R s m args below meth c H locs cells slots (vx_MQ below Qc XC args s mc ms free) (F0 m pc ls rest) := by
  intro T hT X
  have htr : e.platform.stackTraces = false := (show e.platform.stackTraces = l.stackTraces by rw [X.admits.platform]).trans hl
  have Y := vx_rebase X (R' := { frames := R.frames, locals := R.locals, cells := 1, slots := 6 }) (Nat.le_refl _) (Nat.le_refl _) hRcells hRslots
  obtain ⟨s', hA⟩ : ∃ z, z = (T.setVm s.vm).setFrames (.invoking m args :: below) := ⟨_, rfl⟩
  rw [← hA] at Y
  have hvm : s'.vm = s.vm := by rw [hA]; rfl
  have hhp : s'.heap = H := by rw [hA]; exact hT
  have hW0 : s.WarmedH s'.vm := by rw [hvm]; exact State.WarmedH.refl s
  have hat' : ∀ w ∈ vx_at0 own ic cls names, w.before args s' = true := fun w hw => vx_ot_at hW0 hvm.symm (hgood w (List.mem_cons_of_mem _ (List.mem_cons_of_mem _ hw))) (hat w hw)
  have hk' : (Cond.classLink own ik cls).before args s' = true := vx_ot_at hW0 hvm.symm (hgood _ List.mem_cons_self) hk
  have hini' : (Cond.initialized cls).before args s' = true := vx_ot_at hW0 hvm.symm (hgood _ (List.mem_cons_of_mem _ List.mem_cons_self)) hini
  have hU' : vx_Zq Bundle.tN "UNASSIGNED_STACK" Bundle.steD A s' s'.heap := by rw [hhp]; exact vx_Zq.moved hW0.alike (hU.kept hS.2.1)
  have hN' : vx_Zq Bundle.tN "SUPPRESSED_SENTINEL" Bundle.listD A s' s'.heap := by rw [hhp]; exact vx_Zq.moved hW0.alike (hN.kept hS.2.1)
  have h : ∀ w ∈ Bundle.ownAtoms0 own ic cls names, w.before args s' = true := vx_own hat' (vx_isRefq hU'.1) (vx_isRefq hN'.1) hU'.2.word hN'.2.word
  have hown' : s'.vm.findClass own = some m.cls := by rw [hvm]; exact hown
  have hins : (Cond.instantiable cls 6).before args s' = true := h _ (by simp [Bundle.ownAtoms0])
  obtain ⟨vm₁, cX, kX, hfX, hkX, -, -, X₁, st1⟩ := Y.newCold hexec (own := own) (C := cls) (index := ik) (n := 6) hown' hk' hins hini'
    (g := F0 m pc ls rest) rfl (by rw [hb]; exact d0) (Nat.le_refl _) (Nat.le_refl _)
  generalize hT1 : (T.setVm vm₁).pushCell { cls := cX, slots := kX.instanceTypes.map defaultValue, vm := .none } = T1 at X₁ st1
  have hcat : (Value.ref T.heap.size).category = 1 := rfl
  have hcellA : T1.heap[T.heap.size]? = some (freshCell cX kX) := by rw [← hT1]; exact State.heap_pushCell_size _ _
  have d3' : decode c.code (pc + 3) = .ok (.dup, 1) := by rw [hb]; exact d3
  obtain ⟨U, hsteps, hrun, hend, hW, hsame, ce, hce, hO⟩ := X₁.ctorThrow0 hexec htr (own := own) (cls := cls) (names := names) (ic := ic) hown' hcls hnames h (fun x hx => nomatch hx) hfX hkX hcellA (by rw [hhp, hT]; exact Nat.le_refl _)
    (g := { method := m, pc := pc + 4, locals := ls, stack := .ref T.heap.size :: .ref T.heap.size :: rest, locked := none }) rfl hsize rfl rfl (rest := rest) rfl
    (by rw [hb]; exact d4) (by rw [hb]; exact d7) hout hRframes (by simp only [List.map_cons, List.sum_cons, hcat]; omega) hlocks
  obtain ⟨f1, f2⟩ := vx_frame hsame
  rw [hhp] at f1 f2
  have hWs : s.WarmedH U.vm := State.WarmedH.trans hW0 hW
  have hcl : s.vm.findClass cls = some ce.cls := by
    have h9 := hO.cls
    rw [hvm] at h9
    exact h9
  have hall : s.sameButNew ({ U with vm := s.vm } : State) locs mc ms := by
    subst hA
    obtain ⟨e1, e2⟩ := hsame
    rw [State.setFrames_setFrames] at e1
    have h2 : (T.setVm s.vm).sameButNew ({ U with vm := s.vm } : State) [] (0 + 1) (0 + 6) := ⟨e1, e2⟩
    have h3 := X.same.trans h2
    rw [List.append_nil] at h3
    exact h3.mono hc hs
  refine ⟨U, ?_, .threw T.heap.size, hrun, hend, Or.inr ⟨T.heap.size, rfl, cls, ce, locs, hx U hWs.alike f1 (fun q hq => f2 q hq (fun z hz => nomatch hz)), hce, hO.vm, hcl, hWs, hall, hf⟩⟩
  refine st1 _ ?_
  show Steps p.tables e below (T1.setTop { method := m, pc := pc + 3, locals := ls, stack := .ref T.heap.size :: rest, locked := none }) _
  jvm_step X₁.here [X₁.here.top, hexec, d3', Value.category]
  exact hsteps
/-- 'throw new E("text")': new; dup; ldc; invokespecial; athrow -/
theorem vx_throwS {cc : ByteArray} {pc : Nat} (hexec : p.tables.exec = Jvm.exec) (hb : c.code = cc) (hl : l.stackTraces = false) {own cls text : String} {names : List String} {ik is ic mc ms sa : Nat} {A : Nat → Prop}
    (hown : s.vm.findClass own = some m.cls) (hcls : Bundle.fit cls = true) (hnames : ∀ n ∈ names, Bundle.fit n = true)
    (hk : (Cond.classLink own ik cls).before args s = true) (hini : (Cond.initialized cls).before args s = true) (hstr : vk_R own is text sa s) (hat : ∀ w ∈ vx_atS own ic cls names, w.before args s = true)
    (hgood : ∀ w ∈ Cond.classLink own ik cls :: Cond.initialized cls :: vx_atS own ic cls names, vx_ot w = true)
    (hU : vx_Zq Bundle.tN "UNASSIGNED_STACK" Bundle.steD A s s.heap) (hN : vx_Zq Bundle.tN "SUPPRESSED_SENTINEL" Bundle.listD A s s.heap) (hS : va_S A s.heap H locs) (hsize : ls.size = c.maxLocals)
    (d0 : decode cc pc = .ok (.new ik, 3)) (d3 : decode cc (pc + 3) = .ok (.dup, 1)) (d4 : decode cc (pc + 4) = .ok (.ldc is, 2)) (d6 : decode cc (pc + 6) = .ok (.invokespecial ic, 3)) (d9 : decode cc (pc + 9) = .ok (.athrow, 1))
    (hout : ∀ x ∈ c.exceptionTable.toList, covers x (pc + 9) = false)
    (hRframes : names.length + 3 < R.frames) (hRlocals : (rest.map fun v => v.category).sum + (13 * (names.length + 1) + 43) ≤ R.locals) (hRcells : cells + 1 ≤ R.cells) (hRslots : slots + 6 ≤ R.slots) (hlocks : meth.locks = false)
    (hx : ∀ t : State, s.vm.Alike t.vm → H.size ≤ t.heap.size → (∀ q : Nat, q < H.size → t.heap[q]? = H[q]?) → XC cls s t)
    (hf : ∀ z ∈ locs, free z.base) (hc : cells + 1 ≤ mc) (hs : slots + 6 ≤ ms) :
    W p l e R s m args below meth c H locs cells slots (vx_MQ below Qc XC args s mc ms free) (F0 m pc ls rest) := by
  intro T hT X
  have htr : e.platform.stackTraces = false := (show e.platform.stackTraces = l.stackTraces by rw [X.admits.platform]).trans hl
  have Y := vx_rebase X (R' := { frames := R.frames, locals := R.locals, cells := 1, slots := 6 }) (Nat.le_refl _) (Nat.le_refl _) hRcells hRslots
  obtain ⟨s', hA⟩ : ∃ z, z = (T.setVm s.vm).setFrames (.invoking m args :: below) := ⟨_, rfl⟩
  rw [← hA] at Y
  have hvm : s'.vm = s.vm := by rw [hA]; rfl
  have hhp : s'.heap = H := by rw [hA]; exact hT
  have hW0 : s.WarmedH s'.vm := by rw [hvm]; exact State.WarmedH.refl s
  have hat' : ∀ w ∈ vx_atS own ic cls names, w.before args s' = true := fun w hw => vx_ot_at hW0 hvm.symm (hgood w (List.mem_cons_of_mem _ (List.mem_cons_of_mem _ hw))) (hat w hw)
  have hk' : (Cond.classLink own ik cls).before args s' = true := vx_ot_at hW0 hvm.symm (hgood _ List.mem_cons_self) hk
  have hini' : (Cond.initialized cls).before args s' = true := vx_ot_at hW0 hvm.symm (hgood _ (List.mem_cons_of_mem _ List.mem_cons_self)) hini
  have hU' : vx_Zq Bundle.tN "UNASSIGNED_STACK" Bundle.steD A s' s'.heap := by rw [hhp]; exact vx_Zq.moved hW0.alike (hU.kept hS.2.1)
  have hN' : vx_Zq Bundle.tN "SUPPRESSED_SENTINEL" Bundle.listD A s' s'.heap := by rw [hhp]; exact vx_Zq.moved hW0.alike (hN.kept hS.2.1)
  have h : ∀ w ∈ Bundle.ownAtoms own ic cls names, w.before args s' = true := vx_own hat' (vx_isRefq hU'.1) (vx_isRefq hN'.1) hU'.2.word hN'.2.word
  have hown' : s'.vm.findClass own = some m.cls := by rw [hvm]; exact hown
  have hins : (Cond.instantiable cls 6).before args s' = true := h _ (by simp [Bundle.ownAtoms])
  obtain ⟨vm₁, cX, kX, hfX, hkX, -, -, X₁, st1⟩ := Y.newCold hexec (own := own) (C := cls) (index := ik) (n := 6) hown' hk' hins hini'
    (g := F0 m pc ls rest) rfl (by rw [hb]; exact d0) (Nat.le_refl _) (Nat.le_refl _)
  generalize hT1 : (T.setVm vm₁).pushCell { cls := cX, slots := kX.instanceTypes.map defaultValue, vm := .none } = T1 at X₁ st1
  have hcat : (Value.ref T.heap.size).category = 1 := rfl
  have hcellA : T1.heap[T.heap.size]? = some (freshCell cX kX) := by rw [← hT1]; exact State.heap_pushCell_size _ _
  have d3' : decode c.code (pc + 3) = .ok (.dup, 1) := by rw [hb]; exact d3
  have d4' : decode c.code (pc + 4) = .ok (.ldc is, 2) := by rw [hb]; exact d4
  have hstr' : vk_R own is text sa s' := vk_R.warm hW0 hstr
  obtain ⟨U, hsteps, hrun, hend, hW, hsame, ce, hce, hO⟩ := X₁.ctorThrowS hexec htr (own := own) (cls := cls) (names := names) (ic := ic) hown' hcls hnames h (fun x hx => nomatch hx) hfX hkX hcellA (by rw [hhp, hT]; exact Nat.le_refl _) (msg := .ref sa) rfl
    (g := { method := m, pc := pc + 6, locals := ls, stack := .ref sa :: .ref T.heap.size :: .ref T.heap.size :: rest, locked := none }) rfl hsize rfl rfl (rest := rest) rfl
    (by rw [hb]; exact d6) (by rw [hb]; exact d9) hout hRframes (by simp only [List.map_cons, List.sum_cons, hcat]; omega) hlocks
  obtain ⟨f1, f2⟩ := vx_frame hsame
  rw [hhp] at f1 f2
  have hWs : s.WarmedH U.vm := State.WarmedH.trans hW0 hW
  have hcl : s.vm.findClass cls = some ce.cls := by
    have h9 := hO.cls
    rw [hvm] at h9
    exact h9
  have hall : s.sameButNew ({ U with vm := s.vm } : State) locs mc ms := by
    subst hA
    obtain ⟨e1, e2⟩ := hsame
    rw [State.setFrames_setFrames] at e1
    have h2 : (T.setVm s.vm).sameButNew ({ U with vm := s.vm } : State) [] (0 + 1) (0 + 6) := ⟨e1, e2⟩
    have h3 := X.same.trans h2
    rw [List.append_nil] at h3
    exact h3.mono hc hs
  refine ⟨U, ?_, .threw T.heap.size, hrun, hend, Or.inr ⟨T.heap.size, rfl, cls, ce, locs, hx U hWs.alike f1 (fun q hq => f2 q hq (fun z hz => nomatch hz)), hce, hO.vm, hcl, hWs, hall, hf⟩⟩
  refine st1 _ ?_
  show Steps p.tables e below (T1.setTop { method := m, pc := pc + 3, locals := ls, stack := .ref T.heap.size :: rest, locked := none }) _
  jvm_step X₁.here [X₁.here.top, hexec, d3', Value.category]
  exact X₁.ldcString hexec (own := own) (text := text) (index := is) (a := sa) hown' hstr'.1 hstr'.2
    (g := { method := m, pc := pc + 4, locals := ls, stack := .ref T.heap.size :: .ref T.heap.size :: rest, locked := none }) rfl d4' _ hsteps
/-- 'throw new E("text")', the text by a wide index -/
theorem vx_throwSW {cc : ByteArray} {pc : Nat} (hexec : p.tables.exec = Jvm.exec) (hb : c.code = cc) (hl : l.stackTraces = false) {own cls text : String} {names : List String} {ik is ic mc ms sa : Nat} {A : Nat → Prop}
    (hown : s.vm.findClass own = some m.cls) (hcls : Bundle.fit cls = true) (hnames : ∀ n ∈ names, Bundle.fit n = true)
    (hk : (Cond.classLink own ik cls).before args s = true) (hini : (Cond.initialized cls).before args s = true) (hstr : vk_R own is text sa s) (hat : ∀ w ∈ vx_atS own ic cls names, w.before args s = true)
    (hgood : ∀ w ∈ Cond.classLink own ik cls :: Cond.initialized cls :: vx_atS own ic cls names, vx_ot w = true)
    (hU : vx_Zq Bundle.tN "UNASSIGNED_STACK" Bundle.steD A s s.heap) (hN : vx_Zq Bundle.tN "SUPPRESSED_SENTINEL" Bundle.listD A s s.heap) (hS : va_S A s.heap H locs) (hsize : ls.size = c.maxLocals)
    (d0 : decode cc pc = .ok (.new ik, 3)) (d3 : decode cc (pc + 3) = .ok (.dup, 1)) (d4 : decode cc (pc + 4) = .ok (.ldc_w is, 3)) (d7 : decode cc (pc + 7) = .ok (.invokespecial ic, 3)) (d10 : decode cc (pc + 10) = .ok (.athrow, 1))
    (hout : ∀ x ∈ c.exceptionTable.toList, covers x (pc + 10) = false)
    (hRframes : names.length + 3 < R.frames) (hRlocals : (rest.map fun v => v.category).sum + (13 * (names.length + 1) + 43) ≤ R.locals) (hRcells : cells + 1 ≤ R.cells) (hRslots : slots + 6 ≤ R.slots) (hlocks : meth.locks = false)
    (hx : ∀ t : State, s.vm.Alike t.vm → H.size ≤ t.heap.size → (∀ q : Nat, q < H.size → t.heap[q]? = H[q]?) → XC cls s t)
    (hf : ∀ z ∈ locs, free z.base) (hc : cells + 1 ≤ mc) (hs : slots + 6 ≤ ms) :
    W p l e R s m args below meth c H locs cells slots (vx_MQ below Qc XC args s mc ms free) (F0 m pc ls rest) := by
  intro T hT X
  have htr : e.platform.stackTraces = false := (show e.platform.stackTraces = l.stackTraces by rw [X.admits.platform]).trans hl
  have Y := vx_rebase X (R' := { frames := R.frames, locals := R.locals, cells := 1, slots := 6 }) (Nat.le_refl _) (Nat.le_refl _) hRcells hRslots
  obtain ⟨s', hA⟩ : ∃ z, z = (T.setVm s.vm).setFrames (.invoking m args :: below) := ⟨_, rfl⟩
  rw [← hA] at Y
  have hvm : s'.vm = s.vm := by rw [hA]; rfl
  have hhp : s'.heap = H := by rw [hA]; exact hT
  have hW0 : s.WarmedH s'.vm := by rw [hvm]; exact State.WarmedH.refl s
  have hat' : ∀ w ∈ vx_atS own ic cls names, w.before args s' = true := fun w hw => vx_ot_at hW0 hvm.symm (hgood w (List.mem_cons_of_mem _ (List.mem_cons_of_mem _ hw))) (hat w hw)
  have hk' : (Cond.classLink own ik cls).before args s' = true := vx_ot_at hW0 hvm.symm (hgood _ List.mem_cons_self) hk
  have hini' : (Cond.initialized cls).before args s' = true := vx_ot_at hW0 hvm.symm (hgood _ (List.mem_cons_of_mem _ List.mem_cons_self)) hini
  have hU' : vx_Zq Bundle.tN "UNASSIGNED_STACK" Bundle.steD A s' s'.heap := by rw [hhp]; exact vx_Zq.moved hW0.alike (hU.kept hS.2.1)
  have hN' : vx_Zq Bundle.tN "SUPPRESSED_SENTINEL" Bundle.listD A s' s'.heap := by rw [hhp]; exact vx_Zq.moved hW0.alike (hN.kept hS.2.1)
  have h : ∀ w ∈ Bundle.ownAtoms own ic cls names, w.before args s' = true := vx_own hat' (vx_isRefq hU'.1) (vx_isRefq hN'.1) hU'.2.word hN'.2.word
  have hown' : s'.vm.findClass own = some m.cls := by rw [hvm]; exact hown
  have hins : (Cond.instantiable cls 6).before args s' = true := h _ (by simp [Bundle.ownAtoms])
  obtain ⟨vm₁, cX, kX, hfX, hkX, -, -, X₁, st1⟩ := Y.newCold hexec (own := own) (C := cls) (index := ik) (n := 6) hown' hk' hins hini'
    (g := F0 m pc ls rest) rfl (by rw [hb]; exact d0) (Nat.le_refl _) (Nat.le_refl _)
  generalize hT1 : (T.setVm vm₁).pushCell { cls := cX, slots := kX.instanceTypes.map defaultValue, vm := .none } = T1 at X₁ st1
  have hcat : (Value.ref T.heap.size).category = 1 := rfl
  have hcellA : T1.heap[T.heap.size]? = some (freshCell cX kX) := by rw [← hT1]; exact State.heap_pushCell_size _ _
  have d3' : decode c.code (pc + 3) = .ok (.dup, 1) := by rw [hb]; exact d3
  have d4' : decode c.code (pc + 4) = .ok (.ldc_w is, 3) := by rw [hb]; exact d4
  have hstr' : vk_R own is text sa s' := vk_R.warm hW0 hstr
  obtain ⟨U, hsteps, hrun, hend, hW, hsame, ce, hce, hO⟩ := X₁.ctorThrowS hexec htr (own := own) (cls := cls) (names := names) (ic := ic) hown' hcls hnames h (fun x hx => nomatch hx) hfX hkX hcellA (by rw [hhp, hT]; exact Nat.le_refl _) (msg := .ref sa) rfl
    (g := { method := m, pc := pc + 7, locals := ls, stack := .ref sa :: .ref T.heap.size :: .ref T.heap.size :: rest, locked := none }) rfl hsize rfl rfl (rest := rest) rfl
    (by rw [hb]; exact d7) (by rw [hb]; exact d10) hout hRframes (by simp only [List.map_cons, List.sum_cons, hcat]; omega) hlocks
  obtain ⟨f1, f2⟩ := vx_frame hsame
  rw [hhp] at f1 f2
  have hWs : s.WarmedH U.vm := State.WarmedH.trans hW0 hW
  have hcl : s.vm.findClass cls = some ce.cls := by
    have h9 := hO.cls
    rw [hvm] at h9
    exact h9
  have hall : s.sameButNew ({ U with vm := s.vm } : State) locs mc ms := by
    subst hA
    obtain ⟨e1, e2⟩ := hsame
    rw [State.setFrames_setFrames] at e1
    have h2 : (T.setVm s.vm).sameButNew ({ U with vm := s.vm } : State) [] (0 + 1) (0 + 6) := ⟨e1, e2⟩
    have h3 := X.same.trans h2
    rw [List.append_nil] at h3
    exact h3.mono hc hs
  refine ⟨U, ?_, .threw T.heap.size, hrun, hend, Or.inr ⟨T.heap.size, rfl, cls, ce, locs, hx U hWs.alike f1 (fun q hq => f2 q hq (fun z hz => nomatch hz)), hce, hO.vm, hcl, hWs, hall, hf⟩⟩
  refine st1 _ ?_
  show Steps p.tables e below (T1.setTop { method := m, pc := pc + 3, locals := ls, stack := .ref T.heap.size :: rest, locked := none }) _
  jvm_step X₁.here [X₁.here.top, hexec, d3', Value.category]
  exact X₁.ldcStringW hexec (own := own) (text := text) (index := is) (a := sa) hown' hstr'.1 hstr'.2
    (g := { method := m, pc := pc + 4, locals := ls, stack := .ref T.heap.size :: .ref T.heap.size :: rest, locked := none }) rfl d4' _ hsteps
end Ends
section Bodies
variable {l : Launch}
theorem vx_ofW {y : MethodName} {ws ws' : List Cond} {rm : Room} {Pc : Array Value → State → Prop} {Qc : Array Value → State → Outcome → State → Prop} {XC : String → State → State → Prop} {mc ms : Nat} {free : Addr → Prop} {cc : ByteArray} {maxL : Nat} {ret : Option FieldType}
    (hy : plainName y.cls = true) (hw : ws = Cond.code y cc maxL ret :: ws')
    (body : ∀ p e s m args below meth c s₁, BodyLoose p l y (headSpec ws rm) cc maxL ret e s m args below meth c s₁ → c.maxLocals = maxL → (∀ x ∈ c.exceptionTable.toList, False) → Pc args s →
      W p l e (headSpec ws rm).room s m args below meth c s.heap [] 0 0 (vx_MQ below Qc XC args s mc ms free) (entryFrame m args maxL)) : vx_Met l y ws rm Pc Qc XC mc ms free := by
  refine MetFree.of_bodyS (code := cc) (maxLocals := maxL) (ret := ret) hy ?_ ?_
  · intro args s m h hn
    obtain ⟨meth, c, h1, h2, h3, h4, h5, h6, -, -⟩ := Cond.code_spec hn (atoms_spec (ws := ws) h _ (by rw [hw]; exact List.mem_cons_self))
    exact ⟨meth, c, h1, h2, h3, h4, h5, h6⟩
  · intro p e s m args below meth c s₁ B hml hP _
    have hh0 : s₁.heap = s.heap := by rw [B.state]; rfl
    have ht : ∀ x ∈ c.exceptionTable.toList, False := by
      obtain ⟨meth9, c9, h1, h2, -, -, -, -, h7, -⟩ := Cond.code_spec B.named (atoms_spec (ws := ws) B.pre _ (by rw [hw]; exact List.mem_cons_self))
      cases Option.some.inj (h1.symm.trans B.method)
      cases Option.some.inj (h2.symm.trans (Stand.of_body B).code)
      intro x hx
      rw [Array.isEmpty_iff.mp h7] at hx
      cases hx
    obtain ⟨t, a1, o, b1, b2, b3⟩ := body p e s m args below meth c s₁ B hml ht hP s₁ hh0 (Stand.of_body B)
    exact ⟨t, o, a1, b1, b2, b3⟩
/-- the table of a body with handlers -/
theorem vx_table {p : Program} {x y : MethodName} {S : Spec} {cc bytes : ByteArray} {maxL maxL' : Nat} {ret ret' : Option FieldType} {e : Env} {s s₁ : State} {m : MethodId} {args : Array Value} {below : List Frame} {meth : Method} {c : Code} {hh : List (Nat × Nat × Nat × Nat)}
    (B : BodyLoose p l y S cc maxL ret e s m args below meth c s₁) (h : (Cond.codeWith y bytes maxL' ret' hh).before args s = true) : c.exceptionTable.toList = tableOf hh := by
  obtain ⟨m9, meth9, c9, hn9, h1, h2, -, -, h6, -⟩ := Cond.codeWith_spec h
  cases Option.some.inj (hn9.symm.trans B.named)
  cases Option.some.inj (h1.symm.trans B.method)
  cases Option.some.inj (h2.symm.trans (Stand.of_body B).code)
  rw [← h6, table_eq]
end Bodies
end VXA
/-! ===== END ===== -/
/-! ===== BEGIN a static call of a method with an exception table ===== -/
section VXS
variable {p : Program} {l : Launch} {e : Env} {R : Room} {s : State} {m : MethodId} {args : Array Value} {below : List Frame} {meth : Method} {c : Code} {T : State} {H : Heap} {locs : List Loc} {cells slots : Nat}
abbrev vx_CSW (R : Room) (s : State) (args : Array Value) (own : String) (index : Nat) (y : MethodName) (bytes : ByteArray) (maxL : Nat) (ret : Option FieldType) (hh : List (Nat × Nat × Nat × Nat)) (ws : List Cond) (rm : Room) (mc ms n : Nat) : Prop :=
  (rm.cells = mc ∧ rm.slots = ms ∧ rm.frames + 1 ≤ R.frames ∧ 8 + (maxL + 11) + rm.locals ≤ R.locals ∧ (∀ w ∈ ws, ∀ (a' : Array Value) (U : State), s.WarmedH U.vm → w.before a' U = true) ∧ Cond.codeWith y bytes maxL ret hh ∈ ws) ∧
  (Cond.codeWith y bytes maxL ret hh).before args s = true ∧ (Cond.initialized y.cls).before args s = true ∧ (y.cls ≠ "java/lang/invoke/MethodHandle" ∧ y.cls ≠ "java/lang/invoke/VarHandle") ∧
  (∀ sig, parseMethodDescriptor y.desc = some sig → n = sig.parameters.length) ∧ (Cond.methodLink own index y).before args s = true ∧ (Cond.static y).before args s = true
theorem vx_cwSW {own : String} {index maxL mc ms : Nat} {y : MethodName} {bytes : ByteArray} {ret : Option FieldType} {hh : List (Nat × Nat × Nat × Nat)} {Ts ws ws' : List Cond} {rm : Room} (n : Nat) (ht : ∀ w ∈ Ts, w.before args s = true) (hT : GoodIn Ts (va_wsS own index y ws)) (hw : ws = Cond.codeWith y bytes maxL ret hh :: ws') (hrc : rm.cells = mc) (hrs : rm.slots = ms)
    (hd : y.cls ≠ "java/lang/invoke/MethodHandle" ∧ y.cls ≠ "java/lang/invoke/VarHandle" ∧ (parseMethodDescriptor y.desc).map (fun d => d.parameters.length) = some n) (hR : rm.frames + 1 ≤ R.frames ∧ 8 + (maxL + 11) + rm.locals ≤ R.locals) :
    vx_CSW R s args own index y bytes maxL ret hh ws rm mc ms n := by
  have ok : ∀ w ∈ va_wsS own index y ws, w.before args s = true := fun w h => ht w (hT w h).1
  have hG : GoodIn Ts ws := fun w h => hT w (by unfold va_wsS; exact List.mem_append_right _ h)
  have hc : Cond.codeWith y bytes maxL ret hh ∈ ws := by rw [hw]; exact List.mem_cons_self
  refine ⟨⟨hrc, hrs, hR.1, hR.2, pay_in ht hG, hc⟩, ht _ (hG _ hc).1, ok _ (by simp [va_wsS]), ⟨hd.1, hd.2.1⟩, fun sig h => ?_, ok _ (by simp [va_wsS]), ok _ (by simp [va_wsS])⟩
  have h2 := hd.2.2
  rw [h] at h2
  exact (Option.some.inj h2).symm
theorem vx_callSW (X : Stand p l e R s m args below meth c T locs cells slots) (hexec : p.tables.exec = Jvm.exec) {own : String} {index : Nat} {y : MethodName} {bytes : ByteArray} {maxL : Nat} {ret : Option FieldType} {hh : List (Nat × Nat × Nat × Nat)}
    (hown : s.vm.findClass own = some m.cls) (hlink : (Cond.methodLink own index y).before args s = true) (hstat : (Cond.static y).before args s = true) (hinit : (Cond.initialized y.cls).before args s = true)
    (hcode : (Cond.codeWith y bytes maxL ret hh).before args s = true) (hy : y.cls ≠ "java/lang/invoke/MethodHandle" ∧ y.cls ≠ "java/lang/invoke/VarHandle")
    {W9 : Nat} {Pre : Pt → Array Value → Prop} {Post : Pt → Array Value → Option Value → Pt → Prop} (hK : Back l R p e below s args y 3 W9 Pre Post)
    {g : JFrame} (hg : g.method = m) (hsize : g.locals.size = c.maxLocals) {argsL rest : List Value} (hlen : ∀ sig, parseMethodDescriptor y.desc = some sig → argsL.length = sig.parameters.length)
    (hstack : g.stack = argsL.reverse ++ rest) (hW : 2 * g.monitorRoom + (rest.map fun v => v.category).sum ≤ W9) (hdg : decode c.code g.pc = .ok (.invokestatic index, 3))
    (hpre : ∀ vm₁, s.WarmedH vm₁ → Pre ⟨T.setVm vm₁, locs, cells, slots⟩ argsL.toArray) :
    ∃ (v : Option Value) (vm₁ : Vm) (B : Pt), s.WarmedH vm₁ ∧ Stand p l e R s m args below meth c B.U B.locs B.cells B.slots ∧ Post ⟨T.setVm vm₁, locs, cells, slots⟩ argsL.toArray v B ∧
      ∀ target, Steps p.tables e below (B.U.setTop { g with pc := g.pc + 3, stack := v.toList ++ rest }) target → Steps p.tables e below (T.setTop g) target := by
  obtain ⟨mk, methM, cM, hnamed, hmethM, -, -, -, -, -, -, hsigM⟩ := Cond.codeWith_spec hcode
  have hstatic : methM.isStatic = true := Cond.static_spec hnamed hmethM hstat
  obtain ⟨kP, hkP, -⟩ := className_of_methodNamed hnamed
  have hinitP : kP.init = .initialized := Cond.initialized_spec (findClass_of_methodNamed hnamed) hkP hinit
  obtain ⟨vm₁, X₁, hstep₁⟩ := X.invokestatic hexec hown hlink hnamed hmethM hstatic hkP hinitP hy (g := g) hg (argsL := argsL) (rest := rest) (hlen _ hsigM) hstack hdg
  obtain ⟨v, B, X', hpost, hsteps⟩ := hK m meth c ⟨T.setVm vm₁, locs, cells, slots⟩ { g with stack := rest } (.invokestatic index) mk argsL.toArray X₁ hg hsize hdg hW (X₁.named hnamed) (hpre vm₁ X₁.warmed)
  exact ⟨v, vm₁, B, X₁.warmed, X', hpost, fun target h => hstep₁ _ fun acts => by rw [doInvoke_state]; exact hsteps.trans h⟩
theorem vx_runSW {y : MethodName} {bytes cc : ByteArray} {maxL nL mc ms n index : Nat} {ret : Option FieldType} {hh : List (Nat × Nat × Nat × Nat)} {ws : List Cond} {rm : Room} {Pc : Array Value → State → Prop} {Qc : Array Value → State → Outcome → State → Prop} {free : Addr → Prop} {Ts : List Cond} {own : String} {As rest : List Value} {g : JFrame}
    (S : CallFix p m c cc nL s args Ts own) (hM : Met l y ws rm Pc Qc mc ms free) (cw : vx_CSW R s args own index y bytes maxL ret hh ws rm mc ms n) (hp : PreS s H Pc As)
    (hg : g.method = m) (hn : As.length = n) (hsize : g.locals.size = nL) (hstack : g.stack = As.reverse ++ rest) (hW : 2 * g.monitorRoom + (rest.map fun v => v.category).sum ≤ 8) (hdg : decode cc g.pc = .ok (.invokestatic index, 3)) (hf : cells + mc ≤ R.cells ∧ slots + ms ≤ R.slots) :
    va_Run p l e R s m args below meth c H locs cells slots mc ms g rest (Qc As.toArray) (free) := by
  obtain ⟨⟨hrc, hrs, hfr, hlo, hws, hcw⟩, hcode, hini, hy, hlen, hl, hstt⟩ := cw
  have hK : Back l R p e below s args y 3 8 (PreOf R mc ms Pc) (PostOf Qc mc ms free) := va_backW (hh := hh) (bytes := bytes) (maxL := maxL) (ret := ret) hM hp.1 hrc hrs hfr hlo hws hcw (fun a' U hW => word_at hW (Or.inl (by first | rfl | simp [Cond.onTables, Cond.keeps, Cond.steady])) hini)
  obtain ⟨hx, hb, hml, ho, -⟩ := S
  intro T hT X
  obtain ⟨v, vm₁, ⟨U', l2, c2, s2⟩, hW₁, X', ⟨g', mk, t, L, e1, e2, hq, h1, hL, h2, h3⟩, st⟩ := vx_callSW X hx (hh := hh) (bytes := bytes) (maxL := maxL) (ret := ret) ho hl hstt hini hcode hy hK hg (hsize.trans hml.symm) (argsL := As) (rest := rest) (fun sig h => hn.trans (hlen sig h)) hstack hW (by rw [hb]; exact hdg)
    (fun vm₁ hW₁ => ⟨hf.1, hf.2, hp.2 (T.setVm vm₁) hT hW₁⟩)
  dsimp only [Pt.U, Pt.locs, Pt.cells, Pt.slots] at X' e1 e2 h1 h2 h3 st
  subst h1; subst h2; subst h3
  exact ⟨v, (T.setVm vm₁).calling g' mk As.toArray, t, U', L, hT, X', hL, e1, e2, hq, st⟩
/-- not caught here, past rows that name other classes: it goes on to the caller -/
theorem vx_outP {p : Program} {l : Launch} {e : Env} {R : Room} {s : State} {m : MethodId} {args : Array Value} {below : List Frame} {meth : Method} {c : Code} {H : Heap} {locs : List Loc} {cells slots : Nat} {free : Addr → Prop} {ls : Array Slot} {rest : List Value} {Qc : Array Value → State → Outcome → State → Prop} {XC : String → State → State → Prop}
    {pc : Nat} {own E : String} {ce : Cell} {q : Addr} {mc ms : Nat} (hown : s.vm.findClass own = some m.cls) (hlocks : meth.locks = false)
    (hpass : ∀ z ∈ c.exceptionTable.toList, covers z pc = false ∨ (z.catchType ≠ 0 ∧ ∃ nm : String, (Cond.classLink own z.catchType nm).before args s = true ∧ va_Nc E nm s)) (hcell : H[q]? = some ce) (hv : ce.vm = .none) (hcl : s.vm.findClass E = some ce.cls)
    (hx : ∀ t : State, t.heap = H → s.vm.Alike t.vm → XC E s t) (hf : ∀ z ∈ locs, free z.base) (hc : cells ≤ mc) (hs : slots ≤ ms) :
    vx_W p l e R s m args below meth c H locs cells slots (vx_MQ below Qc XC args s mc ms free) (F0 m pc ls rest) q := by
  intro T hT X
  have hpl : e.platform.magicAccessors = ({} : Platform).magicAccessors := by rw [X.admits.platform]
  obtain ⟨vm', hW', X', st⟩ := X.outThrough hlocks q (g := F0 m pc ls rest) rfl rfl rfl (cell := ce) (by rw [hT]; exact hcell) (by rw [hv]; rfl)
    (by obtain ⟨k9, h9, -⟩ := Vm.findClass_spec hcl; exact ⟨k9, h9⟩) (fun z hz => by
      rcases hpass z hz with h | ⟨hz0, nm, hl1, hn1⟩
      · exact Or.inl h
      · obtain ⟨c6, hc6, hcl6⟩ := Cond.classLink_spec hown hl1 e.platform hpl
        obtain ⟨a8, b8, h1, h2, h3⟩ := hn1
        cases Option.some.inj (h1.symm.trans hcl)
        cases Option.some.inj (h2.symm.trans hc6)
        exact Or.inr ⟨hz0, _, hcl6, h3⟩)
  obtain ⟨g₀, hfr⟩ := X'.frames_eq
  have hcell9 : ((T.setVm vm').setFrames (.throwing q :: below)).heap[q]? = some ce := by
    show T.heap[q]? = some ce
    rw [hT]; exact hcell
  have hend : Ended ((T.setVm vm').setFrames (.throwing q :: below)) below (.threw q) := State.frames_setFrames _ (State.cur_lt_of_frames hfr)
  refine ⟨(T.setVm vm').setFrames (.throwing q :: below), ?_, .threw q, X'.here.running, hend, Or.inr ⟨q, rfl, E, ce, locs, hx _ hT (X'.ends _).1.alike, hcell9, hv, hcl, (X'.ends _).1, (X'.ends _).2.mono hc hs, hf⟩⟩
  rw [X.pushThrowing_eq]
  exact st
/-- a thing of a world lies in the heap -/
theorem vx_lt {D : va_G} {cl : List vw_C} {ws : va_W} {H1 : Heap} (h : va_P D cl ws H1) {k : Nat} {q : Nat × va_E} (hk : ws[k]? = some q) : q.1 < H1.size := (h k q hk).lt
end VXS
/-! ===== END ===== -/
/-! ===== BEGIN methods with a table of their own: called by a name, returning or throwing ===== -/
section VXH
/-! vx_backW, vx_callVX, vx_callSX, vx_callVW, vx_runVW, vx_runVX, vx_runSX, vx_ofWH follow the same proofs as their sisters above (Free/Laws.lean, Shelf42/LK1.lean); vx_outP calls Shelf42/NT130.lean (outThrough). -/
section
variable {l : Launch} {R : Room} {p : Program} {e : Env} {below : List Frame} {s : State} {sargs : Array Value} {y : MethodName} {len W9 : Nat}
theorem vx_backW {ws : List Cond} {rm : Room} {Pc : Array Value → State → Prop} {Qc : Array Value → State → Outcome → State → Prop} {XC : String → State → State → Prop} {mc ms : Nat} {free : Addr → Prop} {bytes : ByteArray} {maxL : Nat} {ret : Option FieldType} {hh : List (Nat × Nat × Nat × Nat)}
    (hM : vx_Met l y ws rm Pc Qc XC mc ms free) (hblind : FrameBlind Pc) (hrc : rm.cells = mc) (hrs : rm.slots = ms)
    (hframes : rm.frames + 1 ≤ R.frames) (hlocals : W9 + (maxL + 11) + rm.locals ≤ R.locals)
    (hws : ∀ w ∈ ws, ∀ a' U, s.WarmedH U.vm → w.before a' U = true) (hcode : Cond.codeWith y bytes maxL ret hh ∈ ws) (hinit : ∀ a' U, s.WarmedH U.vm → (Cond.initialized y.cls).before a' U = true) :
    vx_Back l R p e below s sargs y len W9 (PreOf R mc ms Pc) (PostOf Qc mc ms free) (vx_Post XC mc ms free) := by
  intro m meth c A g ig mk a X hg hsize hdg hW hn hp
  have h1 : (headSpec ws rm).pre.before a A.U = true := atoms_intro fun w hw => hws w hw _ _ X.warmed
  have h2 : (Cond.codeWith y bytes maxL ret hh).before a A.U = true := hws _ hcode _ _ X.warmed
  have h3 : (Cond.initialized y.cls).before a A.U = true := hinit _ _ X.warmed
  have h4 : A.cells + (headSpec ws rm).room.cells ≤ R.cells := by rw [show (headSpec ws rm).room.cells = mc from hrc]; exact hp.1
  have h5 : A.slots + (headSpec ws rm).room.slots ≤ R.slots := by rw [show (headSpec ws rm).room.slots = ms from hrs]; exact hp.2.1
  have hPc : Pc a (A.U.calling g mk a) := hblind _ _ _ _ hp.2.2
  obtain ⟨U, Ls, c0, s0⟩ := A
  dsimp only [Pt.U, Pt.locs, Pt.cells, Pt.slots] at h1 h2 h3 h4 h5 X hn hPc ⊢
  obtain ⟨m9, methY, cY, hn9, hmY, hcY, -, hlY, -⟩ := Cond.codeWith_spec h2
  cases Option.some.inj (hn9.symm.trans hn)
  obtain ⟨kY, hkY, -⟩ := className_of_methodNamed hn
  have hinitY : kY.init = .initialized := Cond.initialized_spec (findClass_of_methodNamed hn) hkY h3
  have h : At U g.method c below := by rw [hg]; exact X.here
  have hlocals9 : W9 + (maxL + 11) + (headSpec ws rm).room.locals ≤ R.locals := hlocals
  have happ : (headSpec ws rm).appliesLoose y e.platform (U.calling g mk a) = true :=
    Spec.appliesLoose_calling (g := g) h hdg hn hkY hinitY
      (X.room_calling (g := g) (R' := (headSpec ws rm).room) hsize hmY hcY hframes (by rw [hlY]; omega) h4 h5) h1
  obtain ⟨mid, hmid⟩ := h.above
  have hfr : (U.setTop g).frames = (.java g :: mid) ++ below := by rw [State.frames_setTop' g h.top, hmid]; rfl
  obtain ⟨o, s₂, hsteps, -, hend, hq⟩ := Steps.callFree hM p X.admits X.cas X.clock (acts := []) hfr happ hPc trivial
  have hq' : vx_Q Qc XC mc ms free a (U.calling g mk a) o s₂ := hq
  rw [State.frames_setTop' g h.top] at hend
  obtain ⟨g₀, hg0⟩ := Option.isSome_iff_exists.mp h.top
  obtain ⟨r, hr⟩ := State.topJava?_eq_some.mp hg0
  have hr' : (({ U with heap := s₂.heap, slotsUsed := s₂.slotsUsed } : State).setVm s₂.vm).frames = .java g₀ :: r := hr
  rcases hq' with ⟨hqc, L, hfe, hL⟩ | ⟨q, rfl, E, ce, L, hx, hce, hcv, hcl, hW₂, hsm, hL⟩
  · obtain ⟨⟨v, rfl⟩, hW₂, e2, q2, q3, q4, q5, q6⟩ := id hfe
    have e3 : s₂ = ({ (U.calling g mk a).setFrames s₂.frames with heap := s₂.heap, slotsUsed := s₂.slotsUsed } : State).setVm s₂.vm := by
      have : s₂ = ({ s₂ with vm := (U.calling g mk a).vm } : State).setVm s₂.vm := rfl
      rw [e2] at this
      exact this
    obtain ⟨c₂, i₂, len₂, hc₂, hd₂, hf₂⟩ := hend
    have hW' : U.WarmedH s₂.vm := hW₂
    have hcc : c₂ = c := by
      have h1 : s₂.code? g.method = U.code? g.method := by
        rw [State.code?_eq, State.code?_eq, hW'.alike.method?]
      exact Option.some.inj (hc₂.symm.trans (h1.trans h.code))
    subst hcc
    have hlen : len₂ = len := by rw [hdg] at hd₂; cases hd₂; rfl
    subst hlen
    have hs₂ : s₂ = (({ U with heap := s₂.heap, slotsUsed := s₂.slotsUsed } : State).setVm s₂.vm).setTop { g with pc := g.pc + len₂, stack := v.toList ++ g.stack } := by
      refine e3.trans ?_
      rw [hf₂, State.calling_eq h.top, State.setFrames_setFrames, State.setTop_of_frames _ hr', hr]
      rfl
    have hsame : U.sameButNew ({ U with heap := s₂.heap, slotsUsed := s₂.slotsUsed } : State) L mc ms := by
      refine ⟨?_, q2, q3, q4, q5, q6⟩
      obtain ⟨t, ht, -⟩ := State.frames_cons hr
      show ({ U with heap := s₂.heap, slotsUsed := s₂.slotsUsed } : State) = { U.setFrames U.frames with heap := s₂.heap, slotsUsed := s₂.slotsUsed }
      rw [State.setFrames_self ht]
    subst hg
    refine Or.inl ⟨v, ⟨(({ U with heap := s₂.heap, slotsUsed := s₂.slotsUsed } : State).setVm s₂.vm), Ls ++ L, c0 + mc, s0 + ms⟩,
      ⟨X.admits, X.cas, X.clock, X.frames, X.room, X.hears, X.method, X.code, (X.here.setHeapUsed s₂.heap s₂.slotsUsed).setVm hW'.alike, X.tail, State.WarmedH.trans X.warmed hW', X.limits, X.bytes, X.same.trans (hsame.setVm s.vm)⟩,
      ⟨g, mk, s₂, L, rfl, rfl, hqc, rfl, hL, rfl, rfl⟩, ?_⟩
    show Steps p.tables e below _ ((({ U with heap := s₂.heap, slotsUsed := s₂.slotsUsed } : State).setVm s₂.vm).setTop { g with pc := g.pc + len₂, stack := v.toList ++ g.stack })
    rw [← hs₂]
    exact hsteps
  · obtain ⟨e2, q2, q3, q4, q5, q6⟩ := id hsm
    have e3 : s₂ = ({ (U.calling g mk a).setFrames s₂.frames with heap := s₂.heap, slotsUsed := s₂.slotsUsed } : State).setVm s₂.vm := by
      have : s₂ = ({ s₂ with vm := (U.calling g mk a).vm } : State).setVm s₂.vm := rfl
      rw [e2] at this
      exact this
    have hf₂ : s₂.frames = .throwing q :: .java g :: U.frames.tail := hend
    have hW' : U.WarmedH s₂.vm := hW₂
    have hs₂ : s₂ = ((({ U with heap := s₂.heap, slotsUsed := s₂.slotsUsed } : State).setVm s₂.vm).setTop g).pushFrame (.throwing q) := by
      refine e3.trans ?_
      rw [hf₂, State.calling_eq h.top, State.setFrames_setFrames, State.pushFrame, State.frames_setTop _ hr', State.setTop_of_frames _ hr', State.setFrames_setFrames, hr]
      rfl
    have hsame : U.sameButNew ({ U with heap := s₂.heap, slotsUsed := s₂.slotsUsed } : State) L mc ms := by
      refine ⟨?_, q2, q3, q4, q5, q6⟩
      obtain ⟨t, ht, -⟩ := State.frames_cons hr
      show ({ U with heap := s₂.heap, slotsUsed := s₂.slotsUsed } : State) = { U.setFrames U.frames with heap := s₂.heap, slotsUsed := s₂.slotsUsed }
      rw [State.setFrames_self ht]
    subst hg
    refine Or.inr ⟨q, ⟨(({ U with heap := s₂.heap, slotsUsed := s₂.slotsUsed } : State).setVm s₂.vm), Ls ++ L, c0 + mc, s0 + ms⟩,
      ⟨X.admits, X.cas, X.clock, X.frames, X.room, X.hears, X.method, X.code, (X.here.setHeapUsed s₂.heap s₂.slotsUsed).setVm hW'.alike, X.tail, State.WarmedH.trans X.warmed hW', X.limits, X.bytes, X.same.trans (hsame.setVm s.vm)⟩,
      ⟨g, mk, s₂, L, E, ce, rfl, rfl, hx, hce, hcv, hcl, rfl, hL, rfl, rfl⟩, ?_⟩
    show Steps p.tables e below _ (((({ U with heap := s₂.heap, slotsUsed := s₂.slotsUsed } : State).setVm s₂.vm).setTop g).pushFrame (.throwing q))
    rw [← hs₂]
    exact hsteps
end
variable {p : Program} {l : Launch} {e : Env} {R : Room} {s : State} {m : MethodId} {args : Array Value} {below : List Frame} {meth : Method} {c : Code} {T : State} {H : Heap} {locs : List Loc} {cells slots : Nat}
theorem vx_callVX (X : Stand p l e R s m args below meth c T locs cells slots) (hexec : p.tables.exec = Jvm.exec) {own C : String} {index : Nat} {y : MethodName} {bytes : ByteArray} {maxL : Nat} {ret : Option FieldType} {hh : List (Nat × Nat × Nat × Nat)}
    (hown : s.vm.findClass own = some m.cls) (hlink : (Cond.methodLink own index y).before args s = true) (hinst : (Cond.instanceMethod y).before args s = true) (hsel : (Cond.selects C y y).before args s = true)
    (hcode : (Cond.codeWith y bytes maxL ret hh).before args s = true) (hy : y.cls ≠ "java/lang/invoke/MethodHandle" ∧ y.cls ≠ "java/lang/invoke/VarHandle")
    {W9 : Nat} {Pre : Pt → Array Value → Prop} {Post : Pt → Array Value → Option Value → Pt → Prop} {PostX : Pt → Array Value → Addr → Pt → Prop} (hK : vx_Back l R p e below s args y 3 W9 Pre Post PostX)
    {b : Addr} {cellB : Cell} (hcell : T.heap[b]? = some cellB) (hobj : cellB.vm.isStatics = false) (hcls : s.vm.findClass C = some cellB.cls)
    {g : JFrame} (hg : g.method = m) (hsize : g.locals.size = c.maxLocals) {argsL rest : List Value} (hlen : ∀ sig, parseMethodDescriptor y.desc = some sig → argsL.length = sig.parameters.length)
    (hstack : g.stack = argsL.reverse ++ .ref b :: rest) (hW : 2 * g.monitorRoom + (rest.map fun v => v.category).sum ≤ W9) (hdg : decode c.code g.pc = .ok (.invokevirtual index, 3))
    (hpre : ∀ vm₁, s.WarmedH vm₁ → Pre ⟨T.setVm vm₁, locs, cells, slots⟩ (Value.ref b :: argsL).toArray) :
    (∃ (v : Option Value) (vm₁ : Vm) (B : Pt), s.WarmedH vm₁ ∧ Stand p l e R s m args below meth c B.U B.locs B.cells B.slots ∧ Post ⟨T.setVm vm₁, locs, cells, slots⟩ (Value.ref b :: argsL).toArray v B ∧
      ∀ target, Steps p.tables e below (B.U.setTop { g with pc := g.pc + 3, stack := v.toList ++ rest }) target → Steps p.tables e below (T.setTop g) target) ∨
    (∃ (q : Addr) (vm₁ : Vm) (B : Pt), s.WarmedH vm₁ ∧ Stand p l e R s m args below meth c B.U B.locs B.cells B.slots ∧ PostX ⟨T.setVm vm₁, locs, cells, slots⟩ (Value.ref b :: argsL).toArray q B ∧
      Steps p.tables e below (T.setTop g) ((B.U.setTop { g with stack := rest }).pushFrame (.throwing q))) := by
  obtain ⟨mk, methM, hnamed, hmethM, hstM, habM⟩ := Cond.instanceMethod_spec hinst
  obtain ⟨m8, methM', cM, hn8, hmethM', -, -, -, -, -, -, hsigM⟩ := Cond.codeWith_spec hcode
  cases Option.some.inj (hn8.symm.trans hnamed)
  cases hmethM.symm.trans hmethM'
  obtain ⟨c2, r2, m2, q1, q2, q3, q4, kP, hkP, hkPi⟩ := Cond.selects_spec hsel
  cases hcls.symm.trans q1
  cases (State.methodFound?_of_named hnamed hy).symm.trans q2
  cases hnamed.symm.trans q3
  have hselP : selectMethod e.platform s.vm cellB.cls mk = .method mk := by rw [Launch.admits_selectMethod X.admits]; exact q4
  obtain ⟨vm₁, X₁, hstep₁⟩ := X.invokevirtual hexec hown hlink hnamed hmethM hstM hkP hkPi hy (a := b) (cell := cellB) hcell
    (fun z h => by rw [h] at hobj; cases hobj) hselP hmethM habM hkP hkPi (g := g) hg (argsL := argsL) (rest := rest) (hlen _ hsigM) hstack hdg
  rcases hK m meth c ⟨T.setVm vm₁, locs, cells, slots⟩ { g with stack := rest } (.invokevirtual index) mk (Value.ref b :: argsL).toArray X₁ hg hsize hdg hW (X₁.named hnamed) (hpre vm₁ X₁.warmed) with ⟨v, B, X', hpost, hsteps⟩ | ⟨q, B, X', hpost, hsteps⟩
  · exact Or.inl ⟨v, vm₁, B, X₁.warmed, X', hpost, fun target h => hstep₁ _ fun acts => by rw [doInvoke_state]; exact hsteps.trans h⟩
  · exact Or.inr ⟨q, vm₁, B, X₁.warmed, X', hpost, hstep₁ _ fun acts => by rw [doInvoke_state]; exact hsteps⟩
theorem vx_callSX (X : Stand p l e R s m args below meth c T locs cells slots) (hexec : p.tables.exec = Jvm.exec) {own : String} {index : Nat} {y : MethodName} {bytes : ByteArray} {maxL : Nat} {ret : Option FieldType} {hh : List (Nat × Nat × Nat × Nat)}
    (hown : s.vm.findClass own = some m.cls) (hlink : (Cond.methodLink own index y).before args s = true) (hstat : (Cond.static y).before args s = true) (hinit : (Cond.initialized y.cls).before args s = true)
    (hcode : (Cond.codeWith y bytes maxL ret hh).before args s = true) (hy : y.cls ≠ "java/lang/invoke/MethodHandle" ∧ y.cls ≠ "java/lang/invoke/VarHandle")
    {W9 : Nat} {Pre : Pt → Array Value → Prop} {Post : Pt → Array Value → Option Value → Pt → Prop} {PostX : Pt → Array Value → Addr → Pt → Prop} (hK : vx_Back l R p e below s args y 3 W9 Pre Post PostX)
    {g : JFrame} (hg : g.method = m) (hsize : g.locals.size = c.maxLocals) {argsL rest : List Value} (hlen : ∀ sig, parseMethodDescriptor y.desc = some sig → argsL.length = sig.parameters.length)
    (hstack : g.stack = argsL.reverse ++ rest) (hW : 2 * g.monitorRoom + (rest.map fun v => v.category).sum ≤ W9) (hdg : decode c.code g.pc = .ok (.invokestatic index, 3))
    (hpre : ∀ vm₁, s.WarmedH vm₁ → Pre ⟨T.setVm vm₁, locs, cells, slots⟩ argsL.toArray) :
    (∃ (v : Option Value) (vm₁ : Vm) (B : Pt), s.WarmedH vm₁ ∧ Stand p l e R s m args below meth c B.U B.locs B.cells B.slots ∧ Post ⟨T.setVm vm₁, locs, cells, slots⟩ argsL.toArray v B ∧
      ∀ target, Steps p.tables e below (B.U.setTop { g with pc := g.pc + 3, stack := v.toList ++ rest }) target → Steps p.tables e below (T.setTop g) target) ∨
    (∃ (q : Addr) (vm₁ : Vm) (B : Pt), s.WarmedH vm₁ ∧ Stand p l e R s m args below meth c B.U B.locs B.cells B.slots ∧ PostX ⟨T.setVm vm₁, locs, cells, slots⟩ argsL.toArray q B ∧
      Steps p.tables e below (T.setTop g) ((B.U.setTop { g with stack := rest }).pushFrame (.throwing q))) := by
  obtain ⟨mk, methM, cM, hnamed, hmethM, -, -, -, -, -, -, hsigM⟩ := Cond.codeWith_spec hcode
  have hstatic : methM.isStatic = true := Cond.static_spec hnamed hmethM hstat
  obtain ⟨kP, hkP, -⟩ := className_of_methodNamed hnamed
  have hinitP : kP.init = .initialized := Cond.initialized_spec (findClass_of_methodNamed hnamed) hkP hinit
  obtain ⟨vm₁, X₁, hstep₁⟩ := X.invokestatic hexec hown hlink hnamed hmethM hstatic hkP hinitP hy (g := g) hg (argsL := argsL) (rest := rest) (hlen _ hsigM) hstack hdg
  rcases hK m meth c ⟨T.setVm vm₁, locs, cells, slots⟩ { g with stack := rest } (.invokestatic index) mk argsL.toArray X₁ hg hsize hdg hW (X₁.named hnamed) (hpre vm₁ X₁.warmed) with ⟨v, B, X', hpost, hsteps⟩ | ⟨q, B, X', hpost, hsteps⟩
  · exact Or.inl ⟨v, vm₁, B, X₁.warmed, X', hpost, fun target h => hstep₁ _ fun acts => by rw [doInvoke_state]; exact hsteps.trans h⟩
  · exact Or.inr ⟨q, vm₁, B, X₁.warmed, X', hpost, hstep₁ _ fun acts => by rw [doInvoke_state]; exact hsteps⟩
theorem vx_callVW (X : Stand p l e R s m args below meth c T locs cells slots) (hexec : p.tables.exec = Jvm.exec) {own C : String} {index : Nat} {y : MethodName} {bytes : ByteArray} {maxL : Nat} {ret : Option FieldType} {hh : List (Nat × Nat × Nat × Nat)}
    (hown : s.vm.findClass own = some m.cls) (hlink : (Cond.methodLink own index y).before args s = true) (hinst : (Cond.instanceMethod y).before args s = true) (hsel : (Cond.selects C y y).before args s = true)
    (hcode : (Cond.codeWith y bytes maxL ret hh).before args s = true) (hy : y.cls ≠ "java/lang/invoke/MethodHandle" ∧ y.cls ≠ "java/lang/invoke/VarHandle")
    {W9 : Nat} {Pre : Pt → Array Value → Prop} {Post : Pt → Array Value → Option Value → Pt → Prop} (hK : Back l R p e below s args y 3 W9 Pre Post)
    {b : Addr} {cellB : Cell} (hcell : T.heap[b]? = some cellB) (hobj : cellB.vm.isStatics = false) (hcls : s.vm.findClass C = some cellB.cls)
    {g : JFrame} (hg : g.method = m) (hsize : g.locals.size = c.maxLocals) {argsL rest : List Value} (hlen : ∀ sig, parseMethodDescriptor y.desc = some sig → argsL.length = sig.parameters.length)
    (hstack : g.stack = argsL.reverse ++ .ref b :: rest) (hW : 2 * g.monitorRoom + (rest.map fun v => v.category).sum ≤ W9) (hdg : decode c.code g.pc = .ok (.invokevirtual index, 3))
    (hpre : ∀ vm₁, s.WarmedH vm₁ → Pre ⟨T.setVm vm₁, locs, cells, slots⟩ (Value.ref b :: argsL).toArray) :
    ∃ (v : Option Value) (vm₁ : Vm) (B : Pt), s.WarmedH vm₁ ∧ Stand p l e R s m args below meth c B.U B.locs B.cells B.slots ∧ Post ⟨T.setVm vm₁, locs, cells, slots⟩ (Value.ref b :: argsL).toArray v B ∧
      ∀ target, Steps p.tables e below (B.U.setTop { g with pc := g.pc + 3, stack := v.toList ++ rest }) target → Steps p.tables e below (T.setTop g) target := by
  obtain ⟨mk, methM, hnamed, hmethM, hstM, habM⟩ := Cond.instanceMethod_spec hinst
  obtain ⟨m8, methM', cM, hn8, hmethM', -, -, -, -, -, -, hsigM⟩ := Cond.codeWith_spec hcode
  cases Option.some.inj (hn8.symm.trans hnamed)
  cases hmethM.symm.trans hmethM'
  obtain ⟨c2, r2, m2, q1, q2, q3, q4, kP, hkP, hkPi⟩ := Cond.selects_spec hsel
  cases hcls.symm.trans q1
  cases (State.methodFound?_of_named hnamed hy).symm.trans q2
  cases hnamed.symm.trans q3
  have hselP : selectMethod e.platform s.vm cellB.cls mk = .method mk := by rw [Launch.admits_selectMethod X.admits]; exact q4
  obtain ⟨vm₁, X₁, hstep₁⟩ := X.invokevirtual hexec hown hlink hnamed hmethM hstM hkP hkPi hy (a := b) (cell := cellB) hcell
    (fun z h => by rw [h] at hobj; cases hobj) hselP hmethM habM hkP hkPi (g := g) hg (argsL := argsL) (rest := rest) (hlen _ hsigM) hstack hdg
  obtain ⟨v, B, X', hpost, hsteps⟩ := hK m meth c ⟨T.setVm vm₁, locs, cells, slots⟩ { g with stack := rest } (.invokevirtual index) mk (Value.ref b :: argsL).toArray X₁ hg hsize hdg hW (X₁.named hnamed) (hpre vm₁ X₁.warmed)
  exact ⟨v, vm₁, B, X₁.warmed, X', hpost, fun target h => hstep₁ _ fun acts => by rw [doInvoke_state]; exact hsteps.trans h⟩
abbrev vx_CVW (R : Room) (s : State) (args : Array Value) (own C : String) (index : Nat) (y : MethodName) (bytes : ByteArray) (maxL : Nat) (ret : Option FieldType) (hh : List (Nat × Nat × Nat × Nat)) (ws : List Cond) (rm : Room) (mc ms n : Nat) : Prop :=
  (rm.cells = mc ∧ rm.slots = ms ∧ rm.frames + 1 ≤ R.frames ∧ 8 + (maxL + 11) + rm.locals ≤ R.locals ∧ (∀ w ∈ ws, ∀ (a' : Array Value) (U : State), s.WarmedH U.vm → w.before a' U = true) ∧ Cond.codeWith y bytes maxL ret hh ∈ ws) ∧
  (Cond.codeWith y bytes maxL ret hh).before args s = true ∧ (Cond.initialized y.cls).before args s = true ∧ (y.cls ≠ "java/lang/invoke/MethodHandle" ∧ y.cls ≠ "java/lang/invoke/VarHandle") ∧
  (∀ sig, parseMethodDescriptor y.desc = some sig → n = sig.parameters.length) ∧ (Cond.methodLink own index y).before args s = true ∧ (Cond.instanceMethod y).before args s = true ∧ (Cond.selects C y y).before args s = true
theorem vx_cwVW {own C : String} {index maxL mc ms : Nat} {y : MethodName} {bytes : ByteArray} {ret : Option FieldType} {hh : List (Nat × Nat × Nat × Nat)} {Ts ws ws' : List Cond} {rm : Room} (n : Nat) (ht : ∀ w ∈ Ts, w.before args s = true) (hT : GoodIn Ts (wsV own index C y ws)) (hw : ws = Cond.codeWith y bytes maxL ret hh :: ws') (hrc : rm.cells = mc) (hrs : rm.slots = ms)
    (hd : y.cls = C ∧ y.cls ≠ "java/lang/invoke/MethodHandle" ∧ y.cls ≠ "java/lang/invoke/VarHandle" ∧ (parseMethodDescriptor y.desc).map (fun d => d.parameters.length) = some n) (hR : rm.frames + 1 ≤ R.frames ∧ 8 + (maxL + 11) + rm.locals ≤ R.locals) :
    vx_CVW R s args own C index y bytes maxL ret hh ws rm mc ms n := by
  obtain ⟨hC, hd⟩ := hd
  subst hC
  have ok : ∀ w ∈ wsV own index y.cls y ws, w.before args s = true := fun w h => ht w (hT w h).1
  have hG : GoodIn Ts ws := fun w h => hT w (by unfold wsV; exact List.mem_append_right _ h)
  have hc : Cond.codeWith y bytes maxL ret hh ∈ ws := by rw [hw]; exact List.mem_cons_self
  refine ⟨⟨hrc, hrs, hR.1, hR.2, pay_in ht hG, hc⟩, ht _ (hG _ hc).1, ok _ (by simp [wsV]), ⟨hd.1, hd.2.1⟩, fun sig h => ?_, ok _ (by simp [wsV]), ok _ (by simp [wsV]), ok _ (by simp [wsV])⟩
  have h2 := hd.2.2
  rw [h] at h2
  exact (Option.some.inj h2).symm
theorem vx_runVW {y : MethodName} {bytes cc : ByteArray} {maxL nL mc ms n index : Nat} {ret : Option FieldType} {hh : List (Nat × Nat × Nat × Nat)} {ws : List Cond} {rm : Room} {Pc : Array Value → State → Prop} {Qc : Array Value → State → Outcome → State → Prop} {free : Addr → Prop} {Ts : List Cond} {own C : String} {b : Addr} {As rest : List Value} {g : JFrame}
    (S : CallFix p m c cc nL s args Ts own) (hM : Met l y ws rm Pc Qc mc ms free) (cw : vx_CVW R s args own C index y bytes maxL ret hh ws rm mc ms n) (hp : PreV s H C b Pc As)
    (hg : g.method = m) (hn : As.length = n) (hsize : g.locals.size = nL) (hstack : g.stack = As.reverse ++ .ref b :: rest) (hW : 2 * g.monitorRoom + (rest.map fun v => v.category).sum ≤ 8) (hdg : decode cc g.pc = .ok (.invokevirtual index, 3)) (hf : cells + mc ≤ R.cells ∧ slots + ms ≤ R.slots) :
    va_Run p l e R s m args below meth c H locs cells slots mc ms g rest (Qc (Value.ref b :: As).toArray) free := by
  obtain ⟨⟨hrc, hrs, hfr, hlo, hws, hcw⟩, hcode, hini, hy, hlen, hl, hin, hse⟩ := cw
  have hK : Back l R p e below s args y 3 8 (PreOf R mc ms Pc) (PostOf Qc mc ms free) := va_backW (hh := hh) (bytes := bytes) (maxL := maxL) (ret := ret) hM hp.1 hrc hrs hfr hlo hws hcw (fun a' U hW => word_at hW (Or.inl (by first | rfl | simp [Cond.onTables, Cond.keeps, Cond.steady])) hini)
  obtain ⟨hx, hb, hml, ho, -⟩ := S
  obtain ⟨-, ⟨cellB, hcB, hoB, hclB⟩, hPc⟩ := hp
  intro T hT X
  obtain ⟨v, vm₁, ⟨U', l2, c2, s2⟩, hW₁, X', ⟨g', mk, t, L, e1, e2, hq, h1, hL, h2, h3⟩, st⟩ := vx_callVW X hx (C := C) (hh := hh) (bytes := bytes) (maxL := maxL) (ret := ret) ho hl hin hse hcode hy hK (by rw [hT]; exact hcB) hoB hclB hg (hsize.trans hml.symm) (argsL := As) (rest := rest) (fun sig h => hn.trans (hlen sig h)) hstack hW (by rw [hb]; exact hdg)
    (fun vm₁ hW₁ => ⟨hf.1, hf.2, hPc (T.setVm vm₁) hT hW₁⟩)
  dsimp only [Pt.U, Pt.locs, Pt.cells, Pt.slots] at X' e1 e2 h1 h2 h3 st
  subst h1; subst h2; subst h3
  exact ⟨v, (T.setVm vm₁).calling g' mk (Value.ref b :: As).toArray, t, U', L, hT, X', hL, e1, e2, hq, st⟩
section
variable {y : MethodName} {bytes cc : ByteArray} {maxL nL mc ms n index : Nat} {ret : Option FieldType} {ws : List Cond} {rm : Room} {Pc : Array Value → State → Prop} {Qc : Array Value → State → Outcome → State → Prop} {XC : String → State → State → Prop} {free : Addr → Prop} {Ts : List Cond} {own C : String} {b : Addr} {As rest : List Value} {g : JFrame}
theorem vx_runVX {hh : List (Nat × Nat × Nat × Nat)} (S : CallFix p m c cc nL s args Ts own) (hM : vx_Met l y ws rm Pc Qc XC mc ms free) (cw : vx_CVW R s args own C index y bytes maxL ret hh ws rm mc ms n) (hp : PreV s H C b Pc As)
    (hg : g.method = m) (hn : As.length = n) (hsize : g.locals.size = nL) (hstack : g.stack = As.reverse ++ .ref b :: rest) (hW : 2 * g.monitorRoom + (rest.map fun v => v.category).sum ≤ 8) (hdg : decode cc g.pc = .ok (.invokevirtual index, 3)) (hf : cells + mc ≤ R.cells ∧ slots + ms ≤ R.slots) :
    vx_Run p l e R s m args below meth c H locs cells slots mc ms g rest (Qc (Value.ref b :: As).toArray) XC free := by
  obtain ⟨⟨hrc, hrs, hfr, hlo, hws, hcw⟩, hcode, hini, hy, hlen, hl, hin, hse⟩ := cw
  have hK : vx_Back l R p e below s args y 3 8 (PreOf R mc ms Pc) (PostOf Qc mc ms free) (vx_Post XC mc ms free) := vx_backW (hh := hh) (bytes := bytes) (maxL := maxL) (ret := ret) hM hp.1 hrc hrs hfr hlo hws hcw (fun a' U hW => word_at hW (Or.inl (by first | rfl | simp [Cond.onTables, Cond.keeps, Cond.steady])) hini)
  obtain ⟨hx, hb, hml, ho, -⟩ := S
  obtain ⟨-, ⟨cellB, hcB, hoB, hclB⟩, hPc⟩ := hp
  intro T hT X
  rcases vx_callVX X hx (C := C) (hh := hh) (bytes := bytes) (maxL := maxL) (ret := ret) ho hl hin hse hcode hy hK (by rw [hT]; exact hcB) hoB hclB hg (hsize.trans hml.symm) (argsL := As) (rest := rest) (fun sig h => hn.trans (hlen sig h)) hstack hW (by rw [hb]; exact hdg)
    (fun vm₁ hW₁ => ⟨hf.1, hf.2, hPc (T.setVm vm₁) hT hW₁⟩) with ⟨v, vm₁, ⟨U', l2, c2, s2⟩, hW₁, X', ⟨g', mk, t, L, e1, e2, hq, h1, hL, h2, h3⟩, st⟩ | ⟨q, vm₁, ⟨U', l2, c2, s2⟩, hW₁, X', ⟨g', mk, t, L, E, ce, e1, e2, hq, hce, hcv, hcl, h1, hL, h2, h3⟩, st⟩
  · dsimp only [Pt.U, Pt.locs, Pt.cells, Pt.slots] at X' e1 e2 h1 h2 h3 st
    subst h1; subst h2; subst h3
    exact Or.inl ⟨v, (T.setVm vm₁).calling g' mk (Value.ref b :: As).toArray, t, U', L, hT, X', hL, e1, e2, hq, st⟩
  · dsimp only [Pt.U, Pt.locs, Pt.cells, Pt.slots] at X' e1 e2 h1 h2 h3 st hcl
    subst h1; subst h2; subst h3
    exact Or.inr ⟨q, (T.setVm vm₁).calling g' mk (Value.ref b :: As).toArray, t, U', L, E, ce, hT, X', hL, e1, e2, hq, hce, hcv, vx_cls hW₁ hcl, st⟩
theorem vx_runSX {hh : List (Nat × Nat × Nat × Nat)} (S : CallFix p m c cc nL s args Ts own) (hM : vx_Met l y ws rm Pc Qc XC mc ms free) (cw : vx_CSW R s args own index y bytes maxL ret hh ws rm mc ms n) (hp : PreS s H Pc As)
    (hg : g.method = m) (hn : As.length = n) (hsize : g.locals.size = nL) (hstack : g.stack = As.reverse ++ rest) (hW : 2 * g.monitorRoom + (rest.map fun v => v.category).sum ≤ 8) (hdg : decode cc g.pc = .ok (.invokestatic index, 3)) (hf : cells + mc ≤ R.cells ∧ slots + ms ≤ R.slots) :
    vx_Run p l e R s m args below meth c H locs cells slots mc ms g rest (Qc As.toArray) XC free := by
  obtain ⟨⟨hrc, hrs, hfr, hlo, hws, hcw⟩, hcode, hini, hy, hlen, hl, hstt⟩ := cw
  have hK : vx_Back l R p e below s args y 3 8 (PreOf R mc ms Pc) (PostOf Qc mc ms free) (vx_Post XC mc ms free) := vx_backW (hh := hh) (bytes := bytes) (maxL := maxL) (ret := ret) hM hp.1 hrc hrs hfr hlo hws hcw (fun a' U hW => word_at hW (Or.inl (by first | rfl | simp [Cond.onTables, Cond.keeps, Cond.steady])) hini)
  obtain ⟨hx, hb, hml, ho, -⟩ := S
  intro T hT X
  rcases vx_callSX X hx (hh := hh) (bytes := bytes) (maxL := maxL) (ret := ret) ho hl hstt hini hcode hy hK hg (hsize.trans hml.symm) (argsL := As) (rest := rest) (fun sig h => hn.trans (hlen sig h)) hstack hW (by rw [hb]; exact hdg)
    (fun vm₁ hW₁ => ⟨hf.1, hf.2, hp.2 (T.setVm vm₁) hT hW₁⟩) with ⟨v, vm₁, ⟨U', l2, c2, s2⟩, hW₁, X', ⟨g', mk, t, L, e1, e2, hq, h1, hL, h2, h3⟩, st⟩ | ⟨q, vm₁, ⟨U', l2, c2, s2⟩, hW₁, X', ⟨g', mk, t, L, E, ce, e1, e2, hq, hce, hcv, hcl, h1, hL, h2, h3⟩, st⟩
  · dsimp only [Pt.U, Pt.locs, Pt.cells, Pt.slots] at X' e1 e2 h1 h2 h3 st
    subst h1; subst h2; subst h3
    exact Or.inl ⟨v, (T.setVm vm₁).calling g' mk As.toArray, t, U', L, hT, X', hL, e1, e2, hq, st⟩
  · dsimp only [Pt.U, Pt.locs, Pt.cells, Pt.slots] at X' e1 e2 h1 h2 h3 st hcl
    subst h1; subst h2; subst h3
    exact Or.inr ⟨q, (T.setVm vm₁).calling g' mk As.toArray, t, U', L, E, ce, hT, X', hL, e1, e2, hq, hce, hcv, vx_cls hW₁ hcl, st⟩
end
end VXH
theorem vx_ofWH {l : Launch} {y : MethodName} {ws ws' : List Cond} {rm : Room} {Pc : Array Value → State → Prop} {Qc : Array Value → State → Outcome → State → Prop} {XC : String → State → State → Prop} {mc ms : Nat} {free : Addr → Prop} {cc : ByteArray} {maxL : Nat} {ret : Option FieldType} {hh : List (Nat × Nat × Nat × Nat)}
    (hy : plainName y.cls = true) (hw : ws = Cond.codeWith y cc maxL ret hh :: ws')
    (body : ∀ p e s m args below meth c s₁, BodyLoose p l y (headSpec ws rm) cc maxL ret e s m args below meth c s₁ → c.maxLocals = maxL → Pc args s →
      W p l e (headSpec ws rm).room s m args below meth c s.heap [] 0 0 (vx_MQ below Qc XC args s mc ms free) (entryFrame m args maxL)) : vx_Met l y ws rm Pc Qc XC mc ms free := by
  refine MetFree.of_bodyS (code := cc) (maxLocals := maxL) (ret := ret) hy ?_ ?_
  · intro args s m h hn
    obtain ⟨m9, meth, c, hn9, h1, h2, h3, h4, -, h5, h6, -⟩ := Cond.codeWith_spec (atoms_spec (ws := ws) h _ (by rw [hw]; exact List.mem_cons_self))
    cases hn.symm.trans hn9
    exact ⟨meth, c, h1, h2, h3, h4, h5, h6⟩
  · intro p e s m args below meth c s₁ B hml hP _
    have hh0 : s₁.heap = s.heap := by rw [B.state]; rfl
    obtain ⟨t, a1, o, b1, b2, b3⟩ := body p e s m args below meth c s₁ B hml hP s₁ hh0 (Stand.of_body B)
    exact ⟨t, o, a1, b1, b2, b3⟩
/-! ===== END ===== -/
end
section
/-! tables: kinds of objects, methods, links, each with its place among the words -/
def xT0 : u_T := fun k => match k with
  | 0 => ("LoanTerms", "pad", "LLoanTerms$Row;", true)
  | 1 => ("LoanTerms", "letterRow", "LLoanTerms$Row;", true)
  | 2 => ("LoanTerms", "contracts", "[LLoanTerms$Contract;", true)
  | 3 => ("LoanTerms", "inputs", "[LLoanTerms$Input;", true)
  | 4 => ("LoanTerms", "loans", "[LLoanTerms$Loan;", true)
  | 5 => ("LoanTerms", "requests", "[LLoanTerms$Span;", true)
  | 6 => ("LoanTerms", "contractCount", "I", false)
  | 7 => ("LoanTerms", "loanCount", "I", false)
  | _ => ("LoanTerms", "requestCount", "I", false)
def xty0 : Nat → FieldType := fun k => match k with
  | 0 => (.object "LoanTerms$Row")
  | 1 => (.object "LoanTerms$Row")
  | 2 => (.array (.object "LoanTerms$Contract"))
  | 3 => (.array (.object "LoanTerms$Input"))
  | 4 => (.array (.object "LoanTerms$Loan"))
  | 5 => (.array (.object "LoanTerms$Span"))
  | 6 => .int
  | 7 => .int
  | _ => .int
def xT1 : u_T := fun k => match k with
  | 0 => ("LoanTerms$Contract", "roots", "[LLoanTerms$Node;", true)
  | 1 => ("LoanTerms$Contract", "text", "LLoanTerms$Row;", true)
  | _ => ("LoanTerms$Contract", "size", "I", false)
def xty1 : Nat → FieldType := fun k => match k with
  | 0 => (.array (.object "LoanTerms$Node"))
  | 1 => (.object "LoanTerms$Row")
  | _ => .int
def xT2 : u_T := fun k => match k with
  | 0 => ("LoanTerms$Input", "hours", "[I", true)
  | 1 => ("LoanTerms$Input", "values", "[I", true)
  | 2 => ("LoanTerms$Input", "size", "I", false)
  | 3 => ("LoanTerms$Input", "failsFrom", "I", false)
  | _ => ("LoanTerms$Input", "failsTo", "I", false)
def xty2 : Nat → FieldType := fun k => match k with
  | 0 => (.array .int)
  | 1 => (.array .int)
  | 2 => .int
  | 3 => .int
  | _ => .int
def xT3 : u_T := fun k => match k with
  | 0 => ("LoanTerms$Loan", "contract", "LLoanTerms$Contract;", true)
  | 1 => ("LoanTerms$Loan", "toldHours", "[I", true)
  | 2 => ("LoanTerms$Loan", "toldTerms", "[I", true)
  | 3 => ("LoanTerms$Loan", "standing", "[Z", true)
  | 4 => ("LoanTerms$Loan", "span", "LLoanTerms$Span;", false)
  | 5 => ("LoanTerms$Loan", "shielded", "Z", false)
  | _ => ("LoanTerms$Loan", "toldSize", "I", false)
def xty3 : Nat → FieldType := fun k => match k with
  | 0 => (.object "LoanTerms$Contract")
  | 1 => (.array .int)
  | 2 => (.array .int)
  | 3 => (.array .boolean)
  | 4 => (.object "LoanTerms$Span")
  | 5 => .boolean
  | _ => .int
def xT4 : u_T := fun k => match k with
  | 0 => ("LoanTerms$Node", "kind", "I", true)
  | 1 => ("LoanTerms$Node", "name", "I", true)
  | 2 => ("LoanTerms$Node", "number", "I", true)
  | 3 => ("LoanTerms$Node", "inner", "LLoanTerms$Node;", true)
  | _ => ("LoanTerms$Node", "next", "LLoanTerms$Node;", false)
def xty4 : Nat → FieldType := fun k => match k with
  | 0 => .int
  | 1 => .int
  | 2 => .int
  | 3 => (.object "LoanTerms$Node")
  | _ => (.object "LoanTerms$Node")
def xT5 : u_T := fun k => match k with
  | 0 => ("LoanTerms$Reader", "row", "LLoanTerms$Row;", true)
  | _ => ("LoanTerms$Reader", "place", "I", false)
def xty5 : Nat → FieldType := fun k => match k with
  | 0 => (.object "LoanTerms$Row")
  | _ => .int
def xT6 : u_T := fun k => match k with
  | 0 => ("LoanTerms$Row", "signs", "[I", true)
  | _ => ("LoanTerms$Row", "size", "I", false)
def xty6 : Nat → FieldType := fun k => match k with
  | 0 => (.array .int)
  | _ => .int
def xT7 : u_T := fun k => match k with
  | 0 => ("LoanTerms$Span", "thing", "I", true)
  | 1 => ("LoanTerms$Span", "first", "I", true)
  | _ => ("LoanTerms$Span", "last", "I", true)
def xty7 : Nat → FieldType := fun k => match k with
  | 0 => .int
  | 1 => .int
  | _ => .int
def xT8 : u_T := fun k => match k with
  | 0 => ("LoanTermsModel", "thrown", "I", false)
  | 1 => ("LoanTermsModel", "padded", "I", false)
  | 2 => ("LoanTermsModel", "pad", "[I", true)
  | 3 => ("LoanTermsModel", "contracts", "I", false)
  | 4 => ("LoanTermsModel", "many", "[I", true)
  | 5 => ("LoanTermsModel", "roots", "[I", true)
  | 6 => ("LoanTermsModel", "nodes", "[I", true)
  | 7 => ("LoanTermsModel", "kinds", "[I", true)
  | 8 => ("LoanTermsModel", "above", "[I", true)
  | 9 => ("LoanTermsModel", "turns", "[I", true)
  | 10 => ("LoanTermsModel", "names", "[I", true)
  | 11 => ("LoanTermsModel", "signs", "[I", true)
  | 12 => ("LoanTermsModel", "numbers", "[I", true)
  | 13 => ("LoanTermsModel", "truths", "[I", true)
  | 14 => ("LoanTermsModel", "pile", "[I", true)
  | 15 => ("LoanTermsModel", "top", "I", false)
  | 16 => ("LoanTermsModel", "written", "[I", true)
  | 17 => ("LoanTermsModel", "length", "I", false)
  | 18 => ("LoanTermsModel", "rows", "[I", true)
  | 19 => ("LoanTermsModel", "rowHours", "[I", true)
  | 20 => ("LoanTermsModel", "rowValues", "[I", true)
  | 21 => ("LoanTermsModel", "failFroms", "[I", true)
  | 22 => ("LoanTermsModel", "failTos", "[I", true)
  | 23 => ("LoanTermsModel", "loans", "I", false)
  | 24 => ("LoanTermsModel", "contractOf", "[I", true)
  | 25 => ("LoanTermsModel", "thingOf", "[I", true)
  | 26 => ("LoanTermsModel", "firstDays", "[I", true)
  | 27 => ("LoanTermsModel", "lastDays", "[I", true)
  | 28 => ("LoanTermsModel", "shields", "[Z", true)
  | 29 => ("LoanTermsModel", "bad", "[Z", true)
  | 30 => ("LoanTermsModel", "tolds", "[I", true)
  | 31 => ("LoanTermsModel", "toldHours", "[I", true)
  | 32 => ("LoanTermsModel", "toldTerms", "[I", true)
  | 33 => ("LoanTermsModel", "requests", "I", false)
  | 34 => ("LoanTermsModel", "requestThings", "[I", true)
  | 35 => ("LoanTermsModel", "requestFroms", "[I", true)
  | _ => ("LoanTermsModel", "requestTos", "[I", true)
def xty8 : Nat → FieldType := fun k => match k with
  | 0 => .int
  | 1 => .int
  | 2 => (.array .int)
  | 3 => .int
  | 4 => (.array .int)
  | 5 => (.array .int)
  | 6 => (.array .int)
  | 7 => (.array .int)
  | 8 => (.array .int)
  | 9 => (.array .int)
  | 10 => (.array .int)
  | 11 => (.array .int)
  | 12 => (.array .int)
  | 13 => (.array .int)
  | 14 => (.array .int)
  | 15 => .int
  | 16 => (.array .int)
  | 17 => .int
  | 18 => (.array .int)
  | 19 => (.array .int)
  | 20 => (.array .int)
  | 21 => (.array .int)
  | 22 => (.array .int)
  | 23 => .int
  | 24 => (.array .int)
  | 25 => (.array .int)
  | 26 => (.array .int)
  | 27 => (.array .int)
  | 28 => (.array .boolean)
  | 29 => (.array .boolean)
  | 30 => (.array .int)
  | 31 => (.array .int)
  | 32 => (.array .int)
  | 33 => .int
  | 34 => (.array .int)
  | 35 => (.array .int)
  | _ => (.array .int)
abbrev vwCl : List vw_C := [("LoanTerms", xT0, 9), ("LoanTerms$Contract", xT1, 3), ("LoanTerms$Input", xT2, 5), ("LoanTerms$Loan", xT3, 7), ("LoanTerms$Node", xT4, 5), ("LoanTerms$Reader", xT5, 2), ("LoanTerms$Row", xT6, 2), ("LoanTerms$Span", xT7, 3), ("LoanTermsModel", xT8, 37)]
def xCn (o : Nat) : String := ((vwCl[o]?).map fun r => r.1).getD ""
def xft (c : Nat) : Nat → FieldType := match c with
  | 0 => xty0
  | 1 => xty1
  | 2 => xty2
  | 3 => xty3
  | 4 => xty4
  | 5 => xty5
  | 6 => xty6
  | 7 => xty7
  | _ => xty8
def xdf (c : Nat) : List Value := match c with
  | 0 => [.null, .null, .null, .null, .null, .null, .int 0, .int 0, .int 0]
  | 1 => [.null, .null, .int 0]
  | 2 => [.null, .null, .int 0, .int 0, .int 0]
  | 3 => [.null, .null, .null, .null, .null, .int 0, .int 0]
  | 4 => [.int 0, .int 0, .int 0, .null, .null]
  | 5 => [.null, .int 0]
  | 6 => [.null, .int 0]
  | 7 => [.int 0, .int 0, .int 0]
  | _ => [.int 0, .int 0, .null, .int 0, .null, .null, .null, .null, .null, .null, .null, .null, .null, .null, .null, .int 0, .null, .int 0, .null, .null, .null, .null, .null, .int 0, .null, .null, .null, .null, .null, .null, .null, .null, .null, .int 0, .null, .null, .null]
def xfin (c k : Nat) : Bool := match vwCl[c]? with
  | some r => (r.2.1 k).2.2.2
  | none => true
def xfitb (c k : Nat) (v : Value) : Bool := decide (narrow (xft c k) v = v) && fits (xft c k) v
theorem x_fit {c k : Nat} {v : Value} (h : xfitb c k v = true) : narrow (xft c k) v = v ∧ fits (xft c k) v = true := by
  unfold xfitb at h
  rw [Bool.and_eq_true] at h
  exact ⟨of_decide_eq_true h.1, h.2⟩
def xty : List FieldType := [.int, .boolean, .object "LoanTerms$Contract", .object "LoanTerms$Input", .object "LoanTerms$Loan", .object "LoanTerms$Span", .object "LoanTerms$Node", .long]
def xtyo (t : Nat) : Option Nat := match t with
  | 2 => some 1
  | 3 => some 2
  | 4 => some 3
  | 5 => some 7
  | 6 => some 4
  | _ => none
def xtys (dT : Nat → ClassId) : List (ClassId × FieldType) := [(dT 0, .int), (dT 1, .boolean), (dT 2, .object "LoanTerms$Contract"), (dT 3, .object "LoanTerms$Input"), (dT 4, .object "LoanTerms$Loan"), (dT 5, .object "LoanTerms$Span"), (dT 6, .object "LoanTerms$Node"), (dT 7, .long)]
theorem xtys_at (dT : Nat → ClassId) {t : Nat} {ty : FieldType} (h : xty[t]? = some ty) : (xtys dT)[t]? = some (dT t, ty) := by
  match t, h with
  | 0, h => cases h; rfl
  | 1, h => cases h; rfl
  | 2, h => cases h; rfl
  | 3, h => cases h; rfl
  | 4, h => cases h; rfl
  | 5, h => cases h; rfl
  | 6, h => cases h; rfl
  | 7, h => cases h; rfl
  | t + 8, h => simp [xty] at h
theorem x_ty_int : xty[0]? = some .int := rfl
theorem x_ty_bool : xty[1]? = some .boolean := rfl
theorem x_tyo_ok {t c : Nat} (h : xtyo t = some c) : ∃ r : vw_C, vwCl[c]? = some r ∧ xty[t]? = some (.object r.1) := by
  unfold xtyo at h
  split at h
  · cases h; exact ⟨_, rfl, rfl⟩
  · cases h; exact ⟨_, rfl, rfl⟩
  · cases h; exact ⟨_, rfl, rfl⟩
  · cases h; exact ⟨_, rfl, rfl⟩
  · cases h; exact ⟨_, rfl, rfl⟩
  · cases h
def xTB : List Jvm.Cond := lw_tbl.filter goodWord
def xk (w : Jvm.Cond) : Bool := match w with
  | .methodLinkNest .. => true
  | .castable .. => true
  | .declares .. => true
  | _ => false
def xTB2 : List Jvm.Cond := lw_tbl.filter xk
theorem x_good : GoodIn xTB xTB := fun w hw => ⟨hw, good_of_word (List.mem_filter.mp hw).2⟩
theorem x_gin0 : GoodIn lw_tbl xTB := fun w hw => ⟨(List.mem_filter.mp hw).1, good_of_word (List.mem_filter.mp hw).2⟩
/-- a word at its place -/
def x_at (i : Nat) (w : Jvm.Cond) : Bool := decide (lw_tbl[i]? = some w)
theorem x_at_in {i : Nat} {w : Jvm.Cond} (h : x_at i w = true) (hg : goodWord w = true) : w ∈ xTB := List.mem_filter.mpr ⟨List.mem_of_getElem? (of_decide_eq_true h), hg⟩
theorem x_at_in2 {i : Nat} {w : Jvm.Cond} (h : x_at i w = true) (hg : xk w = true) : w ∈ xTB2 := List.mem_filter.mpr ⟨List.mem_of_getElem? (of_decide_eq_true h), hg⟩
theorem x_lay0 : u_ws "LoanTerms" xT0 9 = [120, 122, 124, 126, 128, 130, 132, 134, 136].filterMap (fun i => lw_tbl[i]?) := by decide +kernel
theorem x_lay1 : u_ws "LoanTerms$Contract" xT1 3 = [278, 280, 282].filterMap (fun i => lw_tbl[i]?) := by decide +kernel
theorem x_lay2 : u_ws "LoanTerms$Input" xT2 5 = [100, 102, 104, 106, 108].filterMap (fun i => lw_tbl[i]?) := by decide +kernel
theorem x_lay3 : u_ws "LoanTerms$Loan" xT3 7 = [518, 520, 522, 524, 526, 528, 530].filterMap (fun i => lw_tbl[i]?) := by decide +kernel
theorem x_lay4 : u_ws "LoanTerms$Node" xT4 5 = [326, 328, 330, 332, 334].filterMap (fun i => lw_tbl[i]?) := by decide +kernel
theorem x_lay5 : u_ws "LoanTerms$Reader" xT5 2 = [253, 255].filterMap (fun i => lw_tbl[i]?) := by decide +kernel
theorem x_lay6 : u_ws "LoanTerms$Row" xT6 2 = [73, 75].filterMap (fun i => lw_tbl[i]?) := by decide +kernel
theorem x_lay7 : u_ws "LoanTerms$Span" xT7 3 = [481, 483, 485].filterMap (fun i => lw_tbl[i]?) := by decide +kernel
theorem x_lay8 : u_ws "LoanTermsModel" xT8 37 = [723, 725, 727, 729, 731, 733, 735, 737, 739, 741, 743, 745, 747, 749, 751, 753, 755, 757, 759, 761, 763, 765, 767, 769, 771, 773, 775, 777, 779, 781, 783, 785, 787, 789, 791, 793, 795].filterMap (fun i => lw_tbl[i]?) := by decide +kernel
theorem x_layin {C : String} {T : u_T} {N : Nat} {ps : List Nat} (h : u_ws C T N = ps.filterMap (fun i => lw_tbl[i]?)) : ∀ w ∈ u_ws C T N, w ∈ xTB := by
  intro w hw
  refine List.mem_filter.mpr ⟨?_, ?_⟩
  · rw [h] at hw
    obtain ⟨i, -, hi⟩ := List.mem_filterMap.mp hw
    exact List.mem_of_getElem? hi
  · obtain ⟨k, -, rfl⟩ := List.mem_map.mp hw
    unfold u_lay
    split <;> rfl
/-- what holds of each kind of objects -/
def xKd (c : Nat) (C : String) (T : u_T) (N : Nat) : Prop := (∀ w ∈ u_ws C T N, w ∈ xTB) ∧ (∀ j, j < N → parseFieldDescriptor (T j).2.2.1 = some (xft c j)) ∧ (∀ a, a < N → ∀ b, b < N → a ≠ b → (T a).2.1 ≠ (T b).2.1) ∧ (∀ j, j < N → defaultValue (xft c j) = vp_V (xdf c) j) ∧ (xdf c).length = N ∧ (∀ j, j < N → (T j).1 = C) ∧ Jvm.Cond.instantiable C N ∈ xTB ∧ Jvm.Cond.initialized C ∈ xTB
theorem x_kd0 : xKd 0 "LoanTerms" xT0 9 := ⟨x_layin x_lay0, by decide +kernel, by decide +kernel, by decide +kernel, by decide +kernel, by decide +kernel, x_at_in (i := 56) (by decide +kernel) rfl, x_at_in (i := 40) (by decide +kernel) rfl⟩
theorem x_kd1 : xKd 1 "LoanTerms$Contract" xT1 3 := ⟨x_layin x_lay1, by decide +kernel, by decide +kernel, by decide +kernel, by decide +kernel, by decide +kernel, x_at_in (i := 263) (by decide +kernel) rfl, x_at_in (i := 50) (by decide +kernel) rfl⟩
theorem x_kd2 : xKd 2 "LoanTerms$Input" xT2 5 := ⟨x_layin x_lay2, by decide +kernel, by decide +kernel, by decide +kernel, by decide +kernel, by decide +kernel, x_at_in (i := 87) (by decide +kernel) rfl, x_at_in (i := 42) (by decide +kernel) rfl⟩
theorem x_kd3 : xKd 3 "LoanTerms$Loan" xT3 7 := ⟨x_layin x_lay3, by decide +kernel, by decide +kernel, by decide +kernel, by decide +kernel, by decide +kernel, x_at_in (i := 500) (by decide +kernel) rfl, x_at_in (i := 54) (by decide +kernel) rfl⟩
theorem x_kd4 : xKd 4 "LoanTerms$Node" xT4 5 := ⟨x_layin x_lay4, by decide +kernel, by decide +kernel, by decide +kernel, by decide +kernel, by decide +kernel, x_at_in (i := 306) (by decide +kernel) rfl, x_at_in (i := 51) (by decide +kernel) rfl⟩
theorem x_kd5 : xKd 5 "LoanTerms$Reader" xT5 2 := ⟨x_layin x_lay5, by decide +kernel, by decide +kernel, by decide +kernel, by decide +kernel, by decide +kernel, x_at_in (i := 245) (by decide +kernel) rfl, x_at_in (i := 49) (by decide +kernel) rfl⟩
theorem x_kd6 : xKd 6 "LoanTerms$Row" xT6 2 := ⟨x_layin x_lay6, by decide +kernel, by decide +kernel, by decide +kernel, by decide +kernel, by decide +kernel, x_at_in (i := 64) (by decide +kernel) rfl, x_at_in (i := 41) (by decide +kernel) rfl⟩
theorem x_kd7 : xKd 7 "LoanTerms$Span" xT7 3 := ⟨x_layin x_lay7, by decide +kernel, by decide +kernel, by decide +kernel, by decide +kernel, by decide +kernel, x_at_in (i := 470) (by decide +kernel) rfl, x_at_in (i := 53) (by decide +kernel) rfl⟩
theorem x_kd8 : xKd 8 "LoanTermsModel" xT8 37 := ⟨x_layin x_lay8, by decide +kernel, by decide +kernel, by decide +kernel, by decide +kernel, by decide +kernel, x_at_in (i := 681) (by decide +kernel) rfl, x_at_in (i := 43) (by decide +kernel) rfl⟩
theorem x_kd {c : Nat} {C : String} {T : u_T} {N : Nat} (h : vwCl[c]? = some (C, T, N)) : xKd c C T N := by
  match c, h with
  | 0, h => cases h; exact x_kd0
  | 1, h => cases h; exact x_kd1
  | 2, h => cases h; exact x_kd2
  | 3, h => cases h; exact x_kd3
  | 4, h => cases h; exact x_kd4
  | 5, h => cases h; exact x_kd5
  | 6, h => cases h; exact x_kd6
  | 7, h => cases h; exact x_kd7
  | 8, h => cases h; exact x_kd8
  | c + 9, h => simp [vwCl] at h
theorem x_cn {c : Nat} {r : vw_C} (h : vwCl[c]? = some r) : xCn c = r.1 := by unfold xCn; rw [h]; rfl
/-- links of fields: owner, entry, kind, field, place -/
def x_flT : List (Nat × Nat × Nat × Nat × Nat) := [(0, 10, 0, 0, 111), (0, 16, 0, 1, 112), (0, 21, 0, 2, 113), (0, 27, 0, 3, 114), (0, 33, 0, 4, 115), (0, 39, 0, 5, 116), (0, 43, 0, 6, 117), (0, 47, 0, 7, 118), (0, 50, 0, 8, 119), (0, 54, 6, 1, 71), (0, 87, 5, 1, 252), (0, 94, 1, 2, 276), (0, 95, 1, 1, 274), (0, 106, 2, 2, 95), (0, 125, 2, 3, 97), (0, 128, 2, 4, 99), (0, 153, 3, 5, 515), (0, 160, 3, 4, 513), (0, 167, 3, 0, 506), (0, 190, 3, 6, 517), (0, 195, 3, 1, 508), (0, 199, 3, 2, 510), (0, 207, 7, 2, 480), (0, 210, 7, 0, 476), (0, 213, 7, 1, 478), (0, 261, 4, 0, 313), (0, 266, 4, 3, 321), (0, 280, 4, 4, 325), (0, 283, 4, 1, 316), (1, 11, 1, 0, 272), (1, 20, 1, 1, 273), (1, 24, 1, 2, 275), (1, 36, 4, 0, 312), (1, 39, 4, 3, 320), (1, 46, 4, 1, 315), (1, 49, 4, 2, 318), (1, 55, 4, 4, 324), (2, 9, 2, 0, 92), (2, 15, 2, 1, 93), (2, 18, 2, 2, 94), (2, 22, 2, 3, 96), (2, 25, 2, 4, 98), (3, 9, 3, 1, 507), (3, 15, 3, 2, 509), (3, 18, 3, 3, 511), (3, 22, 3, 5, 514), (3, 26, 3, 6, 516), (3, 30, 3, 0, 505), (3, 34, 3, 4, 512), (3, 44, 1, 2, 277), (4, 9, 4, 4, 322), (4, 15, 4, 0, 311), (4, 19, 4, 1, 314), (4, 22, 4, 2, 317), (4, 25, 4, 3, 319), (5, 9, 5, 1, 251), (5, 15, 5, 0, 250), (5, 30, 6, 1, 72), (5, 42, 4, 4, 323), (6, 9, 6, 0, 69), (6, 15, 6, 1, 70), (7, 7, 7, 0, 475), (7, 13, 7, 1, 477), (7, 16, 7, 2, 479), (8, 7, 8, 2, 688), (8, 13, 8, 4, 690), (8, 16, 8, 5, 691), (8, 19, 8, 6, 692), (8, 22, 8, 7, 693), (8, 25, 8, 8, 694), (8, 28, 8, 9, 695), (8, 31, 8, 10, 696), (8, 34, 8, 11, 697), (8, 37, 8, 12, 698), (8, 40, 8, 13, 699), (8, 43, 8, 14, 700), (8, 46, 8, 16, 702), (8, 49, 8, 18, 704), (8, 52, 8, 19, 705), (8, 55, 8, 20, 706), (8, 58, 8, 21, 707), (8, 61, 8, 22, 708), (8, 64, 8, 24, 710), (8, 67, 8, 25, 711), (8, 70, 8, 26, 712), (8, 73, 8, 27, 713), (8, 76, 8, 28, 714), (8, 80, 8, 29, 715), (8, 83, 8, 30, 716), (8, 86, 8, 31, 717), (8, 89, 8, 32, 718), (8, 92, 8, 34, 720), (8, 95, 8, 35, 721), (8, 98, 8, 36, 722), (8, 101, 8, 0, 686), (8, 105, 8, 23, 709), (8, 109, 8, 1, 687), (8, 135, 8, 3, 689), (8, 149, 8, 17, 703), (8, 158, 8, 15, 701), (8, 196, 8, 33, 719)]
def x_flC (q : Nat × Nat × Nat × Nat × Nat) : Bool := match vwCl[q.2.2.1]? with
  | some r => decide (q.2.2.2.1 < r.2.2) && x_at q.2.2.2.2 (.fieldLink (xCn q.1) q.2.1 r.1 (r.2.1 q.2.2.2.1).2.1 (r.2.1 q.2.2.2.1).2.2.1)
  | none => false
theorem x_fl_all : x_flT.all x_flC = true := by decide +kernel
def xfl (ow k : Nat) : Option (Nat × Nat) := (x_flT.find? fun q => q.1 == ow && q.2.1 == k).map fun q => (q.2.2.1, q.2.2.2.1)
theorem x_fl_ok {ow k : Nat} {f : Nat × Nat} (h : xfl ow k = some f) : ∃ C T N, vwCl[f.1]? = some (C, T, N) ∧ f.2 < N ∧ Jvm.Cond.fieldLink (xCn ow) k C (T f.2).2.1 (T f.2).2.2.1 ∈ xTB ∧ (T f.2).1 = C ∧ (∀ w ∈ u_ws C T N, w ∈ xTB) ∧ (∀ j, j < N → parseFieldDescriptor (T j).2.2.1 = some (xft f.1 j)) ∧ (∀ a, a < N → ∀ b, b < N → a ≠ b → (T a).2.1 ≠ (T b).2.1) ∧ xfin f.1 f.2 = (T f.2).2.2.2 := by
  unfold xfl at h
  obtain ⟨q, hq, rfl⟩ := Option.map_eq_some_iff.mp h
  have h1 := List.all_eq_true.mp x_fl_all q (List.mem_of_find?_eq_some hq)
  have h2 := List.find?_some hq
  simp only [Bool.and_eq_true, beq_iff_eq] at h2
  obtain ⟨rfl, rfl⟩ := h2
  unfold x_flC at h1
  split at h1
  · rename_i r hr
    obtain ⟨C, T, N⟩ := r
    rw [Bool.and_eq_true] at h1
    have hk := of_decide_eq_true h1.1
    obtain ⟨k1, k2, k3, k4, k5, k6, k7, k8⟩ := x_kd hr
    exact ⟨C, T, N, hr, hk, x_at_in h1.2 rfl, k6 _ hk, k1, k2, k3, by unfold xfin; rw [hr]⟩
  · cases h1
def x_nwT : List (Nat × Nat × Nat × Nat) := [(0, 7, 6, 63), (0, 25, 2, 81), (0, 31, 3, 83), (0, 37, 7, 85), (0, 75, 5, 244), (1, 17, 6, 270), (5, 19, 1, 262), (5, 43, 4, 305)]
def x_nwC (q : Nat × Nat × Nat × Nat) : Bool := match vwCl[q.2.2.1]? with
  | some r => x_at q.2.2.2 (.classLink (xCn q.1) q.2.1 r.1)
  | none => false
theorem x_nw_all : x_nwT.all x_nwC = true := by decide +kernel
def xnw (ow k : Nat) : Option Nat := (x_nwT.find? fun q => q.1 == ow && q.2.1 == k).map fun q => q.2.2.1
theorem x_nw_ok {ow k c : Nat} (h : xnw ow k = some c) : ∃ C T N, vwCl[c]? = some (C, T, N) ∧ Jvm.Cond.classLink (xCn ow) k C ∈ xTB ∧ Jvm.Cond.instantiable C N ∈ xTB ∧ Jvm.Cond.initialized C ∈ xTB ∧ (∀ w ∈ u_ws C T N, w ∈ xTB) ∧ (∀ j, j < N → parseFieldDescriptor (T j).2.2.1 = some (xft c j)) ∧ (∀ j, j < N → defaultValue (xft c j) = vp_V (xdf c) j) ∧ (xdf c).length = N := by
  unfold xnw at h
  obtain ⟨q, hq, rfl⟩ := Option.map_eq_some_iff.mp h
  have h1 := List.all_eq_true.mp x_nw_all q (List.mem_of_find?_eq_some hq)
  have h2 := List.find?_some hq
  simp only [Bool.and_eq_true, beq_iff_eq] at h2
  obtain ⟨rfl, rfl⟩ := h2
  unfold x_nwC at h1
  split at h1
  · rename_i r hr
    obtain ⟨C, T, N⟩ := r
    obtain ⟨k1, k2, k3, k4, k5, k6, k7, k8⟩ := x_kd hr
    exact ⟨C, T, N, hr, x_at_in h1 rfl, k7, k8, k1, k2, k4, k5⟩
  · cases h1
def x_acT : List (Nat × Nat × Nat × Nat) := [(0, 19, 2, 79), (0, 25, 3, 81), (0, 31, 4, 83), (0, 37, 5, 85), (1, 9, 6, 268)]
def x_acC (q : Nat × Nat × Nat × Nat) : Bool := match xty[q.2.2.1]? with
  | some (.object C) => x_at q.2.2.2 (.classLink (xCn q.1) q.2.1 C)
  | _ => false
theorem x_ac_all : x_acT.all x_acC = true := by decide +kernel
def xac (ow k : Nat) : Option Nat := (x_acT.find? fun q => q.1 == ow && q.2.1 == k).map fun q => q.2.2.1
theorem x_ac_ok {ow k t : Nat} (h : xac ow k = some t) : ∃ C, xty[t]? = some (.object C) ∧ Jvm.Cond.classLink (xCn ow) k C ∈ xTB := by
  unfold xac at h
  obtain ⟨q, hq, rfl⟩ := Option.map_eq_some_iff.mp h
  have h1 := List.all_eq_true.mp x_ac_all q (List.mem_of_find?_eq_some hq)
  have h2 := List.find?_some hq
  simp only [Bool.and_eq_true, beq_iff_eq] at h2
  obtain ⟨rfl, rfl⟩ := h2
  unfold x_acC at h1
  split at h1
  · rename_i C hr
    exact ⟨C, hr, x_at_in h1 rfl⟩
  · cases h1
def x_ldT : List (Nat × Nat × Int32 × Nat) := [(0, 117, 999999, 436), (0, 255, 2400000, 431), (0, 256, 100000, 468), (8, 108, 100000, 891), (8, 171, 2400000, 875), (8, 172, 999999, 876)]
def x_ldC (q : Nat × Nat × Int32 × Nat) : Bool := x_at q.2.2.2 (.constant (xCn q.1) q.2.1 q.2.2.1)
theorem x_ld_all : x_ldT.all x_ldC = true := by decide +kernel
def xldc (ow k : Nat) : Option Int32 := (x_ldT.find? fun q => q.1 == ow && q.2.1 == k).map fun q => q.2.2.1
theorem x_ldc_ok {ow k : Nat} {v : Int32} (h : xldc ow k = some v) : Jvm.Cond.constant (xCn ow) k v ∈ xTB := by
  unfold xldc at h
  obtain ⟨q, hq, rfl⟩ := Option.map_eq_some_iff.mp h
  have h1 := List.all_eq_true.mp x_ld_all q (List.mem_of_find?_eq_some hq)
  have h2 := List.find?_some hq
  simp only [Bool.and_eq_true, beq_iff_eq] at h2
  obtain ⟨rfl, rfl⟩ := h2
  exact x_at_in h1 rfl
theorem x_arr_int : Jvm.Cond.arrayClass .int ∈ xTB := x_at_in (i := 78) (by decide +kernel) rfl
theorem x_arr_bool : Jvm.Cond.arrayClass .boolean ∈ xTB := x_at_in (i := 533) (by decide +kernel) rfl
theorem x_arr_long : Jvm.Cond.arrayClass .long ∈ xTB := x_at_in (i := 972) (by decide +kernel) rfl
/-- a method: name, code, locals, return, owner, parameters, throws (pc, what, the three entries, text, wide) -/
abbrev xTs : Type := Nat × String × Nat × Nat × Nat × String × Bool
abbrev xMt : Type := MethodName × ByteArray × Nat × Option FieldType × Nat × Nat × List xTs
def xN (y : xMt) : MethodName := y.1
def xC (y : xMt) : ByteArray := y.2.1
def xm (y : xMt) : Nat := y.2.2.1
def xR (y : xMt) : Option FieldType := y.2.2.2.1
def xo (y : xMt) : Nat := y.2.2.2.2.1
def xnp (y : xMt) : Nat := y.2.2.2.2.2.1
def xtl (y : xMt) : List xTs := y.2.2.2.2.2.2
def xth (y : xMt) (pc : Nat) : Option xTs := (xtl y).find? fun q => q.1 == pc
def k_L_init : xMt := (⟨"LoanTerms", "<init>", "()V"⟩, prog_1_method_1_code, 2, none, 0, 0, [])
def k_L_unit : xMt := (⟨"LoanTerms", "unit", "(I)I"⟩, prog_1_method_2_code, 2, some .int, 0, 1, [(12, "java/lang/IllegalStateException", 57, 59, 61, "the pad is full", false), (34, "java/lang/IllegalArgumentException", 64, 66, 68, "no sign", false)])
def k_L_read : xMt := (⟨"LoanTerms", "read", "()I"⟩, prog_1_method_3_code, 3, some .int, 0, 0, [(9, "java/lang/IllegalStateException", 57, 73, 61, "there are eight contracts", false)])
def k_L_terms : xMt := (⟨"LoanTerms", "terms", "(I)I"⟩, prog_1_method_4_code, 2, some .int, 0, 1, [])
def k_L_written : xMt := (⟨"LoanTerms", "written", "(II)I"⟩, prog_1_method_5_code, 3, some .int, 0, 2, [])
def k_L_input : xMt := (⟨"LoanTerms", "input", "(III)I"⟩, prog_1_method_6_code, 5, some .int, 0, 3, [(17, "java/lang/IllegalStateException", 57, 107, 61, "the input has 60 rows", false), (53, "java/lang/IllegalArgumentException", 64, 118, 68, "hour or value", false)])
def k_L_fails : xMt := (⟨"LoanTerms", "fails", "(III)V"⟩, prog_1_method_7_code, 5, none, 0, 3, [(26, "java/lang/IllegalArgumentException", 64, 123, 68, "hours", false)])
def k_L_loan : xMt := (⟨"LoanTerms", "loan", "(IIII)I"⟩, prog_1_method_8_code, 7, some .int, 0, 4, [(20, "java/lang/IllegalStateException", 57, 134, 61, "there are 20 loans", false)])
def k_L_shield : xMt := (⟨"LoanTerms", "shield", "(IZ)Z"⟩, prog_1_method_9_code, 5, some .boolean, 0, 2, [])
def k_L_ask : xMt := (⟨"LoanTerms", "ask", "(II)I"⟩, prog_1_method_10_code, 7, some .int, 0, 2, [])
def k_L_open : xMt := (⟨"LoanTerms", "open", "(III)I"⟩, prog_1_method_11_code, 7, some .int, 0, 3, [(11, "java/lang/IndexOutOfBoundsException", 185, 187, 189, "k is below 0", false)])
def k_L_told : xMt := (⟨"LoanTerms", "told", "(III)I"⟩, prog_1_method_12_code, 5, some .int, 0, 3, [(30, "java/lang/IndexOutOfBoundsException", 185, 193, 189, "no such place", false)])
def k_L_extend : xMt := (⟨"LoanTerms", "extend", "(III)I"⟩, prog_1_method_13_code, 6, some .int, 0, 3, [(21, "java/lang/IllegalArgumentException", 64, 205, 68, "days", false)])
def k_L_request : xMt := (⟨"LoanTerms", "request", "(III)I"⟩, prog_1_method_14_code, 4, some .int, 0, 3, [(13, "java/lang/IllegalStateException", 57, 216, 61, "there are 30 requests", false)])
def k_L_clash : xMt := (⟨"LoanTerms", "clash", "(II)I"⟩, prog_1_method_15_code, 6, some .int, 0, 2, [(13, "java/lang/IndexOutOfBoundsException", 185, 193, 189, "no such place", false)])
def k_L_days : xMt := (⟨"LoanTerms", "days", "(I)I"⟩, prog_1_method_16_code, 2, some .int, 0, 1, [])
def k_L_fee : xMt := (⟨"LoanTerms", "fee", "(I)I"⟩, prog_1_method_17_code, 2, some .int, 0, 1, [])
def k_L_letter : xMt := (⟨"LoanTerms", "letter", "(II)I"⟩, prog_1_method_18_code, 5, some .int, 0, 2, [])
def k_L_count : xMt := (⟨"LoanTerms", "count", "(I)I"⟩, prog_1_method_19_code, 2, some .int, 0, 1, [(64, "java/lang/IndexOutOfBoundsException", 185, 242, 189, "nothing that is counted", false)])
def k_L_inputRows : xMt := (⟨"LoanTerms", "inputRows", "()I"⟩, prog_1_method_20_code, 3, some .int, 0, 0, [])
def k_L_contractOf : xMt := (⟨"LoanTerms", "contractOf", "(I)LLoanTerms$Contract;"⟩, prog_1_method_21_code, 3, some (.object "LoanTerms$Contract"), 0, 1, [(25, "java/lang/IndexOutOfBoundsException", 185, 244, 189, "no such contract", false)])
def k_L_inputOf : xMt := (⟨"LoanTerms", "inputOf", "(I)LLoanTerms$Input;"⟩, prog_1_method_22_code, 3, some (.object "LoanTerms$Input"), 0, 1, [(25, "java/lang/IndexOutOfBoundsException", 185, 246, 189, "no such input", false)])
def k_L_loanOf : xMt := (⟨"LoanTerms", "loanOf", "(I)LLoanTerms$Loan;"⟩, prog_1_method_23_code, 3, some (.object "LoanTerms$Loan"), 0, 1, [(25, "java/lang/IndexOutOfBoundsException", 185, 248, 189, "no such loan", false)])
def k_L_spanAt : xMt := (⟨"LoanTerms", "spanAt", "(I)LLoanTerms$Span;"⟩, prog_1_method_24_code, 3, some (.object "LoanTerms$Span"), 0, 1, [])
def k_L_numberAt : xMt := (⟨"LoanTerms", "numberAt", "(I)I"⟩, prog_1_method_25_code, 2, some .int, 0, 1, [])
def k_L_clashesWithLoan : xMt := (⟨"LoanTerms", "clashesWithLoan", "(LLoanTerms$Span;I)Z"⟩, prog_1_method_26_code, 4, some .boolean, 0, 2, [])
def k_L_areClashing : xMt := (⟨"LoanTerms", "areClashing", "(LLoanTerms$Span;LLoanTerms$Span;)Z"⟩, prog_1_method_27_code, 2, some .boolean, 0, 2, [])
def k_L_signOrSize : xMt := (⟨"LoanTerms", "signOrSize", "(LLoanTerms$Row;I)I"⟩, prog_1_method_28_code, 2, some .int, 0, 2, [(13, "java/lang/IndexOutOfBoundsException", 185, 250, 189, "no such sign", false)])
def k_L_isHour : xMt := (⟨"LoanTerms", "isHour", "(I)Z"⟩, prog_1_method_29_code, 1, some .boolean, 0, 1, [])
def k_L_isDay : xMt := (⟨"LoanTerms", "isDay", "(I)Z"⟩, prog_1_method_30_code, 1, some .boolean, 0, 1, [])
def k_L_refuseNoHour : xMt := (⟨"LoanTerms", "refuseNoHour", "(I)V"⟩, prog_1_method_31_code, 1, none, 0, 1, [(7, "java/lang/IllegalArgumentException", 64, 257, 68, "no hour", true)])
def k_L_refuseNoDays : xMt := (⟨"LoanTerms", "refuseNoDays", "(II)V"⟩, prog_1_method_32_code, 2, none, 0, 2, [(19, "java/lang/IllegalArgumentException", 64, 205, 68, "days", false)])
def k_L_refuseNoThing : xMt := (⟨"LoanTerms", "refuseNoThing", "(I)V"⟩, prog_1_method_33_code, 1, none, 0, 1, [(10, "java/lang/IndexOutOfBoundsException", 185, 259, 189, "no such thing", true)])
def k_L_stateOf : xMt := (⟨"LoanTerms", "stateOf", "(LLoanTerms$Node;LLoanTerms$Loan;II)I"⟩, prog_1_method_34_code, 5, some .int, 0, 4, [])
def k_L_stateOfGroup : xMt := (⟨"LoanTerms", "stateOfGroup", "(LLoanTerms$Node;LLoanTerms$Loan;II)I"⟩, prog_1_method_35_code, 8, some .int, 0, 4, [])
def k_L_stateOfName : xMt := (⟨"LoanTerms", "stateOfName", "(LLoanTerms$Node;LLoanTerms$Loan;I)I"⟩, prog_1_method_36_code, 5, some .int, 0, 3, [])
def k_L_turnedRound : xMt := (⟨"LoanTerms", "turnedRound", "(I)I"⟩, prog_1_method_37_code, 1, some .int, 0, 1, [])
def k_C_init : xMt := (⟨"LoanTerms$Contract", "<init>", "()V"⟩, prog_2_method_1_code, 1, none, 1, 0, [])
def k_C_add : xMt := (⟨"LoanTerms$Contract", "add", "(LLoanTerms$Node;)V"⟩, prog_2_method_2_code, 2, none, 1, 1, [])
def k_C_termAt : xMt := (⟨"LoanTerms$Contract", "termAt", "(I)LLoanTerms$Node;"⟩, prog_2_method_3_code, 2, some (.object "LoanTerms$Node"), 1, 1, [])
def k_C_write : xMt := (⟨"LoanTerms$Contract", "write", "(LLoanTerms$Node;I)V"⟩, prog_2_method_4_code, 3, none, 1, 2, [])
def k_C_writeGroup : xMt := (⟨"LoanTerms$Contract", "writeGroup", "(LLoanTerms$Node;I)V"⟩, prog_2_method_5_code, 5, none, 1, 2, [])
def k_I_init : xMt := (⟨"LoanTerms$Input", "<init>", "()V"⟩, prog_3_method_1_code, 1, none, 2, 0, [])
def k_I_add : xMt := (⟨"LoanTerms$Input", "add", "(II)V"⟩, prog_3_method_2_code, 3, none, 2, 2, [])
def k_I_lastHour : xMt := (⟨"LoanTerms$Input", "lastHour", "()I"⟩, prog_3_method_3_code, 1, some .int, 2, 0, [])
def k_I_valueAt : xMt := (⟨"LoanTerms$Input", "valueAt", "(I)I"⟩, prog_3_method_4_code, 3, some .int, 2, 1, [])
def k_O_init : xMt := (⟨"LoanTerms$Loan", "<init>", "(LLoanTerms$Contract;LLoanTerms$Span;)V"⟩, prog_4_method_1_code, 3, none, 3, 2, [])
def k_O_forget : xMt := (⟨"LoanTerms$Loan", "forget", "(I)V"⟩, prog_4_method_2_code, 2, none, 3, 1, [])
def k_O_tell : xMt := (⟨"LoanTerms$Loan", "tell", "(II)V"⟩, prog_4_method_3_code, 3, none, 3, 2, [])
def k_O_price : xMt := (⟨"LoanTerms$Loan", "price", "()I"⟩, prog_4_method_4_code, 2, some .int, 3, 0, [])
def k_N_init : xMt := (⟨"LoanTerms$Node", "<init>", "(ILLoanTerms$Node;)V"⟩, prog_5_method_1_code, 3, none, 4, 2, [])
def k_N_init2 : xMt := (⟨"LoanTerms$Node", "<init>", "(III)V"⟩, prog_5_method_2_code, 4, none, 4, 3, [])
def k_N_compared : xMt := (⟨"LoanTerms$Node", "compared", "(I)I"⟩, prog_5_method_3_code, 3, some .int, 4, 1, [])
def k_R_init : xMt := (⟨"LoanTerms$Reader", "<init>", "(LLoanTerms$Row;)V"⟩, prog_6_method_1_code, 2, none, 5, 1, [])
def k_R_readContract : xMt := (⟨"LoanTerms$Reader", "readContract", "()LLoanTerms$Contract;"⟩, prog_6_method_2_code, 4, some (.object "LoanTerms$Contract"), 5, 0, [])
def k_R_readGroup : xMt := (⟨"LoanTerms$Reader", "readGroup", "(II)LLoanTerms$Node;"⟩, prog_6_method_3_code, 7, some (.object "LoanTerms$Node"), 5, 2, [])
def k_R_readItem : xMt := (⟨"LoanTerms$Reader", "readItem", "(II)LLoanTerms$Node;"⟩, prog_6_method_4_code, 3, some (.object "LoanTerms$Node"), 5, 2, [])
def k_R_readBit : xMt := (⟨"LoanTerms$Reader", "readBit", "(II)LLoanTerms$Node;"⟩, prog_6_method_5_code, 4, some (.object "LoanTerms$Node"), 5, 2, [])
def k_R_readName : xMt := (⟨"LoanTerms$Reader", "readName", "()LLoanTerms$Node;"⟩, prog_6_method_6_code, 3, some (.object "LoanTerms$Node"), 5, 0, [])
def k_R_readNumber : xMt := (⟨"LoanTerms$Reader", "readNumber", "()I"⟩, prog_6_method_7_code, 3, some .int, 5, 0, [])
def k_R_sign : xMt := (⟨"LoanTerms$Reader", "sign", "()I"⟩, prog_6_method_8_code, 1, some .int, 5, 0, [])
def k_R_isName : xMt := (⟨"LoanTerms$Reader", "isName", "(I)Z"⟩, prog_6_method_9_code, 1, some .boolean, 5, 1, [])
def k_R_isDigit : xMt := (⟨"LoanTerms$Reader", "isDigit", "(I)Z"⟩, prog_6_method_10_code, 1, some .boolean, 5, 1, [])
def k_W_init : xMt := (⟨"LoanTerms$Row", "<init>", "()V"⟩, prog_7_method_1_code, 1, none, 6, 0, [])
def k_W_clear : xMt := (⟨"LoanTerms$Row", "clear", "()V"⟩, prog_7_method_2_code, 1, none, 6, 0, [])
def k_W_add : xMt := (⟨"LoanTerms$Row", "add", "(I)V"⟩, prog_7_method_3_code, 2, none, 6, 1, [])
def k_W_addNumber : xMt := (⟨"LoanTerms$Row", "addNumber", "(I)V"⟩, prog_7_method_4_code, 5, none, 6, 1, [])
def k_W_signAt : xMt := (⟨"LoanTerms$Row", "signAt", "(I)I"⟩, prog_7_method_5_code, 2, some .int, 6, 1, [])
def k_P_init : xMt := (⟨"LoanTerms$Span", "<init>", "(III)V"⟩, prog_8_method_1_code, 4, none, 7, 3, [])
def k_P_hasDay : xMt := (⟨"LoanTerms$Span", "hasDay", "(I)Z"⟩, prog_8_method_2_code, 2, some .boolean, 7, 1, [])
def k_P_length : xMt := (⟨"LoanTerms$Span", "length", "()I"⟩, prog_8_method_3_code, 1, some .int, 7, 0, [])
def k_M_init : xMt := (⟨"LoanTermsModel", "<init>", "()V"⟩, prog_10_method_1_code, 2, none, 8, 0, [])
def k_M_thrown : xMt := (⟨"LoanTermsModel", "thrown", "()I"⟩, prog_10_method_2_code, 1, some .int, 8, 0, [])
def k_M_goes : xMt := (⟨"LoanTermsModel", "goes", "(ZZZ)Z"⟩, prog_10_method_3_code, 4, some .boolean, 8, 3, [])
def k_M_within : xMt := (⟨"LoanTermsModel", "within", "(III)Z"⟩, prog_10_method_4_code, 3, some .boolean, 8, 3, [])
def k_M_isLoan : xMt := (⟨"LoanTermsModel", "isLoan", "(I)Z"⟩, prog_10_method_5_code, 2, some .boolean, 8, 1, [])
def k_M_isThing : xMt := (⟨"LoanTermsModel", "isThing", "(I)Z"⟩, prog_10_method_6_code, 1, some .boolean, 8, 1, [])
def k_M_areDays : xMt := (⟨"LoanTermsModel", "areDays", "(II)Z"⟩, prog_10_method_7_code, 2, some .boolean, 8, 2, [])
def k_M_unit : xMt := (⟨"LoanTermsModel", "unit", "(I)I"⟩, prog_10_method_8_code, 2, some .int, 8, 1, [])
def k_M_isDigit : xMt := (⟨"LoanTermsModel", "isDigit", "(I)Z"⟩, prog_10_method_9_code, 1, some .boolean, 8, 1, [])
def k_M_isName : xMt := (⟨"LoanTermsModel", "isName", "(I)Z"⟩, prog_10_method_10_code, 1, some .boolean, 8, 1, [])
def k_M_fault : xMt := (⟨"LoanTermsModel", "fault", "()I"⟩, prog_10_method_11_code, 11, some .int, 8, 0, [])
def k_M_node : xMt := (⟨"LoanTermsModel", "node", "(III)I"⟩, prog_10_method_12_code, 5, some .int, 8, 3, [])
def k_M_begin : xMt := (⟨"LoanTermsModel", "begin", "(II)I"⟩, prog_10_method_13_code, 4, some .int, 8, 2, [])
def k_M_build : xMt := (⟨"LoanTermsModel", "build", "(I)V"⟩, prog_10_method_14_code, 9, none, 8, 1, [])
def k_M_read : xMt := (⟨"LoanTermsModel", "read", "()I"⟩, prog_10_method_15_code, 2, some .int, 8, 0, [])
def k_M_isContract : xMt := (⟨"LoanTermsModel", "isContract", "(I)Z"⟩, prog_10_method_16_code, 2, some .boolean, 8, 1, [])
def k_M_terms : xMt := (⟨"LoanTermsModel", "terms", "(I)I"⟩, prog_10_method_17_code, 2, some .int, 8, 1, [])
def k_M_put : xMt := (⟨"LoanTermsModel", "put", "(I)V"⟩, prog_10_method_18_code, 2, none, 8, 1, [])
def k_M_putNumber : xMt := (⟨"LoanTermsModel", "putNumber", "(I)V"⟩, prog_10_method_19_code, 3, none, 8, 1, [])
def k_M_children : xMt := (⟨"LoanTermsModel", "children", "(II)I"⟩, prog_10_method_20_code, 5, some .int, 8, 2, [])
def k_M_unfold : xMt := (⟨"LoanTermsModel", "unfold", "(II)V"⟩, prog_10_method_21_code, 6, none, 8, 2, [])
def k_M_write : xMt := (⟨"LoanTermsModel", "write", "(I)V"⟩, prog_10_method_22_code, 6, none, 8, 1, [])
def k_M_written : xMt := (⟨"LoanTermsModel", "written", "(II)I"⟩, prog_10_method_23_code, 4, some .int, 8, 2, [])
def k_M_input : xMt := (⟨"LoanTermsModel", "input", "(III)I"⟩, prog_10_method_24_code, 7, some .int, 8, 3, [])
def k_M_fails : xMt := (⟨"LoanTermsModel", "fails", "(III)V"⟩, prog_10_method_25_code, 4, none, 8, 3, [])
def k_M_valueAt : xMt := (⟨"LoanTermsModel", "valueAt", "(II)I"⟩, prog_10_method_26_code, 5, some .int, 8, 2, [])
def k_M_isOut : xMt := (⟨"LoanTermsModel", "isOut", "(IIII)Z"⟩, prog_10_method_27_code, 6, some .boolean, 8, 4, [])
def k_M_loan : xMt := (⟨"LoanTermsModel", "loan", "(IIII)I"⟩, prog_10_method_28_code, 5, some .int, 8, 4, [])
def k_M_shield : xMt := (⟨"LoanTermsModel", "shield", "(IZ)Z"⟩, prog_10_method_29_code, 4, some .boolean, 8, 2, [])
def k_M_leaf : xMt := (⟨"LoanTermsModel", "leaf", "(III)I"⟩, prog_10_method_30_code, 9, some .int, 8, 3, [])
def k_M_work : xMt := (⟨"LoanTermsModel", "work", "(II)V"⟩, prog_10_method_31_code, 9, none, 8, 2, [])
def k_M_ask : xMt := (⟨"LoanTermsModel", "ask", "(II)I"⟩, prog_10_method_32_code, 7, some .int, 8, 2, [])
def k_M_open : xMt := (⟨"LoanTermsModel", "open", "(III)I"⟩, prog_10_method_33_code, 7, some .int, 8, 3, [])
def k_M_told : xMt := (⟨"LoanTermsModel", "told", "(III)I"⟩, prog_10_method_34_code, 5, some .int, 8, 3, [])
def k_M_extend : xMt := (⟨"LoanTermsModel", "extend", "(III)I"⟩, prog_10_method_35_code, 4, some .int, 8, 3, [])
def k_M_request : xMt := (⟨"LoanTermsModel", "request", "(III)I"⟩, prog_10_method_36_code, 4, some .int, 8, 3, [])
def k_M_isPair : xMt := (⟨"LoanTermsModel", "isPair", "(II)Z"⟩, prog_10_method_37_code, 9, some .boolean, 8, 2, [])
def k_M_clash : xMt := (⟨"LoanTermsModel", "clash", "(II)I"⟩, prog_10_method_38_code, 6, some .int, 8, 2, [])
def k_M_allDays : xMt := (⟨"LoanTermsModel", "allDays", "(I)I"⟩, prog_10_method_39_code, 2, some .int, 8, 1, [])
def k_M_days : xMt := (⟨"LoanTermsModel", "days", "(I)I"⟩, prog_10_method_40_code, 2, some .int, 8, 1, [])
def k_M_allFee : xMt := (⟨"LoanTermsModel", "allFee", "(I)I"⟩, prog_10_method_41_code, 2, some .int, 8, 1, [])
def k_M_fee : xMt := (⟨"LoanTermsModel", "fee", "(I)I"⟩, prog_10_method_42_code, 2, some .int, 8, 1, [])
def k_M_writeLetter : xMt := (⟨"LoanTermsModel", "writeLetter", "(I)V"⟩, prog_10_method_43_code, 3, none, 8, 1, [])
def k_M_letter : xMt := (⟨"LoanTermsModel", "letter", "(II)I"⟩, prog_10_method_44_code, 4, some .int, 8, 2, [])
def k_M_count : xMt := (⟨"LoanTermsModel", "count", "(I)I"⟩, prog_10_method_45_code, 4, some .int, 8, 1, [])
def xMs : List xMt := [k_L_init, k_L_unit, k_L_read, k_L_terms, k_L_written, k_L_input, k_L_fails, k_L_loan, k_L_shield, k_L_ask, k_L_open, k_L_told, k_L_extend, k_L_request, k_L_clash, k_L_days, k_L_fee, k_L_letter, k_L_count, k_L_inputRows, k_L_contractOf, k_L_inputOf, k_L_loanOf, k_L_spanAt, k_L_numberAt, k_L_clashesWithLoan, k_L_areClashing, k_L_signOrSize, k_L_isHour, k_L_isDay, k_L_refuseNoHour, k_L_refuseNoDays, k_L_refuseNoThing, k_L_stateOf, k_L_stateOfGroup, k_L_stateOfName, k_L_turnedRound, k_C_init, k_C_add, k_C_termAt, k_C_write, k_C_writeGroup, k_I_init, k_I_add, k_I_lastHour, k_I_valueAt, k_O_init, k_O_forget, k_O_tell, k_O_price, k_N_init, k_N_init2, k_N_compared, k_R_init, k_R_readContract, k_R_readGroup, k_R_readItem, k_R_readBit, k_R_readName, k_R_readNumber, k_R_sign, k_R_isName, k_R_isDigit, k_W_init, k_W_clear, k_W_add, k_W_addNumber, k_W_signAt, k_P_init, k_P_hasDay, k_P_length, k_M_init, k_M_thrown, k_M_goes, k_M_within, k_M_isLoan, k_M_isThing, k_M_areDays, k_M_unit, k_M_isDigit, k_M_isName, k_M_fault, k_M_node, k_M_begin, k_M_build, k_M_read, k_M_isContract, k_M_terms, k_M_put, k_M_putNumber, k_M_children, k_M_unfold, k_M_write, k_M_written, k_M_input, k_M_fails, k_M_valueAt, k_M_isOut, k_M_loan, k_M_shield, k_M_leaf, k_M_work, k_M_ask, k_M_open, k_M_told, k_M_extend, k_M_request, k_M_isPair, k_M_clash, k_M_allDays, k_M_days, k_M_allFee, k_M_fee, k_M_writeLetter, k_M_letter, k_M_count]
/-- places: code, static?, static or of an object, chosen?, place -/
def x_mP : List (Nat × Nat × Nat × Nat × Nat) := [(59, 0, 58, 0, 0), (147, 0, 145, 1, 146), (242, 0, 240, 1, 241), (382, 0, 380, 1, 381), (409, 0, 407, 1, 408), (421, 0, 419, 1, 420), (448, 0, 446, 1, 447), (456, 0, 454, 1, 455), (540, 0, 538, 1, 539), (547, 0, 545, 1, 546), (597, 0, 595, 1, 596), (605, 0, 603, 1, 604), (613, 0, 611, 1, 612), (620, 0, 618, 1, 619), (628, 0, 626, 1, 627), (643, 0, 641, 1, 642), (654, 0, 652, 1, 653), (666, 0, 664, 1, 665), (674, 0, 672, 1, 673), (678, 0, 677, 1, 18), (386, 0, 385, 1, 9), (425, 0, 424, 1, 10), (495, 0, 494, 1, 12), (632, 0, 631, 1, 16), (636, 0, 635, 1, 17), (491, 0, 490, 1, 11), (499, 1, 498, 0, 0), (412, 1, 411, 0, 0), (430, 1, 429, 0, 0), (467, 1, 466, 0, 0), (550, 1, 549, 0, 0), (464, 1, 463, 0, 0), (459, 1, 458, 0, 0), (563, 0, 562, 1, 13), (570, 0, 569, 1, 14), (574, 0, 573, 1, 15), (566, 1, 565, 0, 0), (266, 0, 265, 0, 0), (357, 0, 355, 1, 356), (559, 0, 557, 1, 558), (361, 0, 360, 1, 7), (366, 0, 365, 1, 8), (90, 0, 89, 0, 0), (441, 0, 439, 1, 440), (435, 0, 433, 1, 434), (582, 0, 580, 1, 581), (503, 0, 502, 0, 0), (586, 0, 584, 1, 585), (590, 0, 588, 1, 589), (658, 0, 656, 1, 657), (309, 0, 308, 0, 0), (353, 0, 352, 0, 0), (578, 0, 576, 1, 577), (248, 0, 247, 0, 0), (261, 0, 259, 1, 260), (288, 0, 287, 1, 1), (292, 0, 291, 1, 2), (296, 0, 295, 1, 3), (340, 0, 339, 1, 5), (350, 0, 349, 1, 6), (300, 0, 299, 1, 4), (343, 1, 342, 0, 0), (346, 1, 345, 0, 0), (67, 0, 66, 0, 0), (374, 0, 372, 1, 373), (235, 0, 233, 1, 234), (370, 0, 368, 1, 369), (304, 0, 302, 1, 303), (473, 0, 472, 0, 0), (555, 0, 553, 1, 554), (647, 0, 645, 1, 646), (684, 0, 683, 0, 0), (801, 0, 799, 1, 800), (812, 0, 811, 1, 19), (808, 1, 807, 0, 0), (903, 0, 902, 1, 31), (887, 1, 886, 0, 0), (890, 1, 889, 0, 0), (805, 0, 803, 1, 804), (826, 1, 825, 0, 0), (823, 1, 822, 0, 0), (820, 0, 819, 1, 20), (838, 0, 837, 1, 23), (834, 0, 833, 1, 22), (830, 0, 829, 1, 21), (816, 0, 814, 1, 815), (846, 0, 845, 1, 24), (842, 0, 840, 1, 841), (858, 0, 857, 1, 26), (870, 0, 869, 1, 29), (866, 0, 865, 1, 28), (862, 0, 861, 1, 27), (854, 0, 853, 1, 25), (850, 0, 848, 1, 849), (874, 0, 872, 1, 873), (880, 0, 878, 1, 879), (919, 0, 918, 1, 34), (895, 0, 894, 1, 30), (884, 0, 882, 1, 883), (899, 0, 897, 1, 898), (915, 0, 914, 1, 33), (911, 0, 910, 1, 32), (907, 0, 905, 1, 906), (923, 0, 921, 1, 922), (927, 0, 925, 1, 926), (931, 0, 929, 1, 930), (935, 0, 933, 1, 934), (943, 0, 942, 1, 35), (939, 0, 937, 1, 938), (951, 0, 950, 1, 36), (947, 0, 945, 1, 946), (959, 0, 958, 1, 37), (955, 0, 953, 1, 954), (967, 0, 966, 1, 38), (963, 0, 961, 1, 962), (971, 0, 969, 1, 970)]
def x_mC (q : xMt × (Nat × Nat × Nat × Nat × Nat)) : Bool := x_at q.2.1 (.code (xN q.1) (xC q.1) (xm q.1) (xR q.1)) && (if q.2.2.1 = 1 then x_at q.2.2.2.1 (.static (xN q.1)) else x_at q.2.2.2.1 (.instanceMethod (xN q.1))) && (if q.2.2.2.2.1 = 1 then x_at q.2.2.2.2.2 (.selects (xN q.1).cls (xN q.1) (xN q.1)) else true) && decide ((xN q.1).cls = xCn (xo q.1)) && decide (xm q.1 ≤ 40) && plainName (xN q.1).cls && decide ((xN q.1).cls ≠ "java/lang/invoke/MethodHandle" ∧ (xN q.1).cls ≠ "java/lang/invoke/VarHandle") && decide ((parseMethodDescriptor (xN q.1).desc).map (fun d => d.parameters.length) = some (xnp q.1)) && decide (xo q.1 < 9)
theorem x_mc0 : x_mC (k_L_init, (59, 0, 58, 0, 0)) = true := by decide +kernel
theorem x_mc1 : x_mC (k_L_unit, (147, 0, 145, 1, 146)) = true := by decide +kernel
theorem x_mc2 : x_mC (k_L_read, (242, 0, 240, 1, 241)) = true := by decide +kernel
theorem x_mc3 : x_mC (k_L_terms, (382, 0, 380, 1, 381)) = true := by decide +kernel
theorem x_mc4 : x_mC (k_L_written, (409, 0, 407, 1, 408)) = true := by decide +kernel
theorem x_mc5 : x_mC (k_L_input, (421, 0, 419, 1, 420)) = true := by decide +kernel
theorem x_mc6 : x_mC (k_L_fails, (448, 0, 446, 1, 447)) = true := by decide +kernel
theorem x_mc7 : x_mC (k_L_loan, (456, 0, 454, 1, 455)) = true := by decide +kernel
theorem x_mc8 : x_mC (k_L_shield, (540, 0, 538, 1, 539)) = true := by decide +kernel
theorem x_mc9 : x_mC (k_L_ask, (547, 0, 545, 1, 546)) = true := by decide +kernel
theorem x_mc10 : x_mC (k_L_open, (597, 0, 595, 1, 596)) = true := by decide +kernel
theorem x_mc11 : x_mC (k_L_told, (605, 0, 603, 1, 604)) = true := by decide +kernel
theorem x_mc12 : x_mC (k_L_extend, (613, 0, 611, 1, 612)) = true := by decide +kernel
theorem x_mc13 : x_mC (k_L_request, (620, 0, 618, 1, 619)) = true := by decide +kernel
theorem x_mc14 : x_mC (k_L_clash, (628, 0, 626, 1, 627)) = true := by decide +kernel
theorem x_mc15 : x_mC (k_L_days, (643, 0, 641, 1, 642)) = true := by decide +kernel
theorem x_mc16 : x_mC (k_L_fee, (654, 0, 652, 1, 653)) = true := by decide +kernel
theorem x_mc17 : x_mC (k_L_letter, (666, 0, 664, 1, 665)) = true := by decide +kernel
theorem x_mc18 : x_mC (k_L_count, (674, 0, 672, 1, 673)) = true := by decide +kernel
theorem x_mc19 : x_mC (k_L_inputRows, (678, 0, 677, 1, 18)) = true := by decide +kernel
theorem x_mc20 : x_mC (k_L_contractOf, (386, 0, 385, 1, 9)) = true := by decide +kernel
theorem x_mc21 : x_mC (k_L_inputOf, (425, 0, 424, 1, 10)) = true := by decide +kernel
theorem x_mc22 : x_mC (k_L_loanOf, (495, 0, 494, 1, 12)) = true := by decide +kernel
theorem x_mc23 : x_mC (k_L_spanAt, (632, 0, 631, 1, 16)) = true := by decide +kernel
theorem x_mc24 : x_mC (k_L_numberAt, (636, 0, 635, 1, 17)) = true := by decide +kernel
theorem x_mc25 : x_mC (k_L_clashesWithLoan, (491, 0, 490, 1, 11)) = true := by decide +kernel
theorem x_mc26 : x_mC (k_L_areClashing, (499, 1, 498, 0, 0)) = true := by decide +kernel
theorem x_mc27 : x_mC (k_L_signOrSize, (412, 1, 411, 0, 0)) = true := by decide +kernel
theorem x_mc28 : x_mC (k_L_isHour, (430, 1, 429, 0, 0)) = true := by decide +kernel
theorem x_mc29 : x_mC (k_L_isDay, (467, 1, 466, 0, 0)) = true := by decide +kernel
theorem x_mc30 : x_mC (k_L_refuseNoHour, (550, 1, 549, 0, 0)) = true := by decide +kernel
theorem x_mc31 : x_mC (k_L_refuseNoDays, (464, 1, 463, 0, 0)) = true := by decide +kernel
theorem x_mc32 : x_mC (k_L_refuseNoThing, (459, 1, 458, 0, 0)) = true := by decide +kernel
theorem x_mc33 : x_mC (k_L_stateOf, (563, 0, 562, 1, 13)) = true := by decide +kernel
theorem x_mc34 : x_mC (k_L_stateOfGroup, (570, 0, 569, 1, 14)) = true := by decide +kernel
theorem x_mc35 : x_mC (k_L_stateOfName, (574, 0, 573, 1, 15)) = true := by decide +kernel
theorem x_mc36 : x_mC (k_L_turnedRound, (566, 1, 565, 0, 0)) = true := by decide +kernel
theorem x_mc37 : x_mC (k_C_init, (266, 0, 265, 0, 0)) = true := by decide +kernel
theorem x_mc38 : x_mC (k_C_add, (357, 0, 355, 1, 356)) = true := by decide +kernel
theorem x_mc39 : x_mC (k_C_termAt, (559, 0, 557, 1, 558)) = true := by decide +kernel
theorem x_mc40 : x_mC (k_C_write, (361, 0, 360, 1, 7)) = true := by decide +kernel
theorem x_mc41 : x_mC (k_C_writeGroup, (366, 0, 365, 1, 8)) = true := by decide +kernel
theorem x_mc42 : x_mC (k_I_init, (90, 0, 89, 0, 0)) = true := by decide +kernel
theorem x_mc43 : x_mC (k_I_add, (441, 0, 439, 1, 440)) = true := by decide +kernel
theorem x_mc44 : x_mC (k_I_lastHour, (435, 0, 433, 1, 434)) = true := by decide +kernel
theorem x_mc45 : x_mC (k_I_valueAt, (582, 0, 580, 1, 581)) = true := by decide +kernel
theorem x_mc46 : x_mC (k_O_init, (503, 0, 502, 0, 0)) = true := by decide +kernel
theorem x_mc47 : x_mC (k_O_forget, (586, 0, 584, 1, 585)) = true := by decide +kernel
theorem x_mc48 : x_mC (k_O_tell, (590, 0, 588, 1, 589)) = true := by decide +kernel
theorem x_mc49 : x_mC (k_O_price, (658, 0, 656, 1, 657)) = true := by decide +kernel
theorem x_mc50 : x_mC (k_N_init, (309, 0, 308, 0, 0)) = true := by decide +kernel
theorem x_mc51 : x_mC (k_N_init2, (353, 0, 352, 0, 0)) = true := by decide +kernel
theorem x_mc52 : x_mC (k_N_compared, (578, 0, 576, 1, 577)) = true := by decide +kernel
theorem x_mc53 : x_mC (k_R_init, (248, 0, 247, 0, 0)) = true := by decide +kernel
theorem x_mc54 : x_mC (k_R_readContract, (261, 0, 259, 1, 260)) = true := by decide +kernel
theorem x_mc55 : x_mC (k_R_readGroup, (288, 0, 287, 1, 1)) = true := by decide +kernel
theorem x_mc56 : x_mC (k_R_readItem, (292, 0, 291, 1, 2)) = true := by decide +kernel
theorem x_mc57 : x_mC (k_R_readBit, (296, 0, 295, 1, 3)) = true := by decide +kernel
theorem x_mc58 : x_mC (k_R_readName, (340, 0, 339, 1, 5)) = true := by decide +kernel
theorem x_mc59 : x_mC (k_R_readNumber, (350, 0, 349, 1, 6)) = true := by decide +kernel
theorem x_mc60 : x_mC (k_R_sign, (300, 0, 299, 1, 4)) = true := by decide +kernel
theorem x_mc61 : x_mC (k_R_isName, (343, 1, 342, 0, 0)) = true := by decide +kernel
theorem x_mc62 : x_mC (k_R_isDigit, (346, 1, 345, 0, 0)) = true := by decide +kernel
theorem x_mc63 : x_mC (k_W_init, (67, 0, 66, 0, 0)) = true := by decide +kernel
theorem x_mc64 : x_mC (k_W_clear, (374, 0, 372, 1, 373)) = true := by decide +kernel
theorem x_mc65 : x_mC (k_W_add, (235, 0, 233, 1, 234)) = true := by decide +kernel
theorem x_mc66 : x_mC (k_W_addNumber, (370, 0, 368, 1, 369)) = true := by decide +kernel
theorem x_mc67 : x_mC (k_W_signAt, (304, 0, 302, 1, 303)) = true := by decide +kernel
theorem x_mc68 : x_mC (k_P_init, (473, 0, 472, 0, 0)) = true := by decide +kernel
theorem x_mc69 : x_mC (k_P_hasDay, (555, 0, 553, 1, 554)) = true := by decide +kernel
theorem x_mc70 : x_mC (k_P_length, (647, 0, 645, 1, 646)) = true := by decide +kernel
theorem x_mc71 : x_mC (k_M_init, (684, 0, 683, 0, 0)) = true := by decide +kernel
theorem x_mc72 : x_mC (k_M_thrown, (801, 0, 799, 1, 800)) = true := by decide +kernel
theorem x_mc73 : x_mC (k_M_goes, (812, 0, 811, 1, 19)) = true := by decide +kernel
theorem x_mc74 : x_mC (k_M_within, (808, 1, 807, 0, 0)) = true := by decide +kernel
theorem x_mc75 : x_mC (k_M_isLoan, (903, 0, 902, 1, 31)) = true := by decide +kernel
theorem x_mc76 : x_mC (k_M_isThing, (887, 1, 886, 0, 0)) = true := by decide +kernel
theorem x_mc77 : x_mC (k_M_areDays, (890, 1, 889, 0, 0)) = true := by decide +kernel
theorem x_mc78 : x_mC (k_M_unit, (805, 0, 803, 1, 804)) = true := by decide +kernel
theorem x_mc79 : x_mC (k_M_isDigit, (826, 1, 825, 0, 0)) = true := by decide +kernel
theorem x_mc80 : x_mC (k_M_isName, (823, 1, 822, 0, 0)) = true := by decide +kernel
theorem x_mc81 : x_mC (k_M_fault, (820, 0, 819, 1, 20)) = true := by decide +kernel
theorem x_mc82 : x_mC (k_M_node, (838, 0, 837, 1, 23)) = true := by decide +kernel
theorem x_mc83 : x_mC (k_M_begin, (834, 0, 833, 1, 22)) = true := by decide +kernel
theorem x_mc84 : x_mC (k_M_build, (830, 0, 829, 1, 21)) = true := by decide +kernel
theorem x_mc85 : x_mC (k_M_read, (816, 0, 814, 1, 815)) = true := by decide +kernel
theorem x_mc86 : x_mC (k_M_isContract, (846, 0, 845, 1, 24)) = true := by decide +kernel
theorem x_mc87 : x_mC (k_M_terms, (842, 0, 840, 1, 841)) = true := by decide +kernel
theorem x_mc88 : x_mC (k_M_put, (858, 0, 857, 1, 26)) = true := by decide +kernel
theorem x_mc89 : x_mC (k_M_putNumber, (870, 0, 869, 1, 29)) = true := by decide +kernel
theorem x_mc90 : x_mC (k_M_children, (866, 0, 865, 1, 28)) = true := by decide +kernel
theorem x_mc91 : x_mC (k_M_unfold, (862, 0, 861, 1, 27)) = true := by decide +kernel
theorem x_mc92 : x_mC (k_M_write, (854, 0, 853, 1, 25)) = true := by decide +kernel
theorem x_mc93 : x_mC (k_M_written, (850, 0, 848, 1, 849)) = true := by decide +kernel
theorem x_mc94 : x_mC (k_M_input, (874, 0, 872, 1, 873)) = true := by decide +kernel
theorem x_mc95 : x_mC (k_M_fails, (880, 0, 878, 1, 879)) = true := by decide +kernel
theorem x_mc96 : x_mC (k_M_valueAt, (919, 0, 918, 1, 34)) = true := by decide +kernel
theorem x_mc97 : x_mC (k_M_isOut, (895, 0, 894, 1, 30)) = true := by decide +kernel
theorem x_mc98 : x_mC (k_M_loan, (884, 0, 882, 1, 883)) = true := by decide +kernel
theorem x_mc99 : x_mC (k_M_shield, (899, 0, 897, 1, 898)) = true := by decide +kernel
theorem x_mc100 : x_mC (k_M_leaf, (915, 0, 914, 1, 33)) = true := by decide +kernel
theorem x_mc101 : x_mC (k_M_work, (911, 0, 910, 1, 32)) = true := by decide +kernel
theorem x_mc102 : x_mC (k_M_ask, (907, 0, 905, 1, 906)) = true := by decide +kernel
theorem x_mc103 : x_mC (k_M_open, (923, 0, 921, 1, 922)) = true := by decide +kernel
theorem x_mc104 : x_mC (k_M_told, (927, 0, 925, 1, 926)) = true := by decide +kernel
theorem x_mc105 : x_mC (k_M_extend, (931, 0, 929, 1, 930)) = true := by decide +kernel
theorem x_mc106 : x_mC (k_M_request, (935, 0, 933, 1, 934)) = true := by decide +kernel
theorem x_mc107 : x_mC (k_M_isPair, (943, 0, 942, 1, 35)) = true := by decide +kernel
theorem x_mc108 : x_mC (k_M_clash, (939, 0, 937, 1, 938)) = true := by decide +kernel
theorem x_mc109 : x_mC (k_M_allDays, (951, 0, 950, 1, 36)) = true := by decide +kernel
theorem x_mc110 : x_mC (k_M_days, (947, 0, 945, 1, 946)) = true := by decide +kernel
theorem x_mc111 : x_mC (k_M_allFee, (959, 0, 958, 1, 37)) = true := by decide +kernel
theorem x_mc112 : x_mC (k_M_fee, (955, 0, 953, 1, 954)) = true := by decide +kernel
theorem x_mc113 : x_mC (k_M_writeLetter, (967, 0, 966, 1, 38)) = true := by decide +kernel
theorem x_mc114 : x_mC (k_M_letter, (963, 0, 961, 1, 962)) = true := by decide +kernel
theorem x_mc115 : x_mC (k_M_count, (971, 0, 969, 1, 970)) = true := by decide +kernel
theorem x_m_all : (xMs.zip x_mP).all x_mC = true := by
  show ([(k_L_init, (59, 0, 58, 0, 0)), (k_L_unit, (147, 0, 145, 1, 146)), (k_L_read, (242, 0, 240, 1, 241)), (k_L_terms, (382, 0, 380, 1, 381)), (k_L_written, (409, 0, 407, 1, 408)), (k_L_input, (421, 0, 419, 1, 420)), (k_L_fails, (448, 0, 446, 1, 447)), (k_L_loan, (456, 0, 454, 1, 455)), (k_L_shield, (540, 0, 538, 1, 539)), (k_L_ask, (547, 0, 545, 1, 546)), (k_L_open, (597, 0, 595, 1, 596)), (k_L_told, (605, 0, 603, 1, 604)), (k_L_extend, (613, 0, 611, 1, 612)), (k_L_request, (620, 0, 618, 1, 619)), (k_L_clash, (628, 0, 626, 1, 627)), (k_L_days, (643, 0, 641, 1, 642)), (k_L_fee, (654, 0, 652, 1, 653)), (k_L_letter, (666, 0, 664, 1, 665)), (k_L_count, (674, 0, 672, 1, 673)), (k_L_inputRows, (678, 0, 677, 1, 18)), (k_L_contractOf, (386, 0, 385, 1, 9)), (k_L_inputOf, (425, 0, 424, 1, 10)), (k_L_loanOf, (495, 0, 494, 1, 12)), (k_L_spanAt, (632, 0, 631, 1, 16)), (k_L_numberAt, (636, 0, 635, 1, 17)), (k_L_clashesWithLoan, (491, 0, 490, 1, 11)), (k_L_areClashing, (499, 1, 498, 0, 0)), (k_L_signOrSize, (412, 1, 411, 0, 0)), (k_L_isHour, (430, 1, 429, 0, 0)), (k_L_isDay, (467, 1, 466, 0, 0)), (k_L_refuseNoHour, (550, 1, 549, 0, 0)), (k_L_refuseNoDays, (464, 1, 463, 0, 0)), (k_L_refuseNoThing, (459, 1, 458, 0, 0)), (k_L_stateOf, (563, 0, 562, 1, 13)), (k_L_stateOfGroup, (570, 0, 569, 1, 14)), (k_L_stateOfName, (574, 0, 573, 1, 15)), (k_L_turnedRound, (566, 1, 565, 0, 0)), (k_C_init, (266, 0, 265, 0, 0)), (k_C_add, (357, 0, 355, 1, 356)), (k_C_termAt, (559, 0, 557, 1, 558)), (k_C_write, (361, 0, 360, 1, 7)), (k_C_writeGroup, (366, 0, 365, 1, 8)), (k_I_init, (90, 0, 89, 0, 0)), (k_I_add, (441, 0, 439, 1, 440)), (k_I_lastHour, (435, 0, 433, 1, 434)), (k_I_valueAt, (582, 0, 580, 1, 581)), (k_O_init, (503, 0, 502, 0, 0)), (k_O_forget, (586, 0, 584, 1, 585)), (k_O_tell, (590, 0, 588, 1, 589)), (k_O_price, (658, 0, 656, 1, 657)), (k_N_init, (309, 0, 308, 0, 0)), (k_N_init2, (353, 0, 352, 0, 0)), (k_N_compared, (578, 0, 576, 1, 577)), (k_R_init, (248, 0, 247, 0, 0)), (k_R_readContract, (261, 0, 259, 1, 260)), (k_R_readGroup, (288, 0, 287, 1, 1)), (k_R_readItem, (292, 0, 291, 1, 2)), (k_R_readBit, (296, 0, 295, 1, 3)), (k_R_readName, (340, 0, 339, 1, 5)), (k_R_readNumber, (350, 0, 349, 1, 6)), (k_R_sign, (300, 0, 299, 1, 4)), (k_R_isName, (343, 1, 342, 0, 0)), (k_R_isDigit, (346, 1, 345, 0, 0)), (k_W_init, (67, 0, 66, 0, 0)), (k_W_clear, (374, 0, 372, 1, 373)), (k_W_add, (235, 0, 233, 1, 234)), (k_W_addNumber, (370, 0, 368, 1, 369)), (k_W_signAt, (304, 0, 302, 1, 303)), (k_P_init, (473, 0, 472, 0, 0)), (k_P_hasDay, (555, 0, 553, 1, 554)), (k_P_length, (647, 0, 645, 1, 646)), (k_M_init, (684, 0, 683, 0, 0)), (k_M_thrown, (801, 0, 799, 1, 800)), (k_M_goes, (812, 0, 811, 1, 19)), (k_M_within, (808, 1, 807, 0, 0)), (k_M_isLoan, (903, 0, 902, 1, 31)), (k_M_isThing, (887, 1, 886, 0, 0)), (k_M_areDays, (890, 1, 889, 0, 0)), (k_M_unit, (805, 0, 803, 1, 804)), (k_M_isDigit, (826, 1, 825, 0, 0)), (k_M_isName, (823, 1, 822, 0, 0)), (k_M_fault, (820, 0, 819, 1, 20)), (k_M_node, (838, 0, 837, 1, 23)), (k_M_begin, (834, 0, 833, 1, 22)), (k_M_build, (830, 0, 829, 1, 21)), (k_M_read, (816, 0, 814, 1, 815)), (k_M_isContract, (846, 0, 845, 1, 24)), (k_M_terms, (842, 0, 840, 1, 841)), (k_M_put, (858, 0, 857, 1, 26)), (k_M_putNumber, (870, 0, 869, 1, 29)), (k_M_children, (866, 0, 865, 1, 28)), (k_M_unfold, (862, 0, 861, 1, 27)), (k_M_write, (854, 0, 853, 1, 25)), (k_M_written, (850, 0, 848, 1, 849)), (k_M_input, (874, 0, 872, 1, 873)), (k_M_fails, (880, 0, 878, 1, 879)), (k_M_valueAt, (919, 0, 918, 1, 34)), (k_M_isOut, (895, 0, 894, 1, 30)), (k_M_loan, (884, 0, 882, 1, 883)), (k_M_shield, (899, 0, 897, 1, 898)), (k_M_leaf, (915, 0, 914, 1, 33)), (k_M_work, (911, 0, 910, 1, 32)), (k_M_ask, (907, 0, 905, 1, 906)), (k_M_open, (923, 0, 921, 1, 922)), (k_M_told, (927, 0, 925, 1, 926)), (k_M_extend, (931, 0, 929, 1, 930)), (k_M_request, (935, 0, 933, 1, 934)), (k_M_isPair, (943, 0, 942, 1, 35)), (k_M_clash, (939, 0, 937, 1, 938)), (k_M_allDays, (951, 0, 950, 1, 36)), (k_M_days, (947, 0, 945, 1, 946)), (k_M_allFee, (959, 0, 958, 1, 37)), (k_M_fee, (955, 0, 953, 1, 954)), (k_M_writeLetter, (967, 0, 966, 1, 38)), (k_M_letter, (963, 0, 961, 1, 962)), (k_M_count, (971, 0, 969, 1, 970))] : List (xMt × (Nat × Nat × Nat × Nat × Nat))).all x_mC = true
  simp only [List.all_cons, List.all_nil, Bool.and_true, x_mc0, x_mc1, x_mc2, x_mc3, x_mc4, x_mc5, x_mc6, x_mc7, x_mc8, x_mc9, x_mc10, x_mc11, x_mc12, x_mc13, x_mc14, x_mc15, x_mc16, x_mc17, x_mc18, x_mc19, x_mc20, x_mc21, x_mc22, x_mc23, x_mc24, x_mc25, x_mc26, x_mc27, x_mc28, x_mc29, x_mc30, x_mc31, x_mc32, x_mc33, x_mc34, x_mc35, x_mc36, x_mc37, x_mc38, x_mc39, x_mc40, x_mc41, x_mc42, x_mc43, x_mc44, x_mc45, x_mc46, x_mc47, x_mc48, x_mc49, x_mc50, x_mc51, x_mc52, x_mc53, x_mc54, x_mc55, x_mc56, x_mc57, x_mc58, x_mc59, x_mc60, x_mc61, x_mc62, x_mc63, x_mc64, x_mc65, x_mc66, x_mc67, x_mc68, x_mc69, x_mc70, x_mc71, x_mc72, x_mc73, x_mc74, x_mc75, x_mc76, x_mc77, x_mc78, x_mc79, x_mc80, x_mc81, x_mc82, x_mc83, x_mc84, x_mc85, x_mc86, x_mc87, x_mc88, x_mc89, x_mc90, x_mc91, x_mc92, x_mc93, x_mc94, x_mc95, x_mc96, x_mc97, x_mc98, x_mc99, x_mc100, x_mc101, x_mc102, x_mc103, x_mc104, x_mc105, x_mc106, x_mc107, x_mc108, x_mc109, x_mc110, x_mc111, x_mc112, x_mc113, x_mc114, x_mc115]
theorem x_m_len : xMs.length = x_mP.length := by decide +kernel
/-- what holds of each method -/
def xOk (y : xMt) : Prop := Jvm.Cond.code (xN y) (xC y) (xm y) (xR y) ∈ xTB ∧ (xN y).cls = xCn (xo y) ∧ xm y ≤ 40 ∧ plainName (xN y).cls = true ∧ ((xN y).cls ≠ "java/lang/invoke/MethodHandle" ∧ (xN y).cls ≠ "java/lang/invoke/VarHandle") ∧ (parseMethodDescriptor (xN y).desc).map (fun d => d.parameters.length) = some (xnp y) ∧ Jvm.Cond.initialized (xN y).cls ∈ xTB ∧ y ∈ xMs
theorem x_ini {c : Nat} (h : c < 9) : Jvm.Cond.initialized (xCn c) ∈ xTB := by
  match c, h with
  | 0, _ => exact x_kd0.2.2.2.2.2.2.2
  | 1, _ => exact x_kd1.2.2.2.2.2.2.2
  | 2, _ => exact x_kd2.2.2.2.2.2.2.2
  | 3, _ => exact x_kd3.2.2.2.2.2.2.2
  | 4, _ => exact x_kd4.2.2.2.2.2.2.2
  | 5, _ => exact x_kd5.2.2.2.2.2.2.2
  | 6, _ => exact x_kd6.2.2.2.2.2.2.2
  | 7, _ => exact x_kd7.2.2.2.2.2.2.2
  | 8, _ => exact x_kd8.2.2.2.2.2.2.2
theorem x_mget {i : Nat} {y : xMt} (h : xMs[i]? = some y) : ∃ p, x_mP[i]? = some p ∧ x_mC (y, p) = true := by
  have hl : i < xMs.length := (List.getElem?_eq_some_iff.mp h).1
  have hp : i < x_mP.length := by rw [← x_m_len]; exact hl
  refine ⟨x_mP[i], List.getElem?_eq_getElem hp, ?_⟩
  refine List.all_eq_true.mp x_m_all _ (List.mem_of_getElem? (i := i) ?_)
  rw [List.getElem?_zip_eq_some]
  exact ⟨h, List.getElem?_eq_getElem hp⟩
theorem x_ok {i : Nat} {y : xMt} (h : xMs[i]? = some y) : xOk y := by
  obtain ⟨p, -, hc⟩ := x_mget h
  simp only [x_mC, Bool.and_eq_true, decide_eq_true_eq] at hc
  obtain ⟨⟨⟨⟨⟨⟨⟨⟨h1, h2⟩, h3⟩, h4⟩, h5⟩, h6⟩, h7⟩, h8⟩, h9⟩ := hc
  exact ⟨x_at_in h1 rfl, h4, h5, h6, h7, h8, by rw [h4]; exact x_ini h9, List.mem_of_getElem? h⟩
/-- calls: owner, entry, kind (0 static, 1 virtual, 2 a constructor, 3 Object, 4 a nest mate), method, place -/
def x_caT : List (Nat × Nat × Nat × Nat × Nat) := [(0, 1, 3, 0, 60), (0, 9, 4, 63, 65), (0, 53, 4, 42, 88), (0, 69, 1, 65, 232), (0, 77, 2, 53, 246), (0, 80, 1, 54, 258), (0, 84, 1, 64, 371), (0, 90, 1, 20, 383), (0, 98, 0, 27, 410), (0, 102, 1, 21, 422), (0, 109, 0, 28, 428), (0, 113, 1, 44, 432), (0, 120, 1, 43, 438), (0, 131, 0, 32, 457), (0, 136, 0, 31, 462), (0, 139, 2, 68, 471), (0, 142, 1, 25, 488), (0, 146, 2, 46, 501), (0, 149, 1, 22, 492), (0, 157, 0, 30, 548), (0, 164, 1, 69, 552), (0, 171, 1, 39, 556), (0, 175, 1, 33, 560), (0, 179, 1, 47, 583), (0, 182, 1, 48, 587), (0, 202, 0, 29, 465), (0, 218, 1, 23, 629), (0, 222, 0, 26, 497), (0, 226, 1, 24, 633), (0, 230, 1, 70, 644), (0, 233, 1, 49, 655), (0, 236, 1, 66, 667), (0, 239, 1, 19, 675), (0, 252, 1, 67, 414), (0, 270, 0, 36, 564), (0, 273, 1, 34, 567), (0, 276, 1, 35, 571), (0, 286, 1, 52, 575), (0, 289, 1, 45, 579), (1, 3, 3, 0, 267), (1, 19, 4, 63, 271), (1, 28, 1, 40, 358), (1, 32, 1, 65, 362), (1, 43, 1, 41, 363), (1, 52, 1, 66, 367), (2, 3, 3, 0, 91), (3, 3, 3, 0, 504), (3, 38, 1, 70, 659), (4, 3, 3, 0, 310), (5, 3, 3, 0, 249), (5, 21, 4, 37, 264), (5, 22, 1, 55, 285), (5, 26, 1, 38, 354), (5, 35, 1, 60, 297), (5, 39, 1, 56, 289), (5, 48, 2, 50, 307), (5, 51, 1, 57, 293), (5, 54, 1, 58, 337), (5, 58, 0, 61, 341), (5, 62, 0, 62, 344), (5, 65, 1, 59, 347), (5, 68, 2, 51, 351), (5, 71, 1, 67, 301), (6, 3, 3, 0, 68), (7, 1, 3, 0, 474), (8, 1, 3, 0, 685), (8, 112, 0, 74, 806), (8, 116, 1, 73, 809), (8, 120, 0, 80, 821), (8, 124, 0, 79, 824), (8, 127, 1, 82, 835), (8, 131, 1, 83, 831), (8, 138, 1, 81, 817), (8, 142, 1, 84, 827), (8, 146, 1, 86, 843), (8, 152, 1, 88, 855), (8, 155, 1, 90, 863), (8, 161, 1, 91, 859), (8, 165, 1, 89, 867), (8, 168, 1, 92, 851), (8, 173, 0, 76, 885), (8, 176, 0, 77, 888), (8, 180, 1, 97, 892), (8, 184, 1, 75, 900), (8, 187, 1, 96, 916), (8, 190, 1, 100, 912), (8, 193, 1, 101, 908), (8, 199, 1, 107, 940), (8, 202, 1, 109, 948), (8, 206, 1, 111, 956), (8, 209, 1, 113, 964)]
def x_caC (q : Nat × Nat × Nat × Nat × Nat) : Bool := match xMs[q.2.2.2.1]?, x_mP[q.2.2.2.1]? with
  | some z, some p => if q.2.2.1 = 3 then x_at q.2.2.2.2 (.methodLink (xCn q.1) q.2.1 objectInit) else if q.2.2.1 = 4 then x_at q.2.2.2.2 (.methodLinkNest (xCn q.1) q.2.1 (xN z) "LoanTerms") && decide ((xN z).name = "<init>" ∧ xR z = none ∧ p.2.1 = 0) else x_at q.2.2.2.2 (.methodLink (xCn q.1) q.2.1 (xN z)) && (if q.2.2.1 = 0 then decide (p.2.1 = 1) else if q.2.2.1 = 1 then decide (p.2.1 = 0 ∧ p.2.2.2.1 = 1) else decide (q.2.2.1 = 2 ∧ (xN z).name = "<init>" ∧ xR z = none ∧ p.2.1 = 0))
  | _, _ => false
theorem x_ca_all : x_caT.all x_caC = true := by decide +kernel
def xca (ow k : Nat) : Option (Nat × xMt) := (x_caT.find? fun q => q.1 == ow && q.2.1 == k).bind fun q => (xMs[q.2.2.2.1]?).map fun z => (q.2.2.1, z)
theorem x_ca_get {ow k kd : Nat} {z : xMt} (h : xca ow k = some (kd, z)) : ∃ i p pos, xMs[i]? = some z ∧ x_mP[i]? = some p ∧ x_mC (z, p) = true ∧ x_caC (ow, k, kd, i, pos) = true := by
  unfold xca at h
  obtain ⟨q, hq, h8⟩ := Option.bind_eq_some_iff.mp h
  obtain ⟨z1, hz, h9⟩ := Option.map_eq_some_iff.mp h8
  have h1 := List.all_eq_true.mp x_ca_all q (List.mem_of_find?_eq_some hq)
  have h2 := List.find?_some hq
  simp only [Bool.and_eq_true, beq_iff_eq] at h2
  obtain ⟨p, hp, hm⟩ := x_mget hz
  obtain ⟨q1, q2, q3, q4, q5⟩ := q
  have e1 : q1 = ow := h2.1
  have e2 : q2 = k := h2.2
  have e3 : q3 = kd ∧ z1 = z := by
    have h7 : (q3, z1) = (kd, z) := h9
    exact ⟨congrArg Prod.fst h7, congrArg Prod.snd h7⟩
  rw [← e1, ← e2, ← e3.1, ← e3.2]
  exact ⟨q4, p, q5, hz, hp, hm, h1⟩
theorem x_ca_ok {ow k kd : Nat} {z : xMt} (h : xca ow k = some (kd, z)) (h3 : kd ≠ 3) : xOk z ∧ (kd ≠ 4 → Jvm.Cond.methodLink (xCn ow) k (xN z) ∈ xTB) ∧ (kd = 0 → Jvm.Cond.static (xN z) ∈ xTB) ∧ (kd = 1 → Jvm.Cond.instanceMethod (xN z) ∈ xTB ∧ Jvm.Cond.selects (xN z).cls (xN z) (xN z) ∈ xTB) ∧ (kd = 2 ∨ kd = 4 → (xN z).name = "<init>" ∧ Jvm.Cond.instanceMethod (xN z) ∈ xTB ∧ xR z = none) ∧ (kd = 4 → Jvm.Cond.methodLinkNest (xCn ow) k (xN z) "LoanTerms" ∈ xTB2) := by
  obtain ⟨i, p, pos, hz, hp, hm, hc⟩ := x_ca_get h
  have hok := x_ok hz
  simp only [x_mC, Bool.and_eq_true] at hm
  obtain ⟨⟨⟨⟨⟨⟨⟨⟨-, m2⟩, m3⟩, -⟩, -⟩, -⟩, -⟩, -⟩, -⟩ := hm
  simp only [x_caC, hz, hp, if_neg h3] at hc
  refine ⟨hok, fun h4 => ?_, fun h0 => ?_, fun h1 => ?_, fun h2 => ?_, fun h4 => ?_⟩
  · rw [if_neg h4, Bool.and_eq_true] at hc
    exact x_at_in hc.1 rfl
  · subst h0
    simp only [if_neg (show ¬ (0 : Nat) = 4 by decide), if_pos, Bool.and_eq_true, decide_eq_true_eq] at hc
    rw [if_pos hc.2] at m2
    exact x_at_in m2 rfl
  · subst h1
    simp only [if_neg (show ¬ (1 : Nat) = 4 by decide), if_neg (show ¬ (1 : Nat) = 0 by decide), if_pos, Bool.and_eq_true, decide_eq_true_eq] at hc
    rw [if_neg (by rw [hc.2.1]; decide)] at m2
    rw [if_pos hc.2.2] at m3
    exact ⟨x_at_in m2 rfl, x_at_in m3 rfl⟩
  · rcases h2 with rfl | rfl
    · simp only [if_neg (show ¬ (2 : Nat) = 4 by decide), if_neg (show ¬ (2 : Nat) = 0 by decide), if_neg (show ¬ (2 : Nat) = 1 by decide), Bool.and_eq_true, decide_eq_true_eq] at hc
      rw [if_neg (by rw [hc.2.2.2.2]; decide)] at m2
      exact ⟨hc.2.2.1, x_at_in m2 rfl, hc.2.2.2.1⟩
    · simp only [if_pos, Bool.and_eq_true, decide_eq_true_eq] at hc
      rw [if_neg (by rw [hc.2.2.2]; decide)] at m2
      exact ⟨hc.2.1, x_at_in m2 rfl, hc.2.2.1⟩
  · subst h4
    simp only [if_pos, Bool.and_eq_true] at hc
    exact x_at_in2 hc.1 rfl
theorem x_ca_obj {ow k : Nat} {z : xMt} (h : xca ow k = some (3, z)) : Jvm.Cond.methodLink (xCn ow) k objectInit ∈ xTB ∧ Jvm.Cond.instanceMethod objectInit ∈ xTB ∧ Jvm.Cond.code objectInit ⟨#[0xb1]⟩ 1 none ∈ xTB := by
  obtain ⟨i, p, pos, hz, hp, hm, hc⟩ := x_ca_get h
  simp only [x_caC, hz, hp, if_pos] at hc
  exact ⟨x_at_in hc rfl, x_at_in (i := 61) (by decide +kernel) rfl, x_at_in (i := 62) (by decide +kernel) rfl⟩
def xStr : List (Nat × String × Nat) := [(59, "the pad is full", 189), (66, "no sign", 225), (73, "there are eight contracts", 243), (107, "the input has 60 rows", 427), (118, "hour or value", 437), (123, "hours", 449), (134, "there are 20 loans", 461), (187, "k is below 0", 598), (193, "no such place", 606), (205, "days", 469), (216, "there are 30 requests", 621), (242, "nothing that is counted", 679), (244, "no such contract", 396), (246, "no such input", 426), (248, "no such loan", 496), (250, "no such sign", 413), (257, "no hour", 551), (259, "no such thing", 460)]
def xnames : List String := ["java/lang/RuntimeException", "java/lang/Exception"]
/-- what is thrown: its name, entries of its constructor and of its kind, places -/
def x_thT : List (String × Nat × Nat × Nat × Nat) := [("java/lang/IllegalArgumentException", 68, 64, 216, 48), ("java/lang/IllegalStateException", 61, 57, 148, 47), ("java/lang/IndexOutOfBoundsException", 189, 185, 387, 52)]
def x_thW (w : Jvm.Cond) : Bool := (goodWord w && decide (w ∈ lw_tbl)) || (xk w && decide (w ∈ lw_tbl))
def x_thC (q : String × Nat × Nat × Nat × Nat) : Bool := Bundle.fit q.1 && x_at q.2.2.2.1 (.classLink "LoanTerms" q.2.2.1 q.1) && x_at q.2.2.2.2 (.initialized q.1) && (vx_atS "LoanTerms" q.2.1 q.1 xnames).all x_thW && (Jvm.Cond.classLink "LoanTerms" q.2.2.1 q.1 :: Jvm.Cond.initialized q.1 :: vx_atS "LoanTerms" q.2.1 q.1 xnames).all vx_ot
theorem x_th0 : (x_thT[0]?).map x_thC = some true := by decide +kernel
theorem x_th1 : (x_thT[1]?).map x_thC = some true := by decide +kernel
theorem x_th2 : (x_thT[2]?).map x_thC = some true := by decide +kernel
theorem x_th_all : ∀ q ∈ x_thT, x_thC q = true := by
  intro q hq
  obtain ⟨i, hi⟩ := List.getElem?_of_mem hq
  match i, hi with
  | 0, hi => have h := x_th0; rw [hi] at h; exact Option.some.inj h
  | 1, hi => have h := x_th1; rw [hi] at h; exact Option.some.inj h
  | 2, hi => have h := x_th2; rw [hi] at h; exact Option.some.inj h
  | i + 3, hi => simp [x_thT] at hi
/-- a place of a throw: its five instructions -/
def x_tsC (y : xMt) (q : xTs) : Bool := decide ((xN y).cls = "LoanTerms") && decide (decode (xC y) q.1 = .ok (.new q.2.2.1, 3)) && decide (decode (xC y) (q.1 + 3) = .ok (.dup, 1)) && (if q.2.2.2.2.2.2 = true then decide (decode (xC y) (q.1 + 4) = .ok (.ldc_w q.2.2.2.1, 3)) && decide (decode (xC y) (q.1 + 7) = .ok (.invokespecial q.2.2.2.2.1, 3)) && decide (decode (xC y) (q.1 + 10) = .ok (.athrow, 1)) else decide (decode (xC y) (q.1 + 4) = .ok (.ldc q.2.2.2.1, 2)) && decide (decode (xC y) (q.1 + 6) = .ok (.invokespecial q.2.2.2.2.1, 3)) && decide (decode (xC y) (q.1 + 9) = .ok (.athrow, 1))) && (x_thT.any fun t => decide (t.1 = q.2.1 ∧ t.2.1 = q.2.2.2.2.1 ∧ t.2.2.1 = q.2.2.1)) && (xStr.any fun t => decide (t.1 = q.2.2.2.1 ∧ t.2.1 = q.2.2.2.2.2.1))
theorem x_ts_all : xMs.all (fun y => (xtl y).all (x_tsC y)) = true := by decide +kernel
end
section
theorem x_dummy : True := trivial
end
