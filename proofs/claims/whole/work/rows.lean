section
-- ===== PART A: goes FIRST, ahead of the names: the tables' words, and 'selects' of the private methods out of them =====
/-- a method of its own that the tables say can be made, by its rows of tables_1 -/
def lw_okq (q : MethodName × Nat) : Prop := (q.1.cls ≠ "java/lang/invoke/MethodHandle" ∧ q.1.cls ≠ "java/lang/invoke/VarHandle") ∧ Cond.instantiable q.1.cls q.2 ∈ tables_1 ∧ Cond.privateMethod q.1 ∈ tables_1 ∧ Cond.instanceMethod q.1 ∈ tables_1
theorem lw_p0 : lw_okq (⟨"java/lang/Throwable", "fillInStackTrace", "(I)Ljava/lang/Throwable;"⟩, 6) := ⟨⟨by decide +kernel, by decide +kernel⟩, List.mem_of_getElem? (i := 148) (by decide +kernel), List.mem_of_getElem? (i := 146) (by decide +kernel), List.mem_of_getElem? (i := 147) (by decide +kernel)⟩
theorem lw_p1 : lw_okq (⟨"LoanTerms$Reader", "readGroup", "(II)LLoanTerms$Node;"⟩, 2) := ⟨⟨by decide +kernel, by decide +kernel⟩, List.mem_of_getElem? (i := 206) (by decide +kernel), List.mem_of_getElem? (i := 247) (by decide +kernel), List.mem_of_getElem? (i := 248) (by decide +kernel)⟩
theorem lw_p2 : lw_okq (⟨"LoanTerms$Reader", "readItem", "(II)LLoanTerms$Node;"⟩, 2) := ⟨⟨by decide +kernel, by decide +kernel⟩, List.mem_of_getElem? (i := 206) (by decide +kernel), List.mem_of_getElem? (i := 251) (by decide +kernel), List.mem_of_getElem? (i := 252) (by decide +kernel)⟩
theorem lw_p3 : lw_okq (⟨"LoanTerms$Reader", "readBit", "(II)LLoanTerms$Node;"⟩, 2) := ⟨⟨by decide +kernel, by decide +kernel⟩, List.mem_of_getElem? (i := 206) (by decide +kernel), List.mem_of_getElem? (i := 255) (by decide +kernel), List.mem_of_getElem? (i := 256) (by decide +kernel)⟩
theorem lw_p4 : lw_okq (⟨"LoanTerms$Reader", "sign", "()I"⟩, 2) := ⟨⟨by decide +kernel, by decide +kernel⟩, List.mem_of_getElem? (i := 206) (by decide +kernel), List.mem_of_getElem? (i := 259) (by decide +kernel), List.mem_of_getElem? (i := 260) (by decide +kernel)⟩
theorem lw_p5 : lw_okq (⟨"LoanTerms$Reader", "readName", "()LLoanTerms$Node;"⟩, 2) := ⟨⟨by decide +kernel, by decide +kernel⟩, List.mem_of_getElem? (i := 206) (by decide +kernel), List.mem_of_getElem? (i := 299) (by decide +kernel), List.mem_of_getElem? (i := 300) (by decide +kernel)⟩
theorem lw_p6 : lw_okq (⟨"LoanTerms$Reader", "readNumber", "()I"⟩, 2) := ⟨⟨by decide +kernel, by decide +kernel⟩, List.mem_of_getElem? (i := 206) (by decide +kernel), List.mem_of_getElem? (i := 309) (by decide +kernel), List.mem_of_getElem? (i := 310) (by decide +kernel)⟩
theorem lw_p7 : lw_okq (⟨"LoanTerms$Contract", "write", "(LLoanTerms$Node;I)V"⟩, 3) := ⟨⟨by decide +kernel, by decide +kernel⟩, List.mem_of_getElem? (i := 224) (by decide +kernel), List.mem_of_getElem? (i := 320) (by decide +kernel), List.mem_of_getElem? (i := 321) (by decide +kernel)⟩
theorem lw_p8 : lw_okq (⟨"LoanTerms$Contract", "writeGroup", "(LLoanTerms$Node;I)V"⟩, 3) := ⟨⟨by decide +kernel, by decide +kernel⟩, List.mem_of_getElem? (i := 224) (by decide +kernel), List.mem_of_getElem? (i := 325) (by decide +kernel), List.mem_of_getElem? (i := 326) (by decide +kernel)⟩
theorem lw_p9 : lw_okq (⟨"LoanTerms", "contractOf", "(I)LLoanTerms$Contract;"⟩, 9) := ⟨⟨by decide +kernel, by decide +kernel⟩, List.mem_of_getElem? (i := 17) (by decide +kernel), List.mem_of_getElem? (i := 345) (by decide +kernel), List.mem_of_getElem? (i := 346) (by decide +kernel)⟩
theorem lw_p10 : lw_okq (⟨"LoanTerms", "inputOf", "(I)LLoanTerms$Input;"⟩, 9) := ⟨⟨by decide +kernel, by decide +kernel⟩, List.mem_of_getElem? (i := 17) (by decide +kernel), List.mem_of_getElem? (i := 384) (by decide +kernel), List.mem_of_getElem? (i := 385) (by decide +kernel)⟩
theorem lw_p11 : lw_okq (⟨"LoanTerms", "clashesWithLoan", "(LLoanTerms$Span;I)Z"⟩, 9) := ⟨⟨by decide +kernel, by decide +kernel⟩, List.mem_of_getElem? (i := 17) (by decide +kernel), List.mem_of_getElem? (i := 450) (by decide +kernel), List.mem_of_getElem? (i := 451) (by decide +kernel)⟩
theorem lw_p12 : lw_okq (⟨"LoanTerms", "loanOf", "(I)LLoanTerms$Loan;"⟩, 9) := ⟨⟨by decide +kernel, by decide +kernel⟩, List.mem_of_getElem? (i := 17) (by decide +kernel), List.mem_of_getElem? (i := 454) (by decide +kernel), List.mem_of_getElem? (i := 455) (by decide +kernel)⟩
theorem lw_p13 : lw_okq (⟨"LoanTerms", "stateOf", "(LLoanTerms$Node;LLoanTerms$Loan;II)I"⟩, 9) := ⟨⟨by decide +kernel, by decide +kernel⟩, List.mem_of_getElem? (i := 17) (by decide +kernel), List.mem_of_getElem? (i := 522) (by decide +kernel), List.mem_of_getElem? (i := 523) (by decide +kernel)⟩
theorem lw_p14 : lw_okq (⟨"LoanTerms", "stateOfGroup", "(LLoanTerms$Node;LLoanTerms$Loan;II)I"⟩, 9) := ⟨⟨by decide +kernel, by decide +kernel⟩, List.mem_of_getElem? (i := 17) (by decide +kernel), List.mem_of_getElem? (i := 529) (by decide +kernel), List.mem_of_getElem? (i := 530) (by decide +kernel)⟩
theorem lw_p15 : lw_okq (⟨"LoanTerms", "stateOfName", "(LLoanTerms$Node;LLoanTerms$Loan;I)I"⟩, 9) := ⟨⟨by decide +kernel, by decide +kernel⟩, List.mem_of_getElem? (i := 17) (by decide +kernel), List.mem_of_getElem? (i := 533) (by decide +kernel), List.mem_of_getElem? (i := 534) (by decide +kernel)⟩
def lw_privs_1 : List (MethodName × Nat) := [(⟨"java/lang/Throwable", "fillInStackTrace", "(I)Ljava/lang/Throwable;"⟩, 6), (⟨"LoanTerms$Reader", "readGroup", "(II)LLoanTerms$Node;"⟩, 2), (⟨"LoanTerms$Reader", "readItem", "(II)LLoanTerms$Node;"⟩, 2), (⟨"LoanTerms$Reader", "readBit", "(II)LLoanTerms$Node;"⟩, 2), (⟨"LoanTerms$Reader", "sign", "()I"⟩, 2), (⟨"LoanTerms$Reader", "readName", "()LLoanTerms$Node;"⟩, 2), (⟨"LoanTerms$Reader", "readNumber", "()I"⟩, 2), (⟨"LoanTerms$Contract", "write", "(LLoanTerms$Node;I)V"⟩, 3), (⟨"LoanTerms$Contract", "writeGroup", "(LLoanTerms$Node;I)V"⟩, 3), (⟨"LoanTerms", "contractOf", "(I)LLoanTerms$Contract;"⟩, 9), (⟨"LoanTerms", "inputOf", "(I)LLoanTerms$Input;"⟩, 9), (⟨"LoanTerms", "clashesWithLoan", "(LLoanTerms$Span;I)Z"⟩, 9), (⟨"LoanTerms", "loanOf", "(I)LLoanTerms$Loan;"⟩, 9), (⟨"LoanTerms", "stateOf", "(LLoanTerms$Node;LLoanTerms$Loan;II)I"⟩, 9), (⟨"LoanTerms", "stateOfGroup", "(LLoanTerms$Node;LLoanTerms$Loan;II)I"⟩, 9), (⟨"LoanTerms", "stateOfName", "(LLoanTerms$Node;LLoanTerms$Loan;I)I"⟩, 9)]
theorem lw_r1 : ∀ q ∈ lw_privs_1, lw_okq q := List.forall_mem_cons.mpr ⟨lw_p0, List.forall_mem_cons.mpr ⟨lw_p1, List.forall_mem_cons.mpr ⟨lw_p2, List.forall_mem_cons.mpr ⟨lw_p3, List.forall_mem_cons.mpr ⟨lw_p4, List.forall_mem_cons.mpr ⟨lw_p5, List.forall_mem_cons.mpr ⟨lw_p6, List.forall_mem_cons.mpr ⟨lw_p7, List.forall_mem_cons.mpr ⟨lw_p8, List.forall_mem_cons.mpr ⟨lw_p9, List.forall_mem_cons.mpr ⟨lw_p10, List.forall_mem_cons.mpr ⟨lw_p11, List.forall_mem_cons.mpr ⟨lw_p12, List.forall_mem_cons.mpr ⟨lw_p13, List.forall_mem_cons.mpr ⟨lw_p14, List.forall_mem_cons.mpr ⟨lw_p15, fun _ h => absurd h List.not_mem_nil⟩⟩⟩⟩⟩⟩⟩⟩⟩⟩⟩⟩⟩⟩⟩⟩
theorem lw_p16 : lw_okq (⟨"LoanTerms", "spanAt", "(I)LLoanTerms$Span;"⟩, 9) := ⟨⟨by decide +kernel, by decide +kernel⟩, List.mem_of_getElem? (i := 17) (by decide +kernel), List.mem_of_getElem? (i := 591) (by decide +kernel), List.mem_of_getElem? (i := 592) (by decide +kernel)⟩
theorem lw_p17 : lw_okq (⟨"LoanTerms", "numberAt", "(I)I"⟩, 9) := ⟨⟨by decide +kernel, by decide +kernel⟩, List.mem_of_getElem? (i := 17) (by decide +kernel), List.mem_of_getElem? (i := 595) (by decide +kernel), List.mem_of_getElem? (i := 596) (by decide +kernel)⟩
theorem lw_p18 : lw_okq (⟨"LoanTerms", "inputRows", "()I"⟩, 9) := ⟨⟨by decide +kernel, by decide +kernel⟩, List.mem_of_getElem? (i := 17) (by decide +kernel), List.mem_of_getElem? (i := 637) (by decide +kernel), List.mem_of_getElem? (i := 638) (by decide +kernel)⟩
theorem lw_p19 : lw_okq (⟨"LoanTermsModel", "goes", "(ZZZ)Z"⟩, 37) := ⟨⟨by decide +kernel, by decide +kernel⟩, List.mem_of_getElem? (i := 642) (by decide +kernel), List.mem_of_getElem? (i := 771) (by decide +kernel), List.mem_of_getElem? (i := 772) (by decide +kernel)⟩
theorem lw_p20 : lw_okq (⟨"LoanTermsModel", "fault", "()I"⟩, 37) := ⟨⟨by decide +kernel, by decide +kernel⟩, List.mem_of_getElem? (i := 642) (by decide +kernel), List.mem_of_getElem? (i := 779) (by decide +kernel), List.mem_of_getElem? (i := 780) (by decide +kernel)⟩
theorem lw_p21 : lw_okq (⟨"LoanTermsModel", "build", "(I)V"⟩, 37) := ⟨⟨by decide +kernel, by decide +kernel⟩, List.mem_of_getElem? (i := 642) (by decide +kernel), List.mem_of_getElem? (i := 789) (by decide +kernel), List.mem_of_getElem? (i := 790) (by decide +kernel)⟩
theorem lw_p22 : lw_okq (⟨"LoanTermsModel", "begin", "(II)I"⟩, 37) := ⟨⟨by decide +kernel, by decide +kernel⟩, List.mem_of_getElem? (i := 642) (by decide +kernel), List.mem_of_getElem? (i := 793) (by decide +kernel), List.mem_of_getElem? (i := 794) (by decide +kernel)⟩
theorem lw_p23 : lw_okq (⟨"LoanTermsModel", "node", "(III)I"⟩, 37) := ⟨⟨by decide +kernel, by decide +kernel⟩, List.mem_of_getElem? (i := 642) (by decide +kernel), List.mem_of_getElem? (i := 797) (by decide +kernel), List.mem_of_getElem? (i := 798) (by decide +kernel)⟩
theorem lw_p24 : lw_okq (⟨"LoanTermsModel", "isContract", "(I)Z"⟩, 37) := ⟨⟨by decide +kernel, by decide +kernel⟩, List.mem_of_getElem? (i := 642) (by decide +kernel), List.mem_of_getElem? (i := 805) (by decide +kernel), List.mem_of_getElem? (i := 806) (by decide +kernel)⟩
theorem lw_p25 : lw_okq (⟨"LoanTermsModel", "write", "(I)V"⟩, 37) := ⟨⟨by decide +kernel, by decide +kernel⟩, List.mem_of_getElem? (i := 642) (by decide +kernel), List.mem_of_getElem? (i := 813) (by decide +kernel), List.mem_of_getElem? (i := 814) (by decide +kernel)⟩
theorem lw_p26 : lw_okq (⟨"LoanTermsModel", "put", "(I)V"⟩, 37) := ⟨⟨by decide +kernel, by decide +kernel⟩, List.mem_of_getElem? (i := 642) (by decide +kernel), List.mem_of_getElem? (i := 817) (by decide +kernel), List.mem_of_getElem? (i := 818) (by decide +kernel)⟩
theorem lw_p27 : lw_okq (⟨"LoanTermsModel", "unfold", "(II)V"⟩, 37) := ⟨⟨by decide +kernel, by decide +kernel⟩, List.mem_of_getElem? (i := 642) (by decide +kernel), List.mem_of_getElem? (i := 821) (by decide +kernel), List.mem_of_getElem? (i := 822) (by decide +kernel)⟩
theorem lw_p28 : lw_okq (⟨"LoanTermsModel", "children", "(II)I"⟩, 37) := ⟨⟨by decide +kernel, by decide +kernel⟩, List.mem_of_getElem? (i := 642) (by decide +kernel), List.mem_of_getElem? (i := 825) (by decide +kernel), List.mem_of_getElem? (i := 826) (by decide +kernel)⟩
theorem lw_p29 : lw_okq (⟨"LoanTermsModel", "putNumber", "(I)V"⟩, 37) := ⟨⟨by decide +kernel, by decide +kernel⟩, List.mem_of_getElem? (i := 642) (by decide +kernel), List.mem_of_getElem? (i := 829) (by decide +kernel), List.mem_of_getElem? (i := 830) (by decide +kernel)⟩
theorem lw_p30 : lw_okq (⟨"LoanTermsModel", "isOut", "(IIII)Z"⟩, 37) := ⟨⟨by decide +kernel, by decide +kernel⟩, List.mem_of_getElem? (i := 642) (by decide +kernel), List.mem_of_getElem? (i := 854) (by decide +kernel), List.mem_of_getElem? (i := 855) (by decide +kernel)⟩
theorem lw_p31 : lw_okq (⟨"LoanTermsModel", "isLoan", "(I)Z"⟩, 37) := ⟨⟨by decide +kernel, by decide +kernel⟩, List.mem_of_getElem? (i := 642) (by decide +kernel), List.mem_of_getElem? (i := 862) (by decide +kernel), List.mem_of_getElem? (i := 863) (by decide +kernel)⟩
def lw_privs_2 : List (MethodName × Nat) := [(⟨"LoanTerms", "spanAt", "(I)LLoanTerms$Span;"⟩, 9), (⟨"LoanTerms", "numberAt", "(I)I"⟩, 9), (⟨"LoanTerms", "inputRows", "()I"⟩, 9), (⟨"LoanTermsModel", "goes", "(ZZZ)Z"⟩, 37), (⟨"LoanTermsModel", "fault", "()I"⟩, 37), (⟨"LoanTermsModel", "build", "(I)V"⟩, 37), (⟨"LoanTermsModel", "begin", "(II)I"⟩, 37), (⟨"LoanTermsModel", "node", "(III)I"⟩, 37), (⟨"LoanTermsModel", "isContract", "(I)Z"⟩, 37), (⟨"LoanTermsModel", "write", "(I)V"⟩, 37), (⟨"LoanTermsModel", "put", "(I)V"⟩, 37), (⟨"LoanTermsModel", "unfold", "(II)V"⟩, 37), (⟨"LoanTermsModel", "children", "(II)I"⟩, 37), (⟨"LoanTermsModel", "putNumber", "(I)V"⟩, 37), (⟨"LoanTermsModel", "isOut", "(IIII)Z"⟩, 37), (⟨"LoanTermsModel", "isLoan", "(I)Z"⟩, 37)]
theorem lw_r2 : ∀ q ∈ lw_privs_2, lw_okq q := List.forall_mem_cons.mpr ⟨lw_p16, List.forall_mem_cons.mpr ⟨lw_p17, List.forall_mem_cons.mpr ⟨lw_p18, List.forall_mem_cons.mpr ⟨lw_p19, List.forall_mem_cons.mpr ⟨lw_p20, List.forall_mem_cons.mpr ⟨lw_p21, List.forall_mem_cons.mpr ⟨lw_p22, List.forall_mem_cons.mpr ⟨lw_p23, List.forall_mem_cons.mpr ⟨lw_p24, List.forall_mem_cons.mpr ⟨lw_p25, List.forall_mem_cons.mpr ⟨lw_p26, List.forall_mem_cons.mpr ⟨lw_p27, List.forall_mem_cons.mpr ⟨lw_p28, List.forall_mem_cons.mpr ⟨lw_p29, List.forall_mem_cons.mpr ⟨lw_p30, List.forall_mem_cons.mpr ⟨lw_p31, fun _ h => absurd h List.not_mem_nil⟩⟩⟩⟩⟩⟩⟩⟩⟩⟩⟩⟩⟩⟩⟩⟩
theorem lw_p32 : lw_okq (⟨"LoanTermsModel", "work", "(II)V"⟩, 37) := ⟨⟨by decide +kernel, by decide +kernel⟩, List.mem_of_getElem? (i := 642) (by decide +kernel), List.mem_of_getElem? (i := 870) (by decide +kernel), List.mem_of_getElem? (i := 871) (by decide +kernel)⟩
theorem lw_p33 : lw_okq (⟨"LoanTermsModel", "leaf", "(III)I"⟩, 37) := ⟨⟨by decide +kernel, by decide +kernel⟩, List.mem_of_getElem? (i := 642) (by decide +kernel), List.mem_of_getElem? (i := 874) (by decide +kernel), List.mem_of_getElem? (i := 875) (by decide +kernel)⟩
theorem lw_p34 : lw_okq (⟨"LoanTermsModel", "valueAt", "(II)I"⟩, 37) := ⟨⟨by decide +kernel, by decide +kernel⟩, List.mem_of_getElem? (i := 642) (by decide +kernel), List.mem_of_getElem? (i := 878) (by decide +kernel), List.mem_of_getElem? (i := 879) (by decide +kernel)⟩
theorem lw_p35 : lw_okq (⟨"LoanTermsModel", "isPair", "(II)Z"⟩, 37) := ⟨⟨by decide +kernel, by decide +kernel⟩, List.mem_of_getElem? (i := 642) (by decide +kernel), List.mem_of_getElem? (i := 902) (by decide +kernel), List.mem_of_getElem? (i := 903) (by decide +kernel)⟩
theorem lw_p36 : lw_okq (⟨"LoanTermsModel", "allDays", "(I)I"⟩, 37) := ⟨⟨by decide +kernel, by decide +kernel⟩, List.mem_of_getElem? (i := 642) (by decide +kernel), List.mem_of_getElem? (i := 910) (by decide +kernel), List.mem_of_getElem? (i := 911) (by decide +kernel)⟩
theorem lw_p37 : lw_okq (⟨"LoanTermsModel", "allFee", "(I)I"⟩, 37) := ⟨⟨by decide +kernel, by decide +kernel⟩, List.mem_of_getElem? (i := 642) (by decide +kernel), List.mem_of_getElem? (i := 918) (by decide +kernel), List.mem_of_getElem? (i := 919) (by decide +kernel)⟩
theorem lw_p38 : lw_okq (⟨"LoanTermsModel", "writeLetter", "(I)V"⟩, 37) := ⟨⟨by decide +kernel, by decide +kernel⟩, List.mem_of_getElem? (i := 642) (by decide +kernel), List.mem_of_getElem? (i := 926) (by decide +kernel), List.mem_of_getElem? (i := 927) (by decide +kernel)⟩
def lw_privs_3 : List (MethodName × Nat) := [(⟨"LoanTermsModel", "work", "(II)V"⟩, 37), (⟨"LoanTermsModel", "leaf", "(III)I"⟩, 37), (⟨"LoanTermsModel", "valueAt", "(II)I"⟩, 37), (⟨"LoanTermsModel", "isPair", "(II)Z"⟩, 37), (⟨"LoanTermsModel", "allDays", "(I)I"⟩, 37), (⟨"LoanTermsModel", "allFee", "(I)I"⟩, 37), (⟨"LoanTermsModel", "writeLetter", "(I)V"⟩, 37)]
theorem lw_r3 : ∀ q ∈ lw_privs_3, lw_okq q := List.forall_mem_cons.mpr ⟨lw_p32, List.forall_mem_cons.mpr ⟨lw_p33, List.forall_mem_cons.mpr ⟨lw_p34, List.forall_mem_cons.mpr ⟨lw_p35, List.forall_mem_cons.mpr ⟨lw_p36, List.forall_mem_cons.mpr ⟨lw_p37, List.forall_mem_cons.mpr ⟨lw_p38, fun _ h => absurd h List.not_mem_nil⟩⟩⟩⟩⟩⟩⟩
def lw_privs : List (MethodName × Nat) := lw_privs_1 ++ (lw_privs_2 ++ (lw_privs_3))
def lw_tbl : List Cond := k2_sels lw_privs ++ tables_1
theorem lw_privs_ok : ∀ q ∈ lw_privs, lw_okq q := by
  show ∀ q ∈ lw_privs_1 ++ (lw_privs_2 ++ (lw_privs_3)), lw_okq q
  exact List.forall_mem_append.mpr ⟨lw_r1, List.forall_mem_append.mpr ⟨lw_r2, lw_r3⟩⟩
end
section
/-! ===== BEGIN words of one list among another's, by their places ===== -/
theorem goodIn_r {big : List Cond} (ws : List Cond) (ps : List Nat) (hp : ws = ps.filterMap (fun i => big[i]?)) (h : ws.all goodWord = true) : GoodIn big ws := by
  intro w hw
  have h1 := List.all_eq_true.mp h w hw
  rw [hp] at hw
  obtain ⟨i, -, hi⟩ := List.mem_filterMap.mp hw
  have hm : w ∈ big := by first | exact List.mem_of_getElem? hi | exact List.getElem?_mem hi
  exact ⟨hm, good_of_word h1⟩
theorem goodIn_app {big a b : List Cond} (ha : GoodIn big a) (hb : GoodIn big b) : GoodIn big (a ++ b) := fun w h => (List.mem_append.mp h).elim (ha w) (hb w)
theorem goodIn_ca {big a b : List Cond} {c : Cond} (ha : GoodIn big (c :: a)) (hb : GoodIn big b) : GoodIn big (c :: (a ++ b)) := fun w h => (List.mem_cons.mp h).elim (fun e => ha w (List.mem_cons.mpr (Or.inl e))) (fun h => (List.mem_append.mp h).elim (fun h => ha w (List.mem_cons.mpr (Or.inr h))) (hb w))
theorem goodIn_sub {big ws : List Cond} (hm : ∀ w ∈ ws, w ∈ big) (h : ws.all goodWord = true) : GoodIn big ws := fun w hw => ⟨hm w hw, good_of_word (List.all_eq_true.mp h w hw)⟩
/-! ===== END ===== -/

/-! ===== BEGIN exceptions that leave a method, and their catching by the caller (launches without stack traces) ===== -/
section VXA
/-! The laws vx_back, vx_callV, vx_callS, vx_callSW, vx_throw0, vx_throwS follow proofs of the library, with one case more: JvmDerived/Free/Laws.lean (Back.of_free), Shelf42/LK1.lean (callV, callS), Shelf/KitTraced.lean (throwNew0V, throwNewS). -/
/-- where a method has thrown q: the class by its name, the cell, what was written, the world -/
def vx_T (XC : String → State → State → Prop) (st : State) (q : Addr) (t : State) (mc ms : Nat) (free : Addr → Prop) : Prop :=
  ∃ (E : String) (ce : Cell) (L : List Loc), XC E st t ∧ t.heap[q]? = some ce ∧ ce.vm = .none ∧ st.vm.findClass E = some ce.cls ∧ st.WarmedH t.vm ∧ st.sameButNew ({ t with vm := st.vm } : State) L mc ms ∧ ∀ z ∈ L, free z.base
def vx_Q (Qc : Array Value → State → Outcome → State → Prop) (XC : String → State → State → Prop) (mc ms : Nat) (free : Addr → Prop) : Array Value → State → Outcome → State → Prop := fun a st o t =>
  (Qc a st o t ∧ ∃ L, FrameEnd st o t L mc ms ∧ ∀ q ∈ L, free q.base) ∨ ∃ q, o = .threw q ∧ vx_T XC st q t mc ms free
/-- a callee that returns or throws -/
def vx_Met (l : Launch) (y : MethodName) (ws : List Cond) (rm : Room) (Pc : Array Value → State → Prop) (Qc : Array Value → State → Outcome → State → Prop) (XC : String → State → State → Prop) (mc ms : Nat) (free : Addr → Prop) : Prop :=
  MetFree l y (headSpec ws rm) Pc (fun _ _ _ _ _ => True) (vx_Q Qc XC mc ms free)
def vx_Post (XC : String → State → State → Prop) (mc ms : Nat) (free : Addr → Prop) : Pt → Array Value → Addr → Pt → Prop := fun A a q B =>
  ∃ (g : JFrame) (mk : MethodId) (t : State) (L : List Loc) (E : String) (ce : Cell), B.U.heap = t.heap ∧ B.U.vm = t.vm ∧ XC E (A.U.calling g mk a) t ∧ t.heap[q]? = some ce ∧ ce.vm = .none ∧ A.U.vm.findClass E = some ce.cls ∧ B.locs = A.locs ++ L ∧ (∀ z ∈ L, free z.base) ∧ B.cells = A.cells + mc ∧ B.slots = A.slots + ms
def vx_Back (l : Launch) (R : Room) (p : Program) (e : Env) (below : List Frame) (s : State) (sargs : Array Value) (y : MethodName) (len W9 : Nat)
    (Pre : Pt → Array Value → Prop) (Post : Pt → Array Value → Option Value → Pt → Prop) (PostX : Pt → Array Value → Addr → Pt → Prop) : Prop :=
  ∀ (m : MethodId) (meth : Method) (c : Code) (A : Pt) (g : JFrame) (ig : Instr) (mk : MethodId) (a : Array Value),
    Stand p l e R s m sargs below meth c A.U A.locs A.cells A.slots → g.method = m → g.locals.size = c.maxLocals → decode c.code g.pc = .ok (ig, len) →
    2 * g.monitorRoom + (g.stack.map fun v => v.category).sum ≤ W9 → A.U.methodNamed? y = some mk → Pre A a →
    (∃ (v : Option Value) (B : Pt), Stand p l e R s m sargs below meth c B.U B.locs B.cells B.slots ∧ Post A a v B ∧
      Steps p.tables e below (doInvoke e (A.U.setTop g) [] mk a).1 (B.U.setTop { g with pc := g.pc + len, stack := v.toList ++ g.stack })) ∨
    (∃ (q : Addr) (B : Pt), Stand p l e R s m sargs below meth c B.U B.locs B.cells B.slots ∧ PostX A a q B ∧
      Steps p.tables e below (doInvoke e (A.U.setTop g) [] mk a).1 ((B.U.setTop g).pushFrame (.throwing q)))
section Payer
variable {l : Launch} {R : Room} {p : Program} {e : Env} {below : List Frame} {s : State} {sargs : Array Value} {y : MethodName} {len W9 : Nat}
theorem vx_back {ws : List Cond} {rm : Room} {Pc : Array Value → State → Prop} {Qc : Array Value → State → Outcome → State → Prop} {XC : String → State → State → Prop} {mc ms : Nat} {free : Addr → Prop} {bytes : ByteArray} {maxL : Nat} {ret : Option FieldType}
    (hM : vx_Met l y ws rm Pc Qc XC mc ms free) (hblind : FrameBlind Pc) (hrc : rm.cells = mc) (hrs : rm.slots = ms)
    (hframes : rm.frames + 1 ≤ R.frames) (hlocals : W9 + (maxL + 11) + rm.locals ≤ R.locals)
    (hws : ∀ w ∈ ws, ∀ a' U, s.WarmedH U.vm → w.before a' U = true) (hcode : Cond.code y bytes maxL ret ∈ ws) (hinit : ∀ a' U, s.WarmedH U.vm → (Cond.initialized y.cls).before a' U = true) :
    vx_Back l R p e below s sargs y len W9 (PreOf R mc ms Pc) (PostOf Qc mc ms free) (vx_Post XC mc ms free) := by
  intro m meth c A g ig mk a X hg hsize hdg hW hn hp
  have h1 : (headSpec ws rm).pre.before a A.U = true := atoms_intro fun w hw => hws w hw _ _ X.warmed
  have h2 : (Cond.code y bytes maxL ret).before a A.U = true := hws _ hcode _ _ X.warmed
  have h3 : (Cond.initialized y.cls).before a A.U = true := hinit _ _ X.warmed
  have h4 : A.cells + (headSpec ws rm).room.cells ≤ R.cells := by rw [show (headSpec ws rm).room.cells = mc from hrc]; exact hp.1
  have h5 : A.slots + (headSpec ws rm).room.slots ≤ R.slots := by rw [show (headSpec ws rm).room.slots = ms from hrs]; exact hp.2.1
  have hPc : Pc a (A.U.calling g mk a) := hblind _ _ _ _ hp.2.2
  obtain ⟨U, Ls, c0, s0⟩ := A
  dsimp only [Pt.U, Pt.locs, Pt.cells, Pt.slots] at h1 h2 h3 h4 h5 X hn hPc ⊢
  obtain ⟨methY, cY, hmY, hcY, -, hlY, -, -, -, -⟩ := Cond.code_spec hn h2
  obtain ⟨kY, hkY, -⟩ := className_of_methodNamed hn
  have hinitY : kY.init = .initialized := Cond.initialized_spec (findClass_of_methodNamed hn) hkY h3
  have h : At U g.method c below := by rw [hg]; exact X.here
  have hlocals9 : W9 + (maxL + 11) + (headSpec ws rm).room.locals ≤ R.locals := hlocals
  have happ : (headSpec ws rm).appliesLoose y e.platform (U.calling g mk a) = true :=
    Spec.appliesLoose_calling (g := g) h hdg hn hkY hinitY
      (X.room_calling (g := g) (R' := (headSpec ws rm).room) hsize hmY hcY hframes (by rw [hlY]; omega) h4 h5) h1
  obtain ⟨mid, hmid⟩ := h.above
  have hfr : (U.setTop g).frames = (.java g :: mid) ++ below := by rw [State.frames_setTop' g h.top, hmid]; rfl
  obtain ⟨o, s₂, hsteps, -, hend, hq⟩ := Steps.callFree hM p X.admits X.cas X.clock (acts := []) hfr happ hPc trivial
  have hq' : vx_Q Qc XC mc ms free a (U.calling g mk a) o s₂ := hq
  rw [State.frames_setTop' g h.top] at hend
  obtain ⟨g₀, hg0⟩ := Option.isSome_iff_exists.mp h.top
  obtain ⟨r, hr⟩ := State.topJava?_eq_some.mp hg0
  have hr' : (({ U with heap := s₂.heap, slotsUsed := s₂.slotsUsed } : State).setVm s₂.vm).frames = .java g₀ :: r := hr
  rcases hq' with ⟨hqc, L, hfe, hL⟩ | ⟨q, rfl, E, ce, L, hx, hce, hcv, hcl, hW₂, hsm, hL⟩
  · obtain ⟨⟨v, rfl⟩, hW₂, e2, q2, q3, q4, q5, q6⟩ := id hfe
    have e3 : s₂ = ({ (U.calling g mk a).setFrames s₂.frames with heap := s₂.heap, slotsUsed := s₂.slotsUsed } : State).setVm s₂.vm := by
      have : s₂ = ({ s₂ with vm := (U.calling g mk a).vm } : State).setVm s₂.vm := rfl
      rw [e2] at this
      exact this
    obtain ⟨c₂, i₂, len₂, hc₂, hd₂, hf₂⟩ := hend
    have hW' : U.WarmedH s₂.vm := hW₂
    have hcc : c₂ = c := by
      have h1 : s₂.code? g.method = U.code? g.method := by
        rw [State.code?_eq, State.code?_eq, hW'.alike.method?]
      exact Option.some.inj (hc₂.symm.trans (h1.trans h.code))
    subst hcc
    have hlen : len₂ = len := by rw [hdg] at hd₂; cases hd₂; rfl
    subst hlen
    have hs₂ : s₂ = (({ U with heap := s₂.heap, slotsUsed := s₂.slotsUsed } : State).setVm s₂.vm).setTop { g with pc := g.pc + len₂, stack := v.toList ++ g.stack } := by
      refine e3.trans ?_
      rw [hf₂, State.calling_eq h.top, State.setFrames_setFrames, State.setTop_of_frames _ hr', hr]
      rfl
    have hsame : U.sameButNew ({ U with heap := s₂.heap, slotsUsed := s₂.slotsUsed } : State) L mc ms := by
      refine ⟨?_, q2, q3, q4, q5, q6⟩
      obtain ⟨t, ht, -⟩ := State.frames_cons hr
      show ({ U with heap := s₂.heap, slotsUsed := s₂.slotsUsed } : State) = { U.setFrames U.frames with heap := s₂.heap, slotsUsed := s₂.slotsUsed }
      rw [State.setFrames_self ht]
    subst hg
    refine Or.inl ⟨v, ⟨(({ U with heap := s₂.heap, slotsUsed := s₂.slotsUsed } : State).setVm s₂.vm), Ls ++ L, c0 + mc, s0 + ms⟩,
      ⟨X.admits, X.cas, X.clock, X.frames, X.room, X.hears, X.method, X.code, (X.here.setHeapUsed s₂.heap s₂.slotsUsed).setVm hW'.alike, X.tail, State.WarmedH.trans X.warmed hW', X.limits, X.bytes, X.same.trans (hsame.setVm s.vm)⟩,
      ⟨g, mk, s₂, L, rfl, rfl, hqc, rfl, hL, rfl, rfl⟩, ?_⟩
    show Steps p.tables e below _ ((({ U with heap := s₂.heap, slotsUsed := s₂.slotsUsed } : State).setVm s₂.vm).setTop { g with pc := g.pc + len₂, stack := v.toList ++ g.stack })
    rw [← hs₂]
    exact hsteps
  · obtain ⟨e2, q2, q3, q4, q5, q6⟩ := id hsm
    have e3 : s₂ = ({ (U.calling g mk a).setFrames s₂.frames with heap := s₂.heap, slotsUsed := s₂.slotsUsed } : State).setVm s₂.vm := by
      have : s₂ = ({ s₂ with vm := (U.calling g mk a).vm } : State).setVm s₂.vm := rfl
      rw [e2] at this
      exact this
    have hf₂ : s₂.frames = .throwing q :: .java g :: U.frames.tail := hend
    have hW' : U.WarmedH s₂.vm := hW₂
    have hs₂ : s₂ = ((({ U with heap := s₂.heap, slotsUsed := s₂.slotsUsed } : State).setVm s₂.vm).setTop g).pushFrame (.throwing q) := by
      refine e3.trans ?_
      rw [hf₂, State.calling_eq h.top, State.setFrames_setFrames, State.pushFrame, State.frames_setTop _ hr', State.setTop_of_frames _ hr', State.setFrames_setFrames, hr]
      rfl
    have hsame : U.sameButNew ({ U with heap := s₂.heap, slotsUsed := s₂.slotsUsed } : State) L mc ms := by
      refine ⟨?_, q2, q3, q4, q5, q6⟩
      obtain ⟨t, ht, -⟩ := State.frames_cons hr
      show ({ U with heap := s₂.heap, slotsUsed := s₂.slotsUsed } : State) = { U.setFrames U.frames with heap := s₂.heap, slotsUsed := s₂.slotsUsed }
      rw [State.setFrames_self ht]
    subst hg
    refine Or.inr ⟨q, ⟨(({ U with heap := s₂.heap, slotsUsed := s₂.slotsUsed } : State).setVm s₂.vm), Ls ++ L, c0 + mc, s0 + ms⟩,
      ⟨X.admits, X.cas, X.clock, X.frames, X.room, X.hears, X.method, X.code, (X.here.setHeapUsed s₂.heap s₂.slotsUsed).setVm hW'.alike, X.tail, State.WarmedH.trans X.warmed hW', X.limits, X.bytes, X.same.trans (hsame.setVm s.vm)⟩,
      ⟨g, mk, s₂, L, E, ce, rfl, rfl, hx, hce, hcv, hcl, rfl, hL, rfl, rfl⟩, ?_⟩
    show Steps p.tables e below _ (((({ U with heap := s₂.heap, slotsUsed := s₂.slotsUsed } : State).setVm s₂.vm).setTop g).pushFrame (.throwing q))
    rw [← hs₂]
    exact hsteps
end Payer
section Calls
variable {p : Program} {l : Launch} {e : Env} {R : Room} {s : State} {m : MethodId} {args : Array Value} {below : List Frame} {meth : Method} {c : Code} {T : State} {locs : List Loc} {cells slots : Nat}
theorem vx_callV (X : Stand p l e R s m args below meth c T locs cells slots) (hexec : p.tables.exec = Jvm.exec) {own C : String} {index : Nat} {y : MethodName} {bytes : ByteArray} {maxL : Nat} {ret : Option FieldType}
    (hown : s.vm.findClass own = some m.cls) (hlink : (Cond.methodLink own index y).before args s = true) (hinst : (Cond.instanceMethod y).before args s = true) (hsel : (Cond.selects C y y).before args s = true)
    (hcode : (Cond.code y bytes maxL ret).before args s = true) (hy : y.cls ≠ "java/lang/invoke/MethodHandle" ∧ y.cls ≠ "java/lang/invoke/VarHandle")
    {W9 : Nat} {Pre : Pt → Array Value → Prop} {Post : Pt → Array Value → Option Value → Pt → Prop} {PostX : Pt → Array Value → Addr → Pt → Prop} (hK : vx_Back l R p e below s args y 3 W9 Pre Post PostX)
    {b : Addr} {cellB : Cell} (hcell : T.heap[b]? = some cellB) (hobj : cellB.vm.isStatics = false) (hcls : s.vm.findClass C = some cellB.cls)
    {g : JFrame} (hg : g.method = m) (hsize : g.locals.size = c.maxLocals) {argsL rest : List Value} (hlen : ∀ sig, parseMethodDescriptor y.desc = some sig → argsL.length = sig.parameters.length)
    (hstack : g.stack = argsL.reverse ++ .ref b :: rest) (hW : 2 * g.monitorRoom + (rest.map fun v => v.category).sum ≤ W9) (hdg : decode c.code g.pc = .ok (.invokevirtual index, 3))
    (hpre : ∀ vm₁, s.WarmedH vm₁ → Pre ⟨T.setVm vm₁, locs, cells, slots⟩ (Value.ref b :: argsL).toArray) :
    (∃ (v : Option Value) (vm₁ : Vm) (B : Pt), s.WarmedH vm₁ ∧ Stand p l e R s m args below meth c B.U B.locs B.cells B.slots ∧ Post ⟨T.setVm vm₁, locs, cells, slots⟩ (Value.ref b :: argsL).toArray v B ∧
      ∀ target, Steps p.tables e below (B.U.setTop { g with pc := g.pc + 3, stack := v.toList ++ rest }) target → Steps p.tables e below (T.setTop g) target) ∨
    (∃ (q : Addr) (vm₁ : Vm) (B : Pt), s.WarmedH vm₁ ∧ Stand p l e R s m args below meth c B.U B.locs B.cells B.slots ∧ PostX ⟨T.setVm vm₁, locs, cells, slots⟩ (Value.ref b :: argsL).toArray q B ∧
      Steps p.tables e below (T.setTop g) ((B.U.setTop { g with stack := rest }).pushFrame (.throwing q))) := by
  obtain ⟨mk, methM, hnamed, hmethM, hstM, habM⟩ := Cond.instanceMethod_spec hinst
  obtain ⟨methM', cM, hmethM', -, -, -, -, -, -, hsigM⟩ := Cond.code_spec hnamed hcode
  cases hmethM.symm.trans hmethM'
  obtain ⟨c2, r2, m2, q1, q2, q3, q4, kP, hkP, hkPi⟩ := Cond.selects_spec hsel
  cases hcls.symm.trans q1
  cases (State.methodFound?_of_named hnamed hy).symm.trans q2
  cases hnamed.symm.trans q3
  have hselP : selectMethod e.platform s.vm cellB.cls mk = .method mk := by rw [Launch.admits_selectMethod X.admits]; exact q4
  obtain ⟨vm₁, X₁, hstep₁⟩ := X.invokevirtual hexec hown hlink hnamed hmethM hstM hkP hkPi hy (a := b) (cell := cellB) hcell
    (fun z h => by rw [h] at hobj; cases hobj) hselP hmethM habM hkP hkPi (g := g) hg (argsL := argsL) (rest := rest) (hlen _ hsigM) hstack hdg
  rcases hK m meth c ⟨T.setVm vm₁, locs, cells, slots⟩ { g with stack := rest } (.invokevirtual index) mk (Value.ref b :: argsL).toArray X₁ hg hsize hdg hW (X₁.named hnamed) (hpre vm₁ X₁.warmed) with ⟨v, B, X', hpost, hsteps⟩ | ⟨q, B, X', hpost, hsteps⟩
  · exact Or.inl ⟨v, vm₁, B, X₁.warmed, X', hpost, fun target h => hstep₁ _ fun acts => by rw [doInvoke_state]; exact hsteps.trans h⟩
  · exact Or.inr ⟨q, vm₁, B, X₁.warmed, X', hpost, hstep₁ _ fun acts => by rw [doInvoke_state]; exact hsteps⟩
theorem vx_callS (X : Stand p l e R s m args below meth c T locs cells slots) (hexec : p.tables.exec = Jvm.exec) {own : String} {index : Nat} {y : MethodName} {bytes : ByteArray} {maxL : Nat} {ret : Option FieldType}
    (hown : s.vm.findClass own = some m.cls) (hlink : (Cond.methodLink own index y).before args s = true) (hstat : (Cond.static y).before args s = true) (hinit : (Cond.initialized y.cls).before args s = true)
    (hcode : (Cond.code y bytes maxL ret).before args s = true) (hy : y.cls ≠ "java/lang/invoke/MethodHandle" ∧ y.cls ≠ "java/lang/invoke/VarHandle")
    {W9 : Nat} {Pre : Pt → Array Value → Prop} {Post : Pt → Array Value → Option Value → Pt → Prop} {PostX : Pt → Array Value → Addr → Pt → Prop} (hK : vx_Back l R p e below s args y 3 W9 Pre Post PostX)
    {g : JFrame} (hg : g.method = m) (hsize : g.locals.size = c.maxLocals) {argsL rest : List Value} (hlen : ∀ sig, parseMethodDescriptor y.desc = some sig → argsL.length = sig.parameters.length)
    (hstack : g.stack = argsL.reverse ++ rest) (hW : 2 * g.monitorRoom + (rest.map fun v => v.category).sum ≤ W9) (hdg : decode c.code g.pc = .ok (.invokestatic index, 3))
    (hpre : ∀ vm₁, s.WarmedH vm₁ → Pre ⟨T.setVm vm₁, locs, cells, slots⟩ argsL.toArray) :
    (∃ (v : Option Value) (vm₁ : Vm) (B : Pt), s.WarmedH vm₁ ∧ Stand p l e R s m args below meth c B.U B.locs B.cells B.slots ∧ Post ⟨T.setVm vm₁, locs, cells, slots⟩ argsL.toArray v B ∧
      ∀ target, Steps p.tables e below (B.U.setTop { g with pc := g.pc + 3, stack := v.toList ++ rest }) target → Steps p.tables e below (T.setTop g) target) ∨
    (∃ (q : Addr) (vm₁ : Vm) (B : Pt), s.WarmedH vm₁ ∧ Stand p l e R s m args below meth c B.U B.locs B.cells B.slots ∧ PostX ⟨T.setVm vm₁, locs, cells, slots⟩ argsL.toArray q B ∧
      Steps p.tables e below (T.setTop g) ((B.U.setTop { g with stack := rest }).pushFrame (.throwing q))) := by
  obtain ⟨mk, hnamed⟩ := Cond.code_named hcode
  obtain ⟨methM, cM, hmethM, -, -, -, -, -, -, hsigM⟩ := Cond.code_spec hnamed hcode
  have hstatic : methM.isStatic = true := Cond.static_spec hnamed hmethM hstat
  obtain ⟨kP, hkP, -⟩ := className_of_methodNamed hnamed
  have hinitP : kP.init = .initialized := Cond.initialized_spec (findClass_of_methodNamed hnamed) hkP hinit
  obtain ⟨vm₁, X₁, hstep₁⟩ := X.invokestatic hexec hown hlink hnamed hmethM hstatic hkP hinitP hy (g := g) hg (argsL := argsL) (rest := rest) (hlen _ hsigM) hstack hdg
  rcases hK m meth c ⟨T.setVm vm₁, locs, cells, slots⟩ { g with stack := rest } (.invokestatic index) mk argsL.toArray X₁ hg hsize hdg hW (X₁.named hnamed) (hpre vm₁ X₁.warmed) with ⟨v, B, X', hpost, hsteps⟩ | ⟨q, B, X', hpost, hsteps⟩
  · exact Or.inl ⟨v, vm₁, B, X₁.warmed, X', hpost, fun target h => hstep₁ _ fun acts => by rw [doInvoke_state]; exact hsteps.trans h⟩
  · exact Or.inr ⟨q, vm₁, B, X₁.warmed, X', hpost, hstep₁ _ fun acts => by rw [doInvoke_state]; exact hsteps⟩
end Calls
theorem vx_cls {s : State} {T : State} {vm₁ : Vm} {E : String} {k : ClassId} (hW : s.WarmedH vm₁) (h : (T.setVm vm₁).vm.findClass E = some k) : s.vm.findClass E = some k := by
  have h1 : vm₁.findClass E = some k := h
  rw [hW.alike.findClass] at h1
  exact h1
/-- the method's frame g, with q thrown over it -/
def vx_W (p : Program) (l : Launch) (e : Env) (R : Room) (s : State) (m : MethodId) (args : Array Value) (below : List Frame) (meth : Method) (c : Code) (H : Heap) (locs : List Loc) (cells slots : Nat) (Q : State → Prop) (g : JFrame) (q : Addr) : Prop :=
  ∀ T : State, T.heap = H → Stand p l e R s m args below meth c T locs cells slots → ∃ t, Steps p.tables e below ((T.setTop g).pushFrame (.throwing q)) t ∧ Q t
def vx_Run (p : Program) (l : Launch) (e : Env) (R : Room) (s : State) (m : MethodId) (args : Array Value) (below : List Frame) (meth : Method) (c : Code) (H : Heap) (locs : List Loc) (cells slots mc ms : Nat) (g : JFrame) (rest : List Value) (Qa : State → Outcome → State → Prop) (XC : String → State → State → Prop) (free : Addr → Prop) : Prop :=
  ∀ T : State, T.heap = H → Stand p l e R s m args below meth c T locs cells slots →
    (∃ (v : Option Value) (st₀ t T' : State) (L : List Loc), st₀.heap = H ∧ Stand p l e R s m args below meth c T' (locs ++ L) (cells + mc) (slots + ms) ∧ (∀ q ∈ L, free q.base) ∧ T'.heap = t.heap ∧ T'.vm = t.vm ∧ Qa st₀ (.returned v) t ∧
      Goes p e below T g T' { g with pc := g.pc + 3, stack := v.toList ++ rest }) ∨
    (∃ (q : Addr) (st₀ t T' : State) (L : List Loc) (E : String) (ce : Cell), st₀.heap = H ∧ Stand p l e R s m args below meth c T' (locs ++ L) (cells + mc) (slots + ms) ∧ (∀ z ∈ L, free z.base) ∧ T'.heap = t.heap ∧ T'.vm = t.vm ∧ XC E st₀ t ∧ t.heap[q]? = some ce ∧ ce.vm = .none ∧ s.vm.findClass E = some ce.cls ∧
      Steps p.tables e below (T.setTop g) ((T'.setTop { g with stack := rest }).pushFrame (.throwing q)))
def vx_X {S : Type} (px : S → Prop) (B : String → S → State → Prop) (A : Nat → Prop) : String → State → State → Prop := fun E st t => ∃ u : S, px u ∧ B E u t ∧ va_F A st t
section Runs
variable {p : Program} {l : Launch} {e : Env} {R : Room} {s : State} {m : MethodId} {args : Array Value} {below : List Frame} {meth : Method} {c : Code} {H : Heap} {locs : List Loc} {cells slots : Nat}
variable {y : MethodName} {bytes cc : ByteArray} {maxL nL mc ms n index : Nat} {ret : Option FieldType} {ws : List Cond} {rm : Room} {Pc : Array Value → State → Prop} {Qc : Array Value → State → Outcome → State → Prop} {XC : String → State → State → Prop} {free : Addr → Prop} {Ts : List Cond} {own C : String} {b : Addr} {As rest : List Value} {g : JFrame}
theorem vx_callBack (cb : CallB R s args own index y bytes maxL ret ws rm mc ms n) (hM : vx_Met l y ws rm Pc Qc XC mc ms free) (hbl : FrameBlind Pc) : vx_Back l R p e below s args y 3 8 (PreOf R mc ms Pc) (PostOf Qc mc ms free) (vx_Post XC mc ms free) := by
  obtain ⟨hrc, hrs, hfr, hlo, hws, hcw, -, hini, -⟩ := cb
  exact vx_back (bytes := bytes) (maxL := maxL) (ret := ret) hM hbl hrc hrs hfr hlo hws hcw (fun a' U hW => word_at hW (Or.inl (by first | rfl | simp [Cond.onTables, Cond.keeps, Cond.steady])) hini)
theorem vx_runV (S : CallFix p m c cc nL s args Ts own) (hM : vx_Met l y ws rm Pc Qc XC mc ms free) (cw : CallW R s args own C index y bytes maxL ret ws rm mc ms n) (hp : PreV s H C b Pc As)
    (hg : g.method = m) (hn : As.length = n) (hsize : g.locals.size = nL) (hstack : g.stack = As.reverse ++ .ref b :: rest) (hW : 2 * g.monitorRoom + (rest.map fun v => v.category).sum ≤ 8) (hdg : decode cc g.pc = .ok (.invokevirtual index, 3)) (hf : cells + mc ≤ R.cells ∧ slots + ms ≤ R.slots) :
    vx_Run p l e R s m args below meth c H locs cells slots mc ms g rest (Qc (Value.ref b :: As).toArray) XC free := by
  have hK : vx_Back l R p e below s args y 3 8 (PreOf R mc ms Pc) (PostOf Qc mc ms free) (vx_Post XC mc ms free) := vx_callBack cw.1 hM hp.1
  obtain ⟨⟨-, -, -, -, -, -, hcode, -, hy, hlen, hl⟩, hin, hse⟩ := cw
  obtain ⟨hx, hb, hml, ho, -⟩ := S
  obtain ⟨-, ⟨cellB, hcB, hoB, hclB⟩, hPc⟩ := hp
  intro T hT X
  rcases vx_callV X hx (C := C) (bytes := bytes) (maxL := maxL) (ret := ret) ho hl hin hse hcode hy hK (by rw [hT]; exact hcB) hoB hclB hg (hsize.trans hml.symm) (argsL := As) (rest := rest) (fun sig h => hn.trans (hlen sig h)) hstack hW (by rw [hb]; exact hdg)
    (fun vm₁ hW₁ => ⟨hf.1, hf.2, hPc (T.setVm vm₁) hT hW₁⟩) with ⟨v, vm₁, ⟨U', l2, c2, s2⟩, hW₁, X', ⟨g', mk, t, L, e1, e2, hq, h1, hL, h2, h3⟩, st⟩ | ⟨q, vm₁, ⟨U', l2, c2, s2⟩, hW₁, X', ⟨g', mk, t, L, E, ce, e1, e2, hq, hce, hcv, hcl, h1, hL, h2, h3⟩, st⟩
  · dsimp only [Pt.U, Pt.locs, Pt.cells, Pt.slots] at X' e1 e2 h1 h2 h3 st
    subst h1; subst h2; subst h3
    exact Or.inl ⟨v, (T.setVm vm₁).calling g' mk (Value.ref b :: As).toArray, t, U', L, hT, X', hL, e1, e2, hq, st⟩
  · dsimp only [Pt.U, Pt.locs, Pt.cells, Pt.slots] at X' e1 e2 h1 h2 h3 st hcl
    subst h1; subst h2; subst h3
    exact Or.inr ⟨q, (T.setVm vm₁).calling g' mk (Value.ref b :: As).toArray, t, U', L, E, ce, hT, X', hL, e1, e2, hq, hce, hcv, vx_cls hW₁ hcl, st⟩
theorem vx_runS (S : CallFix p m c cc nL s args Ts own) (hM : vx_Met l y ws rm Pc Qc XC mc ms free) (cw : CallB R s args own index y bytes maxL ret ws rm mc ms n ∧ (Cond.static y).before args s = true) (hp : PreS s H Pc As)
    (hg : g.method = m) (hn : As.length = n) (hsize : g.locals.size = nL) (hstack : g.stack = As.reverse ++ rest) (hW : 2 * g.monitorRoom + (rest.map fun v => v.category).sum ≤ 8) (hdg : decode cc g.pc = .ok (.invokestatic index, 3)) (hf : cells + mc ≤ R.cells ∧ slots + ms ≤ R.slots) :
    vx_Run p l e R s m args below meth c H locs cells slots mc ms g rest (Qc As.toArray) XC free := by
  have hK : vx_Back l R p e below s args y 3 8 (PreOf R mc ms Pc) (PostOf Qc mc ms free) (vx_Post XC mc ms free) := vx_callBack cw.1 hM hp.1
  obtain ⟨⟨-, -, -, -, -, -, hcode, hini, hy, hlen, hl⟩, hstt⟩ := cw
  obtain ⟨hx, hb, hml, ho, -⟩ := S
  intro T hT X
  rcases vx_callS X hx (bytes := bytes) (maxL := maxL) (ret := ret) ho hl hstt hini hcode hy hK hg (hsize.trans hml.symm) (argsL := As) (rest := rest) (fun sig h => hn.trans (hlen sig h)) hstack hW (by rw [hb]; exact hdg)
    (fun vm₁ hW₁ => ⟨hf.1, hf.2, hp.2 (T.setVm vm₁) hT hW₁⟩) with ⟨v, vm₁, ⟨U', l2, c2, s2⟩, hW₁, X', ⟨g', mk, t, L, e1, e2, hq, h1, hL, h2, h3⟩, st⟩ | ⟨q, vm₁, ⟨U', l2, c2, s2⟩, hW₁, X', ⟨g', mk, t, L, E, ce, e1, e2, hq, hce, hcv, hcl, h1, hL, h2, h3⟩, st⟩
  · dsimp only [Pt.U, Pt.locs, Pt.cells, Pt.slots] at X' e1 e2 h1 h2 h3 st
    subst h1; subst h2; subst h3
    exact Or.inl ⟨v, (T.setVm vm₁).calling g' mk As.toArray, t, U', L, hT, X', hL, e1, e2, hq, st⟩
  · dsimp only [Pt.U, Pt.locs, Pt.cells, Pt.slots] at X' e1 e2 h1 h2 h3 st hcl
    subst h1; subst h2; subst h3
    exact Or.inr ⟨q, (T.setVm vm₁).calling g' mk As.toArray, t, U', L, E, ce, hT, X', hL, e1, e2, hq, hce, hcv, vx_cls hW₁ hcl, st⟩
end Runs
section Rows
variable {p : Program} {l : Launch} {e : Env} {R : Room} {s : State} {m : MethodId} {args : Array Value} {below : List Frame} {meth : Method} {c : Code} {H : Heap} {locs : List Loc} {cells slots : Nat} {Q : State → Prop}
variable {mc ms : Nat} {free : Addr → Prop} {A0 A1 : Nat → Prop} {H0 : Heap} {a : Array Value} {pc : Nat} {ls : Array Slot} {st0 rest : List Value}
theorem vx_keep {st₀ t T' : State} {L : List Loc} (h0 : st₀.heap = H) (e1 : T'.heap = t.heap) (hS : va_S A0 H0 H locs) (hA : ∀ q, q < H.size → A1 q → A0 q) (hf : ∀ q, free q → A0 q) (hL : ∀ q ∈ L, free q.base) (hF : va_F A1 st₀ t) :
    H.size ≤ T'.heap.size ∧ (∀ q : Nat, q < H.size → ¬ A1 q → T'.heap[q]? = H[q]?) ∧ va_S A0 H0 T'.heap (locs ++ L) := by
  obtain ⟨hz, hk⟩ := hF
  rw [h0] at hz hk
  exact ⟨by rw [e1]; exact hz, fun q h1 h2 => by rw [e1]; exact hk q h1 h2,
    ⟨Nat.le_trans hS.1 (by rw [e1]; exact hz), fun q h1 h2 => by rw [e1, hk q (Nat.lt_of_lt_of_le h1 hS.1) (fun z => h2 (hA q (Nat.lt_of_lt_of_le h1 hS.1) z))]; exact hS.2.1 q h1 h2, fun q hq => by
      rcases List.mem_append.mp hq with h | h
      · exact hS.2.2 q h
      · exact hf _ (hL q h)⟩⟩
theorem vx_calli {S SX : Type} {post : Int32 → S → Prop} {px : SX → Prop} {B : S → State → Prop} {BX : String → SX → State → Prop} {AX : Nat → Prop} (hr : vx_Run p l e R s m args below meth c H locs cells slots mc ms (F0 m pc ls st0) rest (va_Qi post B A1 a) (vx_X px BX AX) free) (hS : va_S A0 H0 H locs) (hA : ∀ q, q < H.size → A1 q → A0 q) (hf : ∀ q, free q → A0 q) (hAX : ∀ q, q < H.size → AX q → A0 q)
    (kx : ∀ (E : String) (ce : Cell) (q9 : Addr) (u : SX) (t : State) (H1 : Heap) (locs1 : List Loc), t.heap = H1 → s.vm.Alike t.vm → px u → BX E u t → H.size ≤ H1.size → (∀ q : Nat, q < H.size → ¬ AX q → H1[q]? = H[q]?) → va_S A0 H0 H1 locs1 → H1[q9]? = some ce → ce.vm = .none → s.vm.findClass E = some ce.cls → vx_W p l e R s m args below meth c H1 locs1 (cells + mc) (slots + ms) Q (F0 m pc ls rest) q9)
    (kk : ∀ (r : Int32) (u : S) (t : State) (H1 : Heap) (locs1 : List Loc), t.heap = H1 → s.vm.Alike t.vm → post r u → B u t → H.size ≤ H1.size → (∀ q : Nat, q < H.size → ¬ A1 q → H1[q]? = H[q]?) → va_S A0 H0 H1 locs1 → W p l e R s m args below meth c H1 locs1 (cells + mc) (slots + ms) Q (F0 m (pc + 3) ls (.int r :: rest))) : W p l e R s m args below meth c H locs cells slots Q (F0 m pc ls st0) := by
  intro T hT X
  rcases hr T hT X with ⟨v, st₀, t, T', L, h0, X', hL, e1, e2, ⟨⟨r, u, hv, hp, hb⟩, hF⟩, st⟩ | ⟨q, st₀, t, T', L, E, ce, h0, X', hL, e1, e2, ⟨u, hp, hb, hF⟩, hce, hcv, hcl, st⟩
  · cases hv
    obtain ⟨k1, k2, k3⟩ := vx_keep h0 e1 hS hA hf hL hF
    obtain ⟨t2, a1, b1⟩ := kk r u t T'.heap (locs ++ L) e1.symm (by rw [← e2]; exact X'.warmed.alike) hp hb k1 k2 k3 T' rfl X'
    exact ⟨t2, st t2 a1, b1⟩
  · obtain ⟨k1, k2, k3⟩ := vx_keep h0 e1 hS hAX hf hL hF
    obtain ⟨t2, a1, b1⟩ := kx E ce q u t T'.heap (locs ++ L) e1.symm (by rw [← e2]; exact X'.warmed.alike) hp hb k1 k2 k3 (by rw [e1]; exact hce) hcv hcl T' rfl X'
    exact ⟨t2, st.trans a1, b1⟩
theorem vx_calll {S SX : Type} {post : Int64 → S → Prop} {px : SX → Prop} {B : S → State → Prop} {BX : String → SX → State → Prop} {AX : Nat → Prop} (hr : vx_Run p l e R s m args below meth c H locs cells slots mc ms (F0 m pc ls st0) rest (va_Ql post B A1 a) (vx_X px BX AX) free) (hS : va_S A0 H0 H locs) (hA : ∀ q, q < H.size → A1 q → A0 q) (hf : ∀ q, free q → A0 q) (hAX : ∀ q, q < H.size → AX q → A0 q)
    (kx : ∀ (E : String) (ce : Cell) (q9 : Addr) (u : SX) (t : State) (H1 : Heap) (locs1 : List Loc), t.heap = H1 → s.vm.Alike t.vm → px u → BX E u t → H.size ≤ H1.size → (∀ q : Nat, q < H.size → ¬ AX q → H1[q]? = H[q]?) → va_S A0 H0 H1 locs1 → H1[q9]? = some ce → ce.vm = .none → s.vm.findClass E = some ce.cls → vx_W p l e R s m args below meth c H1 locs1 (cells + mc) (slots + ms) Q (F0 m pc ls rest) q9)
    (kk : ∀ (r : Int64) (u : S) (t : State) (H1 : Heap) (locs1 : List Loc), t.heap = H1 → s.vm.Alike t.vm → post r u → B u t → H.size ≤ H1.size → (∀ q : Nat, q < H.size → ¬ A1 q → H1[q]? = H[q]?) → va_S A0 H0 H1 locs1 → W p l e R s m args below meth c H1 locs1 (cells + mc) (slots + ms) Q (F0 m (pc + 3) ls (.long r :: rest))) : W p l e R s m args below meth c H locs cells slots Q (F0 m pc ls st0) := by
  intro T hT X
  rcases hr T hT X with ⟨v, st₀, t, T', L, h0, X', hL, e1, e2, ⟨⟨r, u, hv, hp, hb⟩, hF⟩, st⟩ | ⟨q, st₀, t, T', L, E, ce, h0, X', hL, e1, e2, ⟨u, hp, hb, hF⟩, hce, hcv, hcl, st⟩
  · cases hv
    obtain ⟨k1, k2, k3⟩ := vx_keep h0 e1 hS hA hf hL hF
    obtain ⟨t2, a1, b1⟩ := kk r u t T'.heap (locs ++ L) e1.symm (by rw [← e2]; exact X'.warmed.alike) hp hb k1 k2 k3 T' rfl X'
    exact ⟨t2, st t2 a1, b1⟩
  · obtain ⟨k1, k2, k3⟩ := vx_keep h0 e1 hS hAX hf hL hF
    obtain ⟨t2, a1, b1⟩ := kx E ce q u t T'.heap (locs ++ L) e1.symm (by rw [← e2]; exact X'.warmed.alike) hp hb k1 k2 k3 (by rw [e1]; exact hce) hcv hcl T' rfl X'
    exact ⟨t2, st.trans a1, b1⟩
theorem vx_callf {S SX : Type} {post : UInt32 → S → Prop} {px : SX → Prop} {B : S → State → Prop} {BX : String → SX → State → Prop} {AX : Nat → Prop} (hr : vx_Run p l e R s m args below meth c H locs cells slots mc ms (F0 m pc ls st0) rest (va_Qf post B A1 a) (vx_X px BX AX) free) (hS : va_S A0 H0 H locs) (hA : ∀ q, q < H.size → A1 q → A0 q) (hf : ∀ q, free q → A0 q) (hAX : ∀ q, q < H.size → AX q → A0 q)
    (kx : ∀ (E : String) (ce : Cell) (q9 : Addr) (u : SX) (t : State) (H1 : Heap) (locs1 : List Loc), t.heap = H1 → s.vm.Alike t.vm → px u → BX E u t → H.size ≤ H1.size → (∀ q : Nat, q < H.size → ¬ AX q → H1[q]? = H[q]?) → va_S A0 H0 H1 locs1 → H1[q9]? = some ce → ce.vm = .none → s.vm.findClass E = some ce.cls → vx_W p l e R s m args below meth c H1 locs1 (cells + mc) (slots + ms) Q (F0 m pc ls rest) q9)
    (kk : ∀ (r : UInt32) (u : S) (t : State) (H1 : Heap) (locs1 : List Loc), t.heap = H1 → s.vm.Alike t.vm → post r u → B u t → H.size ≤ H1.size → (∀ q : Nat, q < H.size → ¬ A1 q → H1[q]? = H[q]?) → va_S A0 H0 H1 locs1 → W p l e R s m args below meth c H1 locs1 (cells + mc) (slots + ms) Q (F0 m (pc + 3) ls (.float r :: rest))) : W p l e R s m args below meth c H locs cells slots Q (F0 m pc ls st0) := by
  intro T hT X
  rcases hr T hT X with ⟨v, st₀, t, T', L, h0, X', hL, e1, e2, ⟨⟨r, u, hv, hp, hb⟩, hF⟩, st⟩ | ⟨q, st₀, t, T', L, E, ce, h0, X', hL, e1, e2, ⟨u, hp, hb, hF⟩, hce, hcv, hcl, st⟩
  · cases hv
    obtain ⟨k1, k2, k3⟩ := vx_keep h0 e1 hS hA hf hL hF
    obtain ⟨t2, a1, b1⟩ := kk r u t T'.heap (locs ++ L) e1.symm (by rw [← e2]; exact X'.warmed.alike) hp hb k1 k2 k3 T' rfl X'
    exact ⟨t2, st t2 a1, b1⟩
  · obtain ⟨k1, k2, k3⟩ := vx_keep h0 e1 hS hAX hf hL hF
    obtain ⟨t2, a1, b1⟩ := kx E ce q u t T'.heap (locs ++ L) e1.symm (by rw [← e2]; exact X'.warmed.alike) hp hb k1 k2 k3 (by rw [e1]; exact hce) hcv hcl T' rfl X'
    exact ⟨t2, st.trans a1, b1⟩
theorem vx_calld {S SX : Type} {post : UInt64 → S → Prop} {px : SX → Prop} {B : S → State → Prop} {BX : String → SX → State → Prop} {AX : Nat → Prop} (hr : vx_Run p l e R s m args below meth c H locs cells slots mc ms (F0 m pc ls st0) rest (va_Qd post B A1 a) (vx_X px BX AX) free) (hS : va_S A0 H0 H locs) (hA : ∀ q, q < H.size → A1 q → A0 q) (hf : ∀ q, free q → A0 q) (hAX : ∀ q, q < H.size → AX q → A0 q)
    (kx : ∀ (E : String) (ce : Cell) (q9 : Addr) (u : SX) (t : State) (H1 : Heap) (locs1 : List Loc), t.heap = H1 → s.vm.Alike t.vm → px u → BX E u t → H.size ≤ H1.size → (∀ q : Nat, q < H.size → ¬ AX q → H1[q]? = H[q]?) → va_S A0 H0 H1 locs1 → H1[q9]? = some ce → ce.vm = .none → s.vm.findClass E = some ce.cls → vx_W p l e R s m args below meth c H1 locs1 (cells + mc) (slots + ms) Q (F0 m pc ls rest) q9)
    (kk : ∀ (r : UInt64) (u : S) (t : State) (H1 : Heap) (locs1 : List Loc), t.heap = H1 → s.vm.Alike t.vm → post r u → B u t → H.size ≤ H1.size → (∀ q : Nat, q < H.size → ¬ A1 q → H1[q]? = H[q]?) → va_S A0 H0 H1 locs1 → W p l e R s m args below meth c H1 locs1 (cells + mc) (slots + ms) Q (F0 m (pc + 3) ls (.double r :: rest))) : W p l e R s m args below meth c H locs cells slots Q (F0 m pc ls st0) := by
  intro T hT X
  rcases hr T hT X with ⟨v, st₀, t, T', L, h0, X', hL, e1, e2, ⟨⟨r, u, hv, hp, hb⟩, hF⟩, st⟩ | ⟨q, st₀, t, T', L, E, ce, h0, X', hL, e1, e2, ⟨u, hp, hb, hF⟩, hce, hcv, hcl, st⟩
  · cases hv
    obtain ⟨k1, k2, k3⟩ := vx_keep h0 e1 hS hA hf hL hF
    obtain ⟨t2, a1, b1⟩ := kk r u t T'.heap (locs ++ L) e1.symm (by rw [← e2]; exact X'.warmed.alike) hp hb k1 k2 k3 T' rfl X'
    exact ⟨t2, st t2 a1, b1⟩
  · obtain ⟨k1, k2, k3⟩ := vx_keep h0 e1 hS hAX hf hL hF
    obtain ⟨t2, a1, b1⟩ := kx E ce q u t T'.heap (locs ++ L) e1.symm (by rw [← e2]; exact X'.warmed.alike) hp hb k1 k2 k3 (by rw [e1]; exact hce) hcv hcl T' rfl X'
    exact ⟨t2, st.trans a1, b1⟩
theorem vx_callv {S SX : Type} {post : S → Prop} {px : SX → Prop} {B : S → State → Prop} {BX : String → SX → State → Prop} {AX : Nat → Prop} (hr : vx_Run p l e R s m args below meth c H locs cells slots mc ms (F0 m pc ls st0) rest (va_Qv post B A1 a) (vx_X px BX AX) free) (hS : va_S A0 H0 H locs) (hA : ∀ q, q < H.size → A1 q → A0 q) (hf : ∀ q, free q → A0 q) (hAX : ∀ q, q < H.size → AX q → A0 q)
    (kx : ∀ (E : String) (ce : Cell) (q9 : Addr) (u : SX) (t : State) (H1 : Heap) (locs1 : List Loc), t.heap = H1 → s.vm.Alike t.vm → px u → BX E u t → H.size ≤ H1.size → (∀ q : Nat, q < H.size → ¬ AX q → H1[q]? = H[q]?) → va_S A0 H0 H1 locs1 → H1[q9]? = some ce → ce.vm = .none → s.vm.findClass E = some ce.cls → vx_W p l e R s m args below meth c H1 locs1 (cells + mc) (slots + ms) Q (F0 m pc ls rest) q9)
    (kk : ∀ (u : S) (t : State) (H1 : Heap) (locs1 : List Loc), t.heap = H1 → s.vm.Alike t.vm → post u → B u t → H.size ≤ H1.size → (∀ q : Nat, q < H.size → ¬ A1 q → H1[q]? = H[q]?) → va_S A0 H0 H1 locs1 → W p l e R s m args below meth c H1 locs1 (cells + mc) (slots + ms) Q (F0 m (pc + 3) ls (rest))) : W p l e R s m args below meth c H locs cells slots Q (F0 m pc ls st0) := by
  intro T hT X
  rcases hr T hT X with ⟨v, st₀, t, T', L, h0, X', hL, e1, e2, ⟨⟨u, hv, hp, hb⟩, hF⟩, st⟩ | ⟨q, st₀, t, T', L, E, ce, h0, X', hL, e1, e2, ⟨u, hp, hb, hF⟩, hce, hcv, hcl, st⟩
  · cases hv
    obtain ⟨k1, k2, k3⟩ := vx_keep h0 e1 hS hA hf hL hF
    obtain ⟨t2, a1, b1⟩ := kk u t T'.heap (locs ++ L) e1.symm (by rw [← e2]; exact X'.warmed.alike) hp hb k1 k2 k3 T' rfl X'
    exact ⟨t2, st t2 a1, b1⟩
  · obtain ⟨k1, k2, k3⟩ := vx_keep h0 e1 hS hAX hf hL hF
    obtain ⟨t2, a1, b1⟩ := kx E ce q u t T'.heap (locs ++ L) e1.symm (by rw [← e2]; exact X'.warmed.alike) hp hb k1 k2 k3 (by rw [e1]; exact hce) hcv hcl T' rfl X'
    exact ⟨t2, st.trans a1, b1⟩
/-- caught by the row x of this method's table; the rows ahead don't take it -/
theorem vx_catch {own name : String} {E : String} {ce : Cell} {q : Addr} (hown : s.vm.findClass own = some m.cls) (pre : List ExceptionTableEntry) (x : ExceptionTableEntry) (suf : List ExceptionTableEntry) (hsplit : c.exceptionTable.toList = pre ++ x :: suf)
    (hpass : ∀ z ∈ pre, covers z pc = false ∨ (z.catchType ≠ 0 ∧ ∃ nm : String, (Cond.classLink own z.catchType nm).before args s = true ∧ va_Nc E nm s)) (hx : covers x pc = true) (h0 : x.catchType ≠ 0)
    (hlink : (Cond.classLink own x.catchType name).before args s = true) (hcast : (Cond.castable E name).before args s = true) (hcell : H[q]? = some ce) (hv : ce.vm = .none) (hcl : s.vm.findClass E = some ce.cls)
    (kk : W p l e R s m args below meth c H locs cells slots Q (F0 m x.handlerPc ls [.ref q])) : vx_W p l e R s m args below meth c H locs cells slots Q (F0 m pc ls rest) q := by
  intro T hT X
  have hpl : e.platform.magicAccessors = ({} : Platform).magicAccessors := by rw [X.admits.platform]
  obtain ⟨c3, c4, hc3, hc4, hasg⟩ := Cond.castable_spec hcast
  cases Option.some.inj (hc3.symm.trans hcl)
  obtain ⟨c5, hc5, hcl5⟩ := Cond.classLink_spec hown hlink e.platform hpl
  cases Option.some.inj (hc4.symm.trans hc5)
  obtain ⟨vm', X', st⟩ := X.thenCaughtThrough q (g := F0 m pc ls rest) rfl (Steps.refl _) (by rw [hT]; exact hcell) (by rw [hv]; rfl) (by obtain ⟨k9, h9, -⟩ := Vm.findClass_spec hcl; exact ⟨k9, h9⟩) pre x suf hsplit
    (fun z hz => by
      rcases hpass z hz with h | ⟨hz0, nm, hl1, hn1⟩
      · exact Or.inl h
      · obtain ⟨c6, hc6, hcl6⟩ := Cond.classLink_spec hown hl1 e.platform hpl
        obtain ⟨a8, b8, h1, h2, h3⟩ := hn1
        cases Option.some.inj (h1.symm.trans hcl)
        cases Option.some.inj (h2.symm.trans hc6)
        exact Or.inr ⟨hz0, _, hcl6, h3⟩) hx (Or.inr ⟨h0, c4, hcl5, hasg⟩)
  obtain ⟨t, a1, b1⟩ := kk (T.setVm vm') hT X'
  exact ⟨t, st.trans a1, b1⟩
end Rows
section Ends
variable {p : Program} {l : Launch} {e : Env} {R : Room} {s : State} {m : MethodId} {args : Array Value} {below : List Frame} {meth : Method} {c : Code} {H : Heap} {locs : List Loc} {cells slots : Nat} {Q : State → Prop}
variable {mc ms : Nat} {free : Addr → Prop} {A0 A1 : Nat → Prop} {H0 : Heap} {a : Array Value} {ls : Array Slot} {st0 rest : List Value}
variable {Qc : Array Value → State → Outcome → State → Prop} {XC : String → State → State → Prop}
/-- what a body that may throw owes at its end -/
def vx_MQ (below : List Frame) (Qc : Array Value → State → Outcome → State → Prop) (XC : String → State → State → Prop) (a : Array Value) (s : State) (mc ms : Nat) (free : Addr → Prop) : State → Prop := fun t =>
  ∃ o, t.status = .running ∧ Ended t below o ∧ vx_Q Qc XC mc ms free a s o t
theorem vx_ret {g : JFrame} {mc ms : Nat} (k : W p l e R s m args below meth c H locs cells slots (MQ below Qc args s mc ms free) g) : W p l e R s m args below meth c H locs cells slots (vx_MQ below Qc XC args s mc ms free) g := by
  intro T hT X
  obtain ⟨t, a1, o, b1, b2, b3, b4⟩ := k T hT X
  exact ⟨t, a1, o, b1, b2, Or.inl ⟨b3, b4⟩⟩
/-- not caught here: it goes on to the caller -/
theorem vx_widen {g : JFrame} {q : Addr} {k n : Nat} (h1 : cells ≤ k) (h2 : slots ≤ n) (kk : vx_W p l e R s m args below meth c H locs k n Q g q) : vx_W p l e R s m args below meth c H locs cells slots Q g q := fun T hT X => kk T hT (stand_widen X h1 h2)
theorem vx_out {pc : Nat} {E : String} {ce : Cell} {q : Addr} {mc ms : Nat} (hout : ∀ x ∈ c.exceptionTable.toList, covers x pc = false) (hlocks : meth.locks = false) (hcell : H[q]? = some ce) (hv : ce.vm = .none) (hcl : s.vm.findClass E = some ce.cls)
    (hx : ∀ t : State, t.heap = H → s.vm.Alike t.vm → XC E s t) (hf : ∀ z ∈ locs, free z.base) (hc : cells ≤ mc) (hs : slots ≤ ms) :
    vx_W p l e R s m args below meth c H locs cells slots (vx_MQ below Qc XC args s mc ms free) (F0 m pc ls rest) q := by
  intro T hT X
  obtain ⟨st1, hrun, hend, hW, hsm⟩ := X.leaveThrown q (g := F0 m pc ls rest) rfl rfl rfl hout hlocks
  have hcell9 : (T.setFrames (.throwing q :: below)).heap[q]? = some ce := by
    show T.heap[q]? = some ce
    rw [hT]; exact hcell
  exact ⟨_, st1, .threw q, hrun, hend, Or.inr ⟨q, rfl, E, ce, locs, hx _ hT hW.alike, hcell9, hv, hcl, hW, hsm.mono hc hs, hf⟩⟩
theorem vx_frame {U : State} {k n : Nat} (h : s.sameButNew ({ U with vm := s.vm } : State) locs k n) : s.heap.size ≤ U.heap.size ∧ ∀ q : Nat, q < s.heap.size → (∀ z ∈ locs, z.base ≠ q) → U.heap[q]? = s.heap[q]? := by
  obtain ⟨-, h2, -, -, -, h6⟩ := h
  refine ⟨h2, fun q hq hz => ?_⟩
  obtain ⟨c9, e1, e2, e3, e4⟩ := h6 q _ (Array.getElem?_eq_getElem hq)
  have hs : c9.slots = (s.heap[q]).slots := Array.ext_getElem? fun i => e4 i fun hm => hz _ hm rfl
  have h9 : c9 = s.heap[q] := by
    rw [hs] at e2
    exact e2
  have e5 : U.heap[q]? = some c9 := e1
  rw [e5, h9, Array.getElem?_eq_getElem hq]
/-- the words of a throw but the four that speak of the heap -/
def vx_no (w : Cond) : Bool := decide (w ≠ .isRef (.static Bundle.tN "UNASSIGNED_STACK" Bundle.steD)) && decide (w ≠ .isRef (.static Bundle.tN "SUPPRESSED_SENTINEL" Bundle.listD)) && decide (w ≠ .laysStatic Bundle.tN "UNASSIGNED_STACK" Bundle.steD) && decide (w ≠ .laysStatic Bundle.tN "SUPPRESSED_SENTINEL" Bundle.listD)
def vx_at0 (own : String) (ic : Nat) (X : String) (names : List String) : List Cond := (Bundle.ownAtoms0 own ic X names).filter vx_no
def vx_atS (own : String) (ic : Nat) (X : String) (names : List String) : List Cond := (Bundle.ownAtoms own ic X names).filter vx_no
/-- a word that the tables alone decide, or a good one -/
def vx_ot (w : Cond) : Bool := w.onTables || goodWord w
theorem vx_ot_at {args a' : Array Value} {s U : State} {w : Cond} (hW : s.WarmedH U.vm) (hvm : s.vm = U.vm) (hg : vx_ot w = true) (h : w.before args s = true) : w.before a' U = true := by
  simp only [vx_ot, Bool.or_eq_true] at hg
  rcases hg with hg | hg
  · exact va_tabs hg hvm h
  · exact word_at hW (good_of_word hg) h
/-- a list's words: the good ones out of the method's own list, the others by premises of their own -/
theorem vx_hat {args : Array Value} {s : State} {L B : List Cond} (h1 : ∀ w ∈ L.filter goodWord, w.before args s = true) (h2 : ∀ w ∈ L.filter (fun w => !goodWord w), w ∈ B) (h3 : ∀ w ∈ B, w.before args s = true) : ∀ w ∈ L, w.before args s = true := by
  intro w hw
  by_cases g : goodWord w = true
  · exact h1 w (List.mem_filter.mpr ⟨hw, g⟩)
  · refine h3 w (h2 w (List.mem_filter.mpr ⟨hw, ?_⟩))
    show (!goodWord w) = true
    cases hgw : goodWord w
    · rfl
    · exact absurd hgw g
theorem vx_c {args : Array Value} {s : State} {w : Cond} {B : List Cond} (h : w.before args s = true) (t : ∀ w ∈ B, w.before args s = true) : ∀ w' ∈ w :: B, w'.before args s = true := fun w' h' => (List.mem_cons.mp h').elim (fun e => by rw [e]; exact h) (t w')
theorem vx_n {args : Array Value} {s : State} : ∀ w ∈ ([] : List Cond), w.before args s = true := fun _ h => nomatch h
theorem vx_own {args : Array Value} {s : State} {L : List Cond} (h1 : ∀ w ∈ L.filter vx_no, w.before args s = true)
    (hU : (Cond.isRef (.static Bundle.tN "UNASSIGNED_STACK" Bundle.steD)).before args s = true) (hN : (Cond.isRef (.static Bundle.tN "SUPPRESSED_SENTINEL" Bundle.listD)).before args s = true)
    (lU : (Cond.laysStatic Bundle.tN "UNASSIGNED_STACK" Bundle.steD).before args s = true) (lN : (Cond.laysStatic Bundle.tN "SUPPRESSED_SENTINEL" Bundle.listD).before args s = true) : ∀ w ∈ L, w.before args s = true := by
  intro w hw
  by_cases e1 : w = .isRef (.static Bundle.tN "UNASSIGNED_STACK" Bundle.steD)
  · rw [e1]; exact hU
  · by_cases e2 : w = .isRef (.static Bundle.tN "SUPPRESSED_SENTINEL" Bundle.listD)
    · rw [e2]; exact hN
    · by_cases e3 : w = .laysStatic Bundle.tN "UNASSIGNED_STACK" Bundle.steD
      · rw [e3]; exact lU
      · by_cases e4 : w = .laysStatic Bundle.tN "SUPPRESSED_SENTINEL" Bundle.listD
        · rw [e4]; exact lN
        · exact h1 w (List.mem_filter.mpr ⟨hw, by unfold vx_no; rw [decide_eq_true e1, decide_eq_true e2, decide_eq_true e3, decide_eq_true e4]; rfl⟩)
/-- where a static field lies, its class's statics cell in H -/
def vx_L (C n d : String) (A : Nat → Prop) (U : State) (H : Heap) : Prop := ∃ (c : ClassId) (k : Class) (i : Nat) (f : Field) (a : Nat) (cell : Cell), U.vm.findClass C = some c ∧ U.fieldFound? C n d = some (c, k, i, f) ∧ f.isStatic = true ∧ k.statics = some a ∧ H[a]? = some cell ∧ cell.vm.isStatics = true ∧ cell.cls = c ∧ f.slot < cell.slots.size ∧ k.staticTypes[f.slot]? = some f.type ∧ ¬ A a
theorem vx_L.moved {C n d : String} {A : Nat → Prop} {u U : State} {H : Heap} (hvm : u.vm.Alike U.vm) (h : vx_L C n d A u H) : vx_L C n d A U H := by
  obtain ⟨c, k, i, f, a, cell, h1, h2, h3, h4, h5, h6, h7, h8, h9, h10⟩ := h
  obtain ⟨k', hi', he⟩ := State.fieldFound?_setVm hvm h2
  exact ⟨c, k', i, f, a, cell, by rw [hvm.findClass]; exact h1, hi', h3, by rw [he]; exact h4, h5, h6, h7, h8, by rw [he]; exact h9, h10⟩
theorem vx_L.kept {C n d : String} {A : Nat → Prop} {U : State} {H H1 : Heap} (h : vx_L C n d A U H) (hq : ∀ a : Nat, a < H.size → ¬ A a → H1[a]? = H[a]?) : vx_L C n d A U H1 := by
  obtain ⟨c, k, i, f, a, cell, h1, h2, h3, h4, h5, h6, h7, h8, h9, h10⟩ := h
  exact ⟨c, k, i, f, a, cell, h1, h2, h3, h4, by rw [hq a (Array.getElem?_eq_some_iff.mp h5).1 h10]; exact h5, h6, h7, h8, h9, h10⟩
theorem vx_L.narrow {C n d : String} {A B : Nat → Prop} {U : State} {H : Heap} (h : vx_L C n d A U H) (hAB : ∀ q, B q → A q) : vx_L C n d B U H := by
  obtain ⟨c, k, i, f, a, cell, h1, h2, h3, h4, h5, h6, h7, h8, h9, h10⟩ := h
  exact ⟨c, k, i, f, a, cell, h1, h2, h3, h4, h5, h6, h7, h8, h9, fun z => h10 (hAB _ z)⟩
theorem vx_L.word {C n d : String} {A : Nat → Prop} {s : State} {args : Array Value} (h : vx_L C n d A s s.heap) : (Cond.laysStatic C n d).before args s = true := by
  obtain ⟨c, k, i, f, a, cell, h1, h2, h3, h4, h5, h6, h7, h8, h9, -⟩ := h
  show (Cond.laysStatic C n d).holds args s none s [] = true
  exact Cond.laysStatic_of h1 h2 h3 h4 h5 h6 h7 h8 h9
/-- .. and what it holds: null or some reference -/
def vx_Zq (C n d : String) (A : Nat → Prop) (U : State) (H : Heap) : Prop := va_Zq C n d A U H ∧ vx_L C n d A U H
theorem vx_Zq.moved {C n d : String} {A : Nat → Prop} {u U : State} {H : Heap} (hvm : u.vm.Alike U.vm) (h : vx_Zq C n d A u H) : vx_Zq C n d A U H := ⟨va_Zq.moved hvm h.1, vx_L.moved hvm h.2⟩
theorem vx_Zq.kept {C n d : String} {A : Nat → Prop} {U : State} {H H1 : Heap} (h : vx_Zq C n d A U H) (hq : ∀ a : Nat, a < H.size → ¬ A a → H1[a]? = H[a]?) : vx_Zq C n d A U H1 := ⟨va_Zq.kept h.1 hq, vx_L.kept h.2 hq⟩
theorem vx_Zq.narrow {C n d : String} {A B : Nat → Prop} {U : State} {H : Heap} (h : vx_Zq C n d A U H) (hAB : ∀ q, B q → A q) : vx_Zq C n d B U H := ⟨va_Zq.narrow h.1 hAB, vx_L.narrow h.2 hAB⟩
theorem vx_Zqof {args : Array Value} {s : State} {C n d : String} {A : Nat → Prop} (hl : (Cond.laysStatic C n d).before args s = true) (hini : (Cond.initialized C).before args s = true) (h : (Cond.isRef (.static C n d)).before args s = true) (hA : ∀ a : Nat, a < s.heap.size → ¬ A a) : vx_Zq C n d A s s.heap := by
  refine ⟨va_Zqof hl hini h hA, ?_⟩
  obtain ⟨c, k, i, f, a, cell, h1, h2, h3, h4, h5, h6, h7, h8, h9⟩ := Cond.laysStatic_spec hl
  exact ⟨c, k, i, f, a, cell, h1, h2, h3, h4, h5, h6, h7, h8, h9, hA a (Array.getElem?_eq_some_iff.mp h5).1⟩
theorem vx_isRef {C n d : String} {v : Value} {A : Nat → Prop} {s : State} {args : Array Value} (h : va_Z C n d v A s s.heap) (hv : v.isRef = true) : (Cond.isRef (.static C n d)).before args s = true := by
  obtain ⟨cf, kf, fi, f, a, cell, h1, h2, h3, h4, h5, h6, h7, -⟩ := h
  have he : (Term.static C n d).eval args s none [] s = some v := by
    simp [Term.eval, State.fieldNamed?, h1, h2, h4, h5, h6, h7]
  simp only [Cond.before, Cond.holds, Cond.value, he]
  cases v <;> simp_all [Value.isRef]
theorem vx_isRefq {C n d : String} {A : Nat → Prop} {s : State} {args : Array Value} (h : va_Zq C n d A s s.heap) : (Cond.isRef (.static C n d)).before args s = true := by
  rcases h with h | ⟨t, h⟩
  · exact vx_isRef h rfl
  · exact vx_isRef h rfl
/-- the same frame, seen from here: as if the method were called anew in this heap -/
theorem vx_rebase {T : State} (X : Stand p l e R s m args below meth c T locs cells slots) {R' : Room} (hf : R'.frames ≤ R.frames) (hl : R'.locals ≤ R.locals) (hc : cells + R'.cells ≤ R.cells) (hs : slots + R'.slots ≤ R.slots) :
    Stand p l e R' ((T.setVm s.vm).setFrames (.invoking m args :: below)) m args below meth c T [] 0 0 := by
  have htop : (T.setVm s.vm).topJava?.isSome := X.here.top
  have hF : ((T.setVm s.vm).setFrames (.invoking m args :: below)).frames = .invoking m args :: below := State.frames_setFrames _ (State.cur_lt_of_top htop)
  obtain ⟨g₀, hg0⟩ := Option.isSome_iff_exists.mp htop
  obtain ⟨r, hr⟩ := State.topJava?_eq_some.mp hg0
  have hl9 : e.platform.stackLimits (T.setVm s.vm).me = e.platform.stackLimits s.me := X.limits
  have hb9 : (T.setVm s.vm).me.stackBytes = s.me.stackBytes := X.bytes
  refine ⟨X.admits, X.cas, X.clock, hF, ?_, X.hears, X.method, X.code, X.here, X.tail, X.warmed, ?_, ?_, ?_⟩
  · have h := X.room
    have hU : ((T.setVm s.vm).setFrames (.invoking m args :: below)).localsInUse = s.localsInUse := by
      rw [State.localsInUse_invoking hF (meth := meth) (c := c) X.method X.code, State.localsInUse_invoking X.frames X.method X.code]
    simp only [State.hasRoom, Bool.and_eq_true, decide_eq_true_eq] at h ⊢
    obtain ⟨⟨⟨⟨h1, h2, h3, h4, h5, h6⟩, h7⟩, h8⟩, h9⟩ := h
    rw [X.frames, List.length_cons] at h2 h3
    have q1 := X.heapSize
    have q2 := X.used
    simp only [hF, hU, List.length_cons, State.stackLimits_setFrames, State.stackBytes_setFrames, hl9, hb9]
    refine ⟨⟨⟨⟨by omega, by omega, by omega, by omega, by omega, h6⟩, ?_⟩, ?_⟩, X.book⟩
    · show T.heap.size + R'.cells ≤ e.platform.maxCells
      omega
    · show T.slotsUsed + R'.slots ≤ e.platform.maxSlots
      omega
  · rw [State.stackLimits_setFrames]; rfl
  · rw [State.stackBytes_setFrames]; rfl
  · refine ⟨?_, Nat.le_refl _, Nat.le_refl _, ?_, ?_, fun a c9 h9 => ⟨c9, h9, rfl, rfl, fun _ _ => rfl⟩⟩
    · obtain ⟨t, ht, -⟩ := State.frames_cons hr
      show T.setVm s.vm = { ((T.setVm s.vm).setFrames (.invoking m args :: below)).setFrames (T.setVm s.vm).frames with heap := T.heap, slotsUsed := T.slotsUsed }
      rw [State.setFrames_setFrames, State.setFrames_self ht]
      rfl
    · show T.slotsUsed = T.slotsUsed + ((T.heap.toList.drop T.heap.size).map (·.slots.size)).sum
      rw [List.drop_eq_nil_of_le (Nat.le_of_eq Array.length_toList)]
      rfl
    · show ((T.heap.toList.drop T.heap.size).map (·.slots.size)).sum ≤ 0
      rw [List.drop_eq_nil_of_le (Nat.le_of_eq Array.length_toList)]
      exact Nat.le_refl _
/-- 'throw new E()': new; dup; invokespecial; athrow -/
theorem vx_throw0 {cc : ByteArray} {pc : Nat} (hexec : p.tables.exec = Jvm.exec) (hb : c.code = cc) (hl : l.stackTraces = false) {own cls : String} {names : List String} {ik ic mc ms : Nat} {A : Nat → Prop}
    (hown : s.vm.findClass own = some m.cls) (hcls : Bundle.fit cls = true) (hnames : ∀ n ∈ names, Bundle.fit n = true)
    (hk : (Cond.classLink own ik cls).before args s = true) (hini : (Cond.initialized cls).before args s = true) (hat : ∀ w ∈ vx_at0 own ic cls names, w.before args s = true)
    (hgood : ∀ w ∈ Cond.classLink own ik cls :: Cond.initialized cls :: vx_at0 own ic cls names, vx_ot w = true)
    (hU : vx_Zq Bundle.tN "UNASSIGNED_STACK" Bundle.steD A s s.heap) (hN : vx_Zq Bundle.tN "SUPPRESSED_SENTINEL" Bundle.listD A s s.heap) (hS : va_S A s.heap H locs) (hsize : ls.size = c.maxLocals)
    (d0 : decode cc pc = .ok (.new ik, 3)) (d3 : decode cc (pc + 3) = .ok (.dup, 1)) (d4 : decode cc (pc + 4) = .ok (.invokespecial ic, 3)) (d7 : decode cc (pc + 7) = .ok (.athrow, 1))
    (hout : ∀ x ∈ c.exceptionTable.toList, covers x (pc + 7) = false)
    (hRframes : names.length + 3 < R.frames) (hRlocals : (rest.map fun v => v.category).sum + (13 * (names.length + 1) + 42) ≤ R.locals) (hRcells : cells + 1 ≤ R.cells) (hRslots : slots + 6 ≤ R.slots) (hlocks : meth.locks = false)
    (hx : ∀ t : State, s.vm.Alike t.vm → H.size ≤ t.heap.size → (∀ q : Nat, q < H.size → t.heap[q]? = H[q]?) → XC cls s t)
    (hf : ∀ z ∈ locs, free z.base) (hc : cells + 1 ≤ mc) (hs : slots + 6 ≤ ms) :
    W p l e R s m args below meth c H locs cells slots (vx_MQ below Qc XC args s mc ms free) (F0 m pc ls rest) := by
  intro T hT X
  have htr : e.platform.stackTraces = false := (show e.platform.stackTraces = l.stackTraces by rw [X.admits.platform]).trans hl
  have Y := vx_rebase X (R' := { frames := R.frames, locals := R.locals, cells := 1, slots := 6 }) (Nat.le_refl _) (Nat.le_refl _) hRcells hRslots
  obtain ⟨s', hA⟩ : ∃ z, z = (T.setVm s.vm).setFrames (.invoking m args :: below) := ⟨_, rfl⟩
  rw [← hA] at Y
  have hvm : s'.vm = s.vm := by rw [hA]; rfl
  have hhp : s'.heap = H := by rw [hA]; exact hT
  have hW0 : s.WarmedH s'.vm := by rw [hvm]; exact State.WarmedH.refl s
  have hat' : ∀ w ∈ vx_at0 own ic cls names, w.before args s' = true := fun w hw => vx_ot_at hW0 hvm.symm (hgood w (List.mem_cons_of_mem _ (List.mem_cons_of_mem _ hw))) (hat w hw)
  have hk' : (Cond.classLink own ik cls).before args s' = true := vx_ot_at hW0 hvm.symm (hgood _ List.mem_cons_self) hk
  have hini' : (Cond.initialized cls).before args s' = true := vx_ot_at hW0 hvm.symm (hgood _ (List.mem_cons_of_mem _ List.mem_cons_self)) hini
  have hU' : vx_Zq Bundle.tN "UNASSIGNED_STACK" Bundle.steD A s' s'.heap := by rw [hhp]; exact vx_Zq.moved hW0.alike (hU.kept hS.2.1)
  have hN' : vx_Zq Bundle.tN "SUPPRESSED_SENTINEL" Bundle.listD A s' s'.heap := by rw [hhp]; exact vx_Zq.moved hW0.alike (hN.kept hS.2.1)
  have h : ∀ w ∈ Bundle.ownAtoms0 own ic cls names, w.before args s' = true := vx_own hat' (vx_isRefq hU'.1) (vx_isRefq hN'.1) hU'.2.word hN'.2.word
  have hown' : s'.vm.findClass own = some m.cls := by rw [hvm]; exact hown
  have hins : (Cond.instantiable cls 6).before args s' = true := h _ (by simp [Bundle.ownAtoms0])
  obtain ⟨vm₁, cX, kX, hfX, hkX, -, -, X₁, st1⟩ := Y.newCold hexec (own := own) (C := cls) (index := ik) (n := 6) hown' hk' hins hini'
    (g := F0 m pc ls rest) rfl (by rw [hb]; exact d0) (Nat.le_refl _) (Nat.le_refl _)
  generalize hT1 : (T.setVm vm₁).pushCell { cls := cX, slots := kX.instanceTypes.map defaultValue, vm := .none } = T1 at X₁ st1
  have hcat : (Value.ref T.heap.size).category = 1 := rfl
  have hcellA : T1.heap[T.heap.size]? = some (freshCell cX kX) := by rw [← hT1]; exact State.heap_pushCell_size _ _
  have d3' : decode c.code (pc + 3) = .ok (.dup, 1) := by rw [hb]; exact d3
  obtain ⟨U, hsteps, hrun, hend, hW, hsame, ce, hce, hO⟩ := X₁.ctorThrow0 hexec htr (own := own) (cls := cls) (names := names) (ic := ic) hown' hcls hnames h (fun x hx => nomatch hx) hfX hkX hcellA (by rw [hhp, hT]; exact Nat.le_refl _)
    (g := { method := m, pc := pc + 4, locals := ls, stack := .ref T.heap.size :: .ref T.heap.size :: rest, locked := none }) rfl hsize rfl rfl (rest := rest) rfl
    (by rw [hb]; exact d4) (by rw [hb]; exact d7) hout hRframes (by simp only [List.map_cons, List.sum_cons, hcat]; omega) hlocks
  obtain ⟨f1, f2⟩ := vx_frame hsame
  rw [hhp] at f1 f2
  have hWs : s.WarmedH U.vm := State.WarmedH.trans hW0 hW
  have hcl : s.vm.findClass cls = some ce.cls := by
    have h9 := hO.cls
    rw [hvm] at h9
    exact h9
  have hall : s.sameButNew ({ U with vm := s.vm } : State) locs mc ms := by
    subst hA
    obtain ⟨e1, e2⟩ := hsame
    rw [State.setFrames_setFrames] at e1
    have h2 : (T.setVm s.vm).sameButNew ({ U with vm := s.vm } : State) [] (0 + 1) (0 + 6) := ⟨e1, e2⟩
    have h3 := X.same.trans h2
    rw [List.append_nil] at h3
    exact h3.mono hc hs
  refine ⟨U, ?_, .threw T.heap.size, hrun, hend, Or.inr ⟨T.heap.size, rfl, cls, ce, locs, hx U hWs.alike f1 (fun q hq => f2 q hq (fun z hz => nomatch hz)), hce, hO.vm, hcl, hWs, hall, hf⟩⟩
  refine st1 _ ?_
  show Steps p.tables e below (T1.setTop { method := m, pc := pc + 3, locals := ls, stack := .ref T.heap.size :: rest, locked := none }) _
  jvm_step X₁.here [X₁.here.top, hexec, d3', Value.category]
  exact hsteps
/-- 'throw new E("text")': new; dup; ldc; invokespecial; athrow -/
theorem vx_throwS {cc : ByteArray} {pc : Nat} (hexec : p.tables.exec = Jvm.exec) (hb : c.code = cc) (hl : l.stackTraces = false) {own cls text : String} {names : List String} {ik is ic mc ms sa : Nat} {A : Nat → Prop}
    (hown : s.vm.findClass own = some m.cls) (hcls : Bundle.fit cls = true) (hnames : ∀ n ∈ names, Bundle.fit n = true)
    (hk : (Cond.classLink own ik cls).before args s = true) (hini : (Cond.initialized cls).before args s = true) (hstr : vk_R own is text sa s) (hat : ∀ w ∈ vx_atS own ic cls names, w.before args s = true)
    (hgood : ∀ w ∈ Cond.classLink own ik cls :: Cond.initialized cls :: vx_atS own ic cls names, vx_ot w = true)
    (hU : vx_Zq Bundle.tN "UNASSIGNED_STACK" Bundle.steD A s s.heap) (hN : vx_Zq Bundle.tN "SUPPRESSED_SENTINEL" Bundle.listD A s s.heap) (hS : va_S A s.heap H locs) (hsize : ls.size = c.maxLocals)
    (d0 : decode cc pc = .ok (.new ik, 3)) (d3 : decode cc (pc + 3) = .ok (.dup, 1)) (d4 : decode cc (pc + 4) = .ok (.ldc is, 2)) (d6 : decode cc (pc + 6) = .ok (.invokespecial ic, 3)) (d9 : decode cc (pc + 9) = .ok (.athrow, 1))
    (hout : ∀ x ∈ c.exceptionTable.toList, covers x (pc + 9) = false)
    (hRframes : names.length + 3 < R.frames) (hRlocals : (rest.map fun v => v.category).sum + (13 * (names.length + 1) + 43) ≤ R.locals) (hRcells : cells + 1 ≤ R.cells) (hRslots : slots + 6 ≤ R.slots) (hlocks : meth.locks = false)
    (hx : ∀ t : State, s.vm.Alike t.vm → H.size ≤ t.heap.size → (∀ q : Nat, q < H.size → t.heap[q]? = H[q]?) → XC cls s t)
    (hf : ∀ z ∈ locs, free z.base) (hc : cells + 1 ≤ mc) (hs : slots + 6 ≤ ms) :
    W p l e R s m args below meth c H locs cells slots (vx_MQ below Qc XC args s mc ms free) (F0 m pc ls rest) := by
  intro T hT X
  have htr : e.platform.stackTraces = false := (show e.platform.stackTraces = l.stackTraces by rw [X.admits.platform]).trans hl
  have Y := vx_rebase X (R' := { frames := R.frames, locals := R.locals, cells := 1, slots := 6 }) (Nat.le_refl _) (Nat.le_refl _) hRcells hRslots
  obtain ⟨s', hA⟩ : ∃ z, z = (T.setVm s.vm).setFrames (.invoking m args :: below) := ⟨_, rfl⟩
  rw [← hA] at Y
  have hvm : s'.vm = s.vm := by rw [hA]; rfl
  have hhp : s'.heap = H := by rw [hA]; exact hT
  have hW0 : s.WarmedH s'.vm := by rw [hvm]; exact State.WarmedH.refl s
  have hat' : ∀ w ∈ vx_atS own ic cls names, w.before args s' = true := fun w hw => vx_ot_at hW0 hvm.symm (hgood w (List.mem_cons_of_mem _ (List.mem_cons_of_mem _ hw))) (hat w hw)
  have hk' : (Cond.classLink own ik cls).before args s' = true := vx_ot_at hW0 hvm.symm (hgood _ List.mem_cons_self) hk
  have hini' : (Cond.initialized cls).before args s' = true := vx_ot_at hW0 hvm.symm (hgood _ (List.mem_cons_of_mem _ List.mem_cons_self)) hini
  have hU' : vx_Zq Bundle.tN "UNASSIGNED_STACK" Bundle.steD A s' s'.heap := by rw [hhp]; exact vx_Zq.moved hW0.alike (hU.kept hS.2.1)
  have hN' : vx_Zq Bundle.tN "SUPPRESSED_SENTINEL" Bundle.listD A s' s'.heap := by rw [hhp]; exact vx_Zq.moved hW0.alike (hN.kept hS.2.1)
  have h : ∀ w ∈ Bundle.ownAtoms own ic cls names, w.before args s' = true := vx_own hat' (vx_isRefq hU'.1) (vx_isRefq hN'.1) hU'.2.word hN'.2.word
  have hown' : s'.vm.findClass own = some m.cls := by rw [hvm]; exact hown
  have hins : (Cond.instantiable cls 6).before args s' = true := h _ (by simp [Bundle.ownAtoms])
  obtain ⟨vm₁, cX, kX, hfX, hkX, -, -, X₁, st1⟩ := Y.newCold hexec (own := own) (C := cls) (index := ik) (n := 6) hown' hk' hins hini'
    (g := F0 m pc ls rest) rfl (by rw [hb]; exact d0) (Nat.le_refl _) (Nat.le_refl _)
  generalize hT1 : (T.setVm vm₁).pushCell { cls := cX, slots := kX.instanceTypes.map defaultValue, vm := .none } = T1 at X₁ st1
  have hcat : (Value.ref T.heap.size).category = 1 := rfl
  have hcellA : T1.heap[T.heap.size]? = some (freshCell cX kX) := by rw [← hT1]; exact State.heap_pushCell_size _ _
  have d3' : decode c.code (pc + 3) = .ok (.dup, 1) := by rw [hb]; exact d3
  have d4' : decode c.code (pc + 4) = .ok (.ldc is, 2) := by rw [hb]; exact d4
  have hstr' : vk_R own is text sa s' := vk_R.warm hW0 hstr
  obtain ⟨U, hsteps, hrun, hend, hW, hsame, ce, hce, hO⟩ := X₁.ctorThrowS hexec htr (own := own) (cls := cls) (names := names) (ic := ic) hown' hcls hnames h (fun x hx => nomatch hx) hfX hkX hcellA (by rw [hhp, hT]; exact Nat.le_refl _) (msg := .ref sa) rfl
    (g := { method := m, pc := pc + 6, locals := ls, stack := .ref sa :: .ref T.heap.size :: .ref T.heap.size :: rest, locked := none }) rfl hsize rfl rfl (rest := rest) rfl
    (by rw [hb]; exact d6) (by rw [hb]; exact d9) hout hRframes (by simp only [List.map_cons, List.sum_cons, hcat]; omega) hlocks
  obtain ⟨f1, f2⟩ := vx_frame hsame
  rw [hhp] at f1 f2
  have hWs : s.WarmedH U.vm := State.WarmedH.trans hW0 hW
  have hcl : s.vm.findClass cls = some ce.cls := by
    have h9 := hO.cls
    rw [hvm] at h9
    exact h9
  have hall : s.sameButNew ({ U with vm := s.vm } : State) locs mc ms := by
    subst hA
    obtain ⟨e1, e2⟩ := hsame
    rw [State.setFrames_setFrames] at e1
    have h2 : (T.setVm s.vm).sameButNew ({ U with vm := s.vm } : State) [] (0 + 1) (0 + 6) := ⟨e1, e2⟩
    have h3 := X.same.trans h2
    rw [List.append_nil] at h3
    exact h3.mono hc hs
  refine ⟨U, ?_, .threw T.heap.size, hrun, hend, Or.inr ⟨T.heap.size, rfl, cls, ce, locs, hx U hWs.alike f1 (fun q hq => f2 q hq (fun z hz => nomatch hz)), hce, hO.vm, hcl, hWs, hall, hf⟩⟩
  refine st1 _ ?_
  show Steps p.tables e below (T1.setTop { method := m, pc := pc + 3, locals := ls, stack := .ref T.heap.size :: rest, locked := none }) _
  jvm_step X₁.here [X₁.here.top, hexec, d3', Value.category]
  exact X₁.ldcString hexec (own := own) (text := text) (index := is) (a := sa) hown' hstr'.1 hstr'.2
    (g := { method := m, pc := pc + 4, locals := ls, stack := .ref T.heap.size :: .ref T.heap.size :: rest, locked := none }) rfl d4' _ hsteps
/-- 'throw new E("text")', the text by a wide index -/
theorem vx_throwSW {cc : ByteArray} {pc : Nat} (hexec : p.tables.exec = Jvm.exec) (hb : c.code = cc) (hl : l.stackTraces = false) {own cls text : String} {names : List String} {ik is ic mc ms sa : Nat} {A : Nat → Prop}
    (hown : s.vm.findClass own = some m.cls) (hcls : Bundle.fit cls = true) (hnames : ∀ n ∈ names, Bundle.fit n = true)
    (hk : (Cond.classLink own ik cls).before args s = true) (hini : (Cond.initialized cls).before args s = true) (hstr : vk_R own is text sa s) (hat : ∀ w ∈ vx_atS own ic cls names, w.before args s = true)
    (hgood : ∀ w ∈ Cond.classLink own ik cls :: Cond.initialized cls :: vx_atS own ic cls names, vx_ot w = true)
    (hU : vx_Zq Bundle.tN "UNASSIGNED_STACK" Bundle.steD A s s.heap) (hN : vx_Zq Bundle.tN "SUPPRESSED_SENTINEL" Bundle.listD A s s.heap) (hS : va_S A s.heap H locs) (hsize : ls.size = c.maxLocals)
    (d0 : decode cc pc = .ok (.new ik, 3)) (d3 : decode cc (pc + 3) = .ok (.dup, 1)) (d4 : decode cc (pc + 4) = .ok (.ldc_w is, 3)) (d7 : decode cc (pc + 7) = .ok (.invokespecial ic, 3)) (d10 : decode cc (pc + 10) = .ok (.athrow, 1))
    (hout : ∀ x ∈ c.exceptionTable.toList, covers x (pc + 10) = false)
    (hRframes : names.length + 3 < R.frames) (hRlocals : (rest.map fun v => v.category).sum + (13 * (names.length + 1) + 43) ≤ R.locals) (hRcells : cells + 1 ≤ R.cells) (hRslots : slots + 6 ≤ R.slots) (hlocks : meth.locks = false)
    (hx : ∀ t : State, s.vm.Alike t.vm → H.size ≤ t.heap.size → (∀ q : Nat, q < H.size → t.heap[q]? = H[q]?) → XC cls s t)
    (hf : ∀ z ∈ locs, free z.base) (hc : cells + 1 ≤ mc) (hs : slots + 6 ≤ ms) :
    W p l e R s m args below meth c H locs cells slots (vx_MQ below Qc XC args s mc ms free) (F0 m pc ls rest) := by
  intro T hT X
  have htr : e.platform.stackTraces = false := (show e.platform.stackTraces = l.stackTraces by rw [X.admits.platform]).trans hl
  have Y := vx_rebase X (R' := { frames := R.frames, locals := R.locals, cells := 1, slots := 6 }) (Nat.le_refl _) (Nat.le_refl _) hRcells hRslots
  obtain ⟨s', hA⟩ : ∃ z, z = (T.setVm s.vm).setFrames (.invoking m args :: below) := ⟨_, rfl⟩
  rw [← hA] at Y
  have hvm : s'.vm = s.vm := by rw [hA]; rfl
  have hhp : s'.heap = H := by rw [hA]; exact hT
  have hW0 : s.WarmedH s'.vm := by rw [hvm]; exact State.WarmedH.refl s
  have hat' : ∀ w ∈ vx_atS own ic cls names, w.before args s' = true := fun w hw => vx_ot_at hW0 hvm.symm (hgood w (List.mem_cons_of_mem _ (List.mem_cons_of_mem _ hw))) (hat w hw)
  have hk' : (Cond.classLink own ik cls).before args s' = true := vx_ot_at hW0 hvm.symm (hgood _ List.mem_cons_self) hk
  have hini' : (Cond.initialized cls).before args s' = true := vx_ot_at hW0 hvm.symm (hgood _ (List.mem_cons_of_mem _ List.mem_cons_self)) hini
  have hU' : vx_Zq Bundle.tN "UNASSIGNED_STACK" Bundle.steD A s' s'.heap := by rw [hhp]; exact vx_Zq.moved hW0.alike (hU.kept hS.2.1)
  have hN' : vx_Zq Bundle.tN "SUPPRESSED_SENTINEL" Bundle.listD A s' s'.heap := by rw [hhp]; exact vx_Zq.moved hW0.alike (hN.kept hS.2.1)
  have h : ∀ w ∈ Bundle.ownAtoms own ic cls names, w.before args s' = true := vx_own hat' (vx_isRefq hU'.1) (vx_isRefq hN'.1) hU'.2.word hN'.2.word
  have hown' : s'.vm.findClass own = some m.cls := by rw [hvm]; exact hown
  have hins : (Cond.instantiable cls 6).before args s' = true := h _ (by simp [Bundle.ownAtoms])
  obtain ⟨vm₁, cX, kX, hfX, hkX, -, -, X₁, st1⟩ := Y.newCold hexec (own := own) (C := cls) (index := ik) (n := 6) hown' hk' hins hini'
    (g := F0 m pc ls rest) rfl (by rw [hb]; exact d0) (Nat.le_refl _) (Nat.le_refl _)
  generalize hT1 : (T.setVm vm₁).pushCell { cls := cX, slots := kX.instanceTypes.map defaultValue, vm := .none } = T1 at X₁ st1
  have hcat : (Value.ref T.heap.size).category = 1 := rfl
  have hcellA : T1.heap[T.heap.size]? = some (freshCell cX kX) := by rw [← hT1]; exact State.heap_pushCell_size _ _
  have d3' : decode c.code (pc + 3) = .ok (.dup, 1) := by rw [hb]; exact d3
  have d4' : decode c.code (pc + 4) = .ok (.ldc_w is, 3) := by rw [hb]; exact d4
  have hstr' : vk_R own is text sa s' := vk_R.warm hW0 hstr
  obtain ⟨U, hsteps, hrun, hend, hW, hsame, ce, hce, hO⟩ := X₁.ctorThrowS hexec htr (own := own) (cls := cls) (names := names) (ic := ic) hown' hcls hnames h (fun x hx => nomatch hx) hfX hkX hcellA (by rw [hhp, hT]; exact Nat.le_refl _) (msg := .ref sa) rfl
    (g := { method := m, pc := pc + 7, locals := ls, stack := .ref sa :: .ref T.heap.size :: .ref T.heap.size :: rest, locked := none }) rfl hsize rfl rfl (rest := rest) rfl
    (by rw [hb]; exact d7) (by rw [hb]; exact d10) hout hRframes (by simp only [List.map_cons, List.sum_cons, hcat]; omega) hlocks
  obtain ⟨f1, f2⟩ := vx_frame hsame
  rw [hhp] at f1 f2
  have hWs : s.WarmedH U.vm := State.WarmedH.trans hW0 hW
  have hcl : s.vm.findClass cls = some ce.cls := by
    have h9 := hO.cls
    rw [hvm] at h9
    exact h9
  have hall : s.sameButNew ({ U with vm := s.vm } : State) locs mc ms := by
    subst hA
    obtain ⟨e1, e2⟩ := hsame
    rw [State.setFrames_setFrames] at e1
    have h2 : (T.setVm s.vm).sameButNew ({ U with vm := s.vm } : State) [] (0 + 1) (0 + 6) := ⟨e1, e2⟩
    have h3 := X.same.trans h2
    rw [List.append_nil] at h3
    exact h3.mono hc hs
  refine ⟨U, ?_, .threw T.heap.size, hrun, hend, Or.inr ⟨T.heap.size, rfl, cls, ce, locs, hx U hWs.alike f1 (fun q hq => f2 q hq (fun z hz => nomatch hz)), hce, hO.vm, hcl, hWs, hall, hf⟩⟩
  refine st1 _ ?_
  show Steps p.tables e below (T1.setTop { method := m, pc := pc + 3, locals := ls, stack := .ref T.heap.size :: rest, locked := none }) _
  jvm_step X₁.here [X₁.here.top, hexec, d3', Value.category]
  exact X₁.ldcStringW hexec (own := own) (text := text) (index := is) (a := sa) hown' hstr'.1 hstr'.2
    (g := { method := m, pc := pc + 4, locals := ls, stack := .ref T.heap.size :: .ref T.heap.size :: rest, locked := none }) rfl d4' _ hsteps
end Ends
section Bodies
variable {l : Launch}
theorem vx_ofW {y : MethodName} {ws ws' : List Cond} {rm : Room} {Pc : Array Value → State → Prop} {Qc : Array Value → State → Outcome → State → Prop} {XC : String → State → State → Prop} {mc ms : Nat} {free : Addr → Prop} {cc : ByteArray} {maxL : Nat} {ret : Option FieldType}
    (hy : plainName y.cls = true) (hw : ws = Cond.code y cc maxL ret :: ws')
    (body : ∀ p e s m args below meth c s₁, BodyLoose p l y (headSpec ws rm) cc maxL ret e s m args below meth c s₁ → c.maxLocals = maxL → (∀ x ∈ c.exceptionTable.toList, False) → Pc args s →
      W p l e (headSpec ws rm).room s m args below meth c s.heap [] 0 0 (vx_MQ below Qc XC args s mc ms free) (entryFrame m args maxL)) : vx_Met l y ws rm Pc Qc XC mc ms free := by
  refine MetFree.of_bodyS (code := cc) (maxLocals := maxL) (ret := ret) hy ?_ ?_
  · intro args s m h hn
    obtain ⟨meth, c, h1, h2, h3, h4, h5, h6, -, -⟩ := Cond.code_spec hn (atoms_spec (ws := ws) h _ (by rw [hw]; exact List.mem_cons_self))
    exact ⟨meth, c, h1, h2, h3, h4, h5, h6⟩
  · intro p e s m args below meth c s₁ B hml hP _
    have hh0 : s₁.heap = s.heap := by rw [B.state]; rfl
    have ht : ∀ x ∈ c.exceptionTable.toList, False := by
      obtain ⟨meth9, c9, h1, h2, -, -, -, -, h7, -⟩ := Cond.code_spec B.named (atoms_spec (ws := ws) B.pre _ (by rw [hw]; exact List.mem_cons_self))
      cases Option.some.inj (h1.symm.trans B.method)
      cases Option.some.inj (h2.symm.trans (Stand.of_body B).code)
      intro x hx
      rw [Array.isEmpty_iff.mp h7] at hx
      cases hx
    obtain ⟨t, a1, o, b1, b2, b3⟩ := body p e s m args below meth c s₁ B hml ht hP s₁ hh0 (Stand.of_body B)
    exact ⟨t, o, a1, b1, b2, b3⟩
/-- the table of a body with handlers -/
theorem vx_table {p : Program} {x y : MethodName} {S : Spec} {cc bytes : ByteArray} {maxL maxL' : Nat} {ret ret' : Option FieldType} {e : Env} {s s₁ : State} {m : MethodId} {args : Array Value} {below : List Frame} {meth : Method} {c : Code} {hh : List (Nat × Nat × Nat × Nat)}
    (B : BodyLoose p l y S cc maxL ret e s m args below meth c s₁) (h : (Cond.codeWith y bytes maxL' ret' hh).before args s = true) : c.exceptionTable.toList = tableOf hh := by
  obtain ⟨m9, meth9, c9, hn9, h1, h2, -, -, h6, -⟩ := Cond.codeWith_spec h
  cases Option.some.inj (hn9.symm.trans B.named)
  cases Option.some.inj (h1.symm.trans B.method)
  cases Option.some.inj (h2.symm.trans (Stand.of_body B).code)
  rw [← h6, table_eq]
end Bodies
end VXA
/-! ===== END ===== -/
/-! ===== BEGIN a static call of a method with an exception table ===== -/
section VXS
variable {p : Program} {l : Launch} {e : Env} {R : Room} {s : State} {m : MethodId} {args : Array Value} {below : List Frame} {meth : Method} {c : Code} {T : State} {H : Heap} {locs : List Loc} {cells slots : Nat}
abbrev vx_CSW (R : Room) (s : State) (args : Array Value) (own : String) (index : Nat) (y : MethodName) (bytes : ByteArray) (maxL : Nat) (ret : Option FieldType) (hh : List (Nat × Nat × Nat × Nat)) (ws : List Cond) (rm : Room) (mc ms n : Nat) : Prop :=
  (rm.cells = mc ∧ rm.slots = ms ∧ rm.frames + 1 ≤ R.frames ∧ 8 + (maxL + 11) + rm.locals ≤ R.locals ∧ (∀ w ∈ ws, ∀ (a' : Array Value) (U : State), s.WarmedH U.vm → w.before a' U = true) ∧ Cond.codeWith y bytes maxL ret hh ∈ ws) ∧
  (Cond.codeWith y bytes maxL ret hh).before args s = true ∧ (Cond.initialized y.cls).before args s = true ∧ (y.cls ≠ "java/lang/invoke/MethodHandle" ∧ y.cls ≠ "java/lang/invoke/VarHandle") ∧
  (∀ sig, parseMethodDescriptor y.desc = some sig → n = sig.parameters.length) ∧ (Cond.methodLink own index y).before args s = true ∧ (Cond.static y).before args s = true
theorem vx_cwSW {own : String} {index maxL mc ms : Nat} {y : MethodName} {bytes : ByteArray} {ret : Option FieldType} {hh : List (Nat × Nat × Nat × Nat)} {Ts ws ws' : List Cond} {rm : Room} (n : Nat) (ht : ∀ w ∈ Ts, w.before args s = true) (hT : GoodIn Ts (va_wsS own index y ws)) (hw : ws = Cond.codeWith y bytes maxL ret hh :: ws') (hrc : rm.cells = mc) (hrs : rm.slots = ms)
    (hd : y.cls ≠ "java/lang/invoke/MethodHandle" ∧ y.cls ≠ "java/lang/invoke/VarHandle" ∧ (parseMethodDescriptor y.desc).map (fun d => d.parameters.length) = some n) (hR : rm.frames + 1 ≤ R.frames ∧ 8 + (maxL + 11) + rm.locals ≤ R.locals) :
    vx_CSW R s args own index y bytes maxL ret hh ws rm mc ms n := by
  have ok : ∀ w ∈ va_wsS own index y ws, w.before args s = true := fun w h => ht w (hT w h).1
  have hG : GoodIn Ts ws := fun w h => hT w (by unfold va_wsS; exact List.mem_append_right _ h)
  have hc : Cond.codeWith y bytes maxL ret hh ∈ ws := by rw [hw]; exact List.mem_cons_self
  refine ⟨⟨hrc, hrs, hR.1, hR.2, pay_in ht hG, hc⟩, ht _ (hG _ hc).1, ok _ (by simp [va_wsS]), ⟨hd.1, hd.2.1⟩, fun sig h => ?_, ok _ (by simp [va_wsS]), ok _ (by simp [va_wsS])⟩
  have h2 := hd.2.2
  rw [h] at h2
  exact (Option.some.inj h2).symm
theorem vx_callSW (X : Stand p l e R s m args below meth c T locs cells slots) (hexec : p.tables.exec = Jvm.exec) {own : String} {index : Nat} {y : MethodName} {bytes : ByteArray} {maxL : Nat} {ret : Option FieldType} {hh : List (Nat × Nat × Nat × Nat)}
    (hown : s.vm.findClass own = some m.cls) (hlink : (Cond.methodLink own index y).before args s = true) (hstat : (Cond.static y).before args s = true) (hinit : (Cond.initialized y.cls).before args s = true)
    (hcode : (Cond.codeWith y bytes maxL ret hh).before args s = true) (hy : y.cls ≠ "java/lang/invoke/MethodHandle" ∧ y.cls ≠ "java/lang/invoke/VarHandle")
    {W9 : Nat} {Pre : Pt → Array Value → Prop} {Post : Pt → Array Value → Option Value → Pt → Prop} (hK : Back l R p e below s args y 3 W9 Pre Post)
    {g : JFrame} (hg : g.method = m) (hsize : g.locals.size = c.maxLocals) {argsL rest : List Value} (hlen : ∀ sig, parseMethodDescriptor y.desc = some sig → argsL.length = sig.parameters.length)
    (hstack : g.stack = argsL.reverse ++ rest) (hW : 2 * g.monitorRoom + (rest.map fun v => v.category).sum ≤ W9) (hdg : decode c.code g.pc = .ok (.invokestatic index, 3))
    (hpre : ∀ vm₁, s.WarmedH vm₁ → Pre ⟨T.setVm vm₁, locs, cells, slots⟩ argsL.toArray) :
    ∃ (v : Option Value) (vm₁ : Vm) (B : Pt), s.WarmedH vm₁ ∧ Stand p l e R s m args below meth c B.U B.locs B.cells B.slots ∧ Post ⟨T.setVm vm₁, locs, cells, slots⟩ argsL.toArray v B ∧
      ∀ target, Steps p.tables e below (B.U.setTop { g with pc := g.pc + 3, stack := v.toList ++ rest }) target → Steps p.tables e below (T.setTop g) target := by
  obtain ⟨mk, methM, cM, hnamed, hmethM, -, -, -, -, -, -, hsigM⟩ := Cond.codeWith_spec hcode
  have hstatic : methM.isStatic = true := Cond.static_spec hnamed hmethM hstat
  obtain ⟨kP, hkP, -⟩ := className_of_methodNamed hnamed
  have hinitP : kP.init = .initialized := Cond.initialized_spec (findClass_of_methodNamed hnamed) hkP hinit
  obtain ⟨vm₁, X₁, hstep₁⟩ := X.invokestatic hexec hown hlink hnamed hmethM hstatic hkP hinitP hy (g := g) hg (argsL := argsL) (rest := rest) (hlen _ hsigM) hstack hdg
  obtain ⟨v, B, X', hpost, hsteps⟩ := hK m meth c ⟨T.setVm vm₁, locs, cells, slots⟩ { g with stack := rest } (.invokestatic index) mk argsL.toArray X₁ hg hsize hdg hW (X₁.named hnamed) (hpre vm₁ X₁.warmed)
  exact ⟨v, vm₁, B, X₁.warmed, X', hpost, fun target h => hstep₁ _ fun acts => by rw [doInvoke_state]; exact hsteps.trans h⟩
theorem vx_runSW {y : MethodName} {bytes cc : ByteArray} {maxL nL mc ms n index : Nat} {ret : Option FieldType} {hh : List (Nat × Nat × Nat × Nat)} {ws : List Cond} {rm : Room} {Pc : Array Value → State → Prop} {Qc : Array Value → State → Outcome → State → Prop} {free : Addr → Prop} {Ts : List Cond} {own : String} {As rest : List Value} {g : JFrame}
    (S : CallFix p m c cc nL s args Ts own) (hM : Met l y ws rm Pc Qc mc ms free) (cw : vx_CSW R s args own index y bytes maxL ret hh ws rm mc ms n) (hp : PreS s H Pc As)
    (hg : g.method = m) (hn : As.length = n) (hsize : g.locals.size = nL) (hstack : g.stack = As.reverse ++ rest) (hW : 2 * g.monitorRoom + (rest.map fun v => v.category).sum ≤ 8) (hdg : decode cc g.pc = .ok (.invokestatic index, 3)) (hf : cells + mc ≤ R.cells ∧ slots + ms ≤ R.slots) :
    va_Run p l e R s m args below meth c H locs cells slots mc ms g rest (Qc As.toArray) (free) := by
  obtain ⟨⟨hrc, hrs, hfr, hlo, hws, hcw⟩, hcode, hini, hy, hlen, hl, hstt⟩ := cw
  have hK : Back l R p e below s args y 3 8 (PreOf R mc ms Pc) (PostOf Qc mc ms free) := va_backW (hh := hh) (bytes := bytes) (maxL := maxL) (ret := ret) hM hp.1 hrc hrs hfr hlo hws hcw (fun a' U hW => word_at hW (Or.inl (by first | rfl | simp [Cond.onTables, Cond.keeps, Cond.steady])) hini)
  obtain ⟨hx, hb, hml, ho, -⟩ := S
  intro T hT X
  obtain ⟨v, vm₁, ⟨U', l2, c2, s2⟩, hW₁, X', ⟨g', mk, t, L, e1, e2, hq, h1, hL, h2, h3⟩, st⟩ := vx_callSW X hx (hh := hh) (bytes := bytes) (maxL := maxL) (ret := ret) ho hl hstt hini hcode hy hK hg (hsize.trans hml.symm) (argsL := As) (rest := rest) (fun sig h => hn.trans (hlen sig h)) hstack hW (by rw [hb]; exact hdg)
    (fun vm₁ hW₁ => ⟨hf.1, hf.2, hp.2 (T.setVm vm₁) hT hW₁⟩)
  dsimp only [Pt.U, Pt.locs, Pt.cells, Pt.slots] at X' e1 e2 h1 h2 h3 st
  subst h1; subst h2; subst h3
  exact ⟨v, (T.setVm vm₁).calling g' mk As.toArray, t, U', L, hT, X', hL, e1, e2, hq, st⟩
/-- not caught here, past rows that name other classes: it goes on to the caller -/
theorem vx_outP {p : Program} {l : Launch} {e : Env} {R : Room} {s : State} {m : MethodId} {args : Array Value} {below : List Frame} {meth : Method} {c : Code} {H : Heap} {locs : List Loc} {cells slots : Nat} {free : Addr → Prop} {ls : Array Slot} {rest : List Value} {Qc : Array Value → State → Outcome → State → Prop} {XC : String → State → State → Prop}
    {pc : Nat} {own E : String} {ce : Cell} {q : Addr} {mc ms : Nat} (hown : s.vm.findClass own = some m.cls) (hlocks : meth.locks = false)
    (hpass : ∀ z ∈ c.exceptionTable.toList, covers z pc = false ∨ (z.catchType ≠ 0 ∧ ∃ nm : String, (Cond.classLink own z.catchType nm).before args s = true ∧ va_Nc E nm s)) (hcell : H[q]? = some ce) (hv : ce.vm = .none) (hcl : s.vm.findClass E = some ce.cls)
    (hx : ∀ t : State, t.heap = H → s.vm.Alike t.vm → XC E s t) (hf : ∀ z ∈ locs, free z.base) (hc : cells ≤ mc) (hs : slots ≤ ms) :
    vx_W p l e R s m args below meth c H locs cells slots (vx_MQ below Qc XC args s mc ms free) (F0 m pc ls rest) q := by
  intro T hT X
  have hpl : e.platform.magicAccessors = ({} : Platform).magicAccessors := by rw [X.admits.platform]
  obtain ⟨vm', hW', X', st⟩ := X.outThrough hlocks q (g := F0 m pc ls rest) rfl rfl rfl (cell := ce) (by rw [hT]; exact hcell) (by rw [hv]; rfl)
    (by obtain ⟨k9, h9, -⟩ := Vm.findClass_spec hcl; exact ⟨k9, h9⟩) (fun z hz => by
      rcases hpass z hz with h | ⟨hz0, nm, hl1, hn1⟩
      · exact Or.inl h
      · obtain ⟨c6, hc6, hcl6⟩ := Cond.classLink_spec hown hl1 e.platform hpl
        obtain ⟨a8, b8, h1, h2, h3⟩ := hn1
        cases Option.some.inj (h1.symm.trans hcl)
        cases Option.some.inj (h2.symm.trans hc6)
        exact Or.inr ⟨hz0, _, hcl6, h3⟩)
  obtain ⟨g₀, hfr⟩ := X'.frames_eq
  have hcell9 : ((T.setVm vm').setFrames (.throwing q :: below)).heap[q]? = some ce := by
    show T.heap[q]? = some ce
    rw [hT]; exact hcell
  have hend : Ended ((T.setVm vm').setFrames (.throwing q :: below)) below (.threw q) := State.frames_setFrames _ (State.cur_lt_of_frames hfr)
  refine ⟨(T.setVm vm').setFrames (.throwing q :: below), ?_, .threw q, X'.here.running, hend, Or.inr ⟨q, rfl, E, ce, locs, hx _ hT (X'.ends _).1.alike, hcell9, hv, hcl, (X'.ends _).1, (X'.ends _).2.mono hc hs, hf⟩⟩
  rw [X.pushThrowing_eq]
  exact st
/-- a thing of a world lies in the heap -/
theorem vx_lt {D : va_G} {cl : List vw_C} {ws : va_W} {H1 : Heap} (h : va_P D cl ws H1) {k : Nat} {q : Nat × va_E} (hk : ws[k]? = some q) : q.1 < H1.size := (h k q hk).lt
end VXS
/-! ===== END ===== -/
/-! ===== BEGIN methods with a table of their own: called by a name, returning or throwing ===== -/
section VXH
/-! vx_backW, vx_callVX, vx_callSX, vx_callVW, vx_runVW, vx_runVX, vx_runSX, vx_ofWH follow the same proofs as their sisters above (Free/Laws.lean, Shelf42/LK1.lean); vx_outP calls Shelf42/NT130.lean (outThrough). -/
section
variable {l : Launch} {R : Room} {p : Program} {e : Env} {below : List Frame} {s : State} {sargs : Array Value} {y : MethodName} {len W9 : Nat}
theorem vx_backW {ws : List Cond} {rm : Room} {Pc : Array Value → State → Prop} {Qc : Array Value → State → Outcome → State → Prop} {XC : String → State → State → Prop} {mc ms : Nat} {free : Addr → Prop} {bytes : ByteArray} {maxL : Nat} {ret : Option FieldType} {hh : List (Nat × Nat × Nat × Nat)}
    (hM : vx_Met l y ws rm Pc Qc XC mc ms free) (hblind : FrameBlind Pc) (hrc : rm.cells = mc) (hrs : rm.slots = ms)
    (hframes : rm.frames + 1 ≤ R.frames) (hlocals : W9 + (maxL + 11) + rm.locals ≤ R.locals)
    (hws : ∀ w ∈ ws, ∀ a' U, s.WarmedH U.vm → w.before a' U = true) (hcode : Cond.codeWith y bytes maxL ret hh ∈ ws) (hinit : ∀ a' U, s.WarmedH U.vm → (Cond.initialized y.cls).before a' U = true) :
    vx_Back l R p e below s sargs y len W9 (PreOf R mc ms Pc) (PostOf Qc mc ms free) (vx_Post XC mc ms free) := by
  intro m meth c A g ig mk a X hg hsize hdg hW hn hp
  have h1 : (headSpec ws rm).pre.before a A.U = true := atoms_intro fun w hw => hws w hw _ _ X.warmed
  have h2 : (Cond.codeWith y bytes maxL ret hh).before a A.U = true := hws _ hcode _ _ X.warmed
  have h3 : (Cond.initialized y.cls).before a A.U = true := hinit _ _ X.warmed
  have h4 : A.cells + (headSpec ws rm).room.cells ≤ R.cells := by rw [show (headSpec ws rm).room.cells = mc from hrc]; exact hp.1
  have h5 : A.slots + (headSpec ws rm).room.slots ≤ R.slots := by rw [show (headSpec ws rm).room.slots = ms from hrs]; exact hp.2.1
  have hPc : Pc a (A.U.calling g mk a) := hblind _ _ _ _ hp.2.2
  obtain ⟨U, Ls, c0, s0⟩ := A
  dsimp only [Pt.U, Pt.locs, Pt.cells, Pt.slots] at h1 h2 h3 h4 h5 X hn hPc ⊢
  obtain ⟨m9, methY, cY, hn9, hmY, hcY, -, hlY, -⟩ := Cond.codeWith_spec h2
  cases Option.some.inj (hn9.symm.trans hn)
  obtain ⟨kY, hkY, -⟩ := className_of_methodNamed hn
  have hinitY : kY.init = .initialized := Cond.initialized_spec (findClass_of_methodNamed hn) hkY h3
  have h : At U g.method c below := by rw [hg]; exact X.here
  have hlocals9 : W9 + (maxL + 11) + (headSpec ws rm).room.locals ≤ R.locals := hlocals
  have happ : (headSpec ws rm).appliesLoose y e.platform (U.calling g mk a) = true :=
    Spec.appliesLoose_calling (g := g) h hdg hn hkY hinitY
      (X.room_calling (g := g) (R' := (headSpec ws rm).room) hsize hmY hcY hframes (by rw [hlY]; omega) h4 h5) h1
  obtain ⟨mid, hmid⟩ := h.above
  have hfr : (U.setTop g).frames = (.java g :: mid) ++ below := by rw [State.frames_setTop' g h.top, hmid]; rfl
  obtain ⟨o, s₂, hsteps, -, hend, hq⟩ := Steps.callFree hM p X.admits X.cas X.clock (acts := []) hfr happ hPc trivial
  have hq' : vx_Q Qc XC mc ms free a (U.calling g mk a) o s₂ := hq
  rw [State.frames_setTop' g h.top] at hend
  obtain ⟨g₀, hg0⟩ := Option.isSome_iff_exists.mp h.top
  obtain ⟨r, hr⟩ := State.topJava?_eq_some.mp hg0
  have hr' : (({ U with heap := s₂.heap, slotsUsed := s₂.slotsUsed } : State).setVm s₂.vm).frames = .java g₀ :: r := hr
  rcases hq' with ⟨hqc, L, hfe, hL⟩ | ⟨q, rfl, E, ce, L, hx, hce, hcv, hcl, hW₂, hsm, hL⟩
  · obtain ⟨⟨v, rfl⟩, hW₂, e2, q2, q3, q4, q5, q6⟩ := id hfe
    have e3 : s₂ = ({ (U.calling g mk a).setFrames s₂.frames with heap := s₂.heap, slotsUsed := s₂.slotsUsed } : State).setVm s₂.vm := by
      have : s₂ = ({ s₂ with vm := (U.calling g mk a).vm } : State).setVm s₂.vm := rfl
      rw [e2] at this
      exact this
    obtain ⟨c₂, i₂, len₂, hc₂, hd₂, hf₂⟩ := hend
    have hW' : U.WarmedH s₂.vm := hW₂
    have hcc : c₂ = c := by
      have h1 : s₂.code? g.method = U.code? g.method := by
        rw [State.code?_eq, State.code?_eq, hW'.alike.method?]
      exact Option.some.inj (hc₂.symm.trans (h1.trans h.code))
    subst hcc
    have hlen : len₂ = len := by rw [hdg] at hd₂; cases hd₂; rfl
    subst hlen
    have hs₂ : s₂ = (({ U with heap := s₂.heap, slotsUsed := s₂.slotsUsed } : State).setVm s₂.vm).setTop { g with pc := g.pc + len₂, stack := v.toList ++ g.stack } := by
      refine e3.trans ?_
      rw [hf₂, State.calling_eq h.top, State.setFrames_setFrames, State.setTop_of_frames _ hr', hr]
      rfl
    have hsame : U.sameButNew ({ U with heap := s₂.heap, slotsUsed := s₂.slotsUsed } : State) L mc ms := by
      refine ⟨?_, q2, q3, q4, q5, q6⟩
      obtain ⟨t, ht, -⟩ := State.frames_cons hr
      show ({ U with heap := s₂.heap, slotsUsed := s₂.slotsUsed } : State) = { U.setFrames U.frames with heap := s₂.heap, slotsUsed := s₂.slotsUsed }
      rw [State.setFrames_self ht]
    subst hg
    refine Or.inl ⟨v, ⟨(({ U with heap := s₂.heap, slotsUsed := s₂.slotsUsed } : State).setVm s₂.vm), Ls ++ L, c0 + mc, s0 + ms⟩,
      ⟨X.admits, X.cas, X.clock, X.frames, X.room, X.hears, X.method, X.code, (X.here.setHeapUsed s₂.heap s₂.slotsUsed).setVm hW'.alike, X.tail, State.WarmedH.trans X.warmed hW', X.limits, X.bytes, X.same.trans (hsame.setVm s.vm)⟩,
      ⟨g, mk, s₂, L, rfl, rfl, hqc, rfl, hL, rfl, rfl⟩, ?_⟩
    show Steps p.tables e below _ ((({ U with heap := s₂.heap, slotsUsed := s₂.slotsUsed } : State).setVm s₂.vm).setTop { g with pc := g.pc + len₂, stack := v.toList ++ g.stack })
    rw [← hs₂]
    exact hsteps
  · obtain ⟨e2, q2, q3, q4, q5, q6⟩ := id hsm
    have e3 : s₂ = ({ (U.calling g mk a).setFrames s₂.frames with heap := s₂.heap, slotsUsed := s₂.slotsUsed } : State).setVm s₂.vm := by
      have : s₂ = ({ s₂ with vm := (U.calling g mk a).vm } : State).setVm s₂.vm := rfl
      rw [e2] at this
      exact this
    have hf₂ : s₂.frames = .throwing q :: .java g :: U.frames.tail := hend
    have hW' : U.WarmedH s₂.vm := hW₂
    have hs₂ : s₂ = ((({ U with heap := s₂.heap, slotsUsed := s₂.slotsUsed } : State).setVm s₂.vm).setTop g).pushFrame (.throwing q) := by
      refine e3.trans ?_
      rw [hf₂, State.calling_eq h.top, State.setFrames_setFrames, State.pushFrame, State.frames_setTop _ hr', State.setTop_of_frames _ hr', State.setFrames_setFrames, hr]
      rfl
    have hsame : U.sameButNew ({ U with heap := s₂.heap, slotsUsed := s₂.slotsUsed } : State) L mc ms := by
      refine ⟨?_, q2, q3, q4, q5, q6⟩
      obtain ⟨t, ht, -⟩ := State.frames_cons hr
      show ({ U with heap := s₂.heap, slotsUsed := s₂.slotsUsed } : State) = { U.setFrames U.frames with heap := s₂.heap, slotsUsed := s₂.slotsUsed }
      rw [State.setFrames_self ht]
    subst hg
    refine Or.inr ⟨q, ⟨(({ U with heap := s₂.heap, slotsUsed := s₂.slotsUsed } : State).setVm s₂.vm), Ls ++ L, c0 + mc, s0 + ms⟩,
      ⟨X.admits, X.cas, X.clock, X.frames, X.room, X.hears, X.method, X.code, (X.here.setHeapUsed s₂.heap s₂.slotsUsed).setVm hW'.alike, X.tail, State.WarmedH.trans X.warmed hW', X.limits, X.bytes, X.same.trans (hsame.setVm s.vm)⟩,
      ⟨g, mk, s₂, L, E, ce, rfl, rfl, hx, hce, hcv, hcl, rfl, hL, rfl, rfl⟩, ?_⟩
    show Steps p.tables e below _ (((({ U with heap := s₂.heap, slotsUsed := s₂.slotsUsed } : State).setVm s₂.vm).setTop g).pushFrame (.throwing q))
    rw [← hs₂]
    exact hsteps
end
variable {p : Program} {l : Launch} {e : Env} {R : Room} {s : State} {m : MethodId} {args : Array Value} {below : List Frame} {meth : Method} {c : Code} {T : State} {H : Heap} {locs : List Loc} {cells slots : Nat}
theorem vx_callVX (X : Stand p l e R s m args below meth c T locs cells slots) (hexec : p.tables.exec = Jvm.exec) {own C : String} {index : Nat} {y : MethodName} {bytes : ByteArray} {maxL : Nat} {ret : Option FieldType} {hh : List (Nat × Nat × Nat × Nat)}
    (hown : s.vm.findClass own = some m.cls) (hlink : (Cond.methodLink own index y).before args s = true) (hinst : (Cond.instanceMethod y).before args s = true) (hsel : (Cond.selects C y y).before args s = true)
    (hcode : (Cond.codeWith y bytes maxL ret hh).before args s = true) (hy : y.cls ≠ "java/lang/invoke/MethodHandle" ∧ y.cls ≠ "java/lang/invoke/VarHandle")
    {W9 : Nat} {Pre : Pt → Array Value → Prop} {Post : Pt → Array Value → Option Value → Pt → Prop} {PostX : Pt → Array Value → Addr → Pt → Prop} (hK : vx_Back l R p e below s args y 3 W9 Pre Post PostX)
    {b : Addr} {cellB : Cell} (hcell : T.heap[b]? = some cellB) (hobj : cellB.vm.isStatics = false) (hcls : s.vm.findClass C = some cellB.cls)
    {g : JFrame} (hg : g.method = m) (hsize : g.locals.size = c.maxLocals) {argsL rest : List Value} (hlen : ∀ sig, parseMethodDescriptor y.desc = some sig → argsL.length = sig.parameters.length)
    (hstack : g.stack = argsL.reverse ++ .ref b :: rest) (hW : 2 * g.monitorRoom + (rest.map fun v => v.category).sum ≤ W9) (hdg : decode c.code g.pc = .ok (.invokevirtual index, 3))
    (hpre : ∀ vm₁, s.WarmedH vm₁ → Pre ⟨T.setVm vm₁, locs, cells, slots⟩ (Value.ref b :: argsL).toArray) :
    (∃ (v : Option Value) (vm₁ : Vm) (B : Pt), s.WarmedH vm₁ ∧ Stand p l e R s m args below meth c B.U B.locs B.cells B.slots ∧ Post ⟨T.setVm vm₁, locs, cells, slots⟩ (Value.ref b :: argsL).toArray v B ∧
      ∀ target, Steps p.tables e below (B.U.setTop { g with pc := g.pc + 3, stack := v.toList ++ rest }) target → Steps p.tables e below (T.setTop g) target) ∨
    (∃ (q : Addr) (vm₁ : Vm) (B : Pt), s.WarmedH vm₁ ∧ Stand p l e R s m args below meth c B.U B.locs B.cells B.slots ∧ PostX ⟨T.setVm vm₁, locs, cells, slots⟩ (Value.ref b :: argsL).toArray q B ∧
      Steps p.tables e below (T.setTop g) ((B.U.setTop { g with stack := rest }).pushFrame (.throwing q))) := by
  obtain ⟨mk, methM, hnamed, hmethM, hstM, habM⟩ := Cond.instanceMethod_spec hinst
  obtain ⟨m8, methM', cM, hn8, hmethM', -, -, -, -, -, -, hsigM⟩ := Cond.codeWith_spec hcode
  cases Option.some.inj (hn8.symm.trans hnamed)
  cases hmethM.symm.trans hmethM'
  obtain ⟨c2, r2, m2, q1, q2, q3, q4, kP, hkP, hkPi⟩ := Cond.selects_spec hsel
  cases hcls.symm.trans q1
  cases (State.methodFound?_of_named hnamed hy).symm.trans q2
  cases hnamed.symm.trans q3
  have hselP : selectMethod e.platform s.vm cellB.cls mk = .method mk := by rw [Launch.admits_selectMethod X.admits]; exact q4
  obtain ⟨vm₁, X₁, hstep₁⟩ := X.invokevirtual hexec hown hlink hnamed hmethM hstM hkP hkPi hy (a := b) (cell := cellB) hcell
    (fun z h => by rw [h] at hobj; cases hobj) hselP hmethM habM hkP hkPi (g := g) hg (argsL := argsL) (rest := rest) (hlen _ hsigM) hstack hdg
  rcases hK m meth c ⟨T.setVm vm₁, locs, cells, slots⟩ { g with stack := rest } (.invokevirtual index) mk (Value.ref b :: argsL).toArray X₁ hg hsize hdg hW (X₁.named hnamed) (hpre vm₁ X₁.warmed) with ⟨v, B, X', hpost, hsteps⟩ | ⟨q, B, X', hpost, hsteps⟩
  · exact Or.inl ⟨v, vm₁, B, X₁.warmed, X', hpost, fun target h => hstep₁ _ fun acts => by rw [doInvoke_state]; exact hsteps.trans h⟩
  · exact Or.inr ⟨q, vm₁, B, X₁.warmed, X', hpost, hstep₁ _ fun acts => by rw [doInvoke_state]; exact hsteps⟩
theorem vx_callSX (X : Stand p l e R s m args below meth c T locs cells slots) (hexec : p.tables.exec = Jvm.exec) {own : String} {index : Nat} {y : MethodName} {bytes : ByteArray} {maxL : Nat} {ret : Option FieldType} {hh : List (Nat × Nat × Nat × Nat)}
    (hown : s.vm.findClass own = some m.cls) (hlink : (Cond.methodLink own index y).before args s = true) (hstat : (Cond.static y).before args s = true) (hinit : (Cond.initialized y.cls).before args s = true)
    (hcode : (Cond.codeWith y bytes maxL ret hh).before args s = true) (hy : y.cls ≠ "java/lang/invoke/MethodHandle" ∧ y.cls ≠ "java/lang/invoke/VarHandle")
    {W9 : Nat} {Pre : Pt → Array Value → Prop} {Post : Pt → Array Value → Option Value → Pt → Prop} {PostX : Pt → Array Value → Addr → Pt → Prop} (hK : vx_Back l R p e below s args y 3 W9 Pre Post PostX)
    {g : JFrame} (hg : g.method = m) (hsize : g.locals.size = c.maxLocals) {argsL rest : List Value} (hlen : ∀ sig, parseMethodDescriptor y.desc = some sig → argsL.length = sig.parameters.length)
    (hstack : g.stack = argsL.reverse ++ rest) (hW : 2 * g.monitorRoom + (rest.map fun v => v.category).sum ≤ W9) (hdg : decode c.code g.pc = .ok (.invokestatic index, 3))
    (hpre : ∀ vm₁, s.WarmedH vm₁ → Pre ⟨T.setVm vm₁, locs, cells, slots⟩ argsL.toArray) :
    (∃ (v : Option Value) (vm₁ : Vm) (B : Pt), s.WarmedH vm₁ ∧ Stand p l e R s m args below meth c B.U B.locs B.cells B.slots ∧ Post ⟨T.setVm vm₁, locs, cells, slots⟩ argsL.toArray v B ∧
      ∀ target, Steps p.tables e below (B.U.setTop { g with pc := g.pc + 3, stack := v.toList ++ rest }) target → Steps p.tables e below (T.setTop g) target) ∨
    (∃ (q : Addr) (vm₁ : Vm) (B : Pt), s.WarmedH vm₁ ∧ Stand p l e R s m args below meth c B.U B.locs B.cells B.slots ∧ PostX ⟨T.setVm vm₁, locs, cells, slots⟩ argsL.toArray q B ∧
      Steps p.tables e below (T.setTop g) ((B.U.setTop { g with stack := rest }).pushFrame (.throwing q))) := by
  obtain ⟨mk, methM, cM, hnamed, hmethM, -, -, -, -, -, -, hsigM⟩ := Cond.codeWith_spec hcode
  have hstatic : methM.isStatic = true := Cond.static_spec hnamed hmethM hstat
  obtain ⟨kP, hkP, -⟩ := className_of_methodNamed hnamed
  have hinitP : kP.init = .initialized := Cond.initialized_spec (findClass_of_methodNamed hnamed) hkP hinit
  obtain ⟨vm₁, X₁, hstep₁⟩ := X.invokestatic hexec hown hlink hnamed hmethM hstatic hkP hinitP hy (g := g) hg (argsL := argsL) (rest := rest) (hlen _ hsigM) hstack hdg
  rcases hK m meth c ⟨T.setVm vm₁, locs, cells, slots⟩ { g with stack := rest } (.invokestatic index) mk argsL.toArray X₁ hg hsize hdg hW (X₁.named hnamed) (hpre vm₁ X₁.warmed) with ⟨v, B, X', hpost, hsteps⟩ | ⟨q, B, X', hpost, hsteps⟩
  · exact Or.inl ⟨v, vm₁, B, X₁.warmed, X', hpost, fun target h => hstep₁ _ fun acts => by rw [doInvoke_state]; exact hsteps.trans h⟩
  · exact Or.inr ⟨q, vm₁, B, X₁.warmed, X', hpost, hstep₁ _ fun acts => by rw [doInvoke_state]; exact hsteps⟩
theorem vx_callVW (X : Stand p l e R s m args below meth c T locs cells slots) (hexec : p.tables.exec = Jvm.exec) {own C : String} {index : Nat} {y : MethodName} {bytes : ByteArray} {maxL : Nat} {ret : Option FieldType} {hh : List (Nat × Nat × Nat × Nat)}
    (hown : s.vm.findClass own = some m.cls) (hlink : (Cond.methodLink own index y).before args s = true) (hinst : (Cond.instanceMethod y).before args s = true) (hsel : (Cond.selects C y y).before args s = true)
    (hcode : (Cond.codeWith y bytes maxL ret hh).before args s = true) (hy : y.cls ≠ "java/lang/invoke/MethodHandle" ∧ y.cls ≠ "java/lang/invoke/VarHandle")
    {W9 : Nat} {Pre : Pt → Array Value → Prop} {Post : Pt → Array Value → Option Value → Pt → Prop} (hK : Back l R p e below s args y 3 W9 Pre Post)
    {b : Addr} {cellB : Cell} (hcell : T.heap[b]? = some cellB) (hobj : cellB.vm.isStatics = false) (hcls : s.vm.findClass C = some cellB.cls)
    {g : JFrame} (hg : g.method = m) (hsize : g.locals.size = c.maxLocals) {argsL rest : List Value} (hlen : ∀ sig, parseMethodDescriptor y.desc = some sig → argsL.length = sig.parameters.length)
    (hstack : g.stack = argsL.reverse ++ .ref b :: rest) (hW : 2 * g.monitorRoom + (rest.map fun v => v.category).sum ≤ W9) (hdg : decode c.code g.pc = .ok (.invokevirtual index, 3))
    (hpre : ∀ vm₁, s.WarmedH vm₁ → Pre ⟨T.setVm vm₁, locs, cells, slots⟩ (Value.ref b :: argsL).toArray) :
    ∃ (v : Option Value) (vm₁ : Vm) (B : Pt), s.WarmedH vm₁ ∧ Stand p l e R s m args below meth c B.U B.locs B.cells B.slots ∧ Post ⟨T.setVm vm₁, locs, cells, slots⟩ (Value.ref b :: argsL).toArray v B ∧
      ∀ target, Steps p.tables e below (B.U.setTop { g with pc := g.pc + 3, stack := v.toList ++ rest }) target → Steps p.tables e below (T.setTop g) target := by
  obtain ⟨mk, methM, hnamed, hmethM, hstM, habM⟩ := Cond.instanceMethod_spec hinst
  obtain ⟨m8, methM', cM, hn8, hmethM', -, -, -, -, -, -, hsigM⟩ := Cond.codeWith_spec hcode
  cases Option.some.inj (hn8.symm.trans hnamed)
  cases hmethM.symm.trans hmethM'
  obtain ⟨c2, r2, m2, q1, q2, q3, q4, kP, hkP, hkPi⟩ := Cond.selects_spec hsel
  cases hcls.symm.trans q1
  cases (State.methodFound?_of_named hnamed hy).symm.trans q2
  cases hnamed.symm.trans q3
  have hselP : selectMethod e.platform s.vm cellB.cls mk = .method mk := by rw [Launch.admits_selectMethod X.admits]; exact q4
  obtain ⟨vm₁, X₁, hstep₁⟩ := X.invokevirtual hexec hown hlink hnamed hmethM hstM hkP hkPi hy (a := b) (cell := cellB) hcell
    (fun z h => by rw [h] at hobj; cases hobj) hselP hmethM habM hkP hkPi (g := g) hg (argsL := argsL) (rest := rest) (hlen _ hsigM) hstack hdg
  obtain ⟨v, B, X', hpost, hsteps⟩ := hK m meth c ⟨T.setVm vm₁, locs, cells, slots⟩ { g with stack := rest } (.invokevirtual index) mk (Value.ref b :: argsL).toArray X₁ hg hsize hdg hW (X₁.named hnamed) (hpre vm₁ X₁.warmed)
  exact ⟨v, vm₁, B, X₁.warmed, X', hpost, fun target h => hstep₁ _ fun acts => by rw [doInvoke_state]; exact hsteps.trans h⟩
abbrev vx_CVW (R : Room) (s : State) (args : Array Value) (own C : String) (index : Nat) (y : MethodName) (bytes : ByteArray) (maxL : Nat) (ret : Option FieldType) (hh : List (Nat × Nat × Nat × Nat)) (ws : List Cond) (rm : Room) (mc ms n : Nat) : Prop :=
  (rm.cells = mc ∧ rm.slots = ms ∧ rm.frames + 1 ≤ R.frames ∧ 8 + (maxL + 11) + rm.locals ≤ R.locals ∧ (∀ w ∈ ws, ∀ (a' : Array Value) (U : State), s.WarmedH U.vm → w.before a' U = true) ∧ Cond.codeWith y bytes maxL ret hh ∈ ws) ∧
  (Cond.codeWith y bytes maxL ret hh).before args s = true ∧ (Cond.initialized y.cls).before args s = true ∧ (y.cls ≠ "java/lang/invoke/MethodHandle" ∧ y.cls ≠ "java/lang/invoke/VarHandle") ∧
  (∀ sig, parseMethodDescriptor y.desc = some sig → n = sig.parameters.length) ∧ (Cond.methodLink own index y).before args s = true ∧ (Cond.instanceMethod y).before args s = true ∧ (Cond.selects C y y).before args s = true
theorem vx_cwVW {own C : String} {index maxL mc ms : Nat} {y : MethodName} {bytes : ByteArray} {ret : Option FieldType} {hh : List (Nat × Nat × Nat × Nat)} {Ts ws ws' : List Cond} {rm : Room} (n : Nat) (ht : ∀ w ∈ Ts, w.before args s = true) (hT : GoodIn Ts (wsV own index C y ws)) (hw : ws = Cond.codeWith y bytes maxL ret hh :: ws') (hrc : rm.cells = mc) (hrs : rm.slots = ms)
    (hd : y.cls = C ∧ y.cls ≠ "java/lang/invoke/MethodHandle" ∧ y.cls ≠ "java/lang/invoke/VarHandle" ∧ (parseMethodDescriptor y.desc).map (fun d => d.parameters.length) = some n) (hR : rm.frames + 1 ≤ R.frames ∧ 8 + (maxL + 11) + rm.locals ≤ R.locals) :
    vx_CVW R s args own C index y bytes maxL ret hh ws rm mc ms n := by
  obtain ⟨hC, hd⟩ := hd
  subst hC
  have ok : ∀ w ∈ wsV own index y.cls y ws, w.before args s = true := fun w h => ht w (hT w h).1
  have hG : GoodIn Ts ws := fun w h => hT w (by unfold wsV; exact List.mem_append_right _ h)
  have hc : Cond.codeWith y bytes maxL ret hh ∈ ws := by rw [hw]; exact List.mem_cons_self
  refine ⟨⟨hrc, hrs, hR.1, hR.2, pay_in ht hG, hc⟩, ht _ (hG _ hc).1, ok _ (by simp [wsV]), ⟨hd.1, hd.2.1⟩, fun sig h => ?_, ok _ (by simp [wsV]), ok _ (by simp [wsV]), ok _ (by simp [wsV])⟩
  have h2 := hd.2.2
  rw [h] at h2
  exact (Option.some.inj h2).symm
theorem vx_runVW {y : MethodName} {bytes cc : ByteArray} {maxL nL mc ms n index : Nat} {ret : Option FieldType} {hh : List (Nat × Nat × Nat × Nat)} {ws : List Cond} {rm : Room} {Pc : Array Value → State → Prop} {Qc : Array Value → State → Outcome → State → Prop} {free : Addr → Prop} {Ts : List Cond} {own C : String} {b : Addr} {As rest : List Value} {g : JFrame}
    (S : CallFix p m c cc nL s args Ts own) (hM : Met l y ws rm Pc Qc mc ms free) (cw : vx_CVW R s args own C index y bytes maxL ret hh ws rm mc ms n) (hp : PreV s H C b Pc As)
    (hg : g.method = m) (hn : As.length = n) (hsize : g.locals.size = nL) (hstack : g.stack = As.reverse ++ .ref b :: rest) (hW : 2 * g.monitorRoom + (rest.map fun v => v.category).sum ≤ 8) (hdg : decode cc g.pc = .ok (.invokevirtual index, 3)) (hf : cells + mc ≤ R.cells ∧ slots + ms ≤ R.slots) :
    va_Run p l e R s m args below meth c H locs cells slots mc ms g rest (Qc (Value.ref b :: As).toArray) free := by
  obtain ⟨⟨hrc, hrs, hfr, hlo, hws, hcw⟩, hcode, hini, hy, hlen, hl, hin, hse⟩ := cw
  have hK : Back l R p e below s args y 3 8 (PreOf R mc ms Pc) (PostOf Qc mc ms free) := va_backW (hh := hh) (bytes := bytes) (maxL := maxL) (ret := ret) hM hp.1 hrc hrs hfr hlo hws hcw (fun a' U hW => word_at hW (Or.inl (by first | rfl | simp [Cond.onTables, Cond.keeps, Cond.steady])) hini)
  obtain ⟨hx, hb, hml, ho, -⟩ := S
  obtain ⟨-, ⟨cellB, hcB, hoB, hclB⟩, hPc⟩ := hp
  intro T hT X
  obtain ⟨v, vm₁, ⟨U', l2, c2, s2⟩, hW₁, X', ⟨g', mk, t, L, e1, e2, hq, h1, hL, h2, h3⟩, st⟩ := vx_callVW X hx (C := C) (hh := hh) (bytes := bytes) (maxL := maxL) (ret := ret) ho hl hin hse hcode hy hK (by rw [hT]; exact hcB) hoB hclB hg (hsize.trans hml.symm) (argsL := As) (rest := rest) (fun sig h => hn.trans (hlen sig h)) hstack hW (by rw [hb]; exact hdg)
    (fun vm₁ hW₁ => ⟨hf.1, hf.2, hPc (T.setVm vm₁) hT hW₁⟩)
  dsimp only [Pt.U, Pt.locs, Pt.cells, Pt.slots] at X' e1 e2 h1 h2 h3 st
  subst h1; subst h2; subst h3
  exact ⟨v, (T.setVm vm₁).calling g' mk (Value.ref b :: As).toArray, t, U', L, hT, X', hL, e1, e2, hq, st⟩
section
variable {y : MethodName} {bytes cc : ByteArray} {maxL nL mc ms n index : Nat} {ret : Option FieldType} {ws : List Cond} {rm : Room} {Pc : Array Value → State → Prop} {Qc : Array Value → State → Outcome → State → Prop} {XC : String → State → State → Prop} {free : Addr → Prop} {Ts : List Cond} {own C : String} {b : Addr} {As rest : List Value} {g : JFrame}
theorem vx_runVX {hh : List (Nat × Nat × Nat × Nat)} (S : CallFix p m c cc nL s args Ts own) (hM : vx_Met l y ws rm Pc Qc XC mc ms free) (cw : vx_CVW R s args own C index y bytes maxL ret hh ws rm mc ms n) (hp : PreV s H C b Pc As)
    (hg : g.method = m) (hn : As.length = n) (hsize : g.locals.size = nL) (hstack : g.stack = As.reverse ++ .ref b :: rest) (hW : 2 * g.monitorRoom + (rest.map fun v => v.category).sum ≤ 8) (hdg : decode cc g.pc = .ok (.invokevirtual index, 3)) (hf : cells + mc ≤ R.cells ∧ slots + ms ≤ R.slots) :
    vx_Run p l e R s m args below meth c H locs cells slots mc ms g rest (Qc (Value.ref b :: As).toArray) XC free := by
  obtain ⟨⟨hrc, hrs, hfr, hlo, hws, hcw⟩, hcode, hini, hy, hlen, hl, hin, hse⟩ := cw
  have hK : vx_Back l R p e below s args y 3 8 (PreOf R mc ms Pc) (PostOf Qc mc ms free) (vx_Post XC mc ms free) := vx_backW (hh := hh) (bytes := bytes) (maxL := maxL) (ret := ret) hM hp.1 hrc hrs hfr hlo hws hcw (fun a' U hW => word_at hW (Or.inl (by first | rfl | simp [Cond.onTables, Cond.keeps, Cond.steady])) hini)
  obtain ⟨hx, hb, hml, ho, -⟩ := S
  obtain ⟨-, ⟨cellB, hcB, hoB, hclB⟩, hPc⟩ := hp
  intro T hT X
  rcases vx_callVX X hx (C := C) (hh := hh) (bytes := bytes) (maxL := maxL) (ret := ret) ho hl hin hse hcode hy hK (by rw [hT]; exact hcB) hoB hclB hg (hsize.trans hml.symm) (argsL := As) (rest := rest) (fun sig h => hn.trans (hlen sig h)) hstack hW (by rw [hb]; exact hdg)
    (fun vm₁ hW₁ => ⟨hf.1, hf.2, hPc (T.setVm vm₁) hT hW₁⟩) with ⟨v, vm₁, ⟨U', l2, c2, s2⟩, hW₁, X', ⟨g', mk, t, L, e1, e2, hq, h1, hL, h2, h3⟩, st⟩ | ⟨q, vm₁, ⟨U', l2, c2, s2⟩, hW₁, X', ⟨g', mk, t, L, E, ce, e1, e2, hq, hce, hcv, hcl, h1, hL, h2, h3⟩, st⟩
  · dsimp only [Pt.U, Pt.locs, Pt.cells, Pt.slots] at X' e1 e2 h1 h2 h3 st
    subst h1; subst h2; subst h3
    exact Or.inl ⟨v, (T.setVm vm₁).calling g' mk (Value.ref b :: As).toArray, t, U', L, hT, X', hL, e1, e2, hq, st⟩
  · dsimp only [Pt.U, Pt.locs, Pt.cells, Pt.slots] at X' e1 e2 h1 h2 h3 st hcl
    subst h1; subst h2; subst h3
    exact Or.inr ⟨q, (T.setVm vm₁).calling g' mk (Value.ref b :: As).toArray, t, U', L, E, ce, hT, X', hL, e1, e2, hq, hce, hcv, vx_cls hW₁ hcl, st⟩
theorem vx_runSX {hh : List (Nat × Nat × Nat × Nat)} (S : CallFix p m c cc nL s args Ts own) (hM : vx_Met l y ws rm Pc Qc XC mc ms free) (cw : vx_CSW R s args own index y bytes maxL ret hh ws rm mc ms n) (hp : PreS s H Pc As)
    (hg : g.method = m) (hn : As.length = n) (hsize : g.locals.size = nL) (hstack : g.stack = As.reverse ++ rest) (hW : 2 * g.monitorRoom + (rest.map fun v => v.category).sum ≤ 8) (hdg : decode cc g.pc = .ok (.invokestatic index, 3)) (hf : cells + mc ≤ R.cells ∧ slots + ms ≤ R.slots) :
    vx_Run p l e R s m args below meth c H locs cells slots mc ms g rest (Qc As.toArray) XC free := by
  obtain ⟨⟨hrc, hrs, hfr, hlo, hws, hcw⟩, hcode, hini, hy, hlen, hl, hstt⟩ := cw
  have hK : vx_Back l R p e below s args y 3 8 (PreOf R mc ms Pc) (PostOf Qc mc ms free) (vx_Post XC mc ms free) := vx_backW (hh := hh) (bytes := bytes) (maxL := maxL) (ret := ret) hM hp.1 hrc hrs hfr hlo hws hcw (fun a' U hW => word_at hW (Or.inl (by first | rfl | simp [Cond.onTables, Cond.keeps, Cond.steady])) hini)
  obtain ⟨hx, hb, hml, ho, -⟩ := S
  intro T hT X
  rcases vx_callSX X hx (hh := hh) (bytes := bytes) (maxL := maxL) (ret := ret) ho hl hstt hini hcode hy hK hg (hsize.trans hml.symm) (argsL := As) (rest := rest) (fun sig h => hn.trans (hlen sig h)) hstack hW (by rw [hb]; exact hdg)
    (fun vm₁ hW₁ => ⟨hf.1, hf.2, hp.2 (T.setVm vm₁) hT hW₁⟩) with ⟨v, vm₁, ⟨U', l2, c2, s2⟩, hW₁, X', ⟨g', mk, t, L, e1, e2, hq, h1, hL, h2, h3⟩, st⟩ | ⟨q, vm₁, ⟨U', l2, c2, s2⟩, hW₁, X', ⟨g', mk, t, L, E, ce, e1, e2, hq, hce, hcv, hcl, h1, hL, h2, h3⟩, st⟩
  · dsimp only [Pt.U, Pt.locs, Pt.cells, Pt.slots] at X' e1 e2 h1 h2 h3 st
    subst h1; subst h2; subst h3
    exact Or.inl ⟨v, (T.setVm vm₁).calling g' mk As.toArray, t, U', L, hT, X', hL, e1, e2, hq, st⟩
  · dsimp only [Pt.U, Pt.locs, Pt.cells, Pt.slots] at X' e1 e2 h1 h2 h3 st hcl
    subst h1; subst h2; subst h3
    exact Or.inr ⟨q, (T.setVm vm₁).calling g' mk As.toArray, t, U', L, E, ce, hT, X', hL, e1, e2, hq, hce, hcv, vx_cls hW₁ hcl, st⟩
end
end VXH
theorem vx_ofWH {l : Launch} {y : MethodName} {ws ws' : List Cond} {rm : Room} {Pc : Array Value → State → Prop} {Qc : Array Value → State → Outcome → State → Prop} {XC : String → State → State → Prop} {mc ms : Nat} {free : Addr → Prop} {cc : ByteArray} {maxL : Nat} {ret : Option FieldType} {hh : List (Nat × Nat × Nat × Nat)}
    (hy : plainName y.cls = true) (hw : ws = Cond.codeWith y cc maxL ret hh :: ws')
    (body : ∀ p e s m args below meth c s₁, BodyLoose p l y (headSpec ws rm) cc maxL ret e s m args below meth c s₁ → c.maxLocals = maxL → Pc args s →
      W p l e (headSpec ws rm).room s m args below meth c s.heap [] 0 0 (vx_MQ below Qc XC args s mc ms free) (entryFrame m args maxL)) : vx_Met l y ws rm Pc Qc XC mc ms free := by
  refine MetFree.of_bodyS (code := cc) (maxLocals := maxL) (ret := ret) hy ?_ ?_
  · intro args s m h hn
    obtain ⟨m9, meth, c, hn9, h1, h2, h3, h4, -, h5, h6, -⟩ := Cond.codeWith_spec (atoms_spec (ws := ws) h _ (by rw [hw]; exact List.mem_cons_self))
    cases hn.symm.trans hn9
    exact ⟨meth, c, h1, h2, h3, h4, h5, h6⟩
  · intro p e s m args below meth c s₁ B hml hP _
    have hh0 : s₁.heap = s.heap := by rw [B.state]; rfl
    obtain ⟨t, a1, o, b1, b2, b3⟩ := body p e s m args below meth c s₁ B hml hP s₁ hh0 (Stand.of_body B)
    exact ⟨t, o, a1, b1, b2, b3⟩
/-! ===== END ===== -/
end
section
/-! tables: kinds of objects, methods, links, each with its place among the words -/
def xT0 : u_T := fun k => match k with
  | 0 => ("LoanTerms", "pad", "LLoanTerms$Row;", true)
  | 1 => ("LoanTerms", "letterRow", "LLoanTerms$Row;", true)
  | 2 => ("LoanTerms", "contracts", "[LLoanTerms$Contract;", true)
  | 3 => ("LoanTerms", "inputs", "[LLoanTerms$Input;", true)
  | 4 => ("LoanTerms", "loans", "[LLoanTerms$Loan;", true)
  | 5 => ("LoanTerms", "requests", "[LLoanTerms$Span;", true)
  | 6 => ("LoanTerms", "contractCount", "I", false)
  | 7 => ("LoanTerms", "loanCount", "I", false)
  | _ => ("LoanTerms", "requestCount", "I", false)
def xty0 : Nat → FieldType := fun k => match k with
  | 0 => (.object "LoanTerms$Row")
  | 1 => (.object "LoanTerms$Row")
  | 2 => (.array (.object "LoanTerms$Contract"))
  | 3 => (.array (.object "LoanTerms$Input"))
  | 4 => (.array (.object "LoanTerms$Loan"))
  | 5 => (.array (.object "LoanTerms$Span"))
  | 6 => .int
  | 7 => .int
  | _ => .int
def xT1 : u_T := fun k => match k with
  | 0 => ("LoanTerms$Contract", "roots", "[LLoanTerms$Node;", true)
  | 1 => ("LoanTerms$Contract", "text", "LLoanTerms$Row;", true)
  | _ => ("LoanTerms$Contract", "size", "I", false)
def xty1 : Nat → FieldType := fun k => match k with
  | 0 => (.array (.object "LoanTerms$Node"))
  | 1 => (.object "LoanTerms$Row")
  | _ => .int
def xT2 : u_T := fun k => match k with
  | 0 => ("LoanTerms$Input", "hours", "[I", true)
  | 1 => ("LoanTerms$Input", "values", "[I", true)
  | 2 => ("LoanTerms$Input", "size", "I", false)
  | 3 => ("LoanTerms$Input", "failsFrom", "I", false)
  | _ => ("LoanTerms$Input", "failsTo", "I", false)
def xty2 : Nat → FieldType := fun k => match k with
  | 0 => (.array .int)
  | 1 => (.array .int)
  | 2 => .int
  | 3 => .int
  | _ => .int
def xT3 : u_T := fun k => match k with
  | 0 => ("LoanTerms$Loan", "contract", "LLoanTerms$Contract;", true)
  | 1 => ("LoanTerms$Loan", "toldHours", "[I", true)
  | 2 => ("LoanTerms$Loan", "toldTerms", "[I", true)
  | 3 => ("LoanTerms$Loan", "standing", "[Z", true)
  | 4 => ("LoanTerms$Loan", "span", "LLoanTerms$Span;", false)
  | 5 => ("LoanTerms$Loan", "shielded", "Z", false)
  | _ => ("LoanTerms$Loan", "toldSize", "I", false)
def xty3 : Nat → FieldType := fun k => match k with
  | 0 => (.object "LoanTerms$Contract")
  | 1 => (.array .int)
  | 2 => (.array .int)
  | 3 => (.array .boolean)
  | 4 => (.object "LoanTerms$Span")
  | 5 => .boolean
  | _ => .int
def xT4 : u_T := fun k => match k with
  | 0 => ("LoanTerms$Node", "kind", "I", true)
  | 1 => ("LoanTerms$Node", "name", "I", true)
  | 2 => ("LoanTerms$Node", "number", "I", true)
  | 3 => ("LoanTerms$Node", "inner", "LLoanTerms$Node;", true)
  | _ => ("LoanTerms$Node", "next", "LLoanTerms$Node;", false)
def xty4 : Nat → FieldType := fun k => match k with
  | 0 => .int
  | 1 => .int
  | 2 => .int
  | 3 => (.object "LoanTerms$Node")
  | _ => (.object "LoanTerms$Node")
def xT5 : u_T := fun k => match k with
  | 0 => ("LoanTerms$Reader", "row", "LLoanTerms$Row;", true)
  | _ => ("LoanTerms$Reader", "place", "I", false)
def xty5 : Nat → FieldType := fun k => match k with
  | 0 => (.object "LoanTerms$Row")
  | _ => .int
def xT6 : u_T := fun k => match k with
  | 0 => ("LoanTerms$Row", "signs", "[I", true)
  | _ => ("LoanTerms$Row", "size", "I", false)
def xty6 : Nat → FieldType := fun k => match k with
  | 0 => (.array .int)
  | _ => .int
def xT7 : u_T := fun k => match k with
  | 0 => ("LoanTerms$Span", "thing", "I", true)
  | 1 => ("LoanTerms$Span", "first", "I", true)
  | _ => ("LoanTerms$Span", "last", "I", true)
def xty7 : Nat → FieldType := fun k => match k with
  | 0 => .int
  | 1 => .int
  | _ => .int
def xT8 : u_T := fun k => match k with
  | 0 => ("LoanTermsModel", "thrown", "I", false)
  | 1 => ("LoanTermsModel", "padded", "I", false)
  | 2 => ("LoanTermsModel", "pad", "[I", true)
  | 3 => ("LoanTermsModel", "contracts", "I", false)
  | 4 => ("LoanTermsModel", "many", "[I", true)
  | 5 => ("LoanTermsModel", "roots", "[I", true)
  | 6 => ("LoanTermsModel", "nodes", "[I", true)
  | 7 => ("LoanTermsModel", "kinds", "[I", true)
  | 8 => ("LoanTermsModel", "above", "[I", true)
  | 9 => ("LoanTermsModel", "turns", "[I", true)
  | 10 => ("LoanTermsModel", "names", "[I", true)
  | 11 => ("LoanTermsModel", "signs", "[I", true)
  | 12 => ("LoanTermsModel", "numbers", "[I", true)
  | 13 => ("LoanTermsModel", "truths", "[I", true)
  | 14 => ("LoanTermsModel", "pile", "[I", true)
  | 15 => ("LoanTermsModel", "top", "I", false)
  | 16 => ("LoanTermsModel", "written", "[I", true)
  | 17 => ("LoanTermsModel", "length", "I", false)
  | 18 => ("LoanTermsModel", "rows", "[I", true)
  | 19 => ("LoanTermsModel", "rowHours", "[I", true)
  | 20 => ("LoanTermsModel", "rowValues", "[I", true)
  | 21 => ("LoanTermsModel", "failFroms", "[I", true)
  | 22 => ("LoanTermsModel", "failTos", "[I", true)
  | 23 => ("LoanTermsModel", "loans", "I", false)
  | 24 => ("LoanTermsModel", "contractOf", "[I", true)
  | 25 => ("LoanTermsModel", "thingOf", "[I", true)
  | 26 => ("LoanTermsModel", "firstDays", "[I", true)
  | 27 => ("LoanTermsModel", "lastDays", "[I", true)
  | 28 => ("LoanTermsModel", "shields", "[Z", true)
  | 29 => ("LoanTermsModel", "bad", "[Z", true)
  | 30 => ("LoanTermsModel", "tolds", "[I", true)
  | 31 => ("LoanTermsModel", "toldHours", "[I", true)
  | 32 => ("LoanTermsModel", "toldTerms", "[I", true)
  | 33 => ("LoanTermsModel", "requests", "I", false)
  | 34 => ("LoanTermsModel", "requestThings", "[I", true)
  | 35 => ("LoanTermsModel", "requestFroms", "[I", true)
  | _ => ("LoanTermsModel", "requestTos", "[I", true)
def xty8 : Nat → FieldType := fun k => match k with
  | 0 => .int
  | 1 => .int
  | 2 => (.array .int)
  | 3 => .int
  | 4 => (.array .int)
  | 5 => (.array .int)
  | 6 => (.array .int)
  | 7 => (.array .int)
  | 8 => (.array .int)
  | 9 => (.array .int)
  | 10 => (.array .int)
  | 11 => (.array .int)
  | 12 => (.array .int)
  | 13 => (.array .int)
  | 14 => (.array .int)
  | 15 => .int
  | 16 => (.array .int)
  | 17 => .int
  | 18 => (.array .int)
  | 19 => (.array .int)
  | 20 => (.array .int)
  | 21 => (.array .int)
  | 22 => (.array .int)
  | 23 => .int
  | 24 => (.array .int)
  | 25 => (.array .int)
  | 26 => (.array .int)
  | 27 => (.array .int)
  | 28 => (.array .boolean)
  | 29 => (.array .boolean)
  | 30 => (.array .int)
  | 31 => (.array .int)
  | 32 => (.array .int)
  | 33 => .int
  | 34 => (.array .int)
  | 35 => (.array .int)
  | _ => (.array .int)
abbrev vwCl : List vw_C := [("LoanTerms", xT0, 9), ("LoanTerms$Contract", xT1, 3), ("LoanTerms$Input", xT2, 5), ("LoanTerms$Loan", xT3, 7), ("LoanTerms$Node", xT4, 5), ("LoanTerms$Reader", xT5, 2), ("LoanTerms$Row", xT6, 2), ("LoanTerms$Span", xT7, 3), ("LoanTermsModel", xT8, 37)]
def xCn (o : Nat) : String := ((vwCl[o]?).map fun r => r.1).getD ""
def xft (c : Nat) : Nat → FieldType := match c with
  | 0 => xty0
  | 1 => xty1
  | 2 => xty2
  | 3 => xty3
  | 4 => xty4
  | 5 => xty5
  | 6 => xty6
  | 7 => xty7
  | _ => xty8
def xdf (c : Nat) : List Value := match c with
  | 0 => [.null, .null, .null, .null, .null, .null, .int 0, .int 0, .int 0]
  | 1 => [.null, .null, .int 0]
  | 2 => [.null, .null, .int 0, .int 0, .int 0]
  | 3 => [.null, .null, .null, .null, .null, .int 0, .int 0]
  | 4 => [.int 0, .int 0, .int 0, .null, .null]
  | 5 => [.null, .int 0]
  | 6 => [.null, .int 0]
  | 7 => [.int 0, .int 0, .int 0]
  | _ => [.int 0, .int 0, .null, .int 0, .null, .null, .null, .null, .null, .null, .null, .null, .null, .null, .null, .int 0, .null, .int 0, .null, .null, .null, .null, .null, .int 0, .null, .null, .null, .null, .null, .null, .null, .null, .null, .int 0, .null, .null, .null]
def xfin (c k : Nat) : Bool := match vwCl[c]? with
  | some r => (r.2.1 k).2.2.2
  | none => true
def xfitb (c k : Nat) (v : Value) : Bool := decide (narrow (xft c k) v = v) && fits (xft c k) v
theorem x_fit {c k : Nat} {v : Value} (h : xfitb c k v = true) : narrow (xft c k) v = v ∧ fits (xft c k) v = true := by
  unfold xfitb at h
  rw [Bool.and_eq_true] at h
  exact ⟨of_decide_eq_true h.1, h.2⟩
def xty : List FieldType := [.int, .boolean, .object "LoanTerms$Contract", .object "LoanTerms$Input", .object "LoanTerms$Loan", .object "LoanTerms$Span", .object "LoanTerms$Node", .long]
def xtyo (t : Nat) : Option Nat := match t with
  | 2 => some 1
  | 3 => some 2
  | 4 => some 3
  | 5 => some 7
  | 6 => some 4
  | _ => none
def xtys (dT : Nat → ClassId) : List (ClassId × FieldType) := [(dT 0, .int), (dT 1, .boolean), (dT 2, .object "LoanTerms$Contract"), (dT 3, .object "LoanTerms$Input"), (dT 4, .object "LoanTerms$Loan"), (dT 5, .object "LoanTerms$Span"), (dT 6, .object "LoanTerms$Node"), (dT 7, .long)]
theorem xtys_at (dT : Nat → ClassId) {t : Nat} {ty : FieldType} (h : xty[t]? = some ty) : (xtys dT)[t]? = some (dT t, ty) := by
  match t, h with
  | 0, h => cases h; rfl
  | 1, h => cases h; rfl
  | 2, h => cases h; rfl
  | 3, h => cases h; rfl
  | 4, h => cases h; rfl
  | 5, h => cases h; rfl
  | 6, h => cases h; rfl
  | 7, h => cases h; rfl
  | t + 8, h => simp [xty] at h
theorem x_ty_int : xty[0]? = some .int := rfl
theorem x_ty_bool : xty[1]? = some .boolean := rfl
theorem x_tyo_ok {t c : Nat} (h : xtyo t = some c) : ∃ r : vw_C, vwCl[c]? = some r ∧ xty[t]? = some (.object r.1) := by
  unfold xtyo at h
  split at h
  · cases h; exact ⟨_, rfl, rfl⟩
  · cases h; exact ⟨_, rfl, rfl⟩
  · cases h; exact ⟨_, rfl, rfl⟩
  · cases h; exact ⟨_, rfl, rfl⟩
  · cases h; exact ⟨_, rfl, rfl⟩
  · cases h
def xTB : List Jvm.Cond := lw_tbl.filter goodWord
def xk (w : Jvm.Cond) : Bool := match w with
  | .methodLinkNest .. => true
  | .castable .. => true
  | .declares .. => true
  | _ => false
def xTB2 : List Jvm.Cond := lw_tbl.filter xk
theorem x_good : GoodIn xTB xTB := fun w hw => ⟨hw, good_of_word (List.mem_filter.mp hw).2⟩
theorem x_gin0 : GoodIn lw_tbl xTB := fun w hw => ⟨(List.mem_filter.mp hw).1, good_of_word (List.mem_filter.mp hw).2⟩
/-- a word at its place -/
def x_at (i : Nat) (w : Jvm.Cond) : Bool := decide (lw_tbl[i]? = some w)
theorem x_at_in {i : Nat} {w : Jvm.Cond} (h : x_at i w = true) (hg : goodWord w = true) : w ∈ xTB := List.mem_filter.mpr ⟨List.mem_of_getElem? (of_decide_eq_true h), hg⟩
theorem x_at_in2 {i : Nat} {w : Jvm.Cond} (h : x_at i w = true) (hg : xk w = true) : w ∈ xTB2 := List.mem_filter.mpr ⟨List.mem_of_getElem? (of_decide_eq_true h), hg⟩
theorem x_lay0 : u_ws "LoanTerms" xT0 9 = [120, 122, 124, 126, 128, 130, 132, 134, 136].filterMap (fun i => lw_tbl[i]?) := by decide +kernel
theorem x_lay1 : u_ws "LoanTerms$Contract" xT1 3 = [278, 280, 282].filterMap (fun i => lw_tbl[i]?) := by decide +kernel
theorem x_lay2 : u_ws "LoanTerms$Input" xT2 5 = [100, 102, 104, 106, 108].filterMap (fun i => lw_tbl[i]?) := by decide +kernel
theorem x_lay3 : u_ws "LoanTerms$Loan" xT3 7 = [518, 520, 522, 524, 526, 528, 530].filterMap (fun i => lw_tbl[i]?) := by decide +kernel
theorem x_lay4 : u_ws "LoanTerms$Node" xT4 5 = [326, 328, 330, 332, 334].filterMap (fun i => lw_tbl[i]?) := by decide +kernel
theorem x_lay5 : u_ws "LoanTerms$Reader" xT5 2 = [253, 255].filterMap (fun i => lw_tbl[i]?) := by decide +kernel
theorem x_lay6 : u_ws "LoanTerms$Row" xT6 2 = [73, 75].filterMap (fun i => lw_tbl[i]?) := by decide +kernel
theorem x_lay7 : u_ws "LoanTerms$Span" xT7 3 = [481, 483, 485].filterMap (fun i => lw_tbl[i]?) := by decide +kernel
theorem x_lay8 : u_ws "LoanTermsModel" xT8 37 = [723, 725, 727, 729, 731, 733, 735, 737, 739, 741, 743, 745, 747, 749, 751, 753, 755, 757, 759, 761, 763, 765, 767, 769, 771, 773, 775, 777, 779, 781, 783, 785, 787, 789, 791, 793, 795].filterMap (fun i => lw_tbl[i]?) := by decide +kernel
theorem x_layin {C : String} {T : u_T} {N : Nat} {ps : List Nat} (h : u_ws C T N = ps.filterMap (fun i => lw_tbl[i]?)) : ∀ w ∈ u_ws C T N, w ∈ xTB := by
  intro w hw
  refine List.mem_filter.mpr ⟨?_, ?_⟩
  · rw [h] at hw
    obtain ⟨i, -, hi⟩ := List.mem_filterMap.mp hw
    exact List.mem_of_getElem? hi
  · obtain ⟨k, -, rfl⟩ := List.mem_map.mp hw
    unfold u_lay
    split <;> rfl
/-- what holds of each kind of objects -/
def xKd (c : Nat) (C : String) (T : u_T) (N : Nat) : Prop := (∀ w ∈ u_ws C T N, w ∈ xTB) ∧ (∀ j, j < N → parseFieldDescriptor (T j).2.2.1 = some (xft c j)) ∧ (∀ a, a < N → ∀ b, b < N → a ≠ b → (T a).2.1 ≠ (T b).2.1) ∧ (∀ j, j < N → defaultValue (xft c j) = vp_V (xdf c) j) ∧ (xdf c).length = N ∧ (∀ j, j < N → (T j).1 = C) ∧ Jvm.Cond.instantiable C N ∈ xTB ∧ Jvm.Cond.initialized C ∈ xTB
theorem x_kd0 : xKd 0 "LoanTerms" xT0 9 := ⟨x_layin x_lay0, by decide +kernel, by decide +kernel, by decide +kernel, by decide +kernel, by decide +kernel, x_at_in (i := 56) (by decide +kernel) rfl, x_at_in (i := 40) (by decide +kernel) rfl⟩
theorem x_kd1 : xKd 1 "LoanTerms$Contract" xT1 3 := ⟨x_layin x_lay1, by decide +kernel, by decide +kernel, by decide +kernel, by decide +kernel, by decide +kernel, x_at_in (i := 263) (by decide +kernel) rfl, x_at_in (i := 50) (by decide +kernel) rfl⟩
theorem x_kd2 : xKd 2 "LoanTerms$Input" xT2 5 := ⟨x_layin x_lay2, by decide +kernel, by decide +kernel, by decide +kernel, by decide +kernel, by decide +kernel, x_at_in (i := 87) (by decide +kernel) rfl, x_at_in (i := 42) (by decide +kernel) rfl⟩
theorem x_kd3 : xKd 3 "LoanTerms$Loan" xT3 7 := ⟨x_layin x_lay3, by decide +kernel, by decide +kernel, by decide +kernel, by decide +kernel, by decide +kernel, x_at_in (i := 500) (by decide +kernel) rfl, x_at_in (i := 54) (by decide +kernel) rfl⟩
theorem x_kd4 : xKd 4 "LoanTerms$Node" xT4 5 := ⟨x_layin x_lay4, by decide +kernel, by decide +kernel, by decide +kernel, by decide +kernel, by decide +kernel, x_at_in (i := 306) (by decide +kernel) rfl, x_at_in (i := 51) (by decide +kernel) rfl⟩
theorem x_kd5 : xKd 5 "LoanTerms$Reader" xT5 2 := ⟨x_layin x_lay5, by decide +kernel, by decide +kernel, by decide +kernel, by decide +kernel, by decide +kernel, x_at_in (i := 245) (by decide +kernel) rfl, x_at_in (i := 49) (by decide +kernel) rfl⟩
theorem x_kd6 : xKd 6 "LoanTerms$Row" xT6 2 := ⟨x_layin x_lay6, by decide +kernel, by decide +kernel, by decide +kernel, by decide +kernel, by decide +kernel, x_at_in (i := 64) (by decide +kernel) rfl, x_at_in (i := 41) (by decide +kernel) rfl⟩
theorem x_kd7 : xKd 7 "LoanTerms$Span" xT7 3 := ⟨x_layin x_lay7, by decide +kernel, by decide +kernel, by decide +kernel, by decide +kernel, by decide +kernel, x_at_in (i := 470) (by decide +kernel) rfl, x_at_in (i := 53) (by decide +kernel) rfl⟩
theorem x_kd8 : xKd 8 "LoanTermsModel" xT8 37 := ⟨x_layin x_lay8, by decide +kernel, by decide +kernel, by decide +kernel, by decide +kernel, by decide +kernel, x_at_in (i := 681) (by decide +kernel) rfl, x_at_in (i := 43) (by decide +kernel) rfl⟩
theorem x_kd {c : Nat} {C : String} {T : u_T} {N : Nat} (h : vwCl[c]? = some (C, T, N)) : xKd c C T N := by
  match c, h with
  | 0, h => cases h; exact x_kd0
  | 1, h => cases h; exact x_kd1
  | 2, h => cases h; exact x_kd2
  | 3, h => cases h; exact x_kd3
  | 4, h => cases h; exact x_kd4
  | 5, h => cases h; exact x_kd5
  | 6, h => cases h; exact x_kd6
  | 7, h => cases h; exact x_kd7
  | 8, h => cases h; exact x_kd8
  | c + 9, h => simp [vwCl] at h
theorem x_cn {c : Nat} {r : vw_C} (h : vwCl[c]? = some r) : xCn c = r.1 := by unfold xCn; rw [h]; rfl
/-- links of fields: owner, entry, kind, field, place -/
def x_flT : List (Nat × Nat × Nat × Nat × Nat) := [(0, 10, 0, 0, 111), (0, 16, 0, 1, 112), (0, 21, 0, 2, 113), (0, 27, 0, 3, 114), (0, 33, 0, 4, 115), (0, 39, 0, 5, 116), (0, 43, 0, 6, 117), (0, 47, 0, 7, 118), (0, 50, 0, 8, 119), (0, 54, 6, 1, 71), (0, 87, 5, 1, 252), (0, 94, 1, 2, 276), (0, 95, 1, 1, 274), (0, 106, 2, 2, 95), (0, 125, 2, 3, 97), (0, 128, 2, 4, 99), (0, 153, 3, 5, 515), (0, 160, 3, 4, 513), (0, 167, 3, 0, 506), (0, 190, 3, 6, 517), (0, 195, 3, 1, 508), (0, 199, 3, 2, 510), (0, 207, 7, 2, 480), (0, 210, 7, 0, 476), (0, 213, 7, 1, 478), (0, 261, 4, 0, 313), (0, 266, 4, 3, 321), (0, 280, 4, 4, 325), (0, 283, 4, 1, 316), (1, 11, 1, 0, 272), (1, 20, 1, 1, 273), (1, 24, 1, 2, 275), (1, 36, 4, 0, 312), (1, 39, 4, 3, 320), (1, 46, 4, 1, 315), (1, 49, 4, 2, 318), (1, 55, 4, 4, 324), (2, 9, 2, 0, 92), (2, 15, 2, 1, 93), (2, 18, 2, 2, 94), (2, 22, 2, 3, 96), (2, 25, 2, 4, 98), (3, 9, 3, 1, 507), (3, 15, 3, 2, 509), (3, 18, 3, 3, 511), (3, 22, 3, 5, 514), (3, 26, 3, 6, 516), (3, 30, 3, 0, 505), (3, 34, 3, 4, 512), (3, 44, 1, 2, 277), (4, 9, 4, 4, 322), (4, 15, 4, 0, 311), (4, 19, 4, 1, 314), (4, 22, 4, 2, 317), (4, 25, 4, 3, 319), (5, 9, 5, 1, 251), (5, 15, 5, 0, 250), (5, 30, 6, 1, 72), (5, 42, 4, 4, 323), (6, 9, 6, 0, 69), (6, 15, 6, 1, 70), (7, 7, 7, 0, 475), (7, 13, 7, 1, 477), (7, 16, 7, 2, 479), (8, 7, 8, 2, 688), (8, 13, 8, 4, 690), (8, 16, 8, 5, 691), (8, 19, 8, 6, 692), (8, 22, 8, 7, 693), (8, 25, 8, 8, 694), (8, 28, 8, 9, 695), (8, 31, 8, 10, 696), (8, 34, 8, 11, 697), (8, 37, 8, 12, 698), (8, 40, 8, 13, 699), (8, 43, 8, 14, 700), (8, 46, 8, 16, 702), (8, 49, 8, 18, 704), (8, 52, 8, 19, 705), (8, 55, 8, 20, 706), (8, 58, 8, 21, 707), (8, 61, 8, 22, 708), (8, 64, 8, 24, 710), (8, 67, 8, 25, 711), (8, 70, 8, 26, 712), (8, 73, 8, 27, 713), (8, 76, 8, 28, 714), (8, 80, 8, 29, 715), (8, 83, 8, 30, 716), (8, 86, 8, 31, 717), (8, 89, 8, 32, 718), (8, 92, 8, 34, 720), (8, 95, 8, 35, 721), (8, 98, 8, 36, 722), (8, 101, 8, 0, 686), (8, 105, 8, 23, 709), (8, 109, 8, 1, 687), (8, 135, 8, 3, 689), (8, 149, 8, 17, 703), (8, 158, 8, 15, 701), (8, 196, 8, 33, 719)]
def x_flC (q : Nat × Nat × Nat × Nat × Nat) : Bool := match vwCl[q.2.2.1]? with
  | some r => decide (q.2.2.2.1 < r.2.2) && x_at q.2.2.2.2 (.fieldLink (xCn q.1) q.2.1 r.1 (r.2.1 q.2.2.2.1).2.1 (r.2.1 q.2.2.2.1).2.2.1)
  | none => false
theorem x_fl_all : x_flT.all x_flC = true := by decide +kernel
def xfl (ow k : Nat) : Option (Nat × Nat) := (x_flT.find? fun q => q.1 == ow && q.2.1 == k).map fun q => (q.2.2.1, q.2.2.2.1)
theorem x_fl_ok {ow k : Nat} {f : Nat × Nat} (h : xfl ow k = some f) : ∃ C T N, vwCl[f.1]? = some (C, T, N) ∧ f.2 < N ∧ Jvm.Cond.fieldLink (xCn ow) k C (T f.2).2.1 (T f.2).2.2.1 ∈ xTB ∧ (T f.2).1 = C ∧ (∀ w ∈ u_ws C T N, w ∈ xTB) ∧ (∀ j, j < N → parseFieldDescriptor (T j).2.2.1 = some (xft f.1 j)) ∧ (∀ a, a < N → ∀ b, b < N → a ≠ b → (T a).2.1 ≠ (T b).2.1) ∧ xfin f.1 f.2 = (T f.2).2.2.2 := by
  unfold xfl at h
  obtain ⟨q, hq, rfl⟩ := Option.map_eq_some_iff.mp h
  have h1 := List.all_eq_true.mp x_fl_all q (List.mem_of_find?_eq_some hq)
  have h2 := List.find?_some hq
  simp only [Bool.and_eq_true, beq_iff_eq] at h2
  obtain ⟨rfl, rfl⟩ := h2
  unfold x_flC at h1
  split at h1
  · rename_i r hr
    obtain ⟨C, T, N⟩ := r
    rw [Bool.and_eq_true] at h1
    have hk := of_decide_eq_true h1.1
    obtain ⟨k1, k2, k3, k4, k5, k6, k7, k8⟩ := x_kd hr
    exact ⟨C, T, N, hr, hk, x_at_in h1.2 rfl, k6 _ hk, k1, k2, k3, by unfold xfin; rw [hr]⟩
  · cases h1
def x_nwT : List (Nat × Nat × Nat × Nat) := [(0, 7, 6, 63), (0, 25, 2, 81), (0, 31, 3, 83), (0, 37, 7, 85), (0, 75, 5, 244), (1, 17, 6, 270), (5, 19, 1, 262), (5, 43, 4, 305)]
def x_nwC (q : Nat × Nat × Nat × Nat) : Bool := match vwCl[q.2.2.1]? with
  | some r => x_at q.2.2.2 (.classLink (xCn q.1) q.2.1 r.1)
  | none => false
theorem x_nw_all : x_nwT.all x_nwC = true := by decide +kernel
def xnw (ow k : Nat) : Option Nat := (x_nwT.find? fun q => q.1 == ow && q.2.1 == k).map fun q => q.2.2.1
theorem x_nw_ok {ow k c : Nat} (h : xnw ow k = some c) : ∃ C T N, vwCl[c]? = some (C, T, N) ∧ Jvm.Cond.classLink (xCn ow) k C ∈ xTB ∧ Jvm.Cond.instantiable C N ∈ xTB ∧ Jvm.Cond.initialized C ∈ xTB ∧ (∀ w ∈ u_ws C T N, w ∈ xTB) ∧ (∀ j, j < N → parseFieldDescriptor (T j).2.2.1 = some (xft c j)) ∧ (∀ j, j < N → defaultValue (xft c j) = vp_V (xdf c) j) ∧ (xdf c).length = N := by
  unfold xnw at h
  obtain ⟨q, hq, rfl⟩ := Option.map_eq_some_iff.mp h
  have h1 := List.all_eq_true.mp x_nw_all q (List.mem_of_find?_eq_some hq)
  have h2 := List.find?_some hq
  simp only [Bool.and_eq_true, beq_iff_eq] at h2
  obtain ⟨rfl, rfl⟩ := h2
  unfold x_nwC at h1
  split at h1
  · rename_i r hr
    obtain ⟨C, T, N⟩ := r
    obtain ⟨k1, k2, k3, k4, k5, k6, k7, k8⟩ := x_kd hr
    exact ⟨C, T, N, hr, x_at_in h1 rfl, k7, k8, k1, k2, k4, k5⟩
  · cases h1
def x_acT : List (Nat × Nat × Nat × Nat) := [(0, 19, 2, 79), (0, 25, 3, 81), (0, 31, 4, 83), (0, 37, 5, 85), (1, 9, 6, 268)]
def x_acC (q : Nat × Nat × Nat × Nat) : Bool := match xty[q.2.2.1]? with
  | some (.object C) => x_at q.2.2.2 (.classLink (xCn q.1) q.2.1 C)
  | _ => false
theorem x_ac_all : x_acT.all x_acC = true := by decide +kernel
def xac (ow k : Nat) : Option Nat := (x_acT.find? fun q => q.1 == ow && q.2.1 == k).map fun q => q.2.2.1
theorem x_ac_ok {ow k t : Nat} (h : xac ow k = some t) : ∃ C, xty[t]? = some (.object C) ∧ Jvm.Cond.classLink (xCn ow) k C ∈ xTB := by
  unfold xac at h
  obtain ⟨q, hq, rfl⟩ := Option.map_eq_some_iff.mp h
  have h1 := List.all_eq_true.mp x_ac_all q (List.mem_of_find?_eq_some hq)
  have h2 := List.find?_some hq
  simp only [Bool.and_eq_true, beq_iff_eq] at h2
  obtain ⟨rfl, rfl⟩ := h2
  unfold x_acC at h1
  split at h1
  · rename_i C hr
    exact ⟨C, hr, x_at_in h1 rfl⟩
  · cases h1
def x_ldT : List (Nat × Nat × Int32 × Nat) := [(0, 117, 999999, 436), (0, 255, 2400000, 431), (0, 256, 100000, 468), (8, 108, 100000, 891), (8, 171, 2400000, 875), (8, 172, 999999, 876)]
def x_ldC (q : Nat × Nat × Int32 × Nat) : Bool := x_at q.2.2.2 (.constant (xCn q.1) q.2.1 q.2.2.1)
theorem x_ld_all : x_ldT.all x_ldC = true := by decide +kernel
def xldc (ow k : Nat) : Option Int32 := (x_ldT.find? fun q => q.1 == ow && q.2.1 == k).map fun q => q.2.2.1
theorem x_ldc_ok {ow k : Nat} {v : Int32} (h : xldc ow k = some v) : Jvm.Cond.constant (xCn ow) k v ∈ xTB := by
  unfold xldc at h
  obtain ⟨q, hq, rfl⟩ := Option.map_eq_some_iff.mp h
  have h1 := List.all_eq_true.mp x_ld_all q (List.mem_of_find?_eq_some hq)
  have h2 := List.find?_some hq
  simp only [Bool.and_eq_true, beq_iff_eq] at h2
  obtain ⟨rfl, rfl⟩ := h2
  exact x_at_in h1 rfl
theorem x_arr_int : Jvm.Cond.arrayClass .int ∈ xTB := x_at_in (i := 78) (by decide +kernel) rfl
theorem x_arr_bool : Jvm.Cond.arrayClass .boolean ∈ xTB := x_at_in (i := 533) (by decide +kernel) rfl
theorem x_arr_long : Jvm.Cond.arrayClass .long ∈ xTB := x_at_in (i := 972) (by decide +kernel) rfl
/-- a method: name, code, locals, return, owner, parameters, throws (pc, what, the three entries, text, wide) -/
abbrev xTs : Type := Nat × String × Nat × Nat × Nat × String × Bool
abbrev xMt : Type := MethodName × ByteArray × Nat × Option FieldType × Nat × Nat × List xTs
def xN (y : xMt) : MethodName := y.1
def xC (y : xMt) : ByteArray := y.2.1
def xm (y : xMt) : Nat := y.2.2.1
def xR (y : xMt) : Option FieldType := y.2.2.2.1
def xo (y : xMt) : Nat := y.2.2.2.2.1
def xnp (y : xMt) : Nat := y.2.2.2.2.2.1
def xtl (y : xMt) : List xTs := y.2.2.2.2.2.2
def xth (y : xMt) (pc : Nat) : Option xTs := (xtl y).find? fun q => q.1 == pc
def k_L_init : xMt := (⟨"LoanTerms", "<init>", "()V"⟩, prog_1_method_1_code, 2, none, 0, 0, [])
def k_L_unit : xMt := (⟨"LoanTerms", "unit", "(I)I"⟩, prog_1_method_2_code, 2, some .int, 0, 1, [(12, "java/lang/IllegalStateException", 57, 59, 61, "the pad is full", false), (34, "java/lang/IllegalArgumentException", 64, 66, 68, "no sign", false)])
def k_L_read : xMt := (⟨"LoanTerms", "read", "()I"⟩, prog_1_method_3_code, 3, some .int, 0, 0, [(9, "java/lang/IllegalStateException", 57, 73, 61, "there are eight contracts", false)])
def k_L_terms : xMt := (⟨"LoanTerms", "terms", "(I)I"⟩, prog_1_method_4_code, 2, some .int, 0, 1, [])
def k_L_written : xMt := (⟨"LoanTerms", "written", "(II)I"⟩, prog_1_method_5_code, 3, some .int, 0, 2, [])
def k_L_input : xMt := (⟨"LoanTerms", "input", "(III)I"⟩, prog_1_method_6_code, 5, some .int, 0, 3, [(17, "java/lang/IllegalStateException", 57, 107, 61, "the input has 60 rows", false), (53, "java/lang/IllegalArgumentException", 64, 118, 68, "hour or value", false)])
def k_L_fails : xMt := (⟨"LoanTerms", "fails", "(III)V"⟩, prog_1_method_7_code, 5, none, 0, 3, [(26, "java/lang/IllegalArgumentException", 64, 123, 68, "hours", false)])
def k_L_loan : xMt := (⟨"LoanTerms", "loan", "(IIII)I"⟩, prog_1_method_8_code, 7, some .int, 0, 4, [(20, "java/lang/IllegalStateException", 57, 134, 61, "there are 20 loans", false)])
def k_L_shield : xMt := (⟨"LoanTerms", "shield", "(IZ)Z"⟩, prog_1_method_9_code, 5, some .boolean, 0, 2, [])
def k_L_ask : xMt := (⟨"LoanTerms", "ask", "(II)I"⟩, prog_1_method_10_code, 7, some .int, 0, 2, [])
def k_L_open : xMt := (⟨"LoanTerms", "open", "(III)I"⟩, prog_1_method_11_code, 7, some .int, 0, 3, [(11, "java/lang/IndexOutOfBoundsException", 185, 187, 189, "k is below 0", false)])
def k_L_told : xMt := (⟨"LoanTerms", "told", "(III)I"⟩, prog_1_method_12_code, 5, some .int, 0, 3, [(30, "java/lang/IndexOutOfBoundsException", 185, 193, 189, "no such place", false)])
def k_L_extend : xMt := (⟨"LoanTerms", "extend", "(III)I"⟩, prog_1_method_13_code, 6, some .int, 0, 3, [(21, "java/lang/IllegalArgumentException", 64, 205, 68, "days", false)])
def k_L_request : xMt := (⟨"LoanTerms", "request", "(III)I"⟩, prog_1_method_14_code, 4, some .int, 0, 3, [(13, "java/lang/IllegalStateException", 57, 216, 61, "there are 30 requests", false)])
def k_L_clash : xMt := (⟨"LoanTerms", "clash", "(II)I"⟩, prog_1_method_15_code, 6, some .int, 0, 2, [(13, "java/lang/IndexOutOfBoundsException", 185, 193, 189, "no such place", false)])
def k_L_days : xMt := (⟨"LoanTerms", "days", "(I)I"⟩, prog_1_method_16_code, 2, some .int, 0, 1, [])
def k_L_fee : xMt := (⟨"LoanTerms", "fee", "(I)I"⟩, prog_1_method_17_code, 2, some .int, 0, 1, [])
def k_L_letter : xMt := (⟨"LoanTerms", "letter", "(II)I"⟩, prog_1_method_18_code, 5, some .int, 0, 2, [])
def k_L_count : xMt := (⟨"LoanTerms", "count", "(I)I"⟩, prog_1_method_19_code, 2, some .int, 0, 1, [(64, "java/lang/IndexOutOfBoundsException", 185, 242, 189, "nothing that is counted", false)])
def k_L_inputRows : xMt := (⟨"LoanTerms", "inputRows", "()I"⟩, prog_1_method_20_code, 3, some .int, 0, 0, [])
def k_L_contractOf : xMt := (⟨"LoanTerms", "contractOf", "(I)LLoanTerms$Contract;"⟩, prog_1_method_21_code, 3, some (.object "LoanTerms$Contract"), 0, 1, [(25, "java/lang/IndexOutOfBoundsException", 185, 244, 189, "no such contract", false)])
def k_L_inputOf : xMt := (⟨"LoanTerms", "inputOf", "(I)LLoanTerms$Input;"⟩, prog_1_method_22_code, 3, some (.object "LoanTerms$Input"), 0, 1, [(25, "java/lang/IndexOutOfBoundsException", 185, 246, 189, "no such input", false)])
def k_L_loanOf : xMt := (⟨"LoanTerms", "loanOf", "(I)LLoanTerms$Loan;"⟩, prog_1_method_23_code, 3, some (.object "LoanTerms$Loan"), 0, 1, [(25, "java/lang/IndexOutOfBoundsException", 185, 248, 189, "no such loan", false)])
def k_L_spanAt : xMt := (⟨"LoanTerms", "spanAt", "(I)LLoanTerms$Span;"⟩, prog_1_method_24_code, 3, some (.object "LoanTerms$Span"), 0, 1, [])
def k_L_numberAt : xMt := (⟨"LoanTerms", "numberAt", "(I)I"⟩, prog_1_method_25_code, 2, some .int, 0, 1, [])
def k_L_clashesWithLoan : xMt := (⟨"LoanTerms", "clashesWithLoan", "(LLoanTerms$Span;I)Z"⟩, prog_1_method_26_code, 4, some .boolean, 0, 2, [])
def k_L_areClashing : xMt := (⟨"LoanTerms", "areClashing", "(LLoanTerms$Span;LLoanTerms$Span;)Z"⟩, prog_1_method_27_code, 2, some .boolean, 0, 2, [])
def k_L_signOrSize : xMt := (⟨"LoanTerms", "signOrSize", "(LLoanTerms$Row;I)I"⟩, prog_1_method_28_code, 2, some .int, 0, 2, [(13, "java/lang/IndexOutOfBoundsException", 185, 250, 189, "no such sign", false)])
def k_L_isHour : xMt := (⟨"LoanTerms", "isHour", "(I)Z"⟩, prog_1_method_29_code, 1, some .boolean, 0, 1, [])
def k_L_isDay : xMt := (⟨"LoanTerms", "isDay", "(I)Z"⟩, prog_1_method_30_code, 1, some .boolean, 0, 1, [])
def k_L_refuseNoHour : xMt := (⟨"LoanTerms", "refuseNoHour", "(I)V"⟩, prog_1_method_31_code, 1, none, 0, 1, [(7, "java/lang/IllegalArgumentException", 64, 257, 68, "no hour", true)])
def k_L_refuseNoDays : xMt := (⟨"LoanTerms", "refuseNoDays", "(II)V"⟩, prog_1_method_32_code, 2, none, 0, 2, [(19, "java/lang/IllegalArgumentException", 64, 205, 68, "days", false)])
def k_L_refuseNoThing : xMt := (⟨"LoanTerms", "refuseNoThing", "(I)V"⟩, prog_1_method_33_code, 1, none, 0, 1, [(10, "java/lang/IndexOutOfBoundsException", 185, 259, 189, "no such thing", true)])
def k_L_stateOf : xMt := (⟨"LoanTerms", "stateOf", "(LLoanTerms$Node;LLoanTerms$Loan;II)I"⟩, prog_1_method_34_code, 5, some .int, 0, 4, [])
def k_L_stateOfGroup : xMt := (⟨"LoanTerms", "stateOfGroup", "(LLoanTerms$Node;LLoanTerms$Loan;II)I"⟩, prog_1_method_35_code, 8, some .int, 0, 4, [])
def k_L_stateOfName : xMt := (⟨"LoanTerms", "stateOfName", "(LLoanTerms$Node;LLoanTerms$Loan;I)I"⟩, prog_1_method_36_code, 5, some .int, 0, 3, [])
def k_L_turnedRound : xMt := (⟨"LoanTerms", "turnedRound", "(I)I"⟩, prog_1_method_37_code, 1, some .int, 0, 1, [])
def k_C_init : xMt := (⟨"LoanTerms$Contract", "<init>", "()V"⟩, prog_2_method_1_code, 1, none, 1, 0, [])
def k_C_add : xMt := (⟨"LoanTerms$Contract", "add", "(LLoanTerms$Node;)V"⟩, prog_2_method_2_code, 2, none, 1, 1, [])
def k_C_termAt : xMt := (⟨"LoanTerms$Contract", "termAt", "(I)LLoanTerms$Node;"⟩, prog_2_method_3_code, 2, some (.object "LoanTerms$Node"), 1, 1, [])
def k_C_write : xMt := (⟨"LoanTerms$Contract", "write", "(LLoanTerms$Node;I)V"⟩, prog_2_method_4_code, 3, none, 1, 2, [])
def k_C_writeGroup : xMt := (⟨"LoanTerms$Contract", "writeGroup", "(LLoanTerms$Node;I)V"⟩, prog_2_method_5_code, 5, none, 1, 2, [])
def k_I_init : xMt := (⟨"LoanTerms$Input", "<init>", "()V"⟩, prog_3_method_1_code, 1, none, 2, 0, [])
def k_I_add : xMt := (⟨"LoanTerms$Input", "add", "(II)V"⟩, prog_3_method_2_code, 3, none, 2, 2, [])
def k_I_lastHour : xMt := (⟨"LoanTerms$Input", "lastHour", "()I"⟩, prog_3_method_3_code, 1, some .int, 2, 0, [])
def k_I_valueAt : xMt := (⟨"LoanTerms$Input", "valueAt", "(I)I"⟩, prog_3_method_4_code, 3, some .int, 2, 1, [])
def k_O_init : xMt := (⟨"LoanTerms$Loan", "<init>", "(LLoanTerms$Contract;LLoanTerms$Span;)V"⟩, prog_4_method_1_code, 3, none, 3, 2, [])
def k_O_forget : xMt := (⟨"LoanTerms$Loan", "forget", "(I)V"⟩, prog_4_method_2_code, 2, none, 3, 1, [])
def k_O_tell : xMt := (⟨"LoanTerms$Loan", "tell", "(II)V"⟩, prog_4_method_3_code, 3, none, 3, 2, [])
def k_O_price : xMt := (⟨"LoanTerms$Loan", "price", "()I"⟩, prog_4_method_4_code, 2, some .int, 3, 0, [])
def k_N_init : xMt := (⟨"LoanTerms$Node", "<init>", "(ILLoanTerms$Node;)V"⟩, prog_5_method_1_code, 3, none, 4, 2, [])
def k_N_init2 : xMt := (⟨"LoanTerms$Node", "<init>", "(III)V"⟩, prog_5_method_2_code, 4, none, 4, 3, [])
def k_N_compared : xMt := (⟨"LoanTerms$Node", "compared", "(I)I"⟩, prog_5_method_3_code, 3, some .int, 4, 1, [])
def k_R_init : xMt := (⟨"LoanTerms$Reader", "<init>", "(LLoanTerms$Row;)V"⟩, prog_6_method_1_code, 2, none, 5, 1, [])
def k_R_readContract : xMt := (⟨"LoanTerms$Reader", "readContract", "()LLoanTerms$Contract;"⟩, prog_6_method_2_code, 4, some (.object "LoanTerms$Contract"), 5, 0, [])
def k_R_readGroup : xMt := (⟨"LoanTerms$Reader", "readGroup", "(II)LLoanTerms$Node;"⟩, prog_6_method_3_code, 7, some (.object "LoanTerms$Node"), 5, 2, [])
def k_R_readItem : xMt := (⟨"LoanTerms$Reader", "readItem", "(II)LLoanTerms$Node;"⟩, prog_6_method_4_code, 3, some (.object "LoanTerms$Node"), 5, 2, [])
def k_R_readBit : xMt := (⟨"LoanTerms$Reader", "readBit", "(II)LLoanTerms$Node;"⟩, prog_6_method_5_code, 4, some (.object "LoanTerms$Node"), 5, 2, [])
def k_R_readName : xMt := (⟨"LoanTerms$Reader", "readName", "()LLoanTerms$Node;"⟩, prog_6_method_6_code, 3, some (.object "LoanTerms$Node"), 5, 0, [])
def k_R_readNumber : xMt := (⟨"LoanTerms$Reader", "readNumber", "()I"⟩, prog_6_method_7_code, 3, some .int, 5, 0, [])
def k_R_sign : xMt := (⟨"LoanTerms$Reader", "sign", "()I"⟩, prog_6_method_8_code, 1, some .int, 5, 0, [])
def k_R_isName : xMt := (⟨"LoanTerms$Reader", "isName", "(I)Z"⟩, prog_6_method_9_code, 1, some .boolean, 5, 1, [])
def k_R_isDigit : xMt := (⟨"LoanTerms$Reader", "isDigit", "(I)Z"⟩, prog_6_method_10_code, 1, some .boolean, 5, 1, [])
def k_W_init : xMt := (⟨"LoanTerms$Row", "<init>", "()V"⟩, prog_7_method_1_code, 1, none, 6, 0, [])
def k_W_clear : xMt := (⟨"LoanTerms$Row", "clear", "()V"⟩, prog_7_method_2_code, 1, none, 6, 0, [])
def k_W_add : xMt := (⟨"LoanTerms$Row", "add", "(I)V"⟩, prog_7_method_3_code, 2, none, 6, 1, [])
def k_W_addNumber : xMt := (⟨"LoanTerms$Row", "addNumber", "(I)V"⟩, prog_7_method_4_code, 5, none, 6, 1, [])
def k_W_signAt : xMt := (⟨"LoanTerms$Row", "signAt", "(I)I"⟩, prog_7_method_5_code, 2, some .int, 6, 1, [])
def k_P_init : xMt := (⟨"LoanTerms$Span", "<init>", "(III)V"⟩, prog_8_method_1_code, 4, none, 7, 3, [])
def k_P_hasDay : xMt := (⟨"LoanTerms$Span", "hasDay", "(I)Z"⟩, prog_8_method_2_code, 2, some .boolean, 7, 1, [])
def k_P_length : xMt := (⟨"LoanTerms$Span", "length", "()I"⟩, prog_8_method_3_code, 1, some .int, 7, 0, [])
def k_M_init : xMt := (⟨"LoanTermsModel", "<init>", "()V"⟩, prog_10_method_1_code, 2, none, 8, 0, [])
def k_M_thrown : xMt := (⟨"LoanTermsModel", "thrown", "()I"⟩, prog_10_method_2_code, 1, some .int, 8, 0, [])
def k_M_goes : xMt := (⟨"LoanTermsModel", "goes", "(ZZZ)Z"⟩, prog_10_method_3_code, 4, some .boolean, 8, 3, [])
def k_M_within : xMt := (⟨"LoanTermsModel", "within", "(III)Z"⟩, prog_10_method_4_code, 3, some .boolean, 8, 3, [])
def k_M_isLoan : xMt := (⟨"LoanTermsModel", "isLoan", "(I)Z"⟩, prog_10_method_5_code, 2, some .boolean, 8, 1, [])
def k_M_isThing : xMt := (⟨"LoanTermsModel", "isThing", "(I)Z"⟩, prog_10_method_6_code, 1, some .boolean, 8, 1, [])
def k_M_areDays : xMt := (⟨"LoanTermsModel", "areDays", "(II)Z"⟩, prog_10_method_7_code, 2, some .boolean, 8, 2, [])
def k_M_unit : xMt := (⟨"LoanTermsModel", "unit", "(I)I"⟩, prog_10_method_8_code, 2, some .int, 8, 1, [])
def k_M_isDigit : xMt := (⟨"LoanTermsModel", "isDigit", "(I)Z"⟩, prog_10_method_9_code, 1, some .boolean, 8, 1, [])
def k_M_isName : xMt := (⟨"LoanTermsModel", "isName", "(I)Z"⟩, prog_10_method_10_code, 1, some .boolean, 8, 1, [])
def k_M_fault : xMt := (⟨"LoanTermsModel", "fault", "()I"⟩, prog_10_method_11_code, 11, some .int, 8, 0, [])
def k_M_node : xMt := (⟨"LoanTermsModel", "node", "(III)I"⟩, prog_10_method_12_code, 5, some .int, 8, 3, [])
def k_M_begin : xMt := (⟨"LoanTermsModel", "begin", "(II)I"⟩, prog_10_method_13_code, 4, some .int, 8, 2, [])
def k_M_build : xMt := (⟨"LoanTermsModel", "build", "(I)V"⟩, prog_10_method_14_code, 9, none, 8, 1, [])
def k_M_read : xMt := (⟨"LoanTermsModel", "read", "()I"⟩, prog_10_method_15_code, 2, some .int, 8, 0, [])
def k_M_isContract : xMt := (⟨"LoanTermsModel", "isContract", "(I)Z"⟩, prog_10_method_16_code, 2, some .boolean, 8, 1, [])
def k_M_terms : xMt := (⟨"LoanTermsModel", "terms", "(I)I"⟩, prog_10_method_17_code, 2, some .int, 8, 1, [])
def k_M_put : xMt := (⟨"LoanTermsModel", "put", "(I)V"⟩, prog_10_method_18_code, 2, none, 8, 1, [])
def k_M_putNumber : xMt := (⟨"LoanTermsModel", "putNumber", "(I)V"⟩, prog_10_method_19_code, 3, none, 8, 1, [])
def k_M_children : xMt := (⟨"LoanTermsModel", "children", "(II)I"⟩, prog_10_method_20_code, 5, some .int, 8, 2, [])
def k_M_unfold : xMt := (⟨"LoanTermsModel", "unfold", "(II)V"⟩, prog_10_method_21_code, 6, none, 8, 2, [])
def k_M_write : xMt := (⟨"LoanTermsModel", "write", "(I)V"⟩, prog_10_method_22_code, 6, none, 8, 1, [])
def k_M_written : xMt := (⟨"LoanTermsModel", "written", "(II)I"⟩, prog_10_method_23_code, 4, some .int, 8, 2, [])
def k_M_input : xMt := (⟨"LoanTermsModel", "input", "(III)I"⟩, prog_10_method_24_code, 7, some .int, 8, 3, [])
def k_M_fails : xMt := (⟨"LoanTermsModel", "fails", "(III)V"⟩, prog_10_method_25_code, 4, none, 8, 3, [])
def k_M_valueAt : xMt := (⟨"LoanTermsModel", "valueAt", "(II)I"⟩, prog_10_method_26_code, 5, some .int, 8, 2, [])
def k_M_isOut : xMt := (⟨"LoanTermsModel", "isOut", "(IIII)Z"⟩, prog_10_method_27_code, 6, some .boolean, 8, 4, [])
def k_M_loan : xMt := (⟨"LoanTermsModel", "loan", "(IIII)I"⟩, prog_10_method_28_code, 5, some .int, 8, 4, [])
def k_M_shield : xMt := (⟨"LoanTermsModel", "shield", "(IZ)Z"⟩, prog_10_method_29_code, 4, some .boolean, 8, 2, [])
def k_M_leaf : xMt := (⟨"LoanTermsModel", "leaf", "(III)I"⟩, prog_10_method_30_code, 9, some .int, 8, 3, [])
def k_M_work : xMt := (⟨"LoanTermsModel", "work", "(II)V"⟩, prog_10_method_31_code, 9, none, 8, 2, [])
def k_M_ask : xMt := (⟨"LoanTermsModel", "ask", "(II)I"⟩, prog_10_method_32_code, 7, some .int, 8, 2, [])
def k_M_open : xMt := (⟨"LoanTermsModel", "open", "(III)I"⟩, prog_10_method_33_code, 7, some .int, 8, 3, [])
def k_M_told : xMt := (⟨"LoanTermsModel", "told", "(III)I"⟩, prog_10_method_34_code, 5, some .int, 8, 3, [])
def k_M_extend : xMt := (⟨"LoanTermsModel", "extend", "(III)I"⟩, prog_10_method_35_code, 4, some .int, 8, 3, [])
def k_M_request : xMt := (⟨"LoanTermsModel", "request", "(III)I"⟩, prog_10_method_36_code, 4, some .int, 8, 3, [])
def k_M_isPair : xMt := (⟨"LoanTermsModel", "isPair", "(II)Z"⟩, prog_10_method_37_code, 9, some .boolean, 8, 2, [])
def k_M_clash : xMt := (⟨"LoanTermsModel", "clash", "(II)I"⟩, prog_10_method_38_code, 6, some .int, 8, 2, [])
def k_M_allDays : xMt := (⟨"LoanTermsModel", "allDays", "(I)I"⟩, prog_10_method_39_code, 2, some .int, 8, 1, [])
def k_M_days : xMt := (⟨"LoanTermsModel", "days", "(I)I"⟩, prog_10_method_40_code, 2, some .int, 8, 1, [])
def k_M_allFee : xMt := (⟨"LoanTermsModel", "allFee", "(I)I"⟩, prog_10_method_41_code, 2, some .int, 8, 1, [])
def k_M_fee : xMt := (⟨"LoanTermsModel", "fee", "(I)I"⟩, prog_10_method_42_code, 2, some .int, 8, 1, [])
def k_M_writeLetter : xMt := (⟨"LoanTermsModel", "writeLetter", "(I)V"⟩, prog_10_method_43_code, 3, none, 8, 1, [])
def k_M_letter : xMt := (⟨"LoanTermsModel", "letter", "(II)I"⟩, prog_10_method_44_code, 4, some .int, 8, 2, [])
def k_M_count : xMt := (⟨"LoanTermsModel", "count", "(I)I"⟩, prog_10_method_45_code, 4, some .int, 8, 1, [])
def xMs : List xMt := [k_L_init, k_L_unit, k_L_read, k_L_terms, k_L_written, k_L_input, k_L_fails, k_L_loan, k_L_shield, k_L_ask, k_L_open, k_L_told, k_L_extend, k_L_request, k_L_clash, k_L_days, k_L_fee, k_L_letter, k_L_count, k_L_inputRows, k_L_contractOf, k_L_inputOf, k_L_loanOf, k_L_spanAt, k_L_numberAt, k_L_clashesWithLoan, k_L_areClashing, k_L_signOrSize, k_L_isHour, k_L_isDay, k_L_refuseNoHour, k_L_refuseNoDays, k_L_refuseNoThing, k_L_stateOf, k_L_stateOfGroup, k_L_stateOfName, k_L_turnedRound, k_C_init, k_C_add, k_C_termAt, k_C_write, k_C_writeGroup, k_I_init, k_I_add, k_I_lastHour, k_I_valueAt, k_O_init, k_O_forget, k_O_tell, k_O_price, k_N_init, k_N_init2, k_N_compared, k_R_init, k_R_readContract, k_R_readGroup, k_R_readItem, k_R_readBit, k_R_readName, k_R_readNumber, k_R_sign, k_R_isName, k_R_isDigit, k_W_init, k_W_clear, k_W_add, k_W_addNumber, k_W_signAt, k_P_init, k_P_hasDay, k_P_length, k_M_init, k_M_thrown, k_M_goes, k_M_within, k_M_isLoan, k_M_isThing, k_M_areDays, k_M_unit, k_M_isDigit, k_M_isName, k_M_fault, k_M_node, k_M_begin, k_M_build, k_M_read, k_M_isContract, k_M_terms, k_M_put, k_M_putNumber, k_M_children, k_M_unfold, k_M_write, k_M_written, k_M_input, k_M_fails, k_M_valueAt, k_M_isOut, k_M_loan, k_M_shield, k_M_leaf, k_M_work, k_M_ask, k_M_open, k_M_told, k_M_extend, k_M_request, k_M_isPair, k_M_clash, k_M_allDays, k_M_days, k_M_allFee, k_M_fee, k_M_writeLetter, k_M_letter, k_M_count]
/-- places: code, static?, static or of an object, chosen?, place -/
def x_mP : List (Nat × Nat × Nat × Nat × Nat) := [(59, 0, 58, 0, 0), (147, 0, 145, 1, 146), (242, 0, 240, 1, 241), (382, 0, 380, 1, 381), (409, 0, 407, 1, 408), (421, 0, 419, 1, 420), (448, 0, 446, 1, 447), (456, 0, 454, 1, 455), (540, 0, 538, 1, 539), (547, 0, 545, 1, 546), (597, 0, 595, 1, 596), (605, 0, 603, 1, 604), (613, 0, 611, 1, 612), (620, 0, 618, 1, 619), (628, 0, 626, 1, 627), (643, 0, 641, 1, 642), (654, 0, 652, 1, 653), (666, 0, 664, 1, 665), (674, 0, 672, 1, 673), (678, 0, 677, 1, 18), (386, 0, 385, 1, 9), (425, 0, 424, 1, 10), (495, 0, 494, 1, 12), (632, 0, 631, 1, 16), (636, 0, 635, 1, 17), (491, 0, 490, 1, 11), (499, 1, 498, 0, 0), (412, 1, 411, 0, 0), (430, 1, 429, 0, 0), (467, 1, 466, 0, 0), (550, 1, 549, 0, 0), (464, 1, 463, 0, 0), (459, 1, 458, 0, 0), (563, 0, 562, 1, 13), (570, 0, 569, 1, 14), (574, 0, 573, 1, 15), (566, 1, 565, 0, 0), (266, 0, 265, 0, 0), (357, 0, 355, 1, 356), (559, 0, 557, 1, 558), (361, 0, 360, 1, 7), (366, 0, 365, 1, 8), (90, 0, 89, 0, 0), (441, 0, 439, 1, 440), (435, 0, 433, 1, 434), (582, 0, 580, 1, 581), (503, 0, 502, 0, 0), (586, 0, 584, 1, 585), (590, 0, 588, 1, 589), (658, 0, 656, 1, 657), (309, 0, 308, 0, 0), (353, 0, 352, 0, 0), (578, 0, 576, 1, 577), (248, 0, 247, 0, 0), (261, 0, 259, 1, 260), (288, 0, 287, 1, 1), (292, 0, 291, 1, 2), (296, 0, 295, 1, 3), (340, 0, 339, 1, 5), (350, 0, 349, 1, 6), (300, 0, 299, 1, 4), (343, 1, 342, 0, 0), (346, 1, 345, 0, 0), (67, 0, 66, 0, 0), (374, 0, 372, 1, 373), (235, 0, 233, 1, 234), (370, 0, 368, 1, 369), (304, 0, 302, 1, 303), (473, 0, 472, 0, 0), (555, 0, 553, 1, 554), (647, 0, 645, 1, 646), (684, 0, 683, 0, 0), (801, 0, 799, 1, 800), (812, 0, 811, 1, 19), (808, 1, 807, 0, 0), (903, 0, 902, 1, 31), (887, 1, 886, 0, 0), (890, 1, 889, 0, 0), (805, 0, 803, 1, 804), (826, 1, 825, 0, 0), (823, 1, 822, 0, 0), (820, 0, 819, 1, 20), (838, 0, 837, 1, 23), (834, 0, 833, 1, 22), (830, 0, 829, 1, 21), (816, 0, 814, 1, 815), (846, 0, 845, 1, 24), (842, 0, 840, 1, 841), (858, 0, 857, 1, 26), (870, 0, 869, 1, 29), (866, 0, 865, 1, 28), (862, 0, 861, 1, 27), (854, 0, 853, 1, 25), (850, 0, 848, 1, 849), (874, 0, 872, 1, 873), (880, 0, 878, 1, 879), (919, 0, 918, 1, 34), (895, 0, 894, 1, 30), (884, 0, 882, 1, 883), (899, 0, 897, 1, 898), (915, 0, 914, 1, 33), (911, 0, 910, 1, 32), (907, 0, 905, 1, 906), (923, 0, 921, 1, 922), (927, 0, 925, 1, 926), (931, 0, 929, 1, 930), (935, 0, 933, 1, 934), (943, 0, 942, 1, 35), (939, 0, 937, 1, 938), (951, 0, 950, 1, 36), (947, 0, 945, 1, 946), (959, 0, 958, 1, 37), (955, 0, 953, 1, 954), (967, 0, 966, 1, 38), (963, 0, 961, 1, 962), (971, 0, 969, 1, 970)]
def x_mC (q : xMt × (Nat × Nat × Nat × Nat × Nat)) : Bool := x_at q.2.1 (.code (xN q.1) (xC q.1) (xm q.1) (xR q.1)) && (if q.2.2.1 = 1 then x_at q.2.2.2.1 (.static (xN q.1)) else x_at q.2.2.2.1 (.instanceMethod (xN q.1))) && (if q.2.2.2.2.1 = 1 then x_at q.2.2.2.2.2 (.selects (xN q.1).cls (xN q.1) (xN q.1)) else true) && decide ((xN q.1).cls = xCn (xo q.1)) && decide (xm q.1 ≤ 40) && plainName (xN q.1).cls && decide ((xN q.1).cls ≠ "java/lang/invoke/MethodHandle" ∧ (xN q.1).cls ≠ "java/lang/invoke/VarHandle") && decide ((parseMethodDescriptor (xN q.1).desc).map (fun d => d.parameters.length) = some (xnp q.1)) && decide (xo q.1 < 9)
theorem x_mc0 : x_mC (k_L_init, (59, 0, 58, 0, 0)) = true := by decide +kernel
theorem x_mc1 : x_mC (k_L_unit, (147, 0, 145, 1, 146)) = true := by decide +kernel
theorem x_mc2 : x_mC (k_L_read, (242, 0, 240, 1, 241)) = true := by decide +kernel
theorem x_mc3 : x_mC (k_L_terms, (382, 0, 380, 1, 381)) = true := by decide +kernel
theorem x_mc4 : x_mC (k_L_written, (409, 0, 407, 1, 408)) = true := by decide +kernel
theorem x_mc5 : x_mC (k_L_input, (421, 0, 419, 1, 420)) = true := by decide +kernel
theorem x_mc6 : x_mC (k_L_fails, (448, 0, 446, 1, 447)) = true := by decide +kernel
theorem x_mc7 : x_mC (k_L_loan, (456, 0, 454, 1, 455)) = true := by decide +kernel
theorem x_mc8 : x_mC (k_L_shield, (540, 0, 538, 1, 539)) = true := by decide +kernel
theorem x_mc9 : x_mC (k_L_ask, (547, 0, 545, 1, 546)) = true := by decide +kernel
theorem x_mc10 : x_mC (k_L_open, (597, 0, 595, 1, 596)) = true := by decide +kernel
theorem x_mc11 : x_mC (k_L_told, (605, 0, 603, 1, 604)) = true := by decide +kernel
theorem x_mc12 : x_mC (k_L_extend, (613, 0, 611, 1, 612)) = true := by decide +kernel
theorem x_mc13 : x_mC (k_L_request, (620, 0, 618, 1, 619)) = true := by decide +kernel
theorem x_mc14 : x_mC (k_L_clash, (628, 0, 626, 1, 627)) = true := by decide +kernel
theorem x_mc15 : x_mC (k_L_days, (643, 0, 641, 1, 642)) = true := by decide +kernel
theorem x_mc16 : x_mC (k_L_fee, (654, 0, 652, 1, 653)) = true := by decide +kernel
theorem x_mc17 : x_mC (k_L_letter, (666, 0, 664, 1, 665)) = true := by decide +kernel
theorem x_mc18 : x_mC (k_L_count, (674, 0, 672, 1, 673)) = true := by decide +kernel
theorem x_mc19 : x_mC (k_L_inputRows, (678, 0, 677, 1, 18)) = true := by decide +kernel
theorem x_mc20 : x_mC (k_L_contractOf, (386, 0, 385, 1, 9)) = true := by decide +kernel
theorem x_mc21 : x_mC (k_L_inputOf, (425, 0, 424, 1, 10)) = true := by decide +kernel
theorem x_mc22 : x_mC (k_L_loanOf, (495, 0, 494, 1, 12)) = true := by decide +kernel
theorem x_mc23 : x_mC (k_L_spanAt, (632, 0, 631, 1, 16)) = true := by decide +kernel
theorem x_mc24 : x_mC (k_L_numberAt, (636, 0, 635, 1, 17)) = true := by decide +kernel
theorem x_mc25 : x_mC (k_L_clashesWithLoan, (491, 0, 490, 1, 11)) = true := by decide +kernel
theorem x_mc26 : x_mC (k_L_areClashing, (499, 1, 498, 0, 0)) = true := by decide +kernel
theorem x_mc27 : x_mC (k_L_signOrSize, (412, 1, 411, 0, 0)) = true := by decide +kernel
theorem x_mc28 : x_mC (k_L_isHour, (430, 1, 429, 0, 0)) = true := by decide +kernel
theorem x_mc29 : x_mC (k_L_isDay, (467, 1, 466, 0, 0)) = true := by decide +kernel
theorem x_mc30 : x_mC (k_L_refuseNoHour, (550, 1, 549, 0, 0)) = true := by decide +kernel
theorem x_mc31 : x_mC (k_L_refuseNoDays, (464, 1, 463, 0, 0)) = true := by decide +kernel
theorem x_mc32 : x_mC (k_L_refuseNoThing, (459, 1, 458, 0, 0)) = true := by decide +kernel
theorem x_mc33 : x_mC (k_L_stateOf, (563, 0, 562, 1, 13)) = true := by decide +kernel
theorem x_mc34 : x_mC (k_L_stateOfGroup, (570, 0, 569, 1, 14)) = true := by decide +kernel
theorem x_mc35 : x_mC (k_L_stateOfName, (574, 0, 573, 1, 15)) = true := by decide +kernel
theorem x_mc36 : x_mC (k_L_turnedRound, (566, 1, 565, 0, 0)) = true := by decide +kernel
theorem x_mc37 : x_mC (k_C_init, (266, 0, 265, 0, 0)) = true := by decide +kernel
theorem x_mc38 : x_mC (k_C_add, (357, 0, 355, 1, 356)) = true := by decide +kernel
theorem x_mc39 : x_mC (k_C_termAt, (559, 0, 557, 1, 558)) = true := by decide +kernel
theorem x_mc40 : x_mC (k_C_write, (361, 0, 360, 1, 7)) = true := by decide +kernel
theorem x_mc41 : x_mC (k_C_writeGroup, (366, 0, 365, 1, 8)) = true := by decide +kernel
theorem x_mc42 : x_mC (k_I_init, (90, 0, 89, 0, 0)) = true := by decide +kernel
theorem x_mc43 : x_mC (k_I_add, (441, 0, 439, 1, 440)) = true := by decide +kernel
theorem x_mc44 : x_mC (k_I_lastHour, (435, 0, 433, 1, 434)) = true := by decide +kernel
theorem x_mc45 : x_mC (k_I_valueAt, (582, 0, 580, 1, 581)) = true := by decide +kernel
theorem x_mc46 : x_mC (k_O_init, (503, 0, 502, 0, 0)) = true := by decide +kernel
theorem x_mc47 : x_mC (k_O_forget, (586, 0, 584, 1, 585)) = true := by decide +kernel
theorem x_mc48 : x_mC (k_O_tell, (590, 0, 588, 1, 589)) = true := by decide +kernel
theorem x_mc49 : x_mC (k_O_price, (658, 0, 656, 1, 657)) = true := by decide +kernel
theorem x_mc50 : x_mC (k_N_init, (309, 0, 308, 0, 0)) = true := by decide +kernel
theorem x_mc51 : x_mC (k_N_init2, (353, 0, 352, 0, 0)) = true := by decide +kernel
theorem x_mc52 : x_mC (k_N_compared, (578, 0, 576, 1, 577)) = true := by decide +kernel
theorem x_mc53 : x_mC (k_R_init, (248, 0, 247, 0, 0)) = true := by decide +kernel
theorem x_mc54 : x_mC (k_R_readContract, (261, 0, 259, 1, 260)) = true := by decide +kernel
theorem x_mc55 : x_mC (k_R_readGroup, (288, 0, 287, 1, 1)) = true := by decide +kernel
theorem x_mc56 : x_mC (k_R_readItem, (292, 0, 291, 1, 2)) = true := by decide +kernel
theorem x_mc57 : x_mC (k_R_readBit, (296, 0, 295, 1, 3)) = true := by decide +kernel
theorem x_mc58 : x_mC (k_R_readName, (340, 0, 339, 1, 5)) = true := by decide +kernel
theorem x_mc59 : x_mC (k_R_readNumber, (350, 0, 349, 1, 6)) = true := by decide +kernel
theorem x_mc60 : x_mC (k_R_sign, (300, 0, 299, 1, 4)) = true := by decide +kernel
theorem x_mc61 : x_mC (k_R_isName, (343, 1, 342, 0, 0)) = true := by decide +kernel
theorem x_mc62 : x_mC (k_R_isDigit, (346, 1, 345, 0, 0)) = true := by decide +kernel
theorem x_mc63 : x_mC (k_W_init, (67, 0, 66, 0, 0)) = true := by decide +kernel
theorem x_mc64 : x_mC (k_W_clear, (374, 0, 372, 1, 373)) = true := by decide +kernel
theorem x_mc65 : x_mC (k_W_add, (235, 0, 233, 1, 234)) = true := by decide +kernel
theorem x_mc66 : x_mC (k_W_addNumber, (370, 0, 368, 1, 369)) = true := by decide +kernel
theorem x_mc67 : x_mC (k_W_signAt, (304, 0, 302, 1, 303)) = true := by decide +kernel
theorem x_mc68 : x_mC (k_P_init, (473, 0, 472, 0, 0)) = true := by decide +kernel
theorem x_mc69 : x_mC (k_P_hasDay, (555, 0, 553, 1, 554)) = true := by decide +kernel
theorem x_mc70 : x_mC (k_P_length, (647, 0, 645, 1, 646)) = true := by decide +kernel
theorem x_mc71 : x_mC (k_M_init, (684, 0, 683, 0, 0)) = true := by decide +kernel
theorem x_mc72 : x_mC (k_M_thrown, (801, 0, 799, 1, 800)) = true := by decide +kernel
theorem x_mc73 : x_mC (k_M_goes, (812, 0, 811, 1, 19)) = true := by decide +kernel
theorem x_mc74 : x_mC (k_M_within, (808, 1, 807, 0, 0)) = true := by decide +kernel
theorem x_mc75 : x_mC (k_M_isLoan, (903, 0, 902, 1, 31)) = true := by decide +kernel
theorem x_mc76 : x_mC (k_M_isThing, (887, 1, 886, 0, 0)) = true := by decide +kernel
theorem x_mc77 : x_mC (k_M_areDays, (890, 1, 889, 0, 0)) = true := by decide +kernel
theorem x_mc78 : x_mC (k_M_unit, (805, 0, 803, 1, 804)) = true := by decide +kernel
theorem x_mc79 : x_mC (k_M_isDigit, (826, 1, 825, 0, 0)) = true := by decide +kernel
theorem x_mc80 : x_mC (k_M_isName, (823, 1, 822, 0, 0)) = true := by decide +kernel
theorem x_mc81 : x_mC (k_M_fault, (820, 0, 819, 1, 20)) = true := by decide +kernel
theorem x_mc82 : x_mC (k_M_node, (838, 0, 837, 1, 23)) = true := by decide +kernel
theorem x_mc83 : x_mC (k_M_begin, (834, 0, 833, 1, 22)) = true := by decide +kernel
theorem x_mc84 : x_mC (k_M_build, (830, 0, 829, 1, 21)) = true := by decide +kernel
theorem x_mc85 : x_mC (k_M_read, (816, 0, 814, 1, 815)) = true := by decide +kernel
theorem x_mc86 : x_mC (k_M_isContract, (846, 0, 845, 1, 24)) = true := by decide +kernel
theorem x_mc87 : x_mC (k_M_terms, (842, 0, 840, 1, 841)) = true := by decide +kernel
theorem x_mc88 : x_mC (k_M_put, (858, 0, 857, 1, 26)) = true := by decide +kernel
theorem x_mc89 : x_mC (k_M_putNumber, (870, 0, 869, 1, 29)) = true := by decide +kernel
theorem x_mc90 : x_mC (k_M_children, (866, 0, 865, 1, 28)) = true := by decide +kernel
theorem x_mc91 : x_mC (k_M_unfold, (862, 0, 861, 1, 27)) = true := by decide +kernel
theorem x_mc92 : x_mC (k_M_write, (854, 0, 853, 1, 25)) = true := by decide +kernel
theorem x_mc93 : x_mC (k_M_written, (850, 0, 848, 1, 849)) = true := by decide +kernel
theorem x_mc94 : x_mC (k_M_input, (874, 0, 872, 1, 873)) = true := by decide +kernel
theorem x_mc95 : x_mC (k_M_fails, (880, 0, 878, 1, 879)) = true := by decide +kernel
theorem x_mc96 : x_mC (k_M_valueAt, (919, 0, 918, 1, 34)) = true := by decide +kernel
theorem x_mc97 : x_mC (k_M_isOut, (895, 0, 894, 1, 30)) = true := by decide +kernel
theorem x_mc98 : x_mC (k_M_loan, (884, 0, 882, 1, 883)) = true := by decide +kernel
theorem x_mc99 : x_mC (k_M_shield, (899, 0, 897, 1, 898)) = true := by decide +kernel
theorem x_mc100 : x_mC (k_M_leaf, (915, 0, 914, 1, 33)) = true := by decide +kernel
theorem x_mc101 : x_mC (k_M_work, (911, 0, 910, 1, 32)) = true := by decide +kernel
theorem x_mc102 : x_mC (k_M_ask, (907, 0, 905, 1, 906)) = true := by decide +kernel
theorem x_mc103 : x_mC (k_M_open, (923, 0, 921, 1, 922)) = true := by decide +kernel
theorem x_mc104 : x_mC (k_M_told, (927, 0, 925, 1, 926)) = true := by decide +kernel
theorem x_mc105 : x_mC (k_M_extend, (931, 0, 929, 1, 930)) = true := by decide +kernel
theorem x_mc106 : x_mC (k_M_request, (935, 0, 933, 1, 934)) = true := by decide +kernel
theorem x_mc107 : x_mC (k_M_isPair, (943, 0, 942, 1, 35)) = true := by decide +kernel
theorem x_mc108 : x_mC (k_M_clash, (939, 0, 937, 1, 938)) = true := by decide +kernel
theorem x_mc109 : x_mC (k_M_allDays, (951, 0, 950, 1, 36)) = true := by decide +kernel
theorem x_mc110 : x_mC (k_M_days, (947, 0, 945, 1, 946)) = true := by decide +kernel
theorem x_mc111 : x_mC (k_M_allFee, (959, 0, 958, 1, 37)) = true := by decide +kernel
theorem x_mc112 : x_mC (k_M_fee, (955, 0, 953, 1, 954)) = true := by decide +kernel
theorem x_mc113 : x_mC (k_M_writeLetter, (967, 0, 966, 1, 38)) = true := by decide +kernel
theorem x_mc114 : x_mC (k_M_letter, (963, 0, 961, 1, 962)) = true := by decide +kernel
theorem x_mc115 : x_mC (k_M_count, (971, 0, 969, 1, 970)) = true := by decide +kernel
theorem x_m_all : (xMs.zip x_mP).all x_mC = true := by
  show ([(k_L_init, (59, 0, 58, 0, 0)), (k_L_unit, (147, 0, 145, 1, 146)), (k_L_read, (242, 0, 240, 1, 241)), (k_L_terms, (382, 0, 380, 1, 381)), (k_L_written, (409, 0, 407, 1, 408)), (k_L_input, (421, 0, 419, 1, 420)), (k_L_fails, (448, 0, 446, 1, 447)), (k_L_loan, (456, 0, 454, 1, 455)), (k_L_shield, (540, 0, 538, 1, 539)), (k_L_ask, (547, 0, 545, 1, 546)), (k_L_open, (597, 0, 595, 1, 596)), (k_L_told, (605, 0, 603, 1, 604)), (k_L_extend, (613, 0, 611, 1, 612)), (k_L_request, (620, 0, 618, 1, 619)), (k_L_clash, (628, 0, 626, 1, 627)), (k_L_days, (643, 0, 641, 1, 642)), (k_L_fee, (654, 0, 652, 1, 653)), (k_L_letter, (666, 0, 664, 1, 665)), (k_L_count, (674, 0, 672, 1, 673)), (k_L_inputRows, (678, 0, 677, 1, 18)), (k_L_contractOf, (386, 0, 385, 1, 9)), (k_L_inputOf, (425, 0, 424, 1, 10)), (k_L_loanOf, (495, 0, 494, 1, 12)), (k_L_spanAt, (632, 0, 631, 1, 16)), (k_L_numberAt, (636, 0, 635, 1, 17)), (k_L_clashesWithLoan, (491, 0, 490, 1, 11)), (k_L_areClashing, (499, 1, 498, 0, 0)), (k_L_signOrSize, (412, 1, 411, 0, 0)), (k_L_isHour, (430, 1, 429, 0, 0)), (k_L_isDay, (467, 1, 466, 0, 0)), (k_L_refuseNoHour, (550, 1, 549, 0, 0)), (k_L_refuseNoDays, (464, 1, 463, 0, 0)), (k_L_refuseNoThing, (459, 1, 458, 0, 0)), (k_L_stateOf, (563, 0, 562, 1, 13)), (k_L_stateOfGroup, (570, 0, 569, 1, 14)), (k_L_stateOfName, (574, 0, 573, 1, 15)), (k_L_turnedRound, (566, 1, 565, 0, 0)), (k_C_init, (266, 0, 265, 0, 0)), (k_C_add, (357, 0, 355, 1, 356)), (k_C_termAt, (559, 0, 557, 1, 558)), (k_C_write, (361, 0, 360, 1, 7)), (k_C_writeGroup, (366, 0, 365, 1, 8)), (k_I_init, (90, 0, 89, 0, 0)), (k_I_add, (441, 0, 439, 1, 440)), (k_I_lastHour, (435, 0, 433, 1, 434)), (k_I_valueAt, (582, 0, 580, 1, 581)), (k_O_init, (503, 0, 502, 0, 0)), (k_O_forget, (586, 0, 584, 1, 585)), (k_O_tell, (590, 0, 588, 1, 589)), (k_O_price, (658, 0, 656, 1, 657)), (k_N_init, (309, 0, 308, 0, 0)), (k_N_init2, (353, 0, 352, 0, 0)), (k_N_compared, (578, 0, 576, 1, 577)), (k_R_init, (248, 0, 247, 0, 0)), (k_R_readContract, (261, 0, 259, 1, 260)), (k_R_readGroup, (288, 0, 287, 1, 1)), (k_R_readItem, (292, 0, 291, 1, 2)), (k_R_readBit, (296, 0, 295, 1, 3)), (k_R_readName, (340, 0, 339, 1, 5)), (k_R_readNumber, (350, 0, 349, 1, 6)), (k_R_sign, (300, 0, 299, 1, 4)), (k_R_isName, (343, 1, 342, 0, 0)), (k_R_isDigit, (346, 1, 345, 0, 0)), (k_W_init, (67, 0, 66, 0, 0)), (k_W_clear, (374, 0, 372, 1, 373)), (k_W_add, (235, 0, 233, 1, 234)), (k_W_addNumber, (370, 0, 368, 1, 369)), (k_W_signAt, (304, 0, 302, 1, 303)), (k_P_init, (473, 0, 472, 0, 0)), (k_P_hasDay, (555, 0, 553, 1, 554)), (k_P_length, (647, 0, 645, 1, 646)), (k_M_init, (684, 0, 683, 0, 0)), (k_M_thrown, (801, 0, 799, 1, 800)), (k_M_goes, (812, 0, 811, 1, 19)), (k_M_within, (808, 1, 807, 0, 0)), (k_M_isLoan, (903, 0, 902, 1, 31)), (k_M_isThing, (887, 1, 886, 0, 0)), (k_M_areDays, (890, 1, 889, 0, 0)), (k_M_unit, (805, 0, 803, 1, 804)), (k_M_isDigit, (826, 1, 825, 0, 0)), (k_M_isName, (823, 1, 822, 0, 0)), (k_M_fault, (820, 0, 819, 1, 20)), (k_M_node, (838, 0, 837, 1, 23)), (k_M_begin, (834, 0, 833, 1, 22)), (k_M_build, (830, 0, 829, 1, 21)), (k_M_read, (816, 0, 814, 1, 815)), (k_M_isContract, (846, 0, 845, 1, 24)), (k_M_terms, (842, 0, 840, 1, 841)), (k_M_put, (858, 0, 857, 1, 26)), (k_M_putNumber, (870, 0, 869, 1, 29)), (k_M_children, (866, 0, 865, 1, 28)), (k_M_unfold, (862, 0, 861, 1, 27)), (k_M_write, (854, 0, 853, 1, 25)), (k_M_written, (850, 0, 848, 1, 849)), (k_M_input, (874, 0, 872, 1, 873)), (k_M_fails, (880, 0, 878, 1, 879)), (k_M_valueAt, (919, 0, 918, 1, 34)), (k_M_isOut, (895, 0, 894, 1, 30)), (k_M_loan, (884, 0, 882, 1, 883)), (k_M_shield, (899, 0, 897, 1, 898)), (k_M_leaf, (915, 0, 914, 1, 33)), (k_M_work, (911, 0, 910, 1, 32)), (k_M_ask, (907, 0, 905, 1, 906)), (k_M_open, (923, 0, 921, 1, 922)), (k_M_told, (927, 0, 925, 1, 926)), (k_M_extend, (931, 0, 929, 1, 930)), (k_M_request, (935, 0, 933, 1, 934)), (k_M_isPair, (943, 0, 942, 1, 35)), (k_M_clash, (939, 0, 937, 1, 938)), (k_M_allDays, (951, 0, 950, 1, 36)), (k_M_days, (947, 0, 945, 1, 946)), (k_M_allFee, (959, 0, 958, 1, 37)), (k_M_fee, (955, 0, 953, 1, 954)), (k_M_writeLetter, (967, 0, 966, 1, 38)), (k_M_letter, (963, 0, 961, 1, 962)), (k_M_count, (971, 0, 969, 1, 970))] : List (xMt × (Nat × Nat × Nat × Nat × Nat))).all x_mC = true
  simp only [List.all_cons, List.all_nil, Bool.and_true, x_mc0, x_mc1, x_mc2, x_mc3, x_mc4, x_mc5, x_mc6, x_mc7, x_mc8, x_mc9, x_mc10, x_mc11, x_mc12, x_mc13, x_mc14, x_mc15, x_mc16, x_mc17, x_mc18, x_mc19, x_mc20, x_mc21, x_mc22, x_mc23, x_mc24, x_mc25, x_mc26, x_mc27, x_mc28, x_mc29, x_mc30, x_mc31, x_mc32, x_mc33, x_mc34, x_mc35, x_mc36, x_mc37, x_mc38, x_mc39, x_mc40, x_mc41, x_mc42, x_mc43, x_mc44, x_mc45, x_mc46, x_mc47, x_mc48, x_mc49, x_mc50, x_mc51, x_mc52, x_mc53, x_mc54, x_mc55, x_mc56, x_mc57, x_mc58, x_mc59, x_mc60, x_mc61, x_mc62, x_mc63, x_mc64, x_mc65, x_mc66, x_mc67, x_mc68, x_mc69, x_mc70, x_mc71, x_mc72, x_mc73, x_mc74, x_mc75, x_mc76, x_mc77, x_mc78, x_mc79, x_mc80, x_mc81, x_mc82, x_mc83, x_mc84, x_mc85, x_mc86, x_mc87, x_mc88, x_mc89, x_mc90, x_mc91, x_mc92, x_mc93, x_mc94, x_mc95, x_mc96, x_mc97, x_mc98, x_mc99, x_mc100, x_mc101, x_mc102, x_mc103, x_mc104, x_mc105, x_mc106, x_mc107, x_mc108, x_mc109, x_mc110, x_mc111, x_mc112, x_mc113, x_mc114, x_mc115]
theorem x_m_len : xMs.length = x_mP.length := by decide +kernel
/-- what holds of each method -/
def xOk (y : xMt) : Prop := Jvm.Cond.code (xN y) (xC y) (xm y) (xR y) ∈ xTB ∧ (xN y).cls = xCn (xo y) ∧ xm y ≤ 40 ∧ plainName (xN y).cls = true ∧ ((xN y).cls ≠ "java/lang/invoke/MethodHandle" ∧ (xN y).cls ≠ "java/lang/invoke/VarHandle") ∧ (parseMethodDescriptor (xN y).desc).map (fun d => d.parameters.length) = some (xnp y) ∧ Jvm.Cond.initialized (xN y).cls ∈ xTB ∧ y ∈ xMs
theorem x_ini {c : Nat} (h : c < 9) : Jvm.Cond.initialized (xCn c) ∈ xTB := by
  match c, h with
  | 0, _ => exact x_kd0.2.2.2.2.2.2.2
  | 1, _ => exact x_kd1.2.2.2.2.2.2.2
  | 2, _ => exact x_kd2.2.2.2.2.2.2.2
  | 3, _ => exact x_kd3.2.2.2.2.2.2.2
  | 4, _ => exact x_kd4.2.2.2.2.2.2.2
  | 5, _ => exact x_kd5.2.2.2.2.2.2.2
  | 6, _ => exact x_kd6.2.2.2.2.2.2.2
  | 7, _ => exact x_kd7.2.2.2.2.2.2.2
  | 8, _ => exact x_kd8.2.2.2.2.2.2.2
theorem x_mget {i : Nat} {y : xMt} (h : xMs[i]? = some y) : ∃ p, x_mP[i]? = some p ∧ x_mC (y, p) = true := by
  have hl : i < xMs.length := (List.getElem?_eq_some_iff.mp h).1
  have hp : i < x_mP.length := by rw [← x_m_len]; exact hl
  refine ⟨x_mP[i], List.getElem?_eq_getElem hp, ?_⟩
  refine List.all_eq_true.mp x_m_all _ (List.mem_of_getElem? (i := i) ?_)
  rw [List.getElem?_zip_eq_some]
  exact ⟨h, List.getElem?_eq_getElem hp⟩
theorem x_ok {i : Nat} {y : xMt} (h : xMs[i]? = some y) : xOk y := by
  obtain ⟨p, -, hc⟩ := x_mget h
  simp only [x_mC, Bool.and_eq_true, decide_eq_true_eq] at hc
  obtain ⟨⟨⟨⟨⟨⟨⟨⟨h1, h2⟩, h3⟩, h4⟩, h5⟩, h6⟩, h7⟩, h8⟩, h9⟩ := hc
  exact ⟨x_at_in h1 rfl, h4, h5, h6, h7, h8, by rw [h4]; exact x_ini h9, List.mem_of_getElem? h⟩
/-- calls: owner, entry, kind (0 static, 1 virtual, 2 a constructor, 3 Object, 4 a nest mate), method, place -/
def x_caT : List (Nat × Nat × Nat × Nat × Nat) := [(0, 1, 3, 0, 60), (0, 9, 4, 63, 65), (0, 53, 4, 42, 88), (0, 69, 1, 65, 232), (0, 77, 2, 53, 246), (0, 80, 1, 54, 258), (0, 84, 1, 64, 371), (0, 90, 1, 20, 383), (0, 98, 0, 27, 410), (0, 102, 1, 21, 422), (0, 109, 0, 28, 428), (0, 113, 1, 44, 432), (0, 120, 1, 43, 438), (0, 131, 0, 32, 457), (0, 136, 0, 31, 462), (0, 139, 2, 68, 471), (0, 142, 1, 25, 488), (0, 146, 2, 46, 501), (0, 149, 1, 22, 492), (0, 157, 0, 30, 548), (0, 164, 1, 69, 552), (0, 171, 1, 39, 556), (0, 175, 1, 33, 560), (0, 179, 1, 47, 583), (0, 182, 1, 48, 587), (0, 202, 0, 29, 465), (0, 218, 1, 23, 629), (0, 222, 0, 26, 497), (0, 226, 1, 24, 633), (0, 230, 1, 70, 644), (0, 233, 1, 49, 655), (0, 236, 1, 66, 667), (0, 239, 1, 19, 675), (0, 252, 1, 67, 414), (0, 270, 0, 36, 564), (0, 273, 1, 34, 567), (0, 276, 1, 35, 571), (0, 286, 1, 52, 575), (0, 289, 1, 45, 579), (1, 3, 3, 0, 267), (1, 19, 4, 63, 271), (1, 28, 1, 40, 358), (1, 32, 1, 65, 362), (1, 43, 1, 41, 363), (1, 52, 1, 66, 367), (2, 3, 3, 0, 91), (3, 3, 3, 0, 504), (3, 38, 1, 70, 659), (4, 3, 3, 0, 310), (5, 3, 3, 0, 249), (5, 21, 4, 37, 264), (5, 22, 1, 55, 285), (5, 26, 1, 38, 354), (5, 35, 1, 60, 297), (5, 39, 1, 56, 289), (5, 48, 2, 50, 307), (5, 51, 1, 57, 293), (5, 54, 1, 58, 337), (5, 58, 0, 61, 341), (5, 62, 0, 62, 344), (5, 65, 1, 59, 347), (5, 68, 2, 51, 351), (5, 71, 1, 67, 301), (6, 3, 3, 0, 68), (7, 1, 3, 0, 474), (8, 1, 3, 0, 685), (8, 112, 0, 74, 806), (8, 116, 1, 73, 809), (8, 120, 0, 80, 821), (8, 124, 0, 79, 824), (8, 127, 1, 82, 835), (8, 131, 1, 83, 831), (8, 138, 1, 81, 817), (8, 142, 1, 84, 827), (8, 146, 1, 86, 843), (8, 152, 1, 88, 855), (8, 155, 1, 90, 863), (8, 161, 1, 91, 859), (8, 165, 1, 89, 867), (8, 168, 1, 92, 851), (8, 173, 0, 76, 885), (8, 176, 0, 77, 888), (8, 180, 1, 97, 892), (8, 184, 1, 75, 900), (8, 187, 1, 96, 916), (8, 190, 1, 100, 912), (8, 193, 1, 101, 908), (8, 199, 1, 107, 940), (8, 202, 1, 109, 948), (8, 206, 1, 111, 956), (8, 209, 1, 113, 964)]
def x_caC (q : Nat × Nat × Nat × Nat × Nat) : Bool := match xMs[q.2.2.2.1]?, x_mP[q.2.2.2.1]? with
  | some z, some p => if q.2.2.1 = 3 then x_at q.2.2.2.2 (.methodLink (xCn q.1) q.2.1 objectInit) else if q.2.2.1 = 4 then x_at q.2.2.2.2 (.methodLinkNest (xCn q.1) q.2.1 (xN z) "LoanTerms") && decide ((xN z).name = "<init>" ∧ xR z = none ∧ p.2.1 = 0) else x_at q.2.2.2.2 (.methodLink (xCn q.1) q.2.1 (xN z)) && (if q.2.2.1 = 0 then decide (p.2.1 = 1) else if q.2.2.1 = 1 then decide (p.2.1 = 0 ∧ p.2.2.2.1 = 1) else decide (q.2.2.1 = 2 ∧ (xN z).name = "<init>" ∧ xR z = none ∧ p.2.1 = 0))
  | _, _ => false
theorem x_ca_all : x_caT.all x_caC = true := by decide +kernel
def xca (ow k : Nat) : Option (Nat × xMt) := (x_caT.find? fun q => q.1 == ow && q.2.1 == k).bind fun q => (xMs[q.2.2.2.1]?).map fun z => (q.2.2.1, z)
theorem x_ca_get {ow k kd : Nat} {z : xMt} (h : xca ow k = some (kd, z)) : ∃ i p pos, xMs[i]? = some z ∧ x_mP[i]? = some p ∧ x_mC (z, p) = true ∧ x_caC (ow, k, kd, i, pos) = true := by
  unfold xca at h
  obtain ⟨q, hq, h8⟩ := Option.bind_eq_some_iff.mp h
  obtain ⟨z1, hz, h9⟩ := Option.map_eq_some_iff.mp h8
  have h1 := List.all_eq_true.mp x_ca_all q (List.mem_of_find?_eq_some hq)
  have h2 := List.find?_some hq
  simp only [Bool.and_eq_true, beq_iff_eq] at h2
  obtain ⟨p, hp, hm⟩ := x_mget hz
  obtain ⟨q1, q2, q3, q4, q5⟩ := q
  have e1 : q1 = ow := h2.1
  have e2 : q2 = k := h2.2
  have e3 : q3 = kd ∧ z1 = z := by
    have h7 : (q3, z1) = (kd, z) := h9
    exact ⟨congrArg Prod.fst h7, congrArg Prod.snd h7⟩
  rw [← e1, ← e2, ← e3.1, ← e3.2]
  exact ⟨q4, p, q5, hz, hp, hm, h1⟩
theorem x_ca_ok {ow k kd : Nat} {z : xMt} (h : xca ow k = some (kd, z)) (h3 : kd ≠ 3) : xOk z ∧ (kd ≠ 4 → Jvm.Cond.methodLink (xCn ow) k (xN z) ∈ xTB) ∧ (kd = 0 → Jvm.Cond.static (xN z) ∈ xTB) ∧ (kd = 1 → Jvm.Cond.instanceMethod (xN z) ∈ xTB ∧ Jvm.Cond.selects (xN z).cls (xN z) (xN z) ∈ xTB) ∧ (kd = 2 ∨ kd = 4 → (xN z).name = "<init>" ∧ Jvm.Cond.instanceMethod (xN z) ∈ xTB ∧ xR z = none) ∧ (kd = 4 → Jvm.Cond.methodLinkNest (xCn ow) k (xN z) "LoanTerms" ∈ xTB2) := by
  obtain ⟨i, p, pos, hz, hp, hm, hc⟩ := x_ca_get h
  have hok := x_ok hz
  simp only [x_mC, Bool.and_eq_true] at hm
  obtain ⟨⟨⟨⟨⟨⟨⟨⟨-, m2⟩, m3⟩, -⟩, -⟩, -⟩, -⟩, -⟩, -⟩ := hm
  simp only [x_caC, hz, hp, if_neg h3] at hc
  refine ⟨hok, fun h4 => ?_, fun h0 => ?_, fun h1 => ?_, fun h2 => ?_, fun h4 => ?_⟩
  · rw [if_neg h4, Bool.and_eq_true] at hc
    exact x_at_in hc.1 rfl
  · subst h0
    simp only [if_neg (show ¬ (0 : Nat) = 4 by decide), if_pos, Bool.and_eq_true, decide_eq_true_eq] at hc
    rw [if_pos hc.2] at m2
    exact x_at_in m2 rfl
  · subst h1
    simp only [if_neg (show ¬ (1 : Nat) = 4 by decide), if_neg (show ¬ (1 : Nat) = 0 by decide), if_pos, Bool.and_eq_true, decide_eq_true_eq] at hc
    rw [if_neg (by rw [hc.2.1]; decide)] at m2
    rw [if_pos hc.2.2] at m3
    exact ⟨x_at_in m2 rfl, x_at_in m3 rfl⟩
  · rcases h2 with rfl | rfl
    · simp only [if_neg (show ¬ (2 : Nat) = 4 by decide), if_neg (show ¬ (2 : Nat) = 0 by decide), if_neg (show ¬ (2 : Nat) = 1 by decide), Bool.and_eq_true, decide_eq_true_eq] at hc
      rw [if_neg (by rw [hc.2.2.2.2]; decide)] at m2
      exact ⟨hc.2.2.1, x_at_in m2 rfl, hc.2.2.2.1⟩
    · simp only [if_pos, Bool.and_eq_true, decide_eq_true_eq] at hc
      rw [if_neg (by rw [hc.2.2.2]; decide)] at m2
      exact ⟨hc.2.1, x_at_in m2 rfl, hc.2.2.1⟩
  · subst h4
    simp only [if_pos, Bool.and_eq_true] at hc
    exact x_at_in2 hc.1 rfl
theorem x_ca_obj {ow k : Nat} {z : xMt} (h : xca ow k = some (3, z)) : Jvm.Cond.methodLink (xCn ow) k objectInit ∈ xTB ∧ Jvm.Cond.instanceMethod objectInit ∈ xTB ∧ Jvm.Cond.code objectInit ⟨#[0xb1]⟩ 1 none ∈ xTB := by
  obtain ⟨i, p, pos, hz, hp, hm, hc⟩ := x_ca_get h
  simp only [x_caC, hz, hp, if_pos] at hc
  exact ⟨x_at_in hc rfl, x_at_in (i := 61) (by decide +kernel) rfl, x_at_in (i := 62) (by decide +kernel) rfl⟩
def xStr : List (Nat × String × Nat) := [(59, "the pad is full", 189), (66, "no sign", 225), (73, "there are eight contracts", 243), (107, "the input has 60 rows", 427), (118, "hour or value", 437), (123, "hours", 449), (134, "there are 20 loans", 461), (187, "k is below 0", 598), (193, "no such place", 606), (205, "days", 469), (216, "there are 30 requests", 621), (242, "nothing that is counted", 679), (244, "no such contract", 396), (246, "no such input", 426), (248, "no such loan", 496), (250, "no such sign", 413), (257, "no hour", 551), (259, "no such thing", 460)]
def xnames : List String := ["java/lang/RuntimeException", "java/lang/Exception"]
/-- what is thrown: its name, entries of its constructor and of its kind, places -/
def x_thT : List (String × Nat × Nat × Nat × Nat) := [("java/lang/IllegalArgumentException", 68, 64, 216, 48), ("java/lang/IllegalStateException", 61, 57, 148, 47), ("java/lang/IndexOutOfBoundsException", 189, 185, 387, 52)]
def x_thW (w : Jvm.Cond) : Bool := (goodWord w && decide (w ∈ lw_tbl)) || (xk w && decide (w ∈ lw_tbl))
def x_thC (q : String × Nat × Nat × Nat × Nat) : Bool := Bundle.fit q.1 && x_at q.2.2.2.1 (.classLink "LoanTerms" q.2.2.1 q.1) && x_at q.2.2.2.2 (.initialized q.1) && (vx_atS "LoanTerms" q.2.1 q.1 xnames).all x_thW && (Jvm.Cond.classLink "LoanTerms" q.2.2.1 q.1 :: Jvm.Cond.initialized q.1 :: vx_atS "LoanTerms" q.2.1 q.1 xnames).all vx_ot
theorem x_th0 : (x_thT[0]?).map x_thC = some true := by decide +kernel
theorem x_th1 : (x_thT[1]?).map x_thC = some true := by decide +kernel
theorem x_th2 : (x_thT[2]?).map x_thC = some true := by decide +kernel
theorem x_th_all : ∀ q ∈ x_thT, x_thC q = true := by
  intro q hq
  obtain ⟨i, hi⟩ := List.getElem?_of_mem hq
  match i, hi with
  | 0, hi => have h := x_th0; rw [hi] at h; exact Option.some.inj h
  | 1, hi => have h := x_th1; rw [hi] at h; exact Option.some.inj h
  | 2, hi => have h := x_th2; rw [hi] at h; exact Option.some.inj h
  | i + 3, hi => simp [x_thT] at hi
/-- a place of a throw: its five instructions -/
def x_tsC (y : xMt) (q : xTs) : Bool := decide ((xN y).cls = "LoanTerms") && decide (decode (xC y) q.1 = .ok (.new q.2.2.1, 3)) && decide (decode (xC y) (q.1 + 3) = .ok (.dup, 1)) && (if q.2.2.2.2.2.2 = true then decide (decode (xC y) (q.1 + 4) = .ok (.ldc_w q.2.2.2.1, 3)) && decide (decode (xC y) (q.1 + 7) = .ok (.invokespecial q.2.2.2.2.1, 3)) && decide (decode (xC y) (q.1 + 10) = .ok (.athrow, 1)) else decide (decode (xC y) (q.1 + 4) = .ok (.ldc q.2.2.2.1, 2)) && decide (decode (xC y) (q.1 + 6) = .ok (.invokespecial q.2.2.2.2.1, 3)) && decide (decode (xC y) (q.1 + 9) = .ok (.athrow, 1))) && (x_thT.any fun t => decide (t.1 = q.2.1 ∧ t.2.1 = q.2.2.2.2.1 ∧ t.2.2.1 = q.2.2.1)) && (xStr.any fun t => decide (t.1 = q.2.2.2.1 ∧ t.2.1 = q.2.2.2.2.2.1))
theorem x_ts_all : xMs.all (fun y => (xtl y).all (x_tsC y)) = true := by decide +kernel
end
section
/-! A small reader of bytecode over a picture of the heap: cells by address (M), the next address, the slots made so far. -/
abbrev xE : Type := (Nat × vp_A) ⊕ (Nat × List Value)
abbrev xMm : Type := Nat → Option xE
abbrev xS : Type := xMm × Nat × Nat
abbrev xO : Type := (Option Value) ⊕ String
abbrev xL : Type := List (Option Value)
abbrev xZ : Type := Option (xO × xS)
abbrev xRun : Type := Nat → xMt → Nat → xL → List Value → xS → xZ
def xset (M : xMm) (a : Nat) (e : xE) : xMm := fun q => if q = a then some e else M q
theorem xset_self (M : xMm) (a : Nat) (e : xE) : xset M a e a = some e := if_pos rfl
theorem xset_ne (M : xMm) {a q : Nat} (e : xE) (h : q ≠ a) : xset M a e q = M q := if_neg h
/-- the length that the reader found -/
def xl (len k : Nat) (r : xZ) : xZ := if len = k then r else none
theorem xl_some {len k : Nat} {r : xZ} {z : xO × xS} (h : xl len k r = some z) : len = k ∧ r = some z := by
  unfold xl at h
  split at h
  · exact ⟨by assumption, h⟩
  · cases h
def xjmp (pc : Nat) (off : Int) (k : Nat → xZ) : xZ := if 0 ≤ (pc : Int) + off then k ((pc : Int) + off).toNat else none
theorem xjmp_some {pc : Nat} {off : Int} {k : Nat → xZ} {z : xO × xS} (h : xjmp pc off k = some z) : ∃ t : Nat, (pc : Int) + off = (t : Int) ∧ k t = some z := by
  unfold xjmp at h
  split at h
  · rename_i h0
    exact ⟨((pc : Int) + off).toNat, (Int.toNat_of_nonneg h0).symm, h⟩
  · cases h
theorem xjmp_to {pc : Nat} {off : Int} {k : Nat → xZ} {t : Nat} (h : (pc : Int) + off = (t : Int)) : xjmp pc off k = k t := by
  unfold xjmp
  rw [h, if_pos (Int.natCast_nonneg t), Int.toNat_natCast]
def xif (c : Jvm.ClassFile.Cond) (x y : Int32) (A B : xZ) : xZ := match c with
  | .eq => if x = y then A else B
  | .ne => if x = y then B else A
  | .lt => if x < y then A else B
  | .ge => if y ≤ x then A else B
  | .gt => if y < x then A else B
  | .le => if x ≤ y then A else B
def xb2 (st : List Value) (k : Int32 → Int32 → List Value → xZ) : xZ := match st with
  | .int b :: .int a :: r => k a b r
  | _ => none
theorem xb2_some {st : List Value} {k : Int32 → Int32 → List Value → xZ} {z : xO × xS} (h : xb2 st k = some z) : ∃ a b r, st = .int b :: .int a :: r ∧ k a b r = some z := by
  unfold xb2 at h
  split at h
  · exact ⟨_, _, _, rfl, h⟩
  · cases h
def xb1 (st : List Value) (k : Int32 → List Value → xZ) : xZ := match st with
  | .int a :: r => k a r
  | _ => none
theorem xb1_some {st : List Value} {k : Int32 → List Value → xZ} {z : xO × xS} (h : xb1 st k = some z) : ∃ a r, st = .int a :: r ∧ k a r = some z := by
  unfold xb1 at h
  split at h
  · exact ⟨_, _, rfl, h⟩
  · cases h
/-- a reference on top: null or not -/
def xbq (st : List Value) (kn : List Value → xZ) (k : Nat → List Value → xZ) : xZ := match st with
  | .null :: r => kn r
  | .ref a :: r => k a r
  | _ => none
theorem xbq_some {st : List Value} {kn : List Value → xZ} {k : Nat → List Value → xZ} {z : xO × xS} (h : xbq st kn k = some z) : (∃ r, st = .null :: r ∧ kn r = some z) ∨ ∃ a r, st = .ref a :: r ∧ k a r = some z := by
  unfold xbq at h
  split at h
  · exact Or.inl ⟨_, rfl, h⟩
  · exact Or.inr ⟨_, _, rfl, h⟩
  · cases h
def xbr (st : List Value) (k : Nat → List Value → xZ) : xZ := match st with
  | .ref a :: r => k a r
  | _ => none
theorem xbr_some {st : List Value} {k : Nat → List Value → xZ} {z : xO × xS} (h : xbr st k = some z) : ∃ a r, st = .ref a :: r ∧ k a r = some z := by
  unfold xbr at h
  split at h
  · exact ⟨_, _, rfl, h⟩
  · cases h
def xbv (st : List Value) (k : Value → List Value → xZ) : xZ := match st with
  | v :: r => k v r
  | _ => none
theorem xbv_some {st : List Value} {k : Value → List Value → xZ} {z : xO × xS} (h : xbv st k = some z) : ∃ v r, st = v :: r ∧ k v r = some z := by
  unfold xbv at h
  split at h
  · exact ⟨_, _, rfl, h⟩
  · cases h
/-- an int of the locals -/
def xli (lo : xL) (i : Nat) (k : Int32 → xZ) : xZ := match lo[i]? with
  | some (some (.int x)) => k x
  | _ => none
theorem xli_some {lo : xL} {i : Nat} {k : Int32 → xZ} {z : xO × xS} (h : xli lo i k = some z) : ∃ x, lo[i]? = some (some (.int x)) ∧ k x = some z := by
  unfold xli at h
  split at h
  · exact ⟨_, by assumption, h⟩
  · cases h
/-- a reference of the locals -/
def xlq (lo : xL) (i : Nat) (k : Value → xZ) : xZ := match lo[i]? with
  | some (some .null) => k .null
  | some (some (.ref a)) => k (.ref a)
  | _ => none
theorem xlq_some {lo : xL} {i : Nat} {k : Value → xZ} {z : xO × xS} (h : xlq lo i k = some z) : (lo[i]? = some (some .null) ∧ k .null = some z) ∨ ∃ a, lo[i]? = some (some (.ref a)) ∧ k (.ref a) = some z := by
  unfold xlq at h
  split at h
  · exact Or.inl ⟨by assumption, h⟩
  · exact Or.inr ⟨_, by assumption, h⟩
  · cases h
def xp (c : Prop) [Decidable c] (r : xZ) : xZ := if c then r else none
theorem xp_some {c : Prop} {r : xZ} {z : xO × xS} {i : Decidable c} (h : @xp c i r = some z) : c ∧ r = some z := by
  unfold xp at h
  split at h
  · exact ⟨by assumption, h⟩
  · cases h
def xq {α : Type} (o : Option α) (k : α → xZ) : xZ := match o with
  | some a => k a
  | none => none
theorem xq_some {α : Type} {o : Option α} {k : α → xZ} {z : xO × xS} (h : xq o k = some z) : ∃ a, o = some a ∧ k a = some z := by
  unfold xq at h
  split at h
  · exact ⟨_, rfl, h⟩
  · cases h
/-- an object of the kind ci -/
def xobj (M : xMm) (a ci : Nat) (k : List Value → xZ) : xZ := match M a with
  | some (.inr (cj, fs)) => if cj = ci then k fs else none
  | _ => none
theorem xobj_some {M : xMm} {a ci : Nat} {k : List Value → xZ} {z : xO × xS} (h : xobj M a ci k = some z) : ∃ fs, M a = some (.inr (ci, fs)) ∧ k fs = some z := by
  unfold xobj at h
  split at h
  · rename_i e0
    split at h
    · rename_i e1
      subst e1
      exact ⟨_, e0, h⟩
    · cases h
  · cases h
theorem xobj_at {M : xMm} {a ci : Nat} {k : List Value → xZ} {fs : List Value} (h : M a = some (.inr (ci, fs))) : xobj M a ci k = k fs := by
  unfold xobj
  rw [h]
  exact if_pos rfl
/-- an array of ints (of the kind t), of references -/
def xari (M : xMm) (a : Nat) (k : Nat → Nat → (Nat → Int32) → xZ) : xZ := match M a with
  | some (.inl (t, n, .inl f)) => k t n f
  | _ => none
theorem xari_some {M : xMm} {a : Nat} {k : Nat → Nat → (Nat → Int32) → xZ} {z : xO × xS} (h : xari M a k = some z) : ∃ t n f, M a = some (.inl (t, n, .inl f)) ∧ k t n f = some z := by
  unfold xari at h
  split at h
  · exact ⟨_, _, _, by assumption, h⟩
  · cases h
theorem xari_at {M : xMm} {a t n : Nat} {f : Nat → Int32} {k : Nat → Nat → (Nat → Int32) → xZ} (h : M a = some (.inl (t, n, .inl f))) : xari M a k = k t n f := by
  unfold xari
  rw [h]
def xarq (M : xMm) (a : Nat) (k : Nat → Nat → (Nat → Option Nat) → xZ) : xZ := match M a with
  | some (.inl (t, n, .inr (.inr (.inr (.inr f))))) => k t n f
  | _ => none
theorem xarq_some {M : xMm} {a : Nat} {k : Nat → Nat → (Nat → Option Nat) → xZ} {z : xO × xS} (h : xarq M a k = some z) : ∃ t n f, M a = some (.inl (t, n, .inr (.inr (.inr (.inr f))))) ∧ k t n f = some z := by
  unfold xarq at h
  split at h
  · exact ⟨_, _, _, by assumption, h⟩
  · cases h
theorem xarq_at {M : xMm} {a t n : Nat} {f : Nat → Option Nat} {k : Nat → Nat → (Nat → Option Nat) → xZ} (h : M a = some (.inl (t, n, .inr (.inr (.inr (.inr f)))))) : xarq M a k = k t n f := by
  unfold xarq
  rw [h]
def xarr (M : xMm) (a : Nat) (k : Nat → vp_A → xZ) : xZ := match M a with
  | some (.inl (t, x)) => k t x
  | _ => none
theorem xarr_some {M : xMm} {a : Nat} {k : Nat → vp_A → xZ} {z : xO × xS} (h : xarr M a k = some z) : ∃ t x, M a = some (.inl (t, x)) ∧ k t x = some z := by
  unfold xarr at h
  split at h
  · exact ⟨_, _, by assumption, h⟩
  · cases h
theorem xarr_at {M : xMm} {a t : Nat} {x : vp_A} {k : Nat → vp_A → xZ} (h : M a = some (.inl (t, x))) : xarr M a k = k t x := by
  unfold xarr
  rw [h]
abbrev xin (i : Int32) (n : Nat) : Prop := ¬ (i < 0 ∨ n ≤ i.toNatClampNeg)
/-- the words of a list of values -/
def xwt (st : List Value) : Nat := (st.map fun v => v.category).sum
/-- the locals of a method that begins -/
def xlo (as : List Value) (n : Nat) : xL := as.map some ++ List.replicate (n - as.length) none
/-- a call: the callee by the same reader, one level deeper -/
def xcall (rec : xRun) (d : Nat) (y : xMt) (pc : Nat) (lo : xL) (σ : xS) (z : xMt) (as rest : List Value) : xZ := match d with
  | 0 => none
  | d1 + 1 => xp ((as.all fun v => v.category == 1) = true ∧ as.length ≤ xm z ∧ xwt rest ≤ 8) (xq (rec d1 z 0 (xlo as (xm z)) [] σ) fun w => match w.1 with
      | .inl v => rec (d1 + 1) y (pc + 3) lo (v.toList ++ rest) w.2
      | .inr E => some (.inr E, w.2))
/-- a constructor's call -/
def xcallI (rec : xRun) (d : Nat) (y : xMt) (pc : Nat) (lo : xL) (σ : xS) (z : xMt) (as rest : List Value) : xZ := match d with
  | 0 => none
  | d1 + 1 => xp ((as.all fun v => v.category == 1) = true ∧ as.length ≤ xm z ∧ xwt rest ≤ 8) (xq (rec d1 z 0 (xlo as (xm z)) [] σ) fun w => match w.1 with
      | .inl none => rec (d1 + 1) y (pc + 3) lo rest w.2
      | _ => none)
def xrq (r : Option FieldType) : Bool := match r with
  | some (.object _) => true
  | some (.array _) => true
  | _ => false
/-- one instruction -/
def xstep (rec : xRun) (d : Nat) (y : xMt) (pc : Nat) (lo : xL) (st : List Value) (σ : xS) (len : Nat) (i : Instr) : xZ := match i with
  | .aconst_null => xl len 1 (rec d y (pc + 1) lo (.null :: st) σ)
  | .iconst n => xl len 1 (rec d y (pc + 1) lo (.int (Int32.ofInt n) :: st) σ)
  | .bipush n => xl len 2 (rec d y (pc + 2) lo (.int (Int8.ofInt n).toInt32 :: st) σ)
  | .sipush n => xl len 3 (rec d y (pc + 3) lo (.int (Int16.ofInt n).toInt32 :: st) σ)
  | .ldc k => xl len 2 (xq (xldc (xo y) k) fun v => rec d y (pc + 2) lo (.int v :: st) σ)
  | .ldc_w k => xl len 3 (xq (xldc (xo y) k) fun v => rec d y (pc + 3) lo (.int v :: st) σ)
  | .iload k => xl len 2 (xli lo k fun x => rec d y (pc + 2) lo (.int x :: st) σ)
  | .iload_n k => xl len 1 (xli lo k.val fun x => rec d y (pc + 1) lo (.int x :: st) σ)
  | .aload k => xl len 2 (xlq lo k fun v => rec d y (pc + 2) lo (v :: st) σ)
  | .aload_n k => xl len 1 (xlq lo k.val fun v => rec d y (pc + 1) lo (v :: st) σ)
  | .istore k => xl len 2 (xp (k < lo.length) (xb1 st fun x r => rec d y (pc + 2) (lo.set k (some (.int x))) r σ))
  | .istore_n k => xl len 1 (xp (k.val < lo.length) (xb1 st fun x r => rec d y (pc + 1) (lo.set k.val (some (.int x))) r σ))
  | .astore k => xl len 2 (xp (k < lo.length) (xbq st (fun r => rec d y (pc + 2) (lo.set k (some .null)) r σ) fun a r => rec d y (pc + 2) (lo.set k (some (.ref a))) r σ))
  | .astore_n k => xl len 1 (xp (k.val < lo.length) (xbq st (fun r => rec d y (pc + 1) (lo.set k.val (some .null)) r σ) fun a r => rec d y (pc + 1) (lo.set k.val (some (.ref a))) r σ))
  | .iinc k n => xl len 3 (xli lo k fun x => rec d y (pc + 3) (lo.set k (some (.int (x + Int32.ofInt n)))) st σ)
  | .iadd => xl len 1 (xb2 st fun a b r => rec d y (pc + 1) lo (.int (a + b) :: r) σ)
  | .isub => xl len 1 (xb2 st fun a b r => rec d y (pc + 1) lo (.int (a - b) :: r) σ)
  | .imul => xl len 1 (xb2 st fun a b r => rec d y (pc + 1) lo (.int (a * b) :: r) σ)
  | .idiv => xl len 1 (xb2 st fun a b r => xp (¬ b = 0) (rec d y (pc + 1) lo (.int (a / b) :: r) σ))
  | .irem => xl len 1 (xb2 st fun a b r => xp (¬ b = 0) (rec d y (pc + 1) lo (.int (a - a / b * b) :: r) σ))
  | .iand => xl len 1 (xb2 st fun a b r => rec d y (pc + 1) lo (.int (a &&& b) :: r) σ)
  | .dup => xl len 1 (xbv st fun v r => xp (v.category = 1) (rec d y (pc + 1) lo (v :: v :: r) σ))
  | .dup2 => xl len 1 (xbv st fun v r => xbv r fun w q => xp (v.category = 1 ∧ w.category = 1) (rec d y (pc + 1) lo (v :: w :: v :: w :: q) σ))
  | .goto off => xl len 3 (xjmp pc off fun t => rec d y t lo st σ)
  | .if_icmp c off => xl len 3 (xjmp pc off fun t => xb2 st fun a b r => xif c a b (rec d y t lo r σ) (rec d y (pc + 3) lo r σ))
  | .ifCond c off => xl len 3 (xjmp pc off fun t => xb1 st fun a r => xif c a 0 (rec d y t lo r σ) (rec d y (pc + 3) lo r σ))
  | .ifnull off => xl len 3 (xbq st (fun r => xjmp pc off fun t => rec d y t lo r σ) fun _ r => rec d y (pc + 3) lo r σ)
  | .ifnonnull off => xl len 3 (xbq st (fun r => rec d y (pc + 3) lo r σ) fun _ r => xjmp pc off fun t => rec d y t lo r σ)
  | .tableswitch df l h os => xb1 st fun a r => if a.toInt < l ∨ h < a.toInt then xjmp pc df fun t => rec d y t lo r σ else xq os[(a.toInt - l).toNat]? fun off => xjmp pc off fun t => rec d y t lo r σ
  | .lookupswitch df ps => xb1 st fun a r => xp ((ps.toList.zip (ps.toList.drop 1)).all (fun (a, next) => a.1 < next.1) = true) (xjmp pc (Op.lookupswitch.offset ps.toList df a.toInt) fun t => rec d y t lo r σ)
  | .getfield k => xl len 3 (xq (xfl (xo y) k) fun f => xbr st fun a r => xobj σ.1 a f.1 fun fs => xq fs[f.2]? fun v => rec d y (pc + 3) lo (v :: r) σ)
  | .putfield k => xl len 3 (xq (xfl (xo y) k) fun f => xbv st fun v q => xbr q fun a r => xobj σ.1 a f.1 fun fs => xp (f.2 < fs.length ∧ xfitb f.1 f.2 v = true ∧ (xfin f.1 f.2 = false ∨ ((xN y).name = "<init>" ∧ xo y = f.1))) (rec d y (pc + 3) lo r (xset σ.1 a (.inr (f.1, fs.set f.2 v)), σ.2)))
  | .arraylength => xl len 1 (xbr st fun a r => xarr σ.1 a fun t x => xp (t < xty.length) (rec d y (pc + 1) lo (.int (Int32.ofNat x.1) :: r) σ))
  | .iaload => xl len 1 (xb1 st fun i q => xbr q fun a r => xari σ.1 a fun t n f => xp (xty[t]? = some .int ∧ xin i n) (rec d y (pc + 1) lo (.int (f i.toNatClampNeg) :: r) σ))
  | .baload => xl len 1 (xb1 st fun i q => xbr q fun a r => xari σ.1 a fun t n f => xp (xty[t]? = some .boolean ∧ xin i n) (rec d y (pc + 1) lo (.int (f i.toNatClampNeg) :: r) σ))
  | .aaload => xl len 1 (xb1 st fun i q => xbr q fun a r => xarq σ.1 a fun t n f => xp ((xtyo t).isSome = true ∧ xin i n) (rec d y (pc + 1) lo (va_rf (f i.toNatClampNeg) :: r) σ))
  | .iastore => xl len 1 (xb2 st fun i x q => xbr q fun a r => xari σ.1 a fun t n f => xp (xty[t]? = some .int ∧ xin i n) (rec d y (pc + 1) lo r (xset σ.1 a (.inl (t, n, .inl (upd f i.toNatClampNeg x))), σ.2)))
  | .bastore => xl len 1 (xb2 st fun i x q => xbr q fun a r => xari σ.1 a fun t n f => xp (xty[t]? = some .boolean ∧ xin i n) (rec d y (pc + 1) lo r (xset σ.1 a (.inl (t, n, .inl (upd f i.toNatClampNeg (x &&& 1)))), σ.2)))
  | .aastore => xl len 1 (xbq st
      (fun q => xb1 q fun i q2 => xbr q2 fun a r => xarq σ.1 a fun t n f => xp ((xtyo t).isSome = true ∧ xin i n) (rec d y (pc + 1) lo r (xset σ.1 a (.inl (t, n, .inr (.inr (.inr (.inr (va_up f i.toNatClampNeg none)))))), σ.2)))
      fun v q => xb1 q fun i q2 => xbr q2 fun a r => xarq σ.1 a fun t n f => xq (xtyo t) fun cv => xobj σ.1 v cv fun _ => xp (xin i n) (rec d y (pc + 1) lo r (xset σ.1 a (.inl (t, n, .inr (.inr (.inr (.inr (va_up f i.toNatClampNeg (some v))))))), σ.2)))
  | .newarray .int => xl len 2 (xb1 st fun n r => xp (¬ n < 0 ∧ n.toNatClampNeg ≤ 100000) (rec d y (pc + 2) lo (.ref σ.2.1 :: r) (xset σ.1 σ.2.1 (.inl (0, n.toNatClampNeg, .inl fun _ => 0)), σ.2.1 + 1, σ.2.2 + n.toNatClampNeg)))
  | .newarray .boolean => xl len 2 (xb1 st fun n r => xp (¬ n < 0 ∧ n.toNatClampNeg ≤ 100000) (rec d y (pc + 2) lo (.ref σ.2.1 :: r) (xset σ.1 σ.2.1 (.inl (1, n.toNatClampNeg, .inl fun _ => 0)), σ.2.1 + 1, σ.2.2 + n.toNatClampNeg)))
  | .anewarray k => xl len 3 (xq (xac (xo y) k) fun t => xb1 st fun n r => xp (¬ n < 0 ∧ n.toNatClampNeg ≤ 100000) (rec d y (pc + 3) lo (.ref σ.2.1 :: r) (xset σ.1 σ.2.1 (.inl (t, n.toNatClampNeg, .inr (.inr (.inr (.inr fun _ => none))))), σ.2.1 + 1, σ.2.2 + n.toNatClampNeg)))
  | .new k => xl len 3 (match xth y pc with
      | some q => xp (xwt st ≤ 8) (some (.inr q.2.1, (σ.1, σ.2.1 + 1, σ.2.2 + 6)))
      | none => xq (xnw (xo y) k) fun ci => rec d y (pc + 3) lo (.ref σ.2.1 :: st) (xset σ.1 σ.2.1 (.inr (ci, xdf ci)), σ.2.1 + 1, σ.2.2 + (xdf ci).length))
  | .ireturn => xl len 1 (match st with
      | [.int v] => (match xR y with
          | some .int => some (.inl (some (.int v)), σ)
          | some .boolean => xp (v = 0 ∨ v = 1) (some (.inl (some (.int v)), σ))
          | _ => none)
      | _ => none)
  | .areturn => xl len 1 (match st with
      | [.null] => xp (xrq (xR y) = true) (some (.inl (some .null), σ))
      | [.ref a] => xp (xrq (xR y) = true) (some (.inl (some (.ref a)), σ))
      | _ => none)
  | .return_ => xl len 1 (match st with
      | [] => xp (xR y = none) (some (.inl none, σ))
      | _ => none)
  | .invokestatic k => xl len 3 (xq (xca (xo y) k) fun q => xp (q.1 = 0 ∧ xnp q.2 ≤ st.length) (xcall rec d y pc lo σ q.2 (st.take (xnp q.2)).reverse (st.drop (xnp q.2))))
  | .invokevirtual k => xl len 3 (xq (xca (xo y) k) fun q => xp (q.1 = 1 ∧ xnp q.2 ≤ st.length) (xbr (st.drop (xnp q.2)) fun b r => xobj σ.1 b (xo q.2) fun _ => xcall rec d y pc lo σ q.2 (.ref b :: (st.take (xnp q.2)).reverse) r))
  | .invokespecial k => xl len 3 (xq (xca (xo y) k) fun q => if q.1 = 3 then xbr st fun _ r => xp (xwt r ≤ 8) (rec d y (pc + 3) lo r σ) else xp ((q.1 = 2 ∨ q.1 = 4) ∧ xnp q.2 ≤ st.length) (xbr (st.drop (xnp q.2)) fun b r => xcallI rec d y pc lo σ q.2 (.ref b :: (st.take (xnp q.2)).reverse) r))
  | _ => none
def xrun : Nat → xRun
  | 0 => fun _ _ _ _ _ _ => none
  | n + 1 => fun d y pc lo st σ => match decode (xC y) pc with
    | .ok (i, len) => xstep (xrun n) d y pc lo st σ len i
    | .error _ => none
end
section
/-! The picture and the machine's heap. D: the numbers of the kinds of objects and their slots; dT: the numbers of the kinds of arrays. -/
def xcv (dT : Nat → ClassId) (e : xE) : va_E := match e with
  | .inl (t, x) => .inl (dT t, x)
  | .inr o => .inr o
def xHp (D : va_G) (dT : Nat → ClassId) (M : xMm) (H : Heap) : Prop := ∀ (a : Nat) (e : xE), M a = some e → va_at D vwCl (a, xcv dT e) H
/-- the cells that a method may change: the known ones, and those that it makes -/
def xA (σ : xS) : Nat → Prop := fun q => σ.1 q ≠ none ∨ σ.2.1 ≤ q
def xAt (D : va_G) (dT : Nat → ClassId) (s : State) (σ0 σ : xS) (H : Heap) (locs : List Loc) : Prop :=
  xHp D dT σ.1 H ∧ H.size = σ.2.1 ∧ va_S (xA σ0) s.heap H locs ∧ (∀ q : Nat, σ.1 q ≠ none → xA σ0 q) ∧ s.heap.size = σ0.2.1 ∧ σ0.2.1 ≤ σ.2.1 ∧ σ0.2.2 ≤ σ.2.2
theorem xHp.one {D : va_G} {dT : Nat → ClassId} {M : xMm} {H : Heap} (h : xHp D dT M H) {a : Nat} {e : xE} (ha : M a = some e) : va_P D vwCl [(a, xcv dT e)] H := by
  intro k q hk
  have hz : k < 1 := (List.getElem?_eq_some_iff.mp hk).1
  rw [show k = 0 by omega] at hk
  cases hk
  exact h a e ha
theorem xHp.lt {D : va_G} {dT : Nat → ClassId} {M : xMm} {H : Heap} (h : xHp D dT M H) {a : Nat} {e : xE} (ha : M a = some e) : a < H.size := (h a e ha).lt
theorem xHp.set {D : va_G} {dT : Nat → ClassId} {M : xMm} {H H1 : Heap} (h : xHp D dT M H) {a : Nat} {e : xE} (he : va_at D vwCl (a, xcv dT e) H1) (oq : ∀ q : Nat, q ≠ a → q < H.size → H1[q]? = H[q]?) : xHp D dT (xset M a e) H1 := by
  intro b e1 hb
  by_cases hq : b = a
  · subst hq
    rw [xset_self] at hb
    cases hb
    exact he
  · rw [xset_ne M e hq] at hb
    exact (h b e1 hb).kept (oq b hq (h.lt hb))
theorem xHp.kept {D : va_G} {dT : Nat → ClassId} {M : xMm} {H H1 : Heap} (h : xHp D dT M H) (oq : ∀ q : Nat, q < H.size → H1[q]? = H[q]?) : xHp D dT M H1 := fun a e ha => (h a e ha).kept (oq a (h.lt ha))
theorem xAt.put {D : va_G} {dT : Nat → ClassId} {s : State} {σ0 σ : xS} {H H1 : Heap} {locs : List Loc} (h : xAt D dT s σ0 σ H locs) {a k : Nat} {e0 e : xE} (ha : σ.1 a = some e0) (he : va_at D vwCl (a, xcv dT e) H1) (z : H1.size = H.size) (oq : ∀ q : Nat, q ≠ a → H1[q]? = H[q]?) :
    xAt D dT s σ0 (xset σ.1 a e, σ.2) H1 (locs ++ [⟨a, k⟩]) := by
  obtain ⟨h1, h2, h3, h4, h5, h6, h7⟩ := h
  refine ⟨h1.set he (fun q hq _ => oq q hq), z.trans h2, h3.put z oq (h4 a (by rw [ha]; exact fun c => by cases c)), fun q hq => ?_, h5, h6, h7⟩
  by_cases e1 : q = a
  · exact h4 q (by rw [e1, ha]; exact fun c => by cases c)
  · exact h4 q (by rw [show (xset σ.1 a e, σ.2).1 q = σ.1 q from xset_ne σ.1 e e1] at hq; exact hq)
theorem xAt.new {D : va_G} {dT : Nat → ClassId} {s : State} {σ0 σ : xS} {H H1 : Heap} {locs : List Loc} (h : xAt D dT s σ0 σ H locs) {n : Nat} {e : xE} (he : va_at D vwCl (H.size, xcv dT e) H1) (z : H1.size = H.size + 1) (oq : ∀ q : Nat, q < H.size → H1[q]? = H[q]?) :
    xAt D dT s σ0 (xset σ.1 σ.2.1 e, σ.2.1 + 1, σ.2.2 + n) H1 locs := by
  obtain ⟨h1, h2, h3, h4, h5, h6, h7⟩ := h
  have hle : s.heap.size ≤ H.size := h3.1
  refine ⟨h1.set (by rw [← h2]; exact he) (fun q _ hq => oq q hq), by rw [z, h2], ⟨by omega, fun q a1 a2 => ?_, h3.2.2⟩, fun q hq => ?_, h5, by show σ0.2.1 ≤ σ.2.1 + 1; omega, by show σ0.2.2 ≤ σ.2.2 + n; omega⟩
  · rw [oq q (by omega)]
    exact h3.2.1 q a1 a2
  · by_cases e1 : q = σ.2.1
    · exact Or.inr (by omega)
    · exact h4 q (by rw [show (xset σ.1 σ.2.1 e, σ.2.1 + 1, σ.2.2 + n).1 q = σ.1 q from xset_ne σ.1 e e1] at hq; exact hq)
/-! the locals -/
def xloL (lo : xL) : List (Nat × Value) := (List.range lo.length).filterMap fun i => match lo[i]? with
  | some (some v) => some (i, v)
  | _ => none
theorem xloL_in {lo : xL} {i : Nat} {v : Value} (h : lo[i]? = some (some v)) : (i, v) ∈ xloL lo := by
  refine List.mem_filterMap.mpr ⟨i, List.mem_range.mpr (List.getElem?_eq_some_iff.mp h).1, ?_⟩
  rw [h]
theorem xloL_of {lo : xL} {i : Nat} {v : Value} (h : (i, v) ∈ xloL lo) : lo[i]? = some (some v) := by
  obtain ⟨j, -, hj⟩ := List.mem_filterMap.mp h
  split at hj
  · rename_i w e0
    cases hj
    exact e0
  · cases hj
def xRl (lo : xL) (ls : Array Slot) (nL : Nat) : Prop := lo.length = nL ∧ ls.size = nL ∧ lv_wf ls ∧ ∀ (i : Nat) (v : Value), lo[i]? = some (some v) → ls[i]? = some (.val v) ∧ v.category = 1
theorem xRl.has {lo : xL} {ls : Array Slot} {nL : Nat} (h : xRl lo ls nL) : lv_has ls nL (xloL lo) := ⟨h.2.1, h.2.2.1, fun q hq => (h.2.2.2 q.1 q.2 (xloL_of hq)).1⟩
theorem xRl.get {lo : xL} {ls : Array Slot} {nL : Nat} (h : xRl lo ls nL) {i : Nat} {v : Value} (hi : lo[i]? = some (some v)) : ls[i]? = some (.val v) := (h.2.2.2 i v hi).1
theorem xRl.store {lo : xL} {ls ls' : Array Slot} {nL i : Nat} {v : Value} (h : xRl lo ls nL) (hi : i < nL) (hv : v.category = 1) (h' : lv_has ls' nL ((i, v) :: (xloL lo).filter (fun q => !(q.1 == i) && !(q.1 + 1 == i && q.2.category == 2)))) : xRl (lo.set i (some v)) ls' nL := by
  refine ⟨by rw [List.length_set]; exact h.1, h'.1, h'.2.1, fun j w hj => ?_⟩
  by_cases e1 : j = i
  · subst e1
    rw [List.getElem?_set_self (by rw [h.1]; exact hi)] at hj
    cases hj
    exact ⟨h'.2.2 (j, v) List.mem_cons_self, hv⟩
  · rw [List.getElem?_set_ne (Ne.symm e1)] at hj
    have hc := (h.2.2.2 j w hj).2
    refine ⟨h'.2.2 (j, w) (List.mem_cons_of_mem _ (List.mem_filter.mpr ⟨xloL_in hj, ?_⟩)), hc⟩
    simp [e1, hc]
theorem xRl.lt {lo : xL} {ls : Array Slot} {nL : Nat} (h : xRl lo ls nL) {i : Nat} (hi : i < lo.length) : i < nL := by rw [← h.1]; exact hi
theorem xlv_args : ∀ (vs : List Value) (i : Nat), (∀ v ∈ vs, v.category = 1) → ∀ (j : Nat) (v : Value), vs[j]? = some v → (i + j, v) ∈ lv_args i vs
  | [], _, _, j, v, h => by simp at h
  | w :: vs, i, hc, j, v, h => by
    have h1 : ¬ w.category = 2 := by rw [hc w List.mem_cons_self]; decide
    rw [show lv_args i (w :: vs) = (i, w) :: lv_args (if w.category = 2 then i + 2 else i + 1) vs from rfl, if_neg h1]
    cases j with
    | zero =>
      rw [List.getElem?_cons_zero] at h
      cases h
      exact List.mem_cons_self
    | succ j =>
      rw [List.getElem?_cons_succ] at h
      have := xlv_args vs (i + 1) (fun v hv => hc v (List.mem_cons_of_mem _ hv)) j v h
      rw [show i + (j + 1) = i + 1 + j by omega]
      exact List.mem_cons_of_mem _ this
theorem xlg_len : ∀ (vs : List Value), (∀ v ∈ vs, v.category = 1) → (lg_sl vs).length = vs.length
  | [], _ => rfl
  | w :: vs, hc => by
    have h1 : ¬ w.category = 2 := by rw [hc w List.mem_cons_self]; decide
    have ih := xlg_len vs (fun v hv => hc v (List.mem_cons_of_mem _ hv))
    simp only [lg_sl, List.flatMap_cons, if_neg h1, List.length_append, List.length_cons, List.length_nil] at ih ⊢
    omega
theorem xRl.entry {as : List Value} {n : Nat} (hc : ∀ v ∈ as, v.category = 1) (hn : as.length ≤ n) : xRl (xlo as n) ((lg_sl as ++ List.replicate (n - (lg_sl as).length) Slot.unset).toArray) n := by
  have hL := xlg_len as hc
  obtain ⟨h1, h2, h3⟩ := lv_entry as (n := n) (by omega)
  refine ⟨by simp [xlo]; omega, h1, h2, fun i v hi => ?_⟩
  by_cases hl : i < as.length
  · have e1 : (xlo as n)[i]? = some (some as[i]) := by
      unfold xlo
      rw [List.getElem?_append_left (by simp; exact hl)]
      simp [hl]
    rw [e1] at hi
    cases hi
    have := h3 _ (xlv_args as 0 hc i as[i] (List.getElem?_eq_getElem hl))
    rw [Nat.zero_add] at this
    exact ⟨this, hc _ (List.getElem_mem hl)⟩
  · exfalso
    unfold xlo at hi
    rw [List.getElem?_append_right (by simp; omega)] at hi
    have := List.mem_of_getElem? hi
    rw [List.mem_replicate] at this
    exact absurd this.2 (fun c => by cases c)
/-! what is carried beside the picture: two statics of Throwable, words that are no good ones, texts, arrays over kinds -/
def xTh (A : Nat → Prop) (U : State) : Prop :=
  vx_Zq Bundle.tN "UNASSIGNED_STACK" Bundle.steD A U U.heap ∧ vx_Zq Bundle.tN "SUPPRESSED_SENTINEL" Bundle.listD A U U.heap ∧ (∀ w ∈ xTB2, va_Nw w U) ∧ (∀ q ∈ xStr, ∃ sa, vk_R "LoanTerms" q.1 q.2.1 sa U) ∧ ∀ (t : Nat) (C : String), xty[t]? = some (.object C) → va_AO C U
theorem xk_on {w : Jvm.Cond} (h : xk w = true) : w.onTables = true := by
  cases w <;> first | rfl | exact absurd (show false = true from h) (by decide)
theorem xTh.same {A : Nat → Prop} {u U : State} (hv : U.vm = u.vm) (hh : U.heap = u.heap) (h : xTh A u) : xTh A U := by
  obtain ⟨h1, h2, h3, h4, h5⟩ := h
  have hal : u.vm.Alike U.vm := by rw [hv]; exact Vm.Alike.refl _
  refine ⟨by rw [hh]; exact vx_Zq.moved hal h1, by rw [hh]; exact vx_Zq.moved hal h2, fun w hw => va_Nw.same (xk_on (List.mem_filter.mp hw).2) hv.symm (h3 w hw), fun q hq => ?_, fun t C ht => va_AO.moved hal (h5 t C ht)⟩
  obtain ⟨sa, hs⟩ := h4 q hq
  exact ⟨sa, vk_R.same hv hs⟩
theorem xTh.next {A0 A : Nat → Prop} {s U : State} {H : Heap} {locs : List Loc} (h : xTh A0 s) (hS : va_S A0 s.heap H locs) (hAB : ∀ q, A q → A0 q) (hU : U.heap = H) (hW : s.WarmedH U.vm) : xTh A U := by
  obtain ⟨h1, h2, h3, h4, h5⟩ := h
  refine ⟨?_, ?_, fun w hw => ?_, fun q hq => ?_, fun t C ht => va_AO.moved hW.alike (h5 t C ht)⟩
  · rw [hU]
    exact vx_Zq.moved hW.alike ((h1.kept (fun a ha hn => hS.2.1 a ha hn)).narrow hAB)
  · rw [hU]
    exact vx_Zq.moved hW.alike ((h2.kept (fun a ha hn => hS.2.1 a ha hn)).narrow hAB)
  · have hk := (List.mem_filter.mp hw).2
    have h9 := h3 w hw
    cases w <;> first | exact va_Nw.warmM hW h9 | exact va_Nw.warmC hW h9 | exact va_Nw.warmD hW h9 | exact absurd (show false = true from hk) (by decide)
  · obtain ⟨sa, hs⟩ := h4 q hq
    exact ⟨sa, vk_R.warm hW hs⟩
end
section
/-! The reader's answer is the machine's. -/
def xQ (D : va_G) (dT : Nat → ClassId) (o : xO) (σf σ0 : xS) : Array Value → State → Outcome → State → Prop := fun _ st oc t => (∃ v : Option Value, o = .inl v ∧ oc = .returned v) ∧ xHp D dT σf.1 t.heap ∧ t.heap.size = σf.2.1 ∧ (∀ q : Nat, σf.1 q ≠ none → xA σ0 q) ∧ va_F (xA σ0) st t
def xX (D : va_G) (dT : Nat → ClassId) (o : xO) (σf σ0 : xS) : String → State → State → Prop := fun E st t => o = .inr E ∧ xHp D dT σf.1 t.heap ∧ (∀ q : Nat, σf.1 q ≠ none → xA σ0 q) ∧ va_F (xA σ0) st t
def xRm (d mc ms : Nat) : Room := { frames := d + 12, cells := mc, slots := ms, locals := d * 64 + 200 }
/-- what a body stands on -/
def xCx (D : va_G) (dT : Nat → ClassId) (l : Launch) (p : Program) (s : State) (m : MethodId) (args : Array Value) (meth : Method) (c : Code) (y : xMt) (σ0 : xS) : Prop :=
  xOk y ∧ p.tables.exec = Jvm.exec ∧ c.code = xC y ∧ meth.sig.returnType = xR y ∧ c.maxLocals = xm y ∧ s.vm.findClass (xN y).cls = some m.cls ∧ (∀ w ∈ xTB, w.before args s = true) ∧ meth.name = (xN y).name ∧ meth.locks = false ∧ (∀ x ∈ c.exceptionTable.toList, False) ∧ l.stackTraces = false ∧ va_K D vwCl (xtys dT) s ∧ xTh (xA σ0) s
abbrev xWg (D : va_G) (dT : Nat → ClassId) (p : Program) (l : Launch) (e : Env) (s : State) (m : MethodId) (args : Array Value) (below : List Frame) (meth : Method) (c : Code) (σ0 : xS) (d : Nat) (o : xO) (σf σ : xS) (H : Heap) (locs : List Loc) (g : JFrame) : Prop :=
  W p l e (xRm d (σf.2.1 - σ0.2.1) (σf.2.2 - σ0.2.2)) s m args below meth c H locs (σ.2.1 - σ0.2.1) (σ.2.2 - σ0.2.2) (vx_MQ below (xQ D dT o σf σ0) (xX D dT o σf σ0) args s (σf.2.1 - σ0.2.1) (σf.2.2 - σ0.2.2) (xA σ0)) g
def xSd (D : va_G) (dT : Nat → ClassId) (l : Launch) (d : Nat) (y : xMt) (pc : Nat) (lo : xL) (st : List Value) (σ : xS) (o : xO) (σf : xS) : Prop :=
  ∀ (p : Program) (e : Env) (s : State) (m : MethodId) (args : Array Value) (below : List Frame) (meth : Method) (c : Code) (σ0 : xS), xCx D dT l p s m args meth c y σ0 → ∀ (H : Heap) (locs : List Loc) (ls : Array Slot), xAt D dT s σ0 σ H locs → xRl lo ls (xm y) → xWg D dT p l e s m args below meth c σ0 d o σf σ H locs (F0 m pc ls st)
def xMono (σ σf : xS) : Prop := σ.2.1 ≤ σf.2.1 ∧ σ.2.2 ≤ σf.2.2
def xClaim (D : va_G) (dT : Nat → ClassId) (l : Launch) (rec : xRun) : Prop :=
  ∀ (d : Nat) (y : xMt) (pc : Nat) (lo : xL) (st : List Value) (σ : xS) (o : xO) (σf : xS), rec d y pc lo st σ = some (o, σf) → xMono σ σf ∧ xSd D dT l d y pc lo st σ o σf
section XS
variable {D : va_G} {dT : Nat → ClassId} {l : Launch} {rec : xRun} {d : Nat} {y : xMt} {pc : Nat} {lo : xL} {st : List Value} {σ : xS} {o : xO} {σf : xS} {len : Nat}
theorem xs_aconst_null (ih : xClaim D dT l rec) (hd : decode (xC y) pc = .ok (.aconst_null, len)) (h : xl len 1 (rec d y (pc + 1) lo (.null :: st) σ) = some (o, σf)) : xMono σ σf ∧ xSd D dT l d y pc lo st σ o σf := by
  obtain ⟨rfl, h_1⟩ := xl_some h
  obtain ⟨hm, hs⟩ := ih _ _ _ _ _ _ _ _ h_1
  refine ⟨hm, ?_⟩
  intro p e s m args below meth c σ0 C H locs ls hA hl
  obtain ⟨hok, hx, hb, hr, hml, hown, hts, hnm, hlocks, htab, hl0, hK, hT⟩ := id C
  exact lv_null hx hb hd (hs p e s m args below meth c σ0 C H locs ls hA hl)
theorem xs_iconst {n : Int} (ih : xClaim D dT l rec) (hd : decode (xC y) pc = .ok (.iconst n, len)) (h : xl len 1 (rec d y (pc + 1) lo (.int (Int32.ofInt n) :: st) σ) = some (o, σf)) : xMono σ σf ∧ xSd D dT l d y pc lo st σ o σf := by
  obtain ⟨rfl, h_1⟩ := xl_some h
  obtain ⟨hm, hs⟩ := ih _ _ _ _ _ _ _ _ h_1
  refine ⟨hm, ?_⟩
  intro p e s m args below meth c σ0 C H locs ls hA hl
  obtain ⟨hok, hx, hb, hr, hml, hown, hts, hnm, hlocks, htab, hl0, hK, hT⟩ := id C
  exact lv_iconst hx hb hd rfl (hs p e s m args below meth c σ0 C H locs ls hA hl)
theorem xs_bipush {n : Int} (ih : xClaim D dT l rec) (hd : decode (xC y) pc = .ok (.bipush n, len)) (h : xl len 2 (rec d y (pc + 2) lo (.int (Int8.ofInt n).toInt32 :: st) σ) = some (o, σf)) : xMono σ σf ∧ xSd D dT l d y pc lo st σ o σf := by
  obtain ⟨rfl, h_1⟩ := xl_some h
  obtain ⟨hm, hs⟩ := ih _ _ _ _ _ _ _ _ h_1
  refine ⟨hm, ?_⟩
  intro p e s m args below meth c σ0 C H locs ls hA hl
  obtain ⟨hok, hx, hb, hr, hml, hown, hts, hnm, hlocks, htab, hl0, hK, hT⟩ := id C
  exact lv_bipush hx hb hd rfl (hs p e s m args below meth c σ0 C H locs ls hA hl)
theorem xs_sipush {n : Int} (ih : xClaim D dT l rec) (hd : decode (xC y) pc = .ok (.sipush n, len)) (h : xl len 3 (rec d y (pc + 3) lo (.int (Int16.ofInt n).toInt32 :: st) σ) = some (o, σf)) : xMono σ σf ∧ xSd D dT l d y pc lo st σ o σf := by
  obtain ⟨rfl, h_1⟩ := xl_some h
  obtain ⟨hm, hs⟩ := ih _ _ _ _ _ _ _ _ h_1
  refine ⟨hm, ?_⟩
  intro p e s m args below meth c σ0 C H locs ls hA hl
  obtain ⟨hok, hx, hb, hr, hml, hown, hts, hnm, hlocks, htab, hl0, hK, hT⟩ := id C
  exact lv_sipush hx hb hd rfl (hs p e s m args below meth c σ0 C H locs ls hA hl)
theorem xs_ldc {k : Nat} (ih : xClaim D dT l rec) (hd : decode (xC y) pc = .ok (.ldc k, len)) (h : xl len 2 (xq (xldc (xo y) k) fun v => rec d y (pc + 2) lo (.int v :: st) σ) = some (o, σf)) : xMono σ σf ∧ xSd D dT l d y pc lo st σ o σf := by
  obtain ⟨rfl, h_1⟩ := xl_some h
  obtain ⟨v, hv, h_2⟩ := xq_some h_1
  obtain ⟨hm, hs⟩ := ih _ _ _ _ _ _ _ _ h_2
  refine ⟨hm, ?_⟩
  intro p e s m args below meth c σ0 C H locs ls hA hl
  obtain ⟨hok, hx, hb, hr, hml, hown, hts, hnm, hlocks, htab, hl0, hK, hT⟩ := id C
  exact W.ldc hx hb hown (by rw [hok.2.1]; exact hts _ (x_ldc_ok hv)) (g := F0 m pc ls st) rfl hd (hs p e s m args below meth c σ0 C H locs ls hA hl)
theorem xs_ldc_w {k : Nat} (ih : xClaim D dT l rec) (hd : decode (xC y) pc = .ok (.ldc_w k, len)) (h : xl len 3 (xq (xldc (xo y) k) fun v => rec d y (pc + 3) lo (.int v :: st) σ) = some (o, σf)) : xMono σ σf ∧ xSd D dT l d y pc lo st σ o σf := by
  obtain ⟨rfl, h_1⟩ := xl_some h
  obtain ⟨v, hv, h_2⟩ := xq_some h_1
  obtain ⟨hm, hs⟩ := ih _ _ _ _ _ _ _ _ h_2
  refine ⟨hm, ?_⟩
  intro p e s m args below meth c σ0 C H locs ls hA hl
  obtain ⟨hok, hx, hb, hr, hml, hown, hts, hnm, hlocks, htab, hl0, hK, hT⟩ := id C
  exact lv_ldcw hx hb hown (by rw [hok.2.1]; exact hts _ (x_ldc_ok hv)) hd (hs p e s m args below meth c σ0 C H locs ls hA hl)
theorem xs_iload {k : Nat} (ih : xClaim D dT l rec) (hd : decode (xC y) pc = .ok (.iload k, len)) (h : xl len 2 (xli lo k fun x => rec d y (pc + 2) lo (.int x :: st) σ) = some (o, σf)) : xMono σ σf ∧ xSd D dT l d y pc lo st σ o σf := by
  obtain ⟨rfl, h_1⟩ := xl_some h
  obtain ⟨x, hv, h_2⟩ := xli_some h_1
  obtain ⟨hm, hs⟩ := ih _ _ _ _ _ _ _ _ h_2
  refine ⟨hm, ?_⟩
  intro p e s m args below meth c σ0 C H locs ls hA hl
  obtain ⟨hok, hx, hb, hr, hml, hown, hts, hnm, hlocks, htab, hl0, hK, hT⟩ := id C
  exact lv_iload hx hb hd (hl.get hv) (hs p e s m args below meth c σ0 C H locs ls hA hl)
theorem xs_iload_n {k : Fin 4} (ih : xClaim D dT l rec) (hd : decode (xC y) pc = .ok (.iload_n k, len)) (h : xl len 1 (xli lo k.val fun x => rec d y (pc + 1) lo (.int x :: st) σ) = some (o, σf)) : xMono σ σf ∧ xSd D dT l d y pc lo st σ o σf := by
  obtain ⟨rfl, h_1⟩ := xl_some h
  obtain ⟨x, hv, h_2⟩ := xli_some h_1
  obtain ⟨hm, hs⟩ := ih _ _ _ _ _ _ _ _ h_2
  refine ⟨hm, ?_⟩
  intro p e s m args below meth c σ0 C H locs ls hA hl
  obtain ⟨hok, hx, hb, hr, hml, hown, hts, hnm, hlocks, htab, hl0, hK, hT⟩ := id C
  exact lv_iload_n hx hb hd rfl (hl.get hv) (hs p e s m args below meth c σ0 C H locs ls hA hl)
theorem xs_aload {k : Nat} (ih : xClaim D dT l rec) (hd : decode (xC y) pc = .ok (.aload k, len)) (h : xl len 2 (xlq lo k fun v => rec d y (pc + 2) lo (v :: st) σ) = some (o, σf)) : xMono σ σf ∧ xSd D dT l d y pc lo st σ o σf := by
  obtain ⟨rfl, h_1⟩ := xl_some h
  rcases xlq_some h_1 with ⟨hv, h_2⟩ | ⟨a, hv, h_2⟩
  · obtain ⟨hm, hs⟩ := ih _ _ _ _ _ _ _ _ h_2
    refine ⟨hm, ?_⟩
    intro p e s m args below meth c σ0 C H locs ls hA hl
    obtain ⟨hok, hx, hb, hr, hml, hown, hts, hnm, hlocks, htab, hl0, hK, hT⟩ := id C
    exact lv_aloadN hx hb hd (hl.get hv) (hs p e s m args below meth c σ0 C H locs ls hA hl)
  · obtain ⟨hm, hs⟩ := ih _ _ _ _ _ _ _ _ h_2
    refine ⟨hm, ?_⟩
    intro p e s m args below meth c σ0 C H locs ls hA hl
    obtain ⟨hok, hx, hb, hr, hml, hown, hts, hnm, hlocks, htab, hl0, hK, hT⟩ := id C
    exact lv_aload hx hb hd (hl.get hv) (hs p e s m args below meth c σ0 C H locs ls hA hl)
theorem xs_aload_n {k : Fin 4} (ih : xClaim D dT l rec) (hd : decode (xC y) pc = .ok (.aload_n k, len)) (h : xl len 1 (xlq lo k.val fun v => rec d y (pc + 1) lo (v :: st) σ) = some (o, σf)) : xMono σ σf ∧ xSd D dT l d y pc lo st σ o σf := by
  obtain ⟨rfl, h_1⟩ := xl_some h
  rcases xlq_some h_1 with ⟨hv, h_2⟩ | ⟨a, hv, h_2⟩
  · obtain ⟨hm, hs⟩ := ih _ _ _ _ _ _ _ _ h_2
    refine ⟨hm, ?_⟩
    intro p e s m args below meth c σ0 C H locs ls hA hl
    obtain ⟨hok, hx, hb, hr, hml, hown, hts, hnm, hlocks, htab, hl0, hK, hT⟩ := id C
    exact lv_aload_nN hx hb hd rfl (hl.get hv) (hs p e s m args below meth c σ0 C H locs ls hA hl)
  · obtain ⟨hm, hs⟩ := ih _ _ _ _ _ _ _ _ h_2
    refine ⟨hm, ?_⟩
    intro p e s m args below meth c σ0 C H locs ls hA hl
    obtain ⟨hok, hx, hb, hr, hml, hown, hts, hnm, hlocks, htab, hl0, hK, hT⟩ := id C
    exact lv_aload_n hx hb hd rfl (hl.get hv) (hs p e s m args below meth c σ0 C H locs ls hA hl)
theorem xs_istore {k : Nat} (ih : xClaim D dT l rec) (hd : decode (xC y) pc = .ok (.istore k, len)) (h : xl len 2 (xp (k < lo.length) (xb1 st fun x r => rec d y (pc + 2) (lo.set k (some (.int x))) r σ)) = some (o, σf)) : xMono σ σf ∧ xSd D dT l d y pc lo st σ o σf := by
  obtain ⟨rfl, h_1⟩ := xl_some h
  obtain ⟨hi, h_2⟩ := xp_some h_1
  obtain ⟨x, r, rfl, h_3⟩ := xb1_some h_2
  obtain ⟨hm, hs⟩ := ih _ _ _ _ _ _ _ _ h_3
  refine ⟨hm, ?_⟩
  intro p e s m args below meth c σ0 C H locs ls hA hl
  obtain ⟨hok, hx, hb, hr, hml, hown, hts, hnm, hlocks, htab, hl0, hK, hT⟩ := id C
  exact lv_istore hx hb hd hl.has (hl.lt hi) rfl (fun ls2 h2 => hs p e s m args below meth c σ0 C H locs ls2 hA (hl.store (hl.lt hi) rfl h2))
theorem xs_istore_n {k : Fin 4} (ih : xClaim D dT l rec) (hd : decode (xC y) pc = .ok (.istore_n k, len)) (h : xl len 1 (xp (k.val < lo.length) (xb1 st fun x r => rec d y (pc + 1) (lo.set k.val (some (.int x))) r σ)) = some (o, σf)) : xMono σ σf ∧ xSd D dT l d y pc lo st σ o σf := by
  obtain ⟨rfl, h_1⟩ := xl_some h
  obtain ⟨hi, h_2⟩ := xp_some h_1
  obtain ⟨x, r, rfl, h_3⟩ := xb1_some h_2
  obtain ⟨hm, hs⟩ := ih _ _ _ _ _ _ _ _ h_3
  refine ⟨hm, ?_⟩
  intro p e s m args below meth c σ0 C H locs ls hA hl
  obtain ⟨hok, hx, hb, hr, hml, hown, hts, hnm, hlocks, htab, hl0, hK, hT⟩ := id C
  exact lv_istore_n hx hb hd rfl hl.has (hl.lt hi) rfl (fun ls2 h2 => hs p e s m args below meth c σ0 C H locs ls2 hA (hl.store (hl.lt hi) rfl h2))
theorem xs_astore {k : Nat} (ih : xClaim D dT l rec) (hd : decode (xC y) pc = .ok (.astore k, len)) (h : xl len 2 (xp (k < lo.length) (xbq st (fun r => rec d y (pc + 2) (lo.set k (some .null)) r σ) fun a r => rec d y (pc + 2) (lo.set k (some (.ref a))) r σ)) = some (o, σf)) : xMono σ σf ∧ xSd D dT l d y pc lo st σ o σf := by
  obtain ⟨rfl, h_1⟩ := xl_some h
  obtain ⟨hi, h_2⟩ := xp_some h_1
  rcases xbq_some h_2 with ⟨r, rfl, h_3⟩ | ⟨a, r, rfl, h_3⟩
  · obtain ⟨hm, hs⟩ := ih _ _ _ _ _ _ _ _ h_3
    refine ⟨hm, ?_⟩
    intro p e s m args below meth c σ0 C H locs ls hA hl
    obtain ⟨hok, hx, hb, hr, hml, hown, hts, hnm, hlocks, htab, hl0, hK, hT⟩ := id C
    exact lv_astoreN hx hb hd hl.has (hl.lt hi) rfl (fun ls2 h2 => hs p e s m args below meth c σ0 C H locs ls2 hA (hl.store (hl.lt hi) rfl h2))
  · obtain ⟨hm, hs⟩ := ih _ _ _ _ _ _ _ _ h_3
    refine ⟨hm, ?_⟩
    intro p e s m args below meth c σ0 C H locs ls hA hl
    obtain ⟨hok, hx, hb, hr, hml, hown, hts, hnm, hlocks, htab, hl0, hK, hT⟩ := id C
    exact lv_astore hx hb hd hl.has (hl.lt hi) rfl (fun ls2 h2 => hs p e s m args below meth c σ0 C H locs ls2 hA (hl.store (hl.lt hi) rfl h2))
theorem xs_astore_n {k : Fin 4} (ih : xClaim D dT l rec) (hd : decode (xC y) pc = .ok (.astore_n k, len)) (h : xl len 1 (xp (k.val < lo.length) (xbq st (fun r => rec d y (pc + 1) (lo.set k.val (some .null)) r σ) fun a r => rec d y (pc + 1) (lo.set k.val (some (.ref a))) r σ)) = some (o, σf)) : xMono σ σf ∧ xSd D dT l d y pc lo st σ o σf := by
  obtain ⟨rfl, h_1⟩ := xl_some h
  obtain ⟨hi, h_2⟩ := xp_some h_1
  rcases xbq_some h_2 with ⟨r, rfl, h_3⟩ | ⟨a, r, rfl, h_3⟩
  · obtain ⟨hm, hs⟩ := ih _ _ _ _ _ _ _ _ h_3
    refine ⟨hm, ?_⟩
    intro p e s m args below meth c σ0 C H locs ls hA hl
    obtain ⟨hok, hx, hb, hr, hml, hown, hts, hnm, hlocks, htab, hl0, hK, hT⟩ := id C
    exact lv_astore_nN hx hb hd rfl hl.has (hl.lt hi) rfl (fun ls2 h2 => hs p e s m args below meth c σ0 C H locs ls2 hA (hl.store (hl.lt hi) rfl h2))
  · obtain ⟨hm, hs⟩ := ih _ _ _ _ _ _ _ _ h_3
    refine ⟨hm, ?_⟩
    intro p e s m args below meth c σ0 C H locs ls hA hl
    obtain ⟨hok, hx, hb, hr, hml, hown, hts, hnm, hlocks, htab, hl0, hK, hT⟩ := id C
    exact lv_astore_n hx hb hd rfl hl.has (hl.lt hi) rfl (fun ls2 h2 => hs p e s m args below meth c σ0 C H locs ls2 hA (hl.store (hl.lt hi) rfl h2))
theorem xs_iinc {k : Nat} {n : Int} (ih : xClaim D dT l rec) (hd : decode (xC y) pc = .ok (.iinc k n, len)) (h : xl len 3 (xli lo k fun x => rec d y (pc + 3) (lo.set k (some (.int (x + Int32.ofInt n)))) st σ) = some (o, σf)) : xMono σ σf ∧ xSd D dT l d y pc lo st σ o σf := by
  obtain ⟨rfl, h_1⟩ := xl_some h
  obtain ⟨x, hv, h_2⟩ := xli_some h_1
  obtain ⟨hm, hs⟩ := ih _ _ _ _ _ _ _ _ h_2
  refine ⟨hm, ?_⟩
  intro p e s m args below meth c σ0 C H locs ls hA hl
  obtain ⟨hok, hx, hb, hr, hml, hown, hts, hnm, hlocks, htab, hl0, hK, hT⟩ := id C
  have hi : k < lo.length := (List.getElem?_eq_some_iff.mp hv).1
  obtain ⟨j, hj⟩ := List.getElem?_of_mem (xloL_in hv)
  exact lv_iinc (v := x + Int32.ofInt n) hx hb hd hl.has hj rfl (hl.lt hi) rfl (fun ls2 h2 => hs p e s m args below meth c σ0 C H locs ls2 hA (hl.store (hl.lt hi) rfl h2))
theorem xs_iadd (ih : xClaim D dT l rec) (hd : decode (xC y) pc = .ok (.iadd, len)) (h : xl len 1 (xb2 st fun a b r => rec d y (pc + 1) lo (.int (a + b) :: r) σ) = some (o, σf)) : xMono σ σf ∧ xSd D dT l d y pc lo st σ o σf := by
  obtain ⟨rfl, h_1⟩ := xl_some h
  obtain ⟨a, b, r, rfl, h_2⟩ := xb2_some h_1
  obtain ⟨hm, hs⟩ := ih _ _ _ _ _ _ _ _ h_2
  refine ⟨hm, ?_⟩
  intro p e s m args below meth c σ0 C H locs ls hA hl
  obtain ⟨hok, hx, hb, hr, hml, hown, hts, hnm, hlocks, htab, hl0, hK, hT⟩ := id C
  exact lv_iadd hx hb hd (hs p e s m args below meth c σ0 C H locs ls hA hl)
theorem xs_isub (ih : xClaim D dT l rec) (hd : decode (xC y) pc = .ok (.isub, len)) (h : xl len 1 (xb2 st fun a b r => rec d y (pc + 1) lo (.int (a - b) :: r) σ) = some (o, σf)) : xMono σ σf ∧ xSd D dT l d y pc lo st σ o σf := by
  obtain ⟨rfl, h_1⟩ := xl_some h
  obtain ⟨a, b, r, rfl, h_2⟩ := xb2_some h_1
  obtain ⟨hm, hs⟩ := ih _ _ _ _ _ _ _ _ h_2
  refine ⟨hm, ?_⟩
  intro p e s m args below meth c σ0 C H locs ls hA hl
  obtain ⟨hok, hx, hb, hr, hml, hown, hts, hnm, hlocks, htab, hl0, hK, hT⟩ := id C
  exact lv_isub hx hb hd (hs p e s m args below meth c σ0 C H locs ls hA hl)
theorem xs_imul (ih : xClaim D dT l rec) (hd : decode (xC y) pc = .ok (.imul, len)) (h : xl len 1 (xb2 st fun a b r => rec d y (pc + 1) lo (.int (a * b) :: r) σ) = some (o, σf)) : xMono σ σf ∧ xSd D dT l d y pc lo st σ o σf := by
  obtain ⟨rfl, h_1⟩ := xl_some h
  obtain ⟨a, b, r, rfl, h_2⟩ := xb2_some h_1
  obtain ⟨hm, hs⟩ := ih _ _ _ _ _ _ _ _ h_2
  refine ⟨hm, ?_⟩
  intro p e s m args below meth c σ0 C H locs ls hA hl
  obtain ⟨hok, hx, hb, hr, hml, hown, hts, hnm, hlocks, htab, hl0, hK, hT⟩ := id C
  exact lv_imul hx hb hd (hs p e s m args below meth c σ0 C H locs ls hA hl)
theorem xs_iand (ih : xClaim D dT l rec) (hd : decode (xC y) pc = .ok (.iand, len)) (h : xl len 1 (xb2 st fun a b r => rec d y (pc + 1) lo (.int (a &&& b) :: r) σ) = some (o, σf)) : xMono σ σf ∧ xSd D dT l d y pc lo st σ o σf := by
  obtain ⟨rfl, h_1⟩ := xl_some h
  obtain ⟨a, b, r, rfl, h_2⟩ := xb2_some h_1
  obtain ⟨hm, hs⟩ := ih _ _ _ _ _ _ _ _ h_2
  refine ⟨hm, ?_⟩
  intro p e s m args below meth c σ0 C H locs ls hA hl
  obtain ⟨hok, hx, hb, hr, hml, hown, hts, hnm, hlocks, htab, hl0, hK, hT⟩ := id C
  exact lv_iand hx hb hd (hs p e s m args below meth c σ0 C H locs ls hA hl)
theorem xs_idiv (ih : xClaim D dT l rec) (hd : decode (xC y) pc = .ok (.idiv, len)) (h : xl len 1 (xb2 st fun a b r => xp (¬ b = 0) (rec d y (pc + 1) lo (.int (a / b) :: r) σ)) = some (o, σf)) : xMono σ σf ∧ xSd D dT l d y pc lo st σ o σf := by
  obtain ⟨rfl, h_1⟩ := xl_some h
  obtain ⟨a, b, r, rfl, h_2⟩ := xb2_some h_1
  obtain ⟨h0, h_3⟩ := xp_some h_2
  obtain ⟨hm, hs⟩ := ih _ _ _ _ _ _ _ _ h_3
  refine ⟨hm, ?_⟩
  intro p e s m args below meth c σ0 C H locs ls hA hl
  obtain ⟨hok, hx, hb, hr, hml, hown, hts, hnm, hlocks, htab, hl0, hK, hT⟩ := id C
  exact lv_idiv hx hb hd h0 (hs p e s m args below meth c σ0 C H locs ls hA hl)
theorem xs_irem (ih : xClaim D dT l rec) (hd : decode (xC y) pc = .ok (.irem, len)) (h : xl len 1 (xb2 st fun a b r => xp (¬ b = 0) (rec d y (pc + 1) lo (.int (a - a / b * b) :: r) σ)) = some (o, σf)) : xMono σ σf ∧ xSd D dT l d y pc lo st σ o σf := by
  obtain ⟨rfl, h_1⟩ := xl_some h
  obtain ⟨a, b, r, rfl, h_2⟩ := xb2_some h_1
  obtain ⟨h0, h_3⟩ := xp_some h_2
  obtain ⟨hm, hs⟩ := ih _ _ _ _ _ _ _ _ h_3
  refine ⟨hm, ?_⟩
  intro p e s m args below meth c σ0 C H locs ls hA hl
  obtain ⟨hok, hx, hb, hr, hml, hown, hts, hnm, hlocks, htab, hl0, hK, hT⟩ := id C
  exact lv_irem hx hb hd h0 (hs p e s m args below meth c σ0 C H locs ls hA hl)
theorem xs_dup (ih : xClaim D dT l rec) (hd : decode (xC y) pc = .ok (.dup, len)) (h : xl len 1 (xbv st fun v r => xp (v.category = 1) (rec d y (pc + 1) lo (v :: v :: r) σ)) = some (o, σf)) : xMono σ σf ∧ xSd D dT l d y pc lo st σ o σf := by
  obtain ⟨rfl, h_1⟩ := xl_some h
  obtain ⟨v, r, rfl, h_2⟩ := xbv_some h_1
  obtain ⟨h0, h_3⟩ := xp_some h_2
  obtain ⟨hm, hs⟩ := ih _ _ _ _ _ _ _ _ h_3
  refine ⟨hm, ?_⟩
  intro p e s m args below meth c σ0 C H locs ls hA hl
  obtain ⟨hok, hx, hb, hr, hml, hown, hts, hnm, hlocks, htab, hl0, hK, hT⟩ := id C
  exact lv_dup hx hb hd h0 (hs p e s m args below meth c σ0 C H locs ls hA hl)
theorem xs_dup2 (ih : xClaim D dT l rec) (hd : decode (xC y) pc = .ok (.dup2, len)) (h : xl len 1 (xbv st fun v r => xbv r fun w q => xp (v.category = 1 ∧ w.category = 1) (rec d y (pc + 1) lo (v :: w :: v :: w :: q) σ)) = some (o, σf)) : xMono σ σf ∧ xSd D dT l d y pc lo st σ o σf := by
  obtain ⟨rfl, h_1⟩ := xl_some h
  obtain ⟨v, r, rfl, h_2⟩ := xbv_some h_1
  obtain ⟨w, q, rfl, h_3⟩ := xbv_some h_2
  obtain ⟨h0, h_4⟩ := xp_some h_3
  obtain ⟨hm, hs⟩ := ih _ _ _ _ _ _ _ _ h_4
  refine ⟨hm, ?_⟩
  intro p e s m args below meth c σ0 C H locs ls hA hl
  obtain ⟨hok, hx, hb, hr, hml, hown, hts, hnm, hlocks, htab, hl0, hK, hT⟩ := id C
  exact lv_dup2_11 hx hb hd h0.1 h0.2 (hs p e s m args below meth c σ0 C H locs ls hA hl)
theorem xs_goto {off : Int} (ih : xClaim D dT l rec) (hd : decode (xC y) pc = .ok (.goto off, len)) (h : xl len 3 (xjmp pc off fun t => rec d y t lo st σ) = some (o, σf)) : xMono σ σf ∧ xSd D dT l d y pc lo st σ o σf := by
  obtain ⟨rfl, h_1⟩ := xl_some h
  obtain ⟨t, ht, h_2⟩ := xjmp_some h_1
  obtain ⟨hm, hs⟩ := ih _ _ _ _ _ _ _ _ h_2
  refine ⟨hm, ?_⟩
  intro p e s m args below meth c σ0 C H locs ls hA hl
  obtain ⟨hok, hx, hb, hr, hml, hown, hts, hnm, hlocks, htab, hl0, hK, hT⟩ := id C
  exact lv_goto hx hb hd ht (hs p e s m args below meth c σ0 C H locs ls hA hl)
theorem xs_icmp_eq {off : Int} (ih : xClaim D dT l rec) (hd : decode (xC y) pc = .ok (.if_icmp .eq off, len)) (h : xl len 3 (xjmp pc off fun t => xb2 st fun a b r => xif .eq a b (rec d y t lo r σ) (rec d y (pc + 3) lo r σ)) = some (o, σf)) : xMono σ σf ∧ xSd D dT l d y pc lo st σ o σf := by
  obtain ⟨rfl, h_1⟩ := xl_some h
  obtain ⟨t, ht, h_2⟩ := xjmp_some h_1
  obtain ⟨a, b, r, rfl, h_3⟩ := xb2_some h_2
  by_cases hc : a = b
  · rw [show xif .eq a b (rec d y t lo r σ) (rec d y (pc + 3) lo r σ) = (rec d y t lo r σ) from if_pos hc] at h_3
    obtain ⟨hm, hs⟩ := ih _ _ _ _ _ _ _ _ h_3
    refine ⟨hm, ?_⟩
    intro p e s m args below meth c σ0 C H locs ls hA hl
    obtain ⟨hok, hx, hb, hr, hml, hown, hts, hnm, hlocks, htab, hl0, hK, hT⟩ := id C
    exact lv_icmp_eq (tgt := t) hx hb hd ht (fun _ => hs p e s m args below meth c σ0 C H locs ls hA hl) (fun q => absurd hc q)
  · rw [show xif .eq a b (rec d y t lo r σ) (rec d y (pc + 3) lo r σ) = (rec d y (pc + 3) lo r σ) from if_neg hc] at h_3
    obtain ⟨hm, hs⟩ := ih _ _ _ _ _ _ _ _ h_3
    refine ⟨hm, ?_⟩
    intro p e s m args below meth c σ0 C H locs ls hA hl
    obtain ⟨hok, hx, hb, hr, hml, hown, hts, hnm, hlocks, htab, hl0, hK, hT⟩ := id C
    exact lv_icmp_eq (tgt := t) hx hb hd ht (fun q => absurd q hc) (fun _ => hs p e s m args below meth c σ0 C H locs ls hA hl)
theorem xs_icmp_ne {off : Int} (ih : xClaim D dT l rec) (hd : decode (xC y) pc = .ok (.if_icmp .ne off, len)) (h : xl len 3 (xjmp pc off fun t => xb2 st fun a b r => xif .ne a b (rec d y t lo r σ) (rec d y (pc + 3) lo r σ)) = some (o, σf)) : xMono σ σf ∧ xSd D dT l d y pc lo st σ o σf := by
  obtain ⟨rfl, h_1⟩ := xl_some h
  obtain ⟨t, ht, h_2⟩ := xjmp_some h_1
  obtain ⟨a, b, r, rfl, h_3⟩ := xb2_some h_2
  by_cases hc : a = b
  · rw [show xif .ne a b (rec d y t lo r σ) (rec d y (pc + 3) lo r σ) = (rec d y (pc + 3) lo r σ) from if_pos hc] at h_3
    obtain ⟨hm, hs⟩ := ih _ _ _ _ _ _ _ _ h_3
    refine ⟨hm, ?_⟩
    intro p e s m args below meth c σ0 C H locs ls hA hl
    obtain ⟨hok, hx, hb, hr, hml, hown, hts, hnm, hlocks, htab, hl0, hK, hT⟩ := id C
    exact lv_icmp_ne (tgt := t) hx hb hd ht (fun q => absurd hc q) (fun _ => hs p e s m args below meth c σ0 C H locs ls hA hl)
  · rw [show xif .ne a b (rec d y t lo r σ) (rec d y (pc + 3) lo r σ) = (rec d y t lo r σ) from if_neg hc] at h_3
    obtain ⟨hm, hs⟩ := ih _ _ _ _ _ _ _ _ h_3
    refine ⟨hm, ?_⟩
    intro p e s m args below meth c σ0 C H locs ls hA hl
    obtain ⟨hok, hx, hb, hr, hml, hown, hts, hnm, hlocks, htab, hl0, hK, hT⟩ := id C
    exact lv_icmp_ne (tgt := t) hx hb hd ht (fun _ => hs p e s m args below meth c σ0 C H locs ls hA hl) (fun q => absurd q hc)
theorem xs_icmp_lt {off : Int} (ih : xClaim D dT l rec) (hd : decode (xC y) pc = .ok (.if_icmp .lt off, len)) (h : xl len 3 (xjmp pc off fun t => xb2 st fun a b r => xif .lt a b (rec d y t lo r σ) (rec d y (pc + 3) lo r σ)) = some (o, σf)) : xMono σ σf ∧ xSd D dT l d y pc lo st σ o σf := by
  obtain ⟨rfl, h_1⟩ := xl_some h
  obtain ⟨t, ht, h_2⟩ := xjmp_some h_1
  obtain ⟨a, b, r, rfl, h_3⟩ := xb2_some h_2
  by_cases hc : a < b
  · rw [show xif .lt a b (rec d y t lo r σ) (rec d y (pc + 3) lo r σ) = (rec d y t lo r σ) from if_pos hc] at h_3
    obtain ⟨hm, hs⟩ := ih _ _ _ _ _ _ _ _ h_3
    refine ⟨hm, ?_⟩
    intro p e s m args below meth c σ0 C H locs ls hA hl
    obtain ⟨hok, hx, hb, hr, hml, hown, hts, hnm, hlocks, htab, hl0, hK, hT⟩ := id C
    exact lv_icmp_lt (tgt := t) hx hb hd ht (fun _ => hs p e s m args below meth c σ0 C H locs ls hA hl) (fun q => absurd hc q)
  · rw [show xif .lt a b (rec d y t lo r σ) (rec d y (pc + 3) lo r σ) = (rec d y (pc + 3) lo r σ) from if_neg hc] at h_3
    obtain ⟨hm, hs⟩ := ih _ _ _ _ _ _ _ _ h_3
    refine ⟨hm, ?_⟩
    intro p e s m args below meth c σ0 C H locs ls hA hl
    obtain ⟨hok, hx, hb, hr, hml, hown, hts, hnm, hlocks, htab, hl0, hK, hT⟩ := id C
    exact lv_icmp_lt (tgt := t) hx hb hd ht (fun q => absurd q hc) (fun _ => hs p e s m args below meth c σ0 C H locs ls hA hl)
theorem xs_icmp_ge {off : Int} (ih : xClaim D dT l rec) (hd : decode (xC y) pc = .ok (.if_icmp .ge off, len)) (h : xl len 3 (xjmp pc off fun t => xb2 st fun a b r => xif .ge a b (rec d y t lo r σ) (rec d y (pc + 3) lo r σ)) = some (o, σf)) : xMono σ σf ∧ xSd D dT l d y pc lo st σ o σf := by
  obtain ⟨rfl, h_1⟩ := xl_some h
  obtain ⟨t, ht, h_2⟩ := xjmp_some h_1
  obtain ⟨a, b, r, rfl, h_3⟩ := xb2_some h_2
  by_cases hc : b ≤ a
  · rw [show xif .ge a b (rec d y t lo r σ) (rec d y (pc + 3) lo r σ) = (rec d y t lo r σ) from if_pos hc] at h_3
    obtain ⟨hm, hs⟩ := ih _ _ _ _ _ _ _ _ h_3
    refine ⟨hm, ?_⟩
    intro p e s m args below meth c σ0 C H locs ls hA hl
    obtain ⟨hok, hx, hb, hr, hml, hown, hts, hnm, hlocks, htab, hl0, hK, hT⟩ := id C
    exact lv_icmp_ge (tgt := t) hx hb hd ht (fun _ => hs p e s m args below meth c σ0 C H locs ls hA hl) (fun q => absurd hc q)
  · rw [show xif .ge a b (rec d y t lo r σ) (rec d y (pc + 3) lo r σ) = (rec d y (pc + 3) lo r σ) from if_neg hc] at h_3
    obtain ⟨hm, hs⟩ := ih _ _ _ _ _ _ _ _ h_3
    refine ⟨hm, ?_⟩
    intro p e s m args below meth c σ0 C H locs ls hA hl
    obtain ⟨hok, hx, hb, hr, hml, hown, hts, hnm, hlocks, htab, hl0, hK, hT⟩ := id C
    exact lv_icmp_ge (tgt := t) hx hb hd ht (fun q => absurd q hc) (fun _ => hs p e s m args below meth c σ0 C H locs ls hA hl)
theorem xs_icmp_gt {off : Int} (ih : xClaim D dT l rec) (hd : decode (xC y) pc = .ok (.if_icmp .gt off, len)) (h : xl len 3 (xjmp pc off fun t => xb2 st fun a b r => xif .gt a b (rec d y t lo r σ) (rec d y (pc + 3) lo r σ)) = some (o, σf)) : xMono σ σf ∧ xSd D dT l d y pc lo st σ o σf := by
  obtain ⟨rfl, h_1⟩ := xl_some h
  obtain ⟨t, ht, h_2⟩ := xjmp_some h_1
  obtain ⟨a, b, r, rfl, h_3⟩ := xb2_some h_2
  by_cases hc : b < a
  · rw [show xif .gt a b (rec d y t lo r σ) (rec d y (pc + 3) lo r σ) = (rec d y t lo r σ) from if_pos hc] at h_3
    obtain ⟨hm, hs⟩ := ih _ _ _ _ _ _ _ _ h_3
    refine ⟨hm, ?_⟩
    intro p e s m args below meth c σ0 C H locs ls hA hl
    obtain ⟨hok, hx, hb, hr, hml, hown, hts, hnm, hlocks, htab, hl0, hK, hT⟩ := id C
    exact lv_icmp_gt (tgt := t) hx hb hd ht (fun _ => hs p e s m args below meth c σ0 C H locs ls hA hl) (fun q => absurd hc q)
  · rw [show xif .gt a b (rec d y t lo r σ) (rec d y (pc + 3) lo r σ) = (rec d y (pc + 3) lo r σ) from if_neg hc] at h_3
    obtain ⟨hm, hs⟩ := ih _ _ _ _ _ _ _ _ h_3
    refine ⟨hm, ?_⟩
    intro p e s m args below meth c σ0 C H locs ls hA hl
    obtain ⟨hok, hx, hb, hr, hml, hown, hts, hnm, hlocks, htab, hl0, hK, hT⟩ := id C
    exact lv_icmp_gt (tgt := t) hx hb hd ht (fun q => absurd q hc) (fun _ => hs p e s m args below meth c σ0 C H locs ls hA hl)
theorem xs_icmp_le {off : Int} (ih : xClaim D dT l rec) (hd : decode (xC y) pc = .ok (.if_icmp .le off, len)) (h : xl len 3 (xjmp pc off fun t => xb2 st fun a b r => xif .le a b (rec d y t lo r σ) (rec d y (pc + 3) lo r σ)) = some (o, σf)) : xMono σ σf ∧ xSd D dT l d y pc lo st σ o σf := by
  obtain ⟨rfl, h_1⟩ := xl_some h
  obtain ⟨t, ht, h_2⟩ := xjmp_some h_1
  obtain ⟨a, b, r, rfl, h_3⟩ := xb2_some h_2
  by_cases hc : a ≤ b
  · rw [show xif .le a b (rec d y t lo r σ) (rec d y (pc + 3) lo r σ) = (rec d y t lo r σ) from if_pos hc] at h_3
    obtain ⟨hm, hs⟩ := ih _ _ _ _ _ _ _ _ h_3
    refine ⟨hm, ?_⟩
    intro p e s m args below meth c σ0 C H locs ls hA hl
    obtain ⟨hok, hx, hb, hr, hml, hown, hts, hnm, hlocks, htab, hl0, hK, hT⟩ := id C
    exact lv_icmp_le (tgt := t) hx hb hd ht (fun _ => hs p e s m args below meth c σ0 C H locs ls hA hl) (fun q => absurd hc q)
  · rw [show xif .le a b (rec d y t lo r σ) (rec d y (pc + 3) lo r σ) = (rec d y (pc + 3) lo r σ) from if_neg hc] at h_3
    obtain ⟨hm, hs⟩ := ih _ _ _ _ _ _ _ _ h_3
    refine ⟨hm, ?_⟩
    intro p e s m args below meth c σ0 C H locs ls hA hl
    obtain ⟨hok, hx, hb, hr, hml, hown, hts, hnm, hlocks, htab, hl0, hK, hT⟩ := id C
    exact lv_icmp_le (tgt := t) hx hb hd ht (fun q => absurd q hc) (fun _ => hs p e s m args below meth c σ0 C H locs ls hA hl)
theorem xs_if_eq {off : Int} (ih : xClaim D dT l rec) (hd : decode (xC y) pc = .ok (.ifCond .eq off, len)) (h : xl len 3 (xjmp pc off fun t => xb1 st fun a r => xif .eq a 0 (rec d y t lo r σ) (rec d y (pc + 3) lo r σ)) = some (o, σf)) : xMono σ σf ∧ xSd D dT l d y pc lo st σ o σf := by
  obtain ⟨rfl, h_1⟩ := xl_some h
  obtain ⟨t, ht, h_2⟩ := xjmp_some h_1
  obtain ⟨a, r, rfl, h_3⟩ := xb1_some h_2
  by_cases hc : a = 0
  · rw [show xif .eq a 0 (rec d y t lo r σ) (rec d y (pc + 3) lo r σ) = (rec d y t lo r σ) from if_pos hc] at h_3
    obtain ⟨hm, hs⟩ := ih _ _ _ _ _ _ _ _ h_3
    refine ⟨hm, ?_⟩
    intro p e s m args below meth c σ0 C H locs ls hA hl
    obtain ⟨hok, hx, hb, hr, hml, hown, hts, hnm, hlocks, htab, hl0, hK, hT⟩ := id C
    exact lv_if_eq (tgt := t) hx hb hd ht (fun _ => hs p e s m args below meth c σ0 C H locs ls hA hl) (fun q => absurd hc q)
  · rw [show xif .eq a 0 (rec d y t lo r σ) (rec d y (pc + 3) lo r σ) = (rec d y (pc + 3) lo r σ) from if_neg hc] at h_3
    obtain ⟨hm, hs⟩ := ih _ _ _ _ _ _ _ _ h_3
    refine ⟨hm, ?_⟩
    intro p e s m args below meth c σ0 C H locs ls hA hl
    obtain ⟨hok, hx, hb, hr, hml, hown, hts, hnm, hlocks, htab, hl0, hK, hT⟩ := id C
    exact lv_if_eq (tgt := t) hx hb hd ht (fun q => absurd q hc) (fun _ => hs p e s m args below meth c σ0 C H locs ls hA hl)
theorem xs_if_ne {off : Int} (ih : xClaim D dT l rec) (hd : decode (xC y) pc = .ok (.ifCond .ne off, len)) (h : xl len 3 (xjmp pc off fun t => xb1 st fun a r => xif .ne a 0 (rec d y t lo r σ) (rec d y (pc + 3) lo r σ)) = some (o, σf)) : xMono σ σf ∧ xSd D dT l d y pc lo st σ o σf := by
  obtain ⟨rfl, h_1⟩ := xl_some h
  obtain ⟨t, ht, h_2⟩ := xjmp_some h_1
  obtain ⟨a, r, rfl, h_3⟩ := xb1_some h_2
  by_cases hc : a = 0
  · rw [show xif .ne a 0 (rec d y t lo r σ) (rec d y (pc + 3) lo r σ) = (rec d y (pc + 3) lo r σ) from if_pos hc] at h_3
    obtain ⟨hm, hs⟩ := ih _ _ _ _ _ _ _ _ h_3
    refine ⟨hm, ?_⟩
    intro p e s m args below meth c σ0 C H locs ls hA hl
    obtain ⟨hok, hx, hb, hr, hml, hown, hts, hnm, hlocks, htab, hl0, hK, hT⟩ := id C
    exact lv_if_ne (tgt := t) hx hb hd ht (fun q => absurd hc q) (fun _ => hs p e s m args below meth c σ0 C H locs ls hA hl)
  · rw [show xif .ne a 0 (rec d y t lo r σ) (rec d y (pc + 3) lo r σ) = (rec d y t lo r σ) from if_neg hc] at h_3
    obtain ⟨hm, hs⟩ := ih _ _ _ _ _ _ _ _ h_3
    refine ⟨hm, ?_⟩
    intro p e s m args below meth c σ0 C H locs ls hA hl
    obtain ⟨hok, hx, hb, hr, hml, hown, hts, hnm, hlocks, htab, hl0, hK, hT⟩ := id C
    exact lv_if_ne (tgt := t) hx hb hd ht (fun _ => hs p e s m args below meth c σ0 C H locs ls hA hl) (fun q => absurd q hc)
theorem xs_if_lt {off : Int} (ih : xClaim D dT l rec) (hd : decode (xC y) pc = .ok (.ifCond .lt off, len)) (h : xl len 3 (xjmp pc off fun t => xb1 st fun a r => xif .lt a 0 (rec d y t lo r σ) (rec d y (pc + 3) lo r σ)) = some (o, σf)) : xMono σ σf ∧ xSd D dT l d y pc lo st σ o σf := by
  obtain ⟨rfl, h_1⟩ := xl_some h
  obtain ⟨t, ht, h_2⟩ := xjmp_some h_1
  obtain ⟨a, r, rfl, h_3⟩ := xb1_some h_2
  by_cases hc : a < 0
  · rw [show xif .lt a 0 (rec d y t lo r σ) (rec d y (pc + 3) lo r σ) = (rec d y t lo r σ) from if_pos hc] at h_3
    obtain ⟨hm, hs⟩ := ih _ _ _ _ _ _ _ _ h_3
    refine ⟨hm, ?_⟩
    intro p e s m args below meth c σ0 C H locs ls hA hl
    obtain ⟨hok, hx, hb, hr, hml, hown, hts, hnm, hlocks, htab, hl0, hK, hT⟩ := id C
    exact lv_if_lt (tgt := t) hx hb hd ht (fun _ => hs p e s m args below meth c σ0 C H locs ls hA hl) (fun q => absurd hc q)
  · rw [show xif .lt a 0 (rec d y t lo r σ) (rec d y (pc + 3) lo r σ) = (rec d y (pc + 3) lo r σ) from if_neg hc] at h_3
    obtain ⟨hm, hs⟩ := ih _ _ _ _ _ _ _ _ h_3
    refine ⟨hm, ?_⟩
    intro p e s m args below meth c σ0 C H locs ls hA hl
    obtain ⟨hok, hx, hb, hr, hml, hown, hts, hnm, hlocks, htab, hl0, hK, hT⟩ := id C
    exact lv_if_lt (tgt := t) hx hb hd ht (fun q => absurd q hc) (fun _ => hs p e s m args below meth c σ0 C H locs ls hA hl)
theorem xs_if_ge {off : Int} (ih : xClaim D dT l rec) (hd : decode (xC y) pc = .ok (.ifCond .ge off, len)) (h : xl len 3 (xjmp pc off fun t => xb1 st fun a r => xif .ge a 0 (rec d y t lo r σ) (rec d y (pc + 3) lo r σ)) = some (o, σf)) : xMono σ σf ∧ xSd D dT l d y pc lo st σ o σf := by
  obtain ⟨rfl, h_1⟩ := xl_some h
  obtain ⟨t, ht, h_2⟩ := xjmp_some h_1
  obtain ⟨a, r, rfl, h_3⟩ := xb1_some h_2
  by_cases hc : 0 ≤ a
  · rw [show xif .ge a 0 (rec d y t lo r σ) (rec d y (pc + 3) lo r σ) = (rec d y t lo r σ) from if_pos hc] at h_3
    obtain ⟨hm, hs⟩ := ih _ _ _ _ _ _ _ _ h_3
    refine ⟨hm, ?_⟩
    intro p e s m args below meth c σ0 C H locs ls hA hl
    obtain ⟨hok, hx, hb, hr, hml, hown, hts, hnm, hlocks, htab, hl0, hK, hT⟩ := id C
    exact lv_if_ge (tgt := t) hx hb hd ht (fun _ => hs p e s m args below meth c σ0 C H locs ls hA hl) (fun q => absurd hc q)
  · rw [show xif .ge a 0 (rec d y t lo r σ) (rec d y (pc + 3) lo r σ) = (rec d y (pc + 3) lo r σ) from if_neg hc] at h_3
    obtain ⟨hm, hs⟩ := ih _ _ _ _ _ _ _ _ h_3
    refine ⟨hm, ?_⟩
    intro p e s m args below meth c σ0 C H locs ls hA hl
    obtain ⟨hok, hx, hb, hr, hml, hown, hts, hnm, hlocks, htab, hl0, hK, hT⟩ := id C
    exact lv_if_ge (tgt := t) hx hb hd ht (fun q => absurd q hc) (fun _ => hs p e s m args below meth c σ0 C H locs ls hA hl)
theorem xs_if_gt {off : Int} (ih : xClaim D dT l rec) (hd : decode (xC y) pc = .ok (.ifCond .gt off, len)) (h : xl len 3 (xjmp pc off fun t => xb1 st fun a r => xif .gt a 0 (rec d y t lo r σ) (rec d y (pc + 3) lo r σ)) = some (o, σf)) : xMono σ σf ∧ xSd D dT l d y pc lo st σ o σf := by
  obtain ⟨rfl, h_1⟩ := xl_some h
  obtain ⟨t, ht, h_2⟩ := xjmp_some h_1
  obtain ⟨a, r, rfl, h_3⟩ := xb1_some h_2
  by_cases hc : 0 < a
  · rw [show xif .gt a 0 (rec d y t lo r σ) (rec d y (pc + 3) lo r σ) = (rec d y t lo r σ) from if_pos hc] at h_3
    obtain ⟨hm, hs⟩ := ih _ _ _ _ _ _ _ _ h_3
    refine ⟨hm, ?_⟩
    intro p e s m args below meth c σ0 C H locs ls hA hl
    obtain ⟨hok, hx, hb, hr, hml, hown, hts, hnm, hlocks, htab, hl0, hK, hT⟩ := id C
    exact lv_if_gt (tgt := t) hx hb hd ht (fun _ => hs p e s m args below meth c σ0 C H locs ls hA hl) (fun q => absurd hc q)
  · rw [show xif .gt a 0 (rec d y t lo r σ) (rec d y (pc + 3) lo r σ) = (rec d y (pc + 3) lo r σ) from if_neg hc] at h_3
    obtain ⟨hm, hs⟩ := ih _ _ _ _ _ _ _ _ h_3
    refine ⟨hm, ?_⟩
    intro p e s m args below meth c σ0 C H locs ls hA hl
    obtain ⟨hok, hx, hb, hr, hml, hown, hts, hnm, hlocks, htab, hl0, hK, hT⟩ := id C
    exact lv_if_gt (tgt := t) hx hb hd ht (fun q => absurd q hc) (fun _ => hs p e s m args below meth c σ0 C H locs ls hA hl)
theorem xs_if_le {off : Int} (ih : xClaim D dT l rec) (hd : decode (xC y) pc = .ok (.ifCond .le off, len)) (h : xl len 3 (xjmp pc off fun t => xb1 st fun a r => xif .le a 0 (rec d y t lo r σ) (rec d y (pc + 3) lo r σ)) = some (o, σf)) : xMono σ σf ∧ xSd D dT l d y pc lo st σ o σf := by
  obtain ⟨rfl, h_1⟩ := xl_some h
  obtain ⟨t, ht, h_2⟩ := xjmp_some h_1
  obtain ⟨a, r, rfl, h_3⟩ := xb1_some h_2
  by_cases hc : a ≤ 0
  · rw [show xif .le a 0 (rec d y t lo r σ) (rec d y (pc + 3) lo r σ) = (rec d y t lo r σ) from if_pos hc] at h_3
    obtain ⟨hm, hs⟩ := ih _ _ _ _ _ _ _ _ h_3
    refine ⟨hm, ?_⟩
    intro p e s m args below meth c σ0 C H locs ls hA hl
    obtain ⟨hok, hx, hb, hr, hml, hown, hts, hnm, hlocks, htab, hl0, hK, hT⟩ := id C
    exact lv_if_le (tgt := t) hx hb hd ht (fun _ => hs p e s m args below meth c σ0 C H locs ls hA hl) (fun q => absurd hc q)
  · rw [show xif .le a 0 (rec d y t lo r σ) (rec d y (pc + 3) lo r σ) = (rec d y (pc + 3) lo r σ) from if_neg hc] at h_3
    obtain ⟨hm, hs⟩ := ih _ _ _ _ _ _ _ _ h_3
    refine ⟨hm, ?_⟩
    intro p e s m args below meth c σ0 C H locs ls hA hl
    obtain ⟨hok, hx, hb, hr, hml, hown, hts, hnm, hlocks, htab, hl0, hK, hT⟩ := id C
    exact lv_if_le (tgt := t) hx hb hd ht (fun q => absurd q hc) (fun _ => hs p e s m args below meth c σ0 C H locs ls hA hl)
end XS
section XS2
variable {D : va_G} {dT : Nat → ClassId} {l : Launch} {rec : xRun} {d : Nat} {y : xMt} {pc : Nat} {lo : xL} {st : List Value} {σ : xS} {o : xO} {σf : xS} {len : Nat}
theorem xs_ifnull {off : Int} (ih : xClaim D dT l rec) (hd : decode (xC y) pc = .ok (.ifnull off, len)) (h : xl len 3 (xbq st (fun r => xjmp pc off fun t => rec d y t lo r σ) fun _ r => rec d y (pc + 3) lo r σ) = some (o, σf)) : xMono σ σf ∧ xSd D dT l d y pc lo st σ o σf := by
  obtain ⟨rfl, h_1⟩ := xl_some h
  rcases xbq_some h_1 with ⟨r, rfl, h_2⟩ | ⟨a, r, rfl, h_2⟩
  · obtain ⟨t, ht, h_3⟩ := xjmp_some h_2
    obtain ⟨hm, hs⟩ := ih _ _ _ _ _ _ _ _ h_3
    refine ⟨hm, ?_⟩
    intro p e s m args below meth c σ0 C H locs ls hA hl
    obtain ⟨hok, hx, hb, -⟩ := id C
    exact lv_ifnullN hx hb hd ht (hs p e s m args below meth c σ0 C H locs ls hA hl)
  · obtain ⟨hm, hs⟩ := ih _ _ _ _ _ _ _ _ h_2
    refine ⟨hm, ?_⟩
    intro p e s m args below meth c σ0 C H locs ls hA hl
    obtain ⟨hok, hx, hb, -⟩ := id C
    exact lv_ifnull hx hb hd (hs p e s m args below meth c σ0 C H locs ls hA hl)
theorem xs_ifnonnull {off : Int} (ih : xClaim D dT l rec) (hd : decode (xC y) pc = .ok (.ifnonnull off, len)) (h : xl len 3 (xbq st (fun r => rec d y (pc + 3) lo r σ) fun _ r => xjmp pc off fun t => rec d y t lo r σ) = some (o, σf)) : xMono σ σf ∧ xSd D dT l d y pc lo st σ o σf := by
  obtain ⟨rfl, h_1⟩ := xl_some h
  rcases xbq_some h_1 with ⟨r, rfl, h_2⟩ | ⟨a, r, rfl, h_2⟩
  · obtain ⟨hm, hs⟩ := ih _ _ _ _ _ _ _ _ h_2
    refine ⟨hm, ?_⟩
    intro p e s m args below meth c σ0 C H locs ls hA hl
    obtain ⟨hok, hx, hb, -⟩ := id C
    exact lv_ifnonnullN hx hb hd (hs p e s m args below meth c σ0 C H locs ls hA hl)
  · obtain ⟨t, ht, h_3⟩ := xjmp_some h_2
    obtain ⟨hm, hs⟩ := ih _ _ _ _ _ _ _ _ h_3
    refine ⟨hm, ?_⟩
    intro p e s m args below meth c σ0 C H locs ls hA hl
    obtain ⟨hok, hx, hb, -⟩ := id C
    exact lv_ifnonnull hx hb hd ht (hs p e s m args below meth c σ0 C H locs ls hA hl)
theorem xs_tableswitch {df lo0 hi0 : Int} {os : Array Int} (ih : xClaim D dT l rec) (hd : decode (xC y) pc = .ok (.tableswitch df lo0 hi0 os, len)) (h : (xb1 st fun a r => if a.toInt < lo0 ∨ hi0 < a.toInt then xjmp pc df fun t => rec d y t lo r σ else xq os[(a.toInt - lo0).toNat]? fun off => xjmp pc off fun t => rec d y t lo r σ) = some (o, σf)) : xMono σ σf ∧ xSd D dT l d y pc lo st σ o σf := by
  obtain ⟨a, r, rfl, h_1⟩ := xb1_some h
  split at h_1
  · rename_i hc
    obtain ⟨t, ht, h_2⟩ := xjmp_some h_1
    obtain ⟨hm, hs⟩ := ih _ _ _ _ _ _ _ _ h_2
    refine ⟨hm, ?_⟩
    intro p e s m args below meth c σ0 C H locs ls hA hl
    obtain ⟨hok, hx, hb, -⟩ := id C
    exact lv_tableOut hx hb hd hc ht (hs p e s m args below meth c σ0 C H locs ls hA hl)
  · rename_i hc
    obtain ⟨off, ho, h_3⟩ := xq_some h_1
    obtain ⟨t, ht, h_4⟩ := xjmp_some h_3
    obtain ⟨hm, hs⟩ := ih _ _ _ _ _ _ _ _ h_4
    refine ⟨hm, ?_⟩
    intro p e s m args below meth c σ0 C H locs ls hA hl
    obtain ⟨hok, hx, hb, -⟩ := id C
    exact lv_tableIn hx hb hd (fun q => hc (Or.inl q)) (fun q => hc (Or.inr q)) ho ht (hs p e s m args below meth c σ0 C H locs ls hA hl)
theorem xs_lookupswitch {df : Int} {ps : Array (Int × Int)} (ih : xClaim D dT l rec) (hd : decode (xC y) pc = .ok (.lookupswitch df ps, len)) (h : (xb1 st fun a r => xp ((ps.toList.zip (ps.toList.drop 1)).all (fun (a, next) => a.1 < next.1) = true) (xjmp pc (Op.lookupswitch.offset ps.toList df a.toInt) fun t => rec d y t lo r σ)) = some (o, σf)) : xMono σ σf ∧ xSd D dT l d y pc lo st σ o σf := by
  obtain ⟨a, r, rfl, h_1⟩ := xb1_some h
  obtain ⟨hp, h_2⟩ := xp_some h_1
  obtain ⟨t, ht, h_3⟩ := xjmp_some h_2
  obtain ⟨hm, hs⟩ := ih _ _ _ _ _ _ _ _ h_3
  refine ⟨hm, ?_⟩
  intro p e s m args below meth c σ0 C H locs ls hA hl
  obtain ⟨hok, hx, hb, -⟩ := id C
  exact lv_lookup hx hb hd hp rfl ht (hs p e s m args below meth c σ0 C H locs ls hA hl)
theorem xs_getfield {k : Nat} (ih : xClaim D dT l rec) (hd : decode (xC y) pc = .ok (.getfield k, len)) (h : xl len 3 (xq (xfl (xo y) k) fun f => xbr st fun a r => xobj σ.1 a f.1 fun fs => xq fs[f.2]? fun v => rec d y (pc + 3) lo (v :: r) σ) = some (o, σf)) : xMono σ σf ∧ xSd D dT l d y pc lo st σ o σf := by
  obtain ⟨rfl, h_1⟩ := xl_some h
  obtain ⟨f, hf, h_2⟩ := xq_some h_1
  obtain ⟨a, r, rfl, h_3⟩ := xbr_some h_2
  obtain ⟨fs, hfs, h_4⟩ := xobj_some h_3
  obtain ⟨v, hv, h_5⟩ := xq_some h_4
  obtain ⟨hm, hs⟩ := ih _ _ _ _ _ _ _ _ h_5
  refine ⟨hm, ?_⟩
  intro p e s m args below meth c σ0 C H locs ls hA hl
  obtain ⟨hok, hx, hb, hr, hml, hown, hts, hnm, hlocks, htab, hl0, hK, hT⟩ := id C
  obtain ⟨C0, T0, N0, hc, hk, hlink, hdecl, hin, hty, hne, hfin⟩ := x_fl_ok hf
  exact va_get (ws := [(a, .inr (f.1, fs))]) (ref := C0) hx hb hts hin hown hK (hA.1.one hfs) 0 rfl hc f.2 hk (by rw [hok.2.1]; exact hts _ hlink) (by rw [hdecl]; exact fun _ q => q) hv hd (hs p e s m args below meth c σ0 C H locs ls hA hl)
theorem xs_putfield {k : Nat} (ih : xClaim D dT l rec) (hd : decode (xC y) pc = .ok (.putfield k, len)) (h : xl len 3 (xq (xfl (xo y) k) fun f => xbv st fun v q => xbr q fun a r => xobj σ.1 a f.1 fun fs => xp (f.2 < fs.length ∧ xfitb f.1 f.2 v = true ∧ (xfin f.1 f.2 = false ∨ ((xN y).name = "<init>" ∧ xo y = f.1))) (rec d y (pc + 3) lo r (xset σ.1 a (.inr (f.1, fs.set f.2 v)), σ.2))) = some (o, σf)) : xMono σ σf ∧ xSd D dT l d y pc lo st σ o σf := by
  obtain ⟨rfl, h_1⟩ := xl_some h
  obtain ⟨f, hf, h_2⟩ := xq_some h_1
  obtain ⟨v, q, rfl, h_3⟩ := xbv_some h_2
  obtain ⟨a, r, rfl, h_4⟩ := xbr_some h_3
  obtain ⟨fs, hfs, h_5⟩ := xobj_some h_4
  obtain ⟨⟨hlen, hfit, hf0⟩, h_6⟩ := xp_some h_5
  obtain ⟨hm, hs⟩ := ih _ _ _ _ _ _ _ _ h_6
  refine ⟨hm, ?_⟩
  intro p e s m args below meth c σ0 C H locs ls hA hl
  obtain ⟨hok, hx, hb, hr, hml, hown, hts, hnm, hlocks, htab, hl0, hK, hT⟩ := id C
  obtain ⟨C0, T0, N0, hc, hk, hlink, hdecl, hin, hty, hne, hfin⟩ := x_fl_ok hf
  have hap := va_apart (own := (xN y).cls) hts hin (xft f.1) hty hne hK hc
  obtain ⟨r0, h1, cell, q1, q2, q3, q4⟩ := hA.1 a _ hfs
  have hr0 : r0 = (C0, T0, N0) := Option.some.inj (h1.symm.trans hc)
  subst hr0
  obtain ⟨hS, hfc, kC, hkC, hkind⟩ := hK.1 f.1 _ hc
  obtain ⟨cf, kf, fi, fd, hi, hsl⟩ := hS f.2 hk
  have hlay := hts _ (hin _ (u_in_lay hk))
  unfold u_lay at hlay
  have hst := (u_facts hfc hkC (u_lays hts hin hk) hi).1
  have hi2 : s.fieldFound? C0 (T0 f.2).2.1 (T0 f.2).2.2.1 = some (cf, kf, fi, fd) := by rw [← hdecl]; exact hi
  have hlink2 : (Jvm.Cond.fieldLink (xN y).cls k C0 (T0 f.2).2.1 (T0 f.2).2.2.1).before args s = true := by rw [hok.2.1]; exact hts _ hlink
  obtain ⟨hn9, hf9⟩ := x_fit hfit
  have hlt : fd.slot < cell.slots.size := by rw [hsl]; exact k2_hasslot (q4 f.2 hk)
  have fin : ∀ H1 : Heap, H1[a]? = some (cell.setSlot fd.slot v) → H1.size = H.size → (∀ q, q ≠ a → H1[q]? = H[q]?) → xWg D dT p l e s m args below meth c σ0 d o σf σ H1 (locs ++ [⟨a, fd.slot⟩]) (F0 m (pc + 3) ls r) := by
    intro H1 e1 e2 e3
    rw [hsl] at e1
    exact hs p e s m args below meth c σ0 C H1 _ ls (hA.put hfs ⟨_, hc, t_OB.to (V := updV (vp_V fs) f.2 v) ⟨_, e1, q2, q3, t_set q4 hap hk v⟩ (fun j _ => vp_updV_set hlen v j)⟩ e2 e3) hl
  by_cases hfn : (T0 f.2).2.2.2 = true
  · rw [if_pos hfn] at hlay
    have hf1 : (xN y).name = "<init>" ∧ xo y = f.1 := by
      rcases hf0 with h0 | h0
      · rw [hfin, hfn] at h0; cases h0
      · exact h0
    have hcn : (xN y).cls = C0 := by rw [hok.2.1, hf1.2]; exact x_cn hc
    have hcf : m.cls = cf := by
      obtain ⟨_, _, c', _, _, _, -, -, hf', -, -, -, hown2, -⟩ := Cond.laysFinal_spec hlay
      have e1 : c' = cf := by have := hi.symm.trans hf'; simp at this; exact this.1.symm
      rw [hdecl, ← hcn] at hown2
      rw [← e1]; exact Option.some.inj (hown.symm.trans hown2)
    have h6 := u_fits hfc hkC hkind (Or.inr hlay) hi (hty f.2 hk) hn9 hf9
    exact W.putFinK hx hb hown hlink2 hi2 hst hcf (by rw [hnm]; exact hf1.1) (by rw [q2]; exact h6) q1 q3 hlt rfl rfl hd fin
  · rw [if_neg hfn] at hlay
    have h6 := u_store hfc hkC hkind hlay hi (hty f.2 hk) hn9 hf9
    exact W.putK hx hb (f := fd) ⟨hown, hlink2, ⟨_, _, _, hi2⟩, hst⟩ (by rw [q2]; exact h6) q1 q3 hlt rfl rfl hd fin
theorem xs_arraylength (ih : xClaim D dT l rec) (hd : decode (xC y) pc = .ok (.arraylength, len)) (h : xl len 1 (xbr st fun a r => xarr σ.1 a fun t x => xp (t < xty.length) (rec d y (pc + 1) lo (.int (Int32.ofNat x.1) :: r) σ)) = some (o, σf)) : xMono σ σf ∧ xSd D dT l d y pc lo st σ o σf := by
  obtain ⟨rfl, h_1⟩ := xl_some h
  obtain ⟨a, r, rfl, h_2⟩ := xbr_some h_1
  obtain ⟨t, x, hx1, h_3⟩ := xarr_some h_2
  obtain ⟨ht, h_4⟩ := xp_some h_3
  obtain ⟨hm, hs⟩ := ih _ _ _ _ _ _ _ _ h_4
  refine ⟨hm, ?_⟩
  intro p e s m args below meth c σ0 C H locs ls hA hl
  obtain ⟨hok, hx, hb, hr, hml, hown, hts, hnm, hlocks, htab, hl0, hK, hT⟩ := id C
  exact va_alen (ws := [(a, .inl (dT t, x))]) (t0 := t) (q0 := 0) hx hb hK (hA.1.one hx1) rfl (xtys_at dT (List.getElem?_eq_getElem ht)) rfl hd (hs p e s m args below meth c σ0 C H locs ls hA hl)
theorem xs_iaload (ih : xClaim D dT l rec) (hd : decode (xC y) pc = .ok (.iaload, len)) (h : xl len 1 (xb1 st fun i q => xbr q fun a r => xari σ.1 a fun t n f => xp (xty[t]? = some .int ∧ xin i n) (rec d y (pc + 1) lo (.int (f i.toNatClampNeg) :: r) σ)) = some (o, σf)) : xMono σ σf ∧ xSd D dT l d y pc lo st σ o σf := by
  obtain ⟨rfl, h_1⟩ := xl_some h
  obtain ⟨i, q, rfl, h_2⟩ := xb1_some h_1
  obtain ⟨a, r, rfl, h_3⟩ := xbr_some h_2
  obtain ⟨t, n, f, hx1, h_4⟩ := xari_some h_3
  obtain ⟨⟨ht, hi⟩, h_5⟩ := xp_some h_4
  obtain ⟨hm, hs⟩ := ih _ _ _ _ _ _ _ _ h_5
  refine ⟨hm, ?_⟩
  intro p e s m args below meth c σ0 C H locs ls hA hl
  obtain ⟨hok, hx, hb, hr, hml, hown, hts, hnm, hlocks, htab, hl0, hK, hT⟩ := id C
  exact va_iald (ws := [(a, .inl (dT t, n, .inl f))]) (t0 := t) (q0 := 0) hx hb hK (hA.1.one hx1) rfl (xtys_at dT ht) hi hd (hs p e s m args below meth c σ0 C H locs ls hA hl)
theorem xs_baload (ih : xClaim D dT l rec) (hd : decode (xC y) pc = .ok (.baload, len)) (h : xl len 1 (xb1 st fun i q => xbr q fun a r => xari σ.1 a fun t n f => xp (xty[t]? = some .boolean ∧ xin i n) (rec d y (pc + 1) lo (.int (f i.toNatClampNeg) :: r) σ)) = some (o, σf)) : xMono σ σf ∧ xSd D dT l d y pc lo st σ o σf := by
  obtain ⟨rfl, h_1⟩ := xl_some h
  obtain ⟨i, q, rfl, h_2⟩ := xb1_some h_1
  obtain ⟨a, r, rfl, h_3⟩ := xbr_some h_2
  obtain ⟨t, n, f, hx1, h_4⟩ := xari_some h_3
  obtain ⟨⟨ht, hi⟩, h_5⟩ := xp_some h_4
  obtain ⟨hm, hs⟩ := ih _ _ _ _ _ _ _ _ h_5
  refine ⟨hm, ?_⟩
  intro p e s m args below meth c σ0 C H locs ls hA hl
  obtain ⟨hok, hx, hb, hr, hml, hown, hts, hnm, hlocks, htab, hl0, hK, hT⟩ := id C
  exact va_zald (ws := [(a, .inl (dT t, n, .inl f))]) (t0 := t) (q0 := 0) hx hb hK (hA.1.one hx1) rfl (xtys_at dT ht) hi hd (hs p e s m args below meth c σ0 C H locs ls hA hl)
theorem xs_aaload (ih : xClaim D dT l rec) (hd : decode (xC y) pc = .ok (.aaload, len)) (h : xl len 1 (xb1 st fun i q => xbr q fun a r => xarq σ.1 a fun t n f => xp ((xtyo t).isSome = true ∧ xin i n) (rec d y (pc + 1) lo (va_rf (f i.toNatClampNeg) :: r) σ)) = some (o, σf)) : xMono σ σf ∧ xSd D dT l d y pc lo st σ o σf := by
  obtain ⟨rfl, h_1⟩ := xl_some h
  obtain ⟨i, q, rfl, h_2⟩ := xb1_some h_1
  obtain ⟨a, r, rfl, h_3⟩ := xbr_some h_2
  obtain ⟨t, n, f, hx1, h_4⟩ := xarq_some h_3
  obtain ⟨⟨ht, hi⟩, h_5⟩ := xp_some h_4
  obtain ⟨hm, hs⟩ := ih _ _ _ _ _ _ _ _ h_5
  refine ⟨hm, ?_⟩
  intro p e s m args below meth c σ0 C H locs ls hA hl
  obtain ⟨hok, hx, hb, hr, hml, hown, hts, hnm, hlocks, htab, hl0, hK, hT⟩ := id C
  obtain ⟨cv, hcv⟩ := Option.isSome_iff_exists.mp ht
  obtain ⟨r0, hc, hty⟩ := x_tyo_ok hcv
  exact va_aldq (ws := [(a, .inl (dT t, n, .inr (.inr (.inr (.inr f)))))]) (t0 := t) (q0 := 0) (C := r0.1) hx hb hK (hA.1.one hx1) rfl (xtys_at dT hty) hi hd (hs p e s m args below meth c σ0 C H locs ls hA hl)
theorem xs_iastore (ih : xClaim D dT l rec) (hd : decode (xC y) pc = .ok (.iastore, len)) (h : xl len 1 (xb2 st fun i x q => xbr q fun a r => xari σ.1 a fun t n f => xp (xty[t]? = some .int ∧ xin i n) (rec d y (pc + 1) lo r (xset σ.1 a (.inl (t, n, .inl (upd f i.toNatClampNeg x))), σ.2))) = some (o, σf)) : xMono σ σf ∧ xSd D dT l d y pc lo st σ o σf := by
  obtain ⟨rfl, h_1⟩ := xl_some h
  obtain ⟨i, x, q, rfl, h_2⟩ := xb2_some h_1
  obtain ⟨a, r, rfl, h_3⟩ := xbr_some h_2
  obtain ⟨t, n, f, hx1, h_4⟩ := xari_some h_3
  obtain ⟨⟨ht, hi⟩, h_5⟩ := xp_some h_4
  obtain ⟨hm, hs⟩ := ih _ _ _ _ _ _ _ _ h_5
  refine ⟨hm, ?_⟩
  intro p e s m args below meth c σ0 C H locs ls hA hl
  obtain ⟨hok, hx, hb, hr, hml, hown, hts, hnm, hlocks, htab, hl0, hK, hT⟩ := id C
  have hcell : H[a]? = some (vp_cell (dT t) (n, .inl f)) := hA.1 a _ hx1
  refine W.iast hx hb hcell ((hK.2 t _ (xtys_at dT ht)).1 n (fun j => .int (f j))) (fun q => by cases q) (by show ¬ (i < 0 ∨ (arrV _ _ _).slots.size ≤ _); rw [arrV_size]; exact hi) rfl rfl hd fun H1 e1 z oq => ?_
  refine hs p e s m args below meth c σ0 C H1 _ ls (hA.put hx1 ?_ z oq) hl
  show H1[a]? = some (vp_cell _ _)
  rw [e1]
  rw [vp_cell_i, vp_cell_i, arrV_store]
  congr 2
  funext q
  by_cases hq : q = i.toNatClampNeg
  · subst hq
    simp [updV, upd]
  · simp [updV, upd, hq]
theorem xs_bastore (ih : xClaim D dT l rec) (hd : decode (xC y) pc = .ok (.bastore, len)) (h : xl len 1 (xb2 st fun i x q => xbr q fun a r => xari σ.1 a fun t n f => xp (xty[t]? = some .boolean ∧ xin i n) (rec d y (pc + 1) lo r (xset σ.1 a (.inl (t, n, .inl (upd f i.toNatClampNeg (x &&& 1)))), σ.2))) = some (o, σf)) : xMono σ σf ∧ xSd D dT l d y pc lo st σ o σf := by
  obtain ⟨rfl, h_1⟩ := xl_some h
  obtain ⟨i, x, q, rfl, h_2⟩ := xb2_some h_1
  obtain ⟨a, r, rfl, h_3⟩ := xbr_some h_2
  obtain ⟨t, n, f, hx1, h_4⟩ := xari_some h_3
  obtain ⟨⟨ht, hi⟩, h_5⟩ := xp_some h_4
  obtain ⟨hm, hs⟩ := ih _ _ _ _ _ _ _ _ h_5
  refine ⟨hm, ?_⟩
  intro p e s m args below meth c σ0 C H locs ls hA hl
  obtain ⟨hok, hx, hb, hr, hml, hown, hts, hnm, hlocks, htab, hl0, hK, hT⟩ := id C
  have hcell : H[a]? = some (vp_cell (dT t) (n, .inl f)) := hA.1 a _ hx1
  refine W.zast hx hb hcell ((hK.2 t _ (xtys_at dT ht)).1 n (fun j => .int (f j))) (fun q => by cases q) (by show ¬ (i < 0 ∨ (arrV _ _ _).slots.size ≤ _); rw [arrV_size]; exact hi) rfl rfl hd fun H1 e1 z oq => ?_
  refine hs p e s m args below meth c σ0 C H1 _ ls (hA.put hx1 ?_ z oq) hl
  show H1[a]? = some (vp_cell _ _)
  rw [e1]
  rw [vp_cell_i, vp_cell_i, arrV_store]
  congr 2
  funext q
  by_cases hq : q = i.toNatClampNeg
  · subst hq
    simp [updV, upd]
    try rfl
  · simp [updV, upd, hq]
theorem xs_aastore (ih : xClaim D dT l rec) (hd : decode (xC y) pc = .ok (.aastore, len)) (h : xl len 1 (xbq st
      (fun q => xb1 q fun i q2 => xbr q2 fun a r => xarq σ.1 a fun t n f => xp ((xtyo t).isSome = true ∧ xin i n) (rec d y (pc + 1) lo r (xset σ.1 a (.inl (t, n, .inr (.inr (.inr (.inr (va_up f i.toNatClampNeg none)))))), σ.2)))
      fun v q => xb1 q fun i q2 => xbr q2 fun a r => xarq σ.1 a fun t n f => xq (xtyo t) fun cv => xobj σ.1 v cv fun _ => xp (xin i n) (rec d y (pc + 1) lo r (xset σ.1 a (.inl (t, n, .inr (.inr (.inr (.inr (va_up f i.toNatClampNeg (some v))))))), σ.2))) = some (o, σf)) : xMono σ σf ∧ xSd D dT l d y pc lo st σ o σf := by
  obtain ⟨rfl, h_1⟩ := xl_some h
  rcases xbq_some h_1 with ⟨q, rfl, h_2⟩ | ⟨v, q, rfl, h_2⟩
  · obtain ⟨i, q2, rfl, h_3⟩ := xb1_some h_2
    obtain ⟨a, r, rfl, h_4⟩ := xbr_some h_3
    obtain ⟨t, n, f, hx1, h_5⟩ := xarq_some h_4
    obtain ⟨⟨ht, hi⟩, h_6⟩ := xp_some h_5
    obtain ⟨hm, hs⟩ := ih _ _ _ _ _ _ _ _ h_6
    refine ⟨hm, ?_⟩
    intro p e s m args below meth c σ0 C H locs ls hA hl
    obtain ⟨hok, hx, hb, hr, hml, hown, hts, hnm, hlocks, htab, hl0, hK, hT⟩ := id C
    obtain ⟨cv, hcv⟩ := Option.isSome_iff_exists.mp ht
    obtain ⟨r0, hc, hty⟩ := x_tyo_ok hcv
    have hcell : H[a]? = some (vp_cell (dT t) (n, .inr (.inr (.inr (.inr f))))) := hA.1 a _ hx1
    refine va_WaastN (C := r0.1) hx hb hcell ((hK.2 t _ (xtys_at dT hty)).1 n (fun j => va_rf (f j))) (fun h_6 => by cases h_6) (by show ¬ (i < 0 ∨ (arrV _ _ _).slots.size ≤ _); rw [arrV_size]; exact hi) rfl rfl hd fun H1 e1 z oq => ?_
    refine hs p e s m args below meth c σ0 C H1 _ ls (hA.put hx1 ?_ z oq) hl
    show H1[a]? = some (vp_cell _ _)
    rw [e1]
    rw [vp_cell_q, vp_cell_q, arrV_store]
    congr 2
    funext q
    by_cases hq : q = i.toNatClampNeg
    · subst hq
      simp [updV, va_up, va_rf]
    · simp [updV, va_up, hq]
  · obtain ⟨i, q2, rfl, h_7⟩ := xb1_some h_2
    obtain ⟨a, r, rfl, h_8⟩ := xbr_some h_7
    obtain ⟨t, n, f, hx1, h_9⟩ := xarq_some h_8
    obtain ⟨cv, hcv, h_10⟩ := xq_some h_9
    obtain ⟨vs, hv1, h_11⟩ := xobj_some h_10
    obtain ⟨hi, h_12⟩ := xp_some h_11
    obtain ⟨hm, hs⟩ := ih _ _ _ _ _ _ _ _ h_12
    refine ⟨hm, ?_⟩
    intro p e s m args below meth c σ0 C H locs ls hA hl
    obtain ⟨hok, hx, hb, hr, hml, hown, hts, hnm, hlocks, htab, hl0, hK, hT⟩ := id C
    obtain ⟨r0, hc, hty⟩ := x_tyo_ok hcv
    have hcell : H[a]? = some (vp_cell (dT t) (n, .inr (.inr (.inr (.inr f))))) := hA.1 a _ hx1
    have hlt : i.toNatClampNeg < n := Nat.not_le.mp fun q => hi (Or.inr q)
    have h0 : ¬ i < 0 := fun q => hi (Or.inl q)
    obtain ⟨r', hr', cellV, g1, g2, g3, -⟩ := hA.1 v _ hv1
    have hcls := (hK.1 cv r0 hc).2
    obtain ⟨kA, comp, k1, k2, k3, -⟩ := (hK.2 t _ (xtys_at dT hty)).2
    have hcomp : comp = D.1 cv := Option.some.inj (k3.symm.trans hcls.1)
    subst hcomp
    obtain ⟨kC, hkC, -⟩ := hcls.2
    refine W.aast hx hb hcell (fun q h_12 => by cases h_12) (fun h_12 => by cases h_12) k1 k2 rfl hkC ⟨h0, by show _ < (arrV _ _ _).slots.size; rw [arrV_size]; exact hlt⟩ g1 (fun q h_12 => by rw [g3] at h_12; cases h_12) (by rw [g2]; exact hkC) (by rw [g2]; exact va_assign hcls) rfl rfl hd fun H1 e1 z oq => ?_
    refine hs p e s m args below meth c σ0 C H1 _ ls (hA.put hx1 ?_ z oq) hl
    show H1[a]? = some (vp_cell _ _)
    rw [e1]
    rw [vp_cell_q, vp_cell_q, arrV_store]
    congr 2
    funext q
    by_cases hq : q = i.toNatClampNeg
    · subst hq
      simp [updV, va_up, va_rf]
    · simp [updV, va_up, hq]
theorem xs_newarrayI (ih : xClaim D dT l rec) (hd : decode (xC y) pc = .ok (.newarray .int, len)) (h : xl len 2 (xb1 st fun n r => xp (¬ n < 0 ∧ n.toNatClampNeg ≤ 100000) (rec d y (pc + 2) lo (.ref σ.2.1 :: r) (xset σ.1 σ.2.1 (.inl (0, n.toNatClampNeg, .inl fun _ => 0)), σ.2.1 + 1, σ.2.2 + n.toNatClampNeg))) = some (o, σf)) : xMono σ σf ∧ xSd D dT l d y pc lo st σ o σf := by
  obtain ⟨rfl, h_1⟩ := xl_some h
  obtain ⟨n, r, rfl, h_2⟩ := xb1_some h_1
  obtain ⟨⟨hn, hN⟩, h_3⟩ := xp_some h_2
  obtain ⟨⟨hm1, hm2⟩, hs⟩ := ih _ _ _ _ _ _ _ _ h_3
  have hm1 : σ.2.1 + 1 ≤ σf.2.1 := hm1
  have hm2 : σ.2.2 + n.toNatClampNeg ≤ σf.2.2 := hm2
  refine ⟨⟨by omega, by omega⟩, ?_⟩
  intro p e s m args below meth c σ0 C H locs ls hA hl
  obtain ⟨hok, hx, hb, hr, hml, hown, hts, hnm, hlocks, htab, hl0, hK, hT⟩ := id C
  obtain ⟨hP, hz, hS, hdom, hs0, hle1, hle2⟩ := id hA
  refine va_newaK (atype := .int) (N := n.toNatClampNeg) hx hb (hts _ x_arr_int) (g := F0 m pc ls (.int n :: r)) rfl hd rfl hn rfl (by show _ * 4 ≤ _; omega) (by show _ ≤ σf.2.1 - σ0.2.1; omega) (by show _ ≤ σf.2.2 - σ0.2.2; omega) hz fun H1 cA e1 z1 o1 hAr hNm => ?_
  have hcA : cA = dT 0 := Option.some.inj (hNm.symm.trans (hK.2 0 _ (xtys_at dT x_ty_int)).2)
  subst hcA
  exact W.cs (by show _ = σ.2.1 + 1 - σ0.2.1; omega) (by show _ = σ.2.2 + _ - σ0.2.2; omega) (hs p e s m args below meth c σ0 C H1 locs ls (hA.new (by show H1[H.size]? = some (vp_cell _ _); rw [hz, e1]; rfl) (by rw [z1, hz]) (fun q hq => o1 q (by omega))) hl)
theorem xs_newarrayZ (ih : xClaim D dT l rec) (hd : decode (xC y) pc = .ok (.newarray .boolean, len)) (h : xl len 2 (xb1 st fun n r => xp (¬ n < 0 ∧ n.toNatClampNeg ≤ 100000) (rec d y (pc + 2) lo (.ref σ.2.1 :: r) (xset σ.1 σ.2.1 (.inl (1, n.toNatClampNeg, .inl fun _ => 0)), σ.2.1 + 1, σ.2.2 + n.toNatClampNeg))) = some (o, σf)) : xMono σ σf ∧ xSd D dT l d y pc lo st σ o σf := by
  obtain ⟨rfl, h_1⟩ := xl_some h
  obtain ⟨n, r, rfl, h_2⟩ := xb1_some h_1
  obtain ⟨⟨hn, hN⟩, h_3⟩ := xp_some h_2
  obtain ⟨⟨hm1, hm2⟩, hs⟩ := ih _ _ _ _ _ _ _ _ h_3
  have hm1 : σ.2.1 + 1 ≤ σf.2.1 := hm1
  have hm2 : σ.2.2 + n.toNatClampNeg ≤ σf.2.2 := hm2
  refine ⟨⟨by omega, by omega⟩, ?_⟩
  intro p e s m args below meth c σ0 C H locs ls hA hl
  obtain ⟨hok, hx, hb, hr, hml, hown, hts, hnm, hlocks, htab, hl0, hK, hT⟩ := id C
  obtain ⟨hP, hz, hS, hdom, hs0, hle1, hle2⟩ := id hA
  refine va_newaK (atype := .boolean) (N := n.toNatClampNeg) hx hb (hts _ x_arr_bool) (g := F0 m pc ls (.int n :: r)) rfl hd rfl hn rfl (by show _ * 1 ≤ _; omega) (by show _ ≤ σf.2.1 - σ0.2.1; omega) (by show _ ≤ σf.2.2 - σ0.2.2; omega) hz fun H1 cA e1 z1 o1 hAr hNm => ?_
  have hcA : cA = dT 1 := Option.some.inj (hNm.symm.trans (hK.2 1 _ (xtys_at dT x_ty_bool)).2)
  subst hcA
  exact W.cs (by show _ = σ.2.1 + 1 - σ0.2.1; omega) (by show _ = σ.2.2 + _ - σ0.2.2; omega) (hs p e s m args below meth c σ0 C H1 locs ls (hA.new (by show H1[H.size]? = some (vp_cell _ _); rw [hz, e1]; rfl) (by rw [z1, hz]) (fun q hq => o1 q (by omega))) hl)
theorem xs_anewarray {k : Nat} (ih : xClaim D dT l rec) (hd : decode (xC y) pc = .ok (.anewarray k, len)) (h : xl len 3 (xq (xac (xo y) k) fun t => xb1 st fun n r => xp (¬ n < 0 ∧ n.toNatClampNeg ≤ 100000) (rec d y (pc + 3) lo (.ref σ.2.1 :: r) (xset σ.1 σ.2.1 (.inl (t, n.toNatClampNeg, .inr (.inr (.inr (.inr fun _ => none))))), σ.2.1 + 1, σ.2.2 + n.toNatClampNeg))) = some (o, σf)) : xMono σ σf ∧ xSd D dT l d y pc lo st σ o σf := by
  obtain ⟨rfl, h_1⟩ := xl_some h
  obtain ⟨t, ht, h_2⟩ := xq_some h_1
  obtain ⟨n, r, rfl, h_3⟩ := xb1_some h_2
  obtain ⟨⟨hn, hN⟩, h_4⟩ := xp_some h_3
  obtain ⟨⟨hm1, hm2⟩, hs⟩ := ih _ _ _ _ _ _ _ _ h_4
  have hm1 : σ.2.1 + 1 ≤ σf.2.1 := hm1
  have hm2 : σ.2.2 + n.toNatClampNeg ≤ σf.2.2 := hm2
  refine ⟨⟨by omega, by omega⟩, ?_⟩
  intro p e s m args below meth c σ0 C H locs ls hA hl
  obtain ⟨hok, hx, hb, hr, hml, hown, hts, hnm, hlocks, htab, hl0, hK, hT⟩ := id C
  obtain ⟨hP, hz, hS, hdom, hs0, hle1, hle2⟩ := id hA
  obtain ⟨C0, hty, hlink⟩ := x_ac_ok ht
  have hover := hT.2.2.2.2 t C0 hty
  refine W.anew hx hb hown (by rw [hok.2.1]; exact hts _ hlink) (va_AO.use hover) (g := F0 m pc ls (.int n :: r)) rfl hd rfl hn (by omega) (by show _ ≤ σf.2.1 - σ0.2.1; omega) (by show _ ≤ σf.2.2 - σ0.2.2; omega) fun cA kA comp f1 f2 f3 f4 => ?_
  obtain ⟨kA2, comp2, g1, g2, g3, g4⟩ := (hK.2 t _ (xtys_at dT hty)).2
  have hcA : cA = dT t := Option.some.inj (f1.symm.trans g4)
  subst hcA
  generalize hH1 : H.push ({ cls := dT t, slots := Array.replicate n.toNatClampNeg .null, vm := .none } : Cell) = H1
  have z1 : H1.size = H.size + 1 := by rw [← hH1, Array.size_push]
  have e1 : H1[H.size]? = some (arrV (dT t) n.toNatClampNeg (fun _ => .null)) := by rw [← hH1, Array.getElem?_push_size, ← arrV_new]
  have o1 : ∀ q : Nat, q < H.size → H1[q]? = H[q]? := fun q hq => by rw [← hH1, Array.getElem?_push, if_neg (Nat.ne_of_lt hq)]
  rw [hz]
  exact W.cs (by show _ = σ.2.1 + 1 - σ0.2.1; omega) (by show _ = σ.2.2 + _ - σ0.2.2; omega) (hs p e s m args below meth c σ0 C H1 locs ls (hA.new (by show H1[H.size]? = some (vp_cell _ _); rw [e1]; rfl) z1 o1) hl)
theorem xs_throw {E : xTs} (hE : xth y pc = some E) (hw : xwt st ≤ 8) : xSd D dT l d y pc lo st σ (.inr E.2.1) (σ.1, σ.2.1 + 1, σ.2.2 + 6) := by
  intro p e s m args below meth c σ0 C H locs ls hA hl
  obtain ⟨hok, hx, hb, hr, hml, hown, hts, hnm, hlocks, htab, hl0, hK, hT⟩ := id C
  obtain ⟨hP, hz, hS, hdom, hs0, hle1, hle2⟩ := id hA
  have hmem : E ∈ xtl y := List.mem_of_find?_eq_some hE
  have hpc : E.1 = pc := by
    have := List.find?_some hE
    simpa using this
  have hall := List.all_eq_true.mp (List.all_eq_true.mp x_ts_all y hok.2.2.2.2.2.2.2) E hmem
  subst hpc
  simp only [x_tsC, Bool.and_eq_true, decide_eq_true_eq, List.any_eq_true] at hall
  obtain ⟨⟨⟨⟨⟨c1, c2⟩, c3⟩, c4⟩, ⟨t, ht, e1, e2, e3⟩⟩, ⟨u, hu, f1, f2⟩⟩ := hall
  have hth := x_th_all t ht
  simp only [x_thC, Bool.and_eq_true] at hth
  obtain ⟨⟨⟨⟨g1, g2⟩, g3⟩, g4⟩, g5⟩ := hth
  rw [e1] at g1 g2 g3 g4 g5
  rw [e2] at g4 g5
  rw [e3] at g2 g5
  have hown9 : s.vm.findClass "LoanTerms" = some m.cls := by rw [← c1]; exact hown
  obtain ⟨sa, hstr⟩ := hT.2.2.2.1 u hu
  rw [f1, f2] at hstr
  have hat : ∀ w ∈ vx_atS "LoanTerms" E.2.2.2.2.1 E.2.1 xnames, w.before args s = true := by
    intro w hw
    have h9 := List.all_eq_true.mp g4 w hw
    simp only [x_thW, Bool.or_eq_true, Bool.and_eq_true, decide_eq_true_eq] at h9
    rcases h9 with ⟨a1, a2⟩ | ⟨a1, a2⟩
    · exact hts w (List.mem_filter.mpr ⟨a2, a1⟩)
    · exact va_Nw.use (xk_on a1) (hT.2.2.1 w (List.mem_filter.mpr ⟨a2, a1⟩))
  have hgood : ∀ w ∈ Jvm.Cond.classLink "LoanTerms" E.2.2.1 E.2.1 :: Jvm.Cond.initialized E.2.1 :: vx_atS "LoanTerms" E.2.2.2.2.1 E.2.1 xnames, vx_ot w = true := fun w hw => List.all_eq_true.mp g5 w hw
  have hXX : ∀ t : State, s.vm.Alike t.vm → H.size ≤ t.heap.size → (∀ q : Nat, q < H.size → t.heap[q]? = H[q]?) → xX D dT (.inr E.2.1) (σ.1, σ.2.1 + 1, σ.2.2 + 6) σ0 E.2.1 s t := fun t _ hsz hq => ⟨rfl, hP.kept hq, hdom, ⟨Nat.le_trans hS.1 hsz, fun q h1 h2 => by rw [hq q (Nat.lt_of_lt_of_le h1 hS.1)]; exact hS.2.1 q h1 h2⟩⟩
  by_cases hwide : E.2.2.2.2.2.2 = true
  · rw [if_pos hwide] at c4
    simp only [Bool.and_eq_true, decide_eq_true_eq] at c4
    obtain ⟨⟨d4, d7⟩, d10⟩ := c4
    exact vx_throwSW (own := "LoanTerms") (cls := E.2.1) (names := xnames) hx hb hl0 hown9 g1 (by decide +kernel) (hts _ (x_at_in g2 rfl)) (hts _ (x_at_in g3 rfl)) hstr hat hgood hT.1 hT.2.1 hS (hl.2.1.trans hml.symm) c2 c3 d4 d7 d10 (fun x hx9 => (htab x hx9).elim) (by show 2 + 3 < d + 12; omega) (by show xwt st + (13 * (2 + 1) + 43) ≤ d * 64 + 200; omega) (by show _ ≤ σ.2.1 + 1 - σ0.2.1; omega) (by show _ ≤ σ.2.2 + 6 - σ0.2.2; omega) hlocks hXX hS.2.2 (by show _ ≤ σ.2.1 + 1 - σ0.2.1; omega) (by show _ ≤ σ.2.2 + 6 - σ0.2.2; omega)
  · rw [if_neg hwide] at c4
    simp only [Bool.and_eq_true, decide_eq_true_eq] at c4
    obtain ⟨⟨d4, d6⟩, d9⟩ := c4
    exact vx_throwS (own := "LoanTerms") (cls := E.2.1) (names := xnames) hx hb hl0 hown9 g1 (by decide +kernel) (hts _ (x_at_in g2 rfl)) (hts _ (x_at_in g3 rfl)) hstr hat hgood hT.1 hT.2.1 hS (hl.2.1.trans hml.symm) c2 c3 d4 d6 d9 (fun x hx9 => (htab x hx9).elim) (by show 2 + 3 < d + 12; omega) (by show xwt st + (13 * (2 + 1) + 43) ≤ d * 64 + 200; omega) (by show _ ≤ σ.2.1 + 1 - σ0.2.1; omega) (by show _ ≤ σ.2.2 + 6 - σ0.2.2; omega) hlocks hXX hS.2.2 (by show _ ≤ σ.2.1 + 1 - σ0.2.1; omega) (by show _ ≤ σ.2.2 + 6 - σ0.2.2; omega)
theorem xs_new {k : Nat} (ih : xClaim D dT l rec) (hd : decode (xC y) pc = .ok (.new k, len)) (h : xl len 3 (match xth y pc with
      | some q => xp (xwt st ≤ 8) (some (.inr q.2.1, (σ.1, σ.2.1 + 1, σ.2.2 + 6)))
      | none => xq (xnw (xo y) k) fun ci => rec d y (pc + 3) lo (.ref σ.2.1 :: st) (xset σ.1 σ.2.1 (.inr (ci, xdf ci)), σ.2.1 + 1, σ.2.2 + (xdf ci).length)) = some (o, σf)) : xMono σ σf ∧ xSd D dT l d y pc lo st σ o σf := by
  obtain ⟨rfl, h_1⟩ := xl_some h
  split at h_1
  · rename_i E hE
    obtain ⟨hw, h_2⟩ := xp_some h_1
    cases h_2
    refine ⟨⟨by show σ.2.1 ≤ σ.2.1 + 1; omega, by show σ.2.2 ≤ σ.2.2 + 6; omega⟩, ?_⟩
    exact xs_throw hE hw
  · obtain ⟨ci, hci, h_3⟩ := xq_some h_1
    obtain ⟨⟨hm1, hm2⟩, hs⟩ := ih _ _ _ _ _ _ _ _ h_3
    have hm1 : σ.2.1 + 1 ≤ σf.2.1 := hm1
    have hm2 : σ.2.2 + (xdf ci).length ≤ σf.2.2 := hm2
    refine ⟨⟨by omega, by omega⟩, ?_⟩
    intro p e s m args below meth c σ0 C H locs ls hA hl
    obtain ⟨hok, hx, hb, hr, hml, hown, hts, hnm, hlocks, htab, hl0, hK, hT⟩ := id C
    obtain ⟨hP, hz, hS, hdom, hs0, hle1, hle2⟩ := id hA
    obtain ⟨C0, T0, N0, hc, hlink, hins, hini, hin, hty, hdf, hlen⟩ := x_nw_ok hci
    have hKn := hK.1 ci _ hc
    refine W.newcK hx hb hown (by rw [hok.2.1]; exact hts _ hlink) (hts _ hins) (hts _ hini) (g := F0 m pc ls st) rfl hd (by show _ ≤ σf.2.1 - σ0.2.1; omega) (by show _ ≤ σf.2.2 - σ0.2.2; omega) hKn.2.1 rfl fun H1 kC hkC e1 z1 o1 => ?_
    rw [hz]
    exact W.cs (by show _ = σ.2.1 + 1 - σ0.2.1; omega) (by show _ = σ.2.2 + _ - σ0.2.2; omega) (hs p e s m args below meth c σ0 C H1 locs ls (hA.new ⟨_, hc, (u_born (xft ci) hts hin hKn hkC e1 hty).to hdf⟩ z1 o1) hl)
theorem xs_end {p : Program} {e : Env} {s : State} {m : MethodId} {args : Array Value} {below : List Frame} {meth : Method} {c : Code} {σ0 : xS} {H : Heap} {locs : List Loc} (hA : xAt D dT s σ0 σ H locs) {v : Option Value} (t : State) (ht : t.heap = H) : xQ D dT (.inl v) σ σ0 args s (.returned v) t :=
  ⟨⟨v, rfl, rfl⟩, by rw [ht]; exact hA.1, by rw [ht]; exact hA.2.1, hA.2.2.2.1, hA.2.2.1.F ht⟩
theorem xs_ireturn (hd : decode (xC y) pc = .ok (.ireturn, len)) (h : xl len 1 (match st with
      | [.int v] => (match xR y with
          | some .int => some (.inl (some (.int v)), σ)
          | some .boolean => xp (v = 0 ∨ v = 1) (some (.inl (some (.int v)), σ))
          | _ => none)
      | _ => none) = some (o, σf)) : xMono σ σf ∧ xSd D dT l d y pc lo st σ o σf := by
  obtain ⟨rfl, h_1⟩ := xl_some h
  split at h_1
  · rename_i v
    split at h_1
    · rename_i hR
      cases h_1
      refine ⟨⟨Nat.le_refl _, Nat.le_refl _⟩, ?_⟩
      intro p e s m args below meth c σ0 C H locs ls hA hl
      obtain ⟨hok, hx, hb, hr, hml, hown, hts, hnm, hlocks, htab, hl0, hK, hT⟩ := id C
      exact vx_ret (W.iret hx hb (by rw [hr, hR]) (fun t ht _ => xs_end (p := p) (e := e) (m := m) (below := below) (meth := meth) (c := c) hA t ht) hA.2.2.1.2.2 hd hlocks)
    · rename_i hR
      obtain ⟨hv, h_2⟩ := xp_some h_1
      cases h_2
      refine ⟨⟨Nat.le_refl _, Nat.le_refl _⟩, ?_⟩
      intro p e s m args below meth c σ0 C H locs ls hA hl
      obtain ⟨hok, hx, hb, hr, hml, hown, hts, hnm, hlocks, htab, hl0, hK, hT⟩ := id C
      exact vx_ret (W.zret (ty := .boolean) hx hb (by rw [hr, hR]) (by rcases hv with rfl | rfl <;> rfl) (fun t ht _ => xs_end (p := p) (e := e) (m := m) (below := below) (meth := meth) (c := c) hA t ht) hA.2.2.1.2.2 hd hlocks)
    · cases h_1
  · cases h_1
theorem xs_areturn (hd : decode (xC y) pc = .ok (.areturn, len)) (h : xl len 1 (match st with
      | [.null] => xp (xrq (xR y) = true) (some (.inl (some .null), σ))
      | [.ref a] => xp (xrq (xR y) = true) (some (.inl (some (.ref a)), σ))
      | _ => none) = some (o, σf)) : xMono σ σf ∧ xSd D dT l d y pc lo st σ o σf := by
  obtain ⟨rfl, h_1⟩ := xl_some h
  have key : ∀ r : Option FieldType, xrq r = true → ∃ rt, r = some rt ∧ ((∃ n, rt = .object n) ∨ ∃ t, rt = .array t) := by
    intro r hr
    unfold xrq at hr
    split at hr
    · exact ⟨_, rfl, Or.inl ⟨_, rfl⟩⟩
    · exact ⟨_, rfl, Or.inr ⟨_, rfl⟩⟩
    · cases hr
  split at h_1
  · obtain ⟨hq, h_2⟩ := xp_some h_1
    cases h_2
    refine ⟨⟨Nat.le_refl _, Nat.le_refl _⟩, ?_⟩
    intro p e s m args below meth c σ0 C H locs ls hA hl
    obtain ⟨hok, hx, hb, hr, hml, hown, hts, hnm, hlocks, htab, hl0, hK, hT⟩ := id C
    obtain ⟨rt, h1, h2⟩ := key _ hq
    exact vx_ret (W.aret (v := .null) hx hb (by rw [hr, h1]) h2 (Or.inl rfl) (fun t ht _ => xs_end (p := p) (e := e) (m := m) (below := below) (meth := meth) (c := c) hA t ht) hA.2.2.1.2.2 hd hlocks)
  · rename_i a
    obtain ⟨hq, h_3⟩ := xp_some h_1
    cases h_3
    refine ⟨⟨Nat.le_refl _, Nat.le_refl _⟩, ?_⟩
    intro p e s m args below meth c σ0 C H locs ls hA hl
    obtain ⟨hok, hx, hb, hr, hml, hown, hts, hnm, hlocks, htab, hl0, hK, hT⟩ := id C
    obtain ⟨rt, h1, h2⟩ := key _ hq
    exact vx_ret (W.aret (v := .ref a) hx hb (by rw [hr, h1]) h2 (Or.inr ⟨_, rfl⟩) (fun t ht _ => xs_end (p := p) (e := e) (m := m) (below := below) (meth := meth) (c := c) hA t ht) hA.2.2.1.2.2 hd hlocks)
  · cases h_1
theorem xs_return (hd : decode (xC y) pc = .ok (.return_, len)) (h : xl len 1 (match st with
      | [] => xp (xR y = none) (some (.inl none, σ))
      | _ => none) = some (o, σf)) : xMono σ σf ∧ xSd D dT l d y pc lo st σ o σf := by
  obtain ⟨rfl, h_1⟩ := xl_some h
  split at h_1
  · obtain ⟨hR, h_2⟩ := xp_some h_1
    cases h_2
    refine ⟨⟨Nat.le_refl _, Nat.le_refl _⟩, ?_⟩
    intro p e s m args below meth c σ0 C H locs ls hA hl
    obtain ⟨hok, hx, hb, hr, hml, hown, hts, hnm, hlocks, htab, hl0, hK, hT⟩ := id C
    exact vx_ret (W.vret hx hb (by rw [hr, hR]) (fun t ht _ => xs_end (p := p) (e := e) (m := m) (below := below) (meth := meth) (c := c) hA t ht) hA.2.2.1.2.2 hd hlocks)
  · cases h_1
/-! calls -/
def xWs (z : xMt) : List Jvm.Cond := Jvm.Cond.code (xN z) (xC z) (xm z) (xR z) :: xTB
def xPre (D : va_G) (dT : Nat → ClassId) (σ : xS) (U : State) : Prop := U.heap.size = σ.2.1 ∧ xHp D dT σ.1 U.heap ∧ va_K D vwCl (xtys dT) U ∧ xTh (xA σ) U
theorem x_met (hl0 : l.stackTraces = false) (ih : xClaim D dT l rec) {z : xMt} {As : List Value} {o1 : xO} {σ1 : xS} (hz : xOk z) (h : rec d z 0 (xlo As (xm z)) [] σ = some (o1, σ1)) (hc : ∀ v ∈ As, v.category = 1) (hn : As.length ≤ xm z) :
    vx_Met l (xN z) (xWs z) (xRm d (σ1.2.1 - σ.2.1) (σ1.2.2 - σ.2.2)) (va_Pc As (xPre D dT σ)) (xQ D dT o1 σ1 σ) (xX D dT o1 σ1 σ) (σ1.2.1 - σ.2.1) (σ1.2.2 - σ.2.2) (xA σ) := by
  refine vx_ofW (cc := xC z) (maxL := xm z) (ret := xR z) hz.2.2.2.1 rfl ?_
  intro p e s m args below meth c s₁ B hml htab hv
  obtain ⟨rfl, hsz, hP, hK, hT⟩ := hv
  rw [lg_entry_eq]
  have hts := atoms_spec (ws := xWs z) B.pre
  obtain ⟨-, hs⟩ := ih _ _ _ _ _ _ _ _ h
  have hA : xAt D dT s σ σ s.heap [] := ⟨hP, hsz, va_S.rf, fun q hq => Or.inl hq, hsz, Nat.le_refl _, Nat.le_refl _⟩
  have C : xCx D dT l p s m As.toArray meth c z σ := ⟨hz, B.exec, B.bytes, B.returns, hml, findClass_of_methodNamed B.named, fun w hw => hts w (List.mem_cons_of_mem _ hw), (name_of_methodNamed B.named B.method).1, B.notSynchronized, htab, hl0, hK, hT⟩
  exact W.cs (Nat.sub_self _).symm (Nat.sub_self _).symm (hs p e s m _ below meth c σ C s.heap [] _ hA (xRl.entry hc hn))
theorem x_metI {y9 : MethodName} {ws : List Jvm.Cond} {rm : Room} {Pc : Array Value → State → Prop} {v : Option Value} {σ1 : xS} {mc ms : Nat} {free : Addr → Prop} (h : vx_Met l y9 ws rm Pc (xQ D dT (.inl v) σ1 σ) (xX D dT (.inl v) σ1 σ) mc ms free) : Met l y9 ws rm Pc (xQ D dT (.inl v) σ1 σ) mc ms free := by
  intro p e ha hc hk s m args below hf happ hP hKK
  obtain ⟨n, oc, h1, h2, h3, h4⟩ := h p e ha hc hk s m args below hf happ hP hKK
  refine ⟨n, oc, h1, h2, h3, ?_⟩
  rcases h4 with h4 | ⟨q, -, E, ce, L, hX, -⟩
  · exact h4
  · exact absurd hX.1 (fun h => by cases h)
theorem xPre.blind {As : List Value} : FrameBlind (va_Pc As (xPre D dT σ)) := by
  intro a U g mk q
  obtain ⟨q0, q1, qP, qK, qT⟩ := q
  exact ⟨q0, q1, qP, va_K.moved (u := U) (U := U.calling g mk a) (Vm.Alike.refl U.vm) qK, xTh.same (u := U) rfl rfl qT⟩
section Back9
variable {p : Program} {e : Env} {s : State} {m : MethodId} {args : Array Value} {below : List Frame} {meth : Method} {c : Code} {σ0 : xS} {R : Room} {Q : State → Prop} {H : Heap} {locs : List Loc} {cells slots mc ms : Nat} {ls : Array Slot} {st0 rest : List Value} {a : Array Value} {o1 : xO} {σ1 : xS}
theorem xA_sub (hA : xAt D dT s σ0 σ H locs) : ∀ q : Nat, xA σ q → xA σ0 q := fun q h => h.elim (hA.2.2.2.1 q) (fun h => Or.inr (Nat.le_trans hA.2.2.2.2.2.1 h))
theorem xs_back (hr : vx_Run p l e R s m args below meth c H locs cells slots mc ms (F0 m pc ls st0) rest (xQ D dT o1 σ1 σ a) (xX D dT o1 σ1 σ) (xA σ)) (hA : xAt D dT s σ0 σ H locs) (hle : xMono σ σ1)
    (kk : ∀ (v : Option Value) (H1 : Heap) (locs1 : List Loc), o1 = .inl v → xAt D dT s σ0 σ1 H1 locs1 → W p l e R s m args below meth c H1 locs1 (cells + mc) (slots + ms) Q (F0 m (pc + 3) ls (v.toList ++ rest)))
    (kx : ∀ (E : String) (ce : Cell) (q9 : Addr) (H1 : Heap) (locs1 : List Loc), o1 = .inr E → xHp D dT σ1.1 H1 → (∀ q : Nat, σ1.1 q ≠ none → xA σ0 q) → va_S (xA σ0) s.heap H1 locs1 → H1[q9]? = some ce → ce.vm = .none → s.vm.findClass E = some ce.cls → vx_W p l e R s m args below meth c H1 locs1 (cells + mc) (slots + ms) Q (F0 m pc ls rest) q9) :
    W p l e R s m args below meth c H locs cells slots Q (F0 m pc ls st0) := by
  have hsub := xA_sub hA
  intro T hT X
  rcases hr T hT X with ⟨v, st₀, t, T', L, h0, X', hL, e1, e2, ⟨⟨w, ho, hv⟩, hP, hz, hdom, hF⟩, st⟩ | ⟨q, st₀, t, T', L, E, ce, h0, X', hL, e1, e2, ⟨ho, hP, hdom, hF⟩, hce, hcv, hcl, st⟩
  · cases hv
    obtain ⟨k1, k2, k3⟩ := vx_keep h0 e1 hA.2.2.1 (fun q _ h => hsub q h) hsub hL hF
    obtain ⟨t2, a1, b1⟩ := kk v T'.heap (locs ++ L) ho ⟨by rw [e1]; exact hP, by rw [e1]; exact hz, k3, fun q hq => hsub q (hdom q hq), hA.2.2.2.2.1, Nat.le_trans hA.2.2.2.2.2.1 hle.1, Nat.le_trans hA.2.2.2.2.2.2 hle.2⟩ T' rfl X'
    exact ⟨t2, st t2 a1, b1⟩
  · obtain ⟨k1, k2, k3⟩ := vx_keep h0 e1 hA.2.2.1 (fun q _ h => hsub q h) hsub hL hF
    obtain ⟨t2, a1, b1⟩ := kx E ce q T'.heap (locs ++ L) ho (by rw [e1]; exact hP) (fun q hq => hsub q (hdom q hq)) k3 (by rw [e1]; exact hce) hcv hcl T' rfl X'
    exact ⟨t2, st.trans a1, b1⟩
theorem xs_backI (hr : va_Run p l e R s m args below meth c H locs cells slots mc ms (F0 m pc ls st0) rest (xQ D dT o1 σ1 σ a) (xA σ)) (hA : xAt D dT s σ0 σ H locs) (hle : xMono σ σ1)
    (kk : ∀ (v : Option Value) (H1 : Heap) (locs1 : List Loc), o1 = .inl v → xAt D dT s σ0 σ1 H1 locs1 → W p l e R s m args below meth c H1 locs1 (cells + mc) (slots + ms) Q (F0 m (pc + 3) ls (v.toList ++ rest))) :
    W p l e R s m args below meth c H locs cells slots Q (F0 m pc ls st0) := by
  have hsub := xA_sub hA
  intro T hT X
  obtain ⟨v, st₀, t, T', L, h0, X', hL, e1, e2, ⟨⟨w, ho, hv⟩, hP, hz, hdom, hF⟩, st⟩ := hr T hT X
  cases hv
  obtain ⟨k1, k2, k3⟩ := vx_keep h0 e1 hA.2.2.1 (fun q _ h => hsub q h) hsub hL hF
  obtain ⟨t2, a1, b1⟩ := kk v T'.heap (locs ++ L) ho ⟨by rw [e1]; exact hP, by rw [e1]; exact hz, k3, fun q hq => hsub q (hdom q hq), hA.2.2.2.2.1, Nat.le_trans hA.2.2.2.2.2.1 hle.1, Nat.le_trans hA.2.2.2.2.2.2 hle.2⟩ T' rfl X'
  exact ⟨t2, st t2 a1, b1⟩
theorem xs_pre {As : List Value} (C : xCx D dT l p s m args meth c y σ0) (hA : xAt D dT s σ0 σ H locs) (U : State) (hU : U.heap = H) (hW : s.WarmedH U.vm) : va_Pc As (xPre D dT σ) As.toArray U := by
  obtain ⟨hok, hx, hb, hr, hml, hown, hts, hnm, hlocks, htab, hl0, hK, hT⟩ := C
  exact ⟨rfl, by rw [hU]; exact hA.2.1, by rw [hU]; exact hA.1, va_K.moved hW.alike hK, hT.next hA.2.2.1 (xA_sub hA) hU hW⟩
end Back9
theorem xall {as : List Value} (h : (as.all fun v => v.category == 1) = true) : ∀ v ∈ as, v.category = 1 := fun v hv => by
  have := List.all_eq_true.mp h v hv
  simpa using this
theorem x_gin {z : xMt} (hz : xOk z) : GoodIn xTB (xWs z) := by
  intro w hw
  rcases List.mem_cons.mp hw with rfl | hw
  · exact ⟨hz.1, Or.inl rfl⟩
  · exact x_good w hw
/-- the room of a callee in its caller's -/
theorem x_room {d1 mc ms mc2 ms2 : Nat} {z : xMt} (hz : xOk z) : (xRm d1 mc ms).frames + 1 ≤ (xRm (d1 + 1) mc2 ms2).frames ∧ 8 + (xm z + 11) + (xRm d1 mc ms).locals ≤ (xRm (d1 + 1) mc2 ms2).locals := by
  have h := hz.2.2.1
  refine ⟨?_, ?_⟩
  · show d1 + 12 + 1 ≤ d1 + 1 + 12
    omega
  · show 8 + (xm z + 11) + (d1 * 64 + 200) ≤ (d1 + 1) * 64 + 200
    omega
/-- behind a call, the two ways on -/
theorem xs_after {d1 : Nat} {o1 : xO} {σ1 : xS} {rest : List Value} (ih : xClaim D dT l rec) (h : (match o1 with
      | .inl v => rec (d1 + 1) y (pc + 3) lo (v.toList ++ rest) σ1
      | .inr E => some (.inr E, σ1)) = some (o, σf)) : (∃ v, o1 = .inl v ∧ xMono σ1 σf ∧ xSd D dT l (d1 + 1) y (pc + 3) lo (v.toList ++ rest) σ1 o σf) ∨ ∃ E, o1 = .inr E ∧ o = .inr E ∧ σf = σ1 := by
  split at h
  · exact Or.inl ⟨_, rfl, ih _ _ _ _ _ _ _ _ h⟩
  · cases h
    exact Or.inr ⟨_, rfl, rfl, rfl⟩
theorem xs_call {z : xMt} {as rest : List Value} (ih : xClaim D dT l rec) (h : xcall rec d y pc lo σ z as rest = some (o, σf)) :
    ∃ d1 o1 σ1, d = d1 + 1 ∧ (∀ v ∈ as, v.category = 1) ∧ as.length ≤ xm z ∧ xwt rest ≤ 8 ∧ rec d1 z 0 (xlo as (xm z)) [] σ = some (o1, σ1) ∧ xMono σ σ1 ∧ ((∃ v, o1 = .inl v ∧ xMono σ1 σf ∧ xSd D dT l d y (pc + 3) lo (v.toList ++ rest) σ1 o σf) ∨ ∃ E, o1 = .inr E ∧ o = .inr E ∧ σf = σ1) := by
  unfold xcall at h
  split at h
  · cases h
  · rename_i d2
    obtain ⟨⟨h1, h2, h3⟩, h_1⟩ := xp_some h
    obtain ⟨⟨o1, σ1⟩, hw, h_2⟩ := xq_some h_1
    exact ⟨d2, o1, σ1, rfl, xall h1, h2, h3, hw, (ih _ _ _ _ _ _ _ _ hw).1, xs_after ih h_2⟩
/-- the walk through a call that is on its way -/
theorem xs_through {o1 : xO} {σ1 : xS} {rest st0 : List Value} {p : Program} {e : Env} {s : State} {m : MethodId} {args : Array Value} {below : List Frame} {meth : Method} {c : Code} {σ0 : xS} {H : Heap} {locs : List Loc} {ls : Array Slot} {a : Array Value} (C : xCx D dT l p s m args meth c y σ0) (hA : xAt D dT s σ0 σ H locs) (hl : xRl lo ls (xm y)) (hle : xMono σ σ1)
    (haf : (∃ v, o1 = .inl v ∧ xMono σ1 σf ∧ xSd D dT l d y (pc + 3) lo (v.toList ++ rest) σ1 o σf) ∨ ∃ E, o1 = .inr E ∧ o = .inr E ∧ σf = σ1)
    (hr : vx_Run p l e (xRm d (σf.2.1 - σ0.2.1) (σf.2.2 - σ0.2.2)) s m args below meth c H locs (σ.2.1 - σ0.2.1) (σ.2.2 - σ0.2.2) (σ1.2.1 - σ.2.1) (σ1.2.2 - σ.2.2) (F0 m pc ls st0) rest (xQ D dT o1 σ1 σ a) (xX D dT o1 σ1 σ) (xA σ)) :
    xWg D dT p l e s m args below meth c σ0 d o σf σ H locs (F0 m pc ls st0) := by
  obtain ⟨hok, hx, hb, hr0, hml, hown, hts, hnm, hlocks, htab, hl0, hK, hT⟩ := id C
  obtain ⟨hP, hz, hS, hdom, hs0, hle1, hle2⟩ := id hA
  obtain ⟨hm1, hm2⟩ := id hle
  refine xs_back hr hA hle (fun v H1 locs1 ho hA1 => ?_) (fun E ce q9 H1 locs1 ho hP1 hd1 hS1 hce hcv hcl => ?_)
  · rcases haf with ⟨w, ho2, hmm, hs⟩ | ⟨E, ho2, -⟩
    · cases ho.symm.trans ho2
      exact W.cs (by omega) (by omega) (hs p e s m args below meth c σ0 C H1 locs1 ls hA1 hl)
    · cases ho.symm.trans ho2
  · rcases haf with ⟨w, ho2, -⟩ | ⟨E2, ho2, rfl, rfl⟩
    · cases ho.symm.trans ho2
    · cases ho.symm.trans ho2
      exact vx_out (fun x hx9 => (htab x hx9).elim) hlocks hce hcv hcl (fun t ht _ => ⟨rfl, by rw [ht]; exact hP1, hd1, hS1.F ht⟩) hS1.2.2 (by omega) (by omega)
theorem xs_invokestatic {k : Nat} (hl9 : l.stackTraces = false) (ih : xClaim D dT l rec) (hd : decode (xC y) pc = .ok (.invokestatic k, len)) (h : xl len 3 (xq (xca (xo y) k) fun q => xp (q.1 = 0 ∧ xnp q.2 ≤ st.length) (xcall rec d y pc lo σ q.2 (st.take (xnp q.2)).reverse (st.drop (xnp q.2)))) = some (o, σf)) : xMono σ σf ∧ xSd D dT l d y pc lo st σ o σf := by
  obtain ⟨rfl, h_1⟩ := xl_some h
  obtain ⟨⟨kd, z⟩, hq, h_2⟩ := xq_some h_1
  dsimp only at h_2
  obtain ⟨⟨hkd, hnp⟩, h_3⟩ := xp_some h_2
  have hkd : kd = 0 := hkd
  subst hkd
  have hnp : xnp z ≤ st.length := hnp
  obtain ⟨d1, o1, σ1, rfl, hcat, hlen, hwt, hrec, hle, haf⟩ := xs_call ih h_3
  obtain ⟨hz, hlink, h0, -, -, -⟩ := x_ca_ok hq (by decide)
  obtain ⟨-, hzn, -, -, hmh, hsig, hini, -⟩ := id hz
  have hmono : xMono σ σf := by
    rcases haf with ⟨v, -, hmm, -⟩ | ⟨E, -, -, rfl⟩
    · exact ⟨Nat.le_trans hle.1 hmm.1, Nat.le_trans hle.2 hmm.2⟩
    · exact hle
  have hf1 : σ1.2.1 ≤ σf.2.1 ∧ σ1.2.2 ≤ σf.2.2 := by
    rcases haf with ⟨v, -, hmm, -⟩ | ⟨E, -, -, rfl⟩
    · exact hmm
    · exact ⟨Nat.le_refl _, Nat.le_refl _⟩
  refine ⟨hmono, ?_⟩
  intro p e s m args below meth c σ0 C H locs ls hA hl
  obtain ⟨hok, hx, hb, hr, hml, hown, hts, hnm, hlocks, htab, hl0, hK, hT⟩ := id C
  obtain ⟨hP, hz1, hS, hdom, hs0, hle1, hle2⟩ := id hA
  obtain ⟨hm1, hm2⟩ := id hle
  have hM := x_met (D := D) (dT := dT) (σ := σ) hl0 ih hz hrec hcat hlen
  have hcb : CallB (xRm (d1 + 1) (σf.2.1 - σ0.2.1) (σf.2.2 - σ0.2.2)) s args (xN y).cls k (xN z) (xC z) (xm z) (xR z) (xWs z) (xRm d1 (σ1.2.1 - σ.2.1) (σ1.2.2 - σ.2.2)) (σ1.2.1 - σ.2.1) (σ1.2.2 - σ.2.2) (xnp z) :=
    callB_of (xnp z) hts (x_gin hz) rfl rfl rfl (hts _ hini) (by rw [hok.2.1]; exact hts _ (hlink (by decide))) ⟨hmh.1, hmh.2, hsig⟩ (x_room hz)
  exact xs_through (st0 := st) C hA hl hle haf (vx_runS (nL := xm y) (Ts := xTB) ⟨hx, hb, hml, hown, hts⟩ hM ⟨hcb, hts _ (h0 rfl)⟩ ⟨xPre.blind, fun U hU hW => xs_pre C hA U hU hW⟩ rfl (by rw [List.length_reverse, List.length_take]; omega) hl.2.1 (by show st = _; rw [List.reverse_reverse, List.take_append_drop]) (by show 2 * 0 + xwt _ ≤ 8; omega) hd ⟨by show _ ≤ σf.2.1 - σ0.2.1; omega, by show _ ≤ σf.2.2 - σ0.2.2; omega⟩)
theorem xs_invokevirtual {k : Nat} (hl9 : l.stackTraces = false) (ih : xClaim D dT l rec) (hd : decode (xC y) pc = .ok (.invokevirtual k, len)) (h : xl len 3 (xq (xca (xo y) k) fun q => xp (q.1 = 1 ∧ xnp q.2 ≤ st.length) (xbr (st.drop (xnp q.2)) fun b r => xobj σ.1 b (xo q.2) fun _ => xcall rec d y pc lo σ q.2 (.ref b :: (st.take (xnp q.2)).reverse) r)) = some (o, σf)) : xMono σ σf ∧ xSd D dT l d y pc lo st σ o σf := by
  obtain ⟨rfl, h_1⟩ := xl_some h
  obtain ⟨⟨kd, z⟩, hq, h_2⟩ := xq_some h_1
  dsimp only at h_2
  obtain ⟨⟨hkd, hnp⟩, h_3⟩ := xp_some h_2
  have hkd : kd = 1 := hkd
  subst hkd
  have hnp : xnp z ≤ st.length := hnp
  obtain ⟨b, r, hdr, h_4⟩ := xbr_some h_3
  obtain ⟨fs, hfs, h_5⟩ := xobj_some h_4
  obtain ⟨d1, o1, σ1, rfl, hcat, hlen, hwt, hrec, hle, haf⟩ := xs_call ih h_5
  obtain ⟨hz, hlink, -, h1, -, -⟩ := x_ca_ok hq (by decide)
  obtain ⟨-, hzn, -, -, hmh, hsig, hini, -⟩ := id hz
  have hmono : xMono σ σf := by
    rcases haf with ⟨v, -, hmm, -⟩ | ⟨E, -, -, rfl⟩
    · exact ⟨Nat.le_trans hle.1 hmm.1, Nat.le_trans hle.2 hmm.2⟩
    · exact hle
  have hf1 : σ1.2.1 ≤ σf.2.1 ∧ σ1.2.2 ≤ σf.2.2 := by
    rcases haf with ⟨v, -, hmm, -⟩ | ⟨E, -, -, rfl⟩
    · exact hmm
    · exact ⟨Nat.le_refl _, Nat.le_refl _⟩
  refine ⟨hmono, ?_⟩
  intro p e s m args below meth c σ0 C H locs ls hA hl
  obtain ⟨hok, hx, hb, hr, hml, hown, hts, hnm, hlocks, htab, hl0, hK, hT⟩ := id C
  obtain ⟨hP, hz1, hS, hdom, hs0, hle1, hle2⟩ := id hA
  obtain ⟨hm1, hm2⟩ := id hle
  have hM := x_met (D := D) (dT := dT) (σ := σ) hl0 ih hz hrec hcat hlen
  have hcb : CallB (xRm (d1 + 1) (σf.2.1 - σ0.2.1) (σf.2.2 - σ0.2.2)) s args (xN y).cls k (xN z) (xC z) (xm z) (xR z) (xWs z) (xRm d1 (σ1.2.1 - σ.2.1) (σ1.2.2 - σ.2.2)) (σ1.2.1 - σ.2.1) (σ1.2.2 - σ.2.2) (xnp z) :=
    callB_of (xnp z) hts (x_gin hz) rfl rfl rfl (hts _ hini) (by rw [hok.2.1]; exact hts _ (hlink (by decide))) ⟨hmh.1, hmh.2, hsig⟩ (x_room hz)
  have hrecv : ∃ cellB : Cell, H[b]? = some cellB ∧ cellB.vm.isStatics = false ∧ s.vm.findClass (xN z).cls = some cellB.cls := by
    obtain ⟨r0, hr0, -⟩ := hP b _ hfs
    have := va_recv (q0 := 0) hK (hP.one hfs) hr0 rfl
    rw [hzn, x_cn hr0]
    exact this
  exact xs_through (st0 := st) C hA hl hle haf (vx_runV (nL := xm y) (Ts := xTB) (C := (xN z).cls) ⟨hx, hb, hml, hown, hts⟩ hM ⟨hcb, hts _ (h1 rfl).1, hts _ (h1 rfl).2⟩ ⟨xPre.blind, hrecv, fun U hU hW => xs_pre C hA U hU hW⟩ rfl (by rw [List.length_reverse, List.length_take]; omega) hl.2.1 (by show st = _; rw [List.reverse_reverse, ← hdr, List.take_append_drop]) (by show 2 * 0 + xwt _ ≤ 8; omega) hd ⟨by show _ ≤ σf.2.1 - σ0.2.1; omega, by show _ ≤ σf.2.2 - σ0.2.2; omega⟩)
theorem xs_invokespecial {k : Nat} (hl9 : l.stackTraces = false) (ih : xClaim D dT l rec) (hd : decode (xC y) pc = .ok (.invokespecial k, len)) (h : xl len 3 (xq (xca (xo y) k) fun q => if q.1 = 3 then xbr st fun _ r => xp (xwt r ≤ 8) (rec d y (pc + 3) lo r σ) else xp ((q.1 = 2 ∨ q.1 = 4) ∧ xnp q.2 ≤ st.length) (xbr (st.drop (xnp q.2)) fun b r => xcallI rec d y pc lo σ q.2 (.ref b :: (st.take (xnp q.2)).reverse) r)) = some (o, σf)) : xMono σ σf ∧ xSd D dT l d y pc lo st σ o σf := by
  obtain ⟨rfl, h_1⟩ := xl_some h
  obtain ⟨⟨kd, z⟩, hq, h_2⟩ := xq_some h_1
  dsimp only at h_2
  by_cases h3 : kd = 3
  · subst h3
    rw [if_pos (show ((3, z) : Nat × xMt).1 = 3 from rfl)] at h_2
    obtain ⟨b, r, rfl, h_3⟩ := xbr_some h_2
    obtain ⟨hwt, h_4⟩ := xp_some h_3
    obtain ⟨hm, hs⟩ := ih _ _ _ _ _ _ _ _ h_4
    refine ⟨hm, ?_⟩
    intro p e s m args below meth c σ0 C H locs ls hA hl
    obtain ⟨hok, hx, hb, hr, hml, hown, hts, hnm, hlocks, htab, hl0, hK, hT⟩ := id C
    obtain ⟨hlink, hinst, hcode⟩ := x_ca_obj hq
    exact W.objInit hx hb hown (by rw [hok.2.1]; exact hts _ hlink) (hts _ hinst) (hts _ hcode) (g := F0 m pc ls (.ref b :: r)) rfl (by rw [hml]; exact hl.2.1) rfl hd (by show 1 ≤ d + 12; omega) (by show 2 * 0 + xwt r + 12 ≤ d * 64 + 200; omega) (hs p e s m args below meth c σ0 C H locs ls hA hl)
  · rw [if_neg (show ¬ ((kd, z) : Nat × xMt).1 = 3 from h3)] at h_2
    obtain ⟨⟨hkd, hnp⟩, h_5⟩ := xp_some h_2
    have hkd : kd = 2 ∨ kd = 4 := hkd
    have hnp : xnp z ≤ st.length := hnp
    obtain ⟨b, r, hdr, h_6⟩ := xbr_some h_5
    unfold xcallI at h_6
    split at h_6
    · cases h_6
    · rename_i d1
      obtain ⟨⟨hc9, hlen, hwt⟩, h_7⟩ := xp_some h_6
      have hcat := xall hc9
      obtain ⟨⟨o1, σ1⟩, hrec, h_8⟩ := xq_some h_7
      have hle := (ih _ _ _ _ _ _ _ _ hrec).1
      have ho1 : o1 = .inl none := by
        cases o1 with
        | inl v =>
          cases v with
          | none => rfl
          | some w => exact absurd (show (none : xZ) = some (o, σf) from h_8) (fun q => nomatch q)
        | inr E => exact absurd (show (none : xZ) = some (o, σf) from h_8) (fun q => nomatch q)
      subst ho1
      · have h9 : rec (d1 + 1) y (pc + 3) lo r σ1 = some (o, σf) := h_8
        obtain ⟨hmm, hs⟩ := ih _ _ _ _ _ _ _ _ h9
        obtain ⟨hz, hlink, -, -, h2, h4⟩ := x_ca_ok hq h3
        obtain ⟨-, hzn, -, -, hmh, hsig, hini, -⟩ := id hz
        obtain ⟨hnm9, hin9, hrt9⟩ := h2 hkd
        refine ⟨⟨Nat.le_trans hle.1 hmm.1, Nat.le_trans hle.2 hmm.2⟩, ?_⟩
        intro p e s m args below meth c σ0 C H locs ls hA hl
        obtain ⟨hok, hx, hb, hr, hml, hown, hts, hnm, hlocks, htab, hl0, hK, hT⟩ := id C
        obtain ⟨hP, hz1, hS, hdom, hs0, hle1, hle2⟩ := id hA
        obtain ⟨hm1, hm2⟩ := id hle
        obtain ⟨hm3, hm4⟩ := id hmm
        have hm3 : σ1.2.1 ≤ σf.2.1 := hm3
        have hm4 : σ1.2.2 ≤ σf.2.2 := hm4
        have hM := x_metI (x_met (D := D) (dT := dT) (σ := σ) hl0 ih hz hrec hcat hlen)
        have fin : va_Run p l e (xRm (d1 + 1) (σf.2.1 - σ0.2.1) (σf.2.2 - σ0.2.2)) s m args below meth c H locs (σ.2.1 - σ0.2.1) (σ.2.2 - σ0.2.2) (σ1.2.1 - σ.2.1) (σ1.2.2 - σ.2.2) (F0 m pc ls st) r (xQ D dT (.inl none) σ1 σ (Value.ref b :: (st.take (xnp z)).reverse).toArray) (xA σ) := by
          by_cases hk4 : kd = 4
          · have hcb : va_CN (xRm (d1 + 1) (σf.2.1 - σ0.2.1) (σf.2.2 - σ0.2.2)) s args (xN y).cls k (xN z) "LoanTerms" (xC z) (xm z) none (xWs z) (xRm d1 (σ1.2.1 - σ.2.1) (σ1.2.2 - σ.2.2)) (σ1.2.1 - σ.2.1) (σ1.2.2 - σ.2.2) (xnp z) :=
              va_cnB (xnp z) hts (x_gin hz) (by unfold xWs; rw [hrt9]) rfl rfl (by rw [hok.2.1]; exact hT.2.2.1 _ (h4 hk4)) (hts _ hini) ⟨hmh.1, hmh.2, hsig⟩ (x_room hz)
            exact va_runIN (nL := xm y) (Ts := xTB) ⟨hx, hb, hml, hown, hts⟩ hM ⟨hcb, hnm9, hts _ hin9⟩ ⟨xPre.blind, fun U hU hW => xs_pre C hA U hU hW⟩ rfl (by rw [List.length_reverse, List.length_take]; omega) hl.2.1 (by show st = _; rw [List.reverse_reverse, ← hdr, List.take_append_drop]) (by show 2 * 0 + xwt _ ≤ 8; omega) hd ⟨by show _ ≤ σf.2.1 - σ0.2.1; omega, by show _ ≤ σf.2.2 - σ0.2.2; omega⟩
          · have hcb : CallB (xRm (d1 + 1) (σf.2.1 - σ0.2.1) (σf.2.2 - σ0.2.2)) s args (xN y).cls k (xN z) (xC z) (xm z) none (xWs z) (xRm d1 (σ1.2.1 - σ.2.1) (σ1.2.2 - σ.2.2)) (σ1.2.1 - σ.2.1) (σ1.2.2 - σ.2.2) (xnp z) :=
              callB_of (xnp z) hts (x_gin hz) (by unfold xWs; rw [hrt9]) rfl rfl (hts _ hini) (by rw [hok.2.1]; exact hts _ (hlink hk4)) ⟨hmh.1, hmh.2, hsig⟩ (x_room hz)
            exact va_runI (nL := xm y) (Ts := xTB) ⟨hx, hb, hml, hown, hts⟩ hM ⟨hcb, hnm9, hts _ hin9⟩ ⟨xPre.blind, fun U hU hW => xs_pre C hA U hU hW⟩ rfl (by rw [List.length_reverse, List.length_take]; omega) hl.2.1 (by show st = _; rw [List.reverse_reverse, ← hdr, List.take_append_drop]) (by show 2 * 0 + xwt _ ≤ 8; omega) hd ⟨by show _ ≤ σf.2.1 - σ0.2.1; omega, by show _ ≤ σf.2.2 - σ0.2.2; omega⟩
        refine xs_backI (st0 := st) fin hA hle (fun v H1 locs1 ho hA1 => ?_)
        cases ho
        exact W.cs (by omega) (by omega) (hs p e s m args below meth c σ0 C H1 locs1 ls hA1 hl)
end XS2
set_option maxHeartbeats 4000000 in
theorem x_step {D : va_G} {dT : Nat → ClassId} {l : Launch} {rec : xRun} {d : Nat} {y : xMt} {pc : Nat} {lo : xL} {st : List Value} {σ : xS} {o : xO} {σf : xS} {len : Nat} {i : Instr} (hl0 : l.stackTraces = false) (ih : xClaim D dT l rec) (hd : decode (xC y) pc = .ok (i, len)) (h : xstep rec d y pc lo st σ len i = some (o, σf)) : xMono σ σf ∧ xSd D dT l d y pc lo st σ o σf := by
  cases i
  case aconst_null => exact xs_aconst_null ih hd h
  case iconst => exact xs_iconst ih hd h
  case bipush => exact xs_bipush ih hd h
  case sipush => exact xs_sipush ih hd h
  case ldc => exact xs_ldc ih hd h
  case ldc_w => exact xs_ldc_w ih hd h
  case iload => exact xs_iload ih hd h
  case iload_n => exact xs_iload_n ih hd h
  case aload => exact xs_aload ih hd h
  case aload_n => exact xs_aload_n ih hd h
  case istore => exact xs_istore ih hd h
  case istore_n => exact xs_istore_n ih hd h
  case astore => exact xs_astore ih hd h
  case astore_n => exact xs_astore_n ih hd h
  case iinc => exact xs_iinc ih hd h
  case iadd => exact xs_iadd ih hd h
  case isub => exact xs_isub ih hd h
  case imul => exact xs_imul ih hd h
  case iand => exact xs_iand ih hd h
  case idiv => exact xs_idiv ih hd h
  case irem => exact xs_irem ih hd h
  case dup => exact xs_dup ih hd h
  case dup2 => exact xs_dup2 ih hd h
  case goto => exact xs_goto ih hd h
  case ifnull => exact xs_ifnull ih hd h
  case ifnonnull => exact xs_ifnonnull ih hd h
  case tableswitch => exact xs_tableswitch ih hd h
  case lookupswitch => exact xs_lookupswitch ih hd h
  case getfield => exact xs_getfield ih hd h
  case putfield => exact xs_putfield ih hd h
  case arraylength => exact xs_arraylength ih hd h
  case iaload => exact xs_iaload ih hd h
  case baload => exact xs_baload ih hd h
  case aaload => exact xs_aaload ih hd h
  case iastore => exact xs_iastore ih hd h
  case bastore => exact xs_bastore ih hd h
  case aastore => exact xs_aastore ih hd h
  case anewarray => exact xs_anewarray ih hd h
  case new => exact xs_new ih hd h
  case if_icmp c off => cases c <;> first | exact xs_icmp_eq ih hd h | exact xs_icmp_ne ih hd h | exact xs_icmp_lt ih hd h | exact xs_icmp_ge ih hd h | exact xs_icmp_gt ih hd h | exact xs_icmp_le ih hd h
  case ifCond c off => cases c <;> first | exact xs_if_eq ih hd h | exact xs_if_ne ih hd h | exact xs_if_lt ih hd h | exact xs_if_ge ih hd h | exact xs_if_gt ih hd h | exact xs_if_le ih hd h
  case newarray t =>
    cases t
    case int => exact xs_newarrayI ih hd h
    case boolean => exact xs_newarrayZ ih hd h
    all_goals exact absurd (show (none : xZ) = some (o, σf) from h) (fun h => nomatch h)
  case ireturn => exact xs_ireturn hd h
  case areturn => exact xs_areturn hd h
  case return_ => exact xs_return hd h
  case invokestatic => exact xs_invokestatic hl0 ih hd h
  case invokevirtual => exact xs_invokevirtual hl0 ih hd h
  case invokespecial => exact xs_invokespecial hl0 ih hd h
  all_goals exact absurd (show (none : xZ) = some (o, σf) from h) (fun h => nomatch h)
theorem x_sound {D : va_G} {dT : Nat → ClassId} {l : Launch} (hl0 : l.stackTraces = false) : ∀ n : Nat, xClaim D dT l (xrun n)
  | 0 => fun _ _ _ _ _ _ _ _ h => nomatch (show (none : xZ) = some _ from h)
  | n + 1 => fun d y pc lo st σ o σf h => by
    have h : (match decode (xC y) pc with
      | .ok (i, len) => xstep (xrun n) d y pc lo st σ len i
      | .error _ => none) = some (o, σf) := h
    split at h
    · rename_i i len hd
      exact x_step hl0 (x_sound hl0 n) hd h
    · cases h
end
section
/-! rows over the reader -/
def xEv (d : Nat) (y : xMt) (pc : Nat) (lo : xL) (st : List Value) (σ : xS) (r : xO × xS) : Prop := ∃ N, ∀ n, N ≤ n → xrun n d y pc lo st σ = some r
theorem xl_self (k : Nat) (r : xZ) : xl k k r = r := if_pos rfl
theorem xq_at {α : Type} {q : Option α} {a : α} {k : α → xZ} (h : q = some a) : xq q k = k a := by rw [h]; rfl
theorem xp_at {c : Prop} {i : Decidable c} {r : xZ} (h : c) : @xp c i r = r := if_pos h
theorem xli_at {lo : xL} {i : Nat} {k : Int32 → xZ} {x : Int32} (h : lo[i]? = some (some (.int x))) : xli lo i k = k x := by unfold xli; rw [h]
theorem xlq_n {lo : xL} {i : Nat} {k : Value → xZ} (h : lo[i]? = some (some .null)) : xlq lo i k = k .null := by unfold xlq; rw [h]
theorem xlq_r {lo : xL} {i : Nat} {k : Value → xZ} {a : Nat} (h : lo[i]? = some (some (.ref a))) : xlq lo i k = k (.ref a) := by unfold xlq; rw [h]
theorem xlq_q {lo : xL} {i : Nat} {k : Value → xZ} {q : Option Nat} (h : lo[i]? = some (some (va_rf q))) : xlq lo i k = k (va_rf q) := by
  cases q with
  | none => exact xlq_n h
  | some a => exact xlq_r h
theorem xEv.step {d : Nat} {y : xMt} {pc : Nat} {lo : xL} {st : List Value} {σ : xS} {r : xO × xS} {i : Instr} {len : Nat} (hd : decode (xC y) pc = .ok (i, len)) (h : ∃ N, ∀ n, N ≤ n → xstep (xrun n) d y pc lo st σ len i = some r) : xEv d y pc lo st σ r := by
  obtain ⟨N, h⟩ := h
  refine ⟨N + 1, fun n hn => ?_⟩
  obtain ⟨k, rfl⟩ : ∃ k, n = k + 1 := ⟨n - 1, by omega⟩
  show (match decode (xC y) pc with
    | .ok (i, len) => xstep (xrun k) d y pc lo st σ len i
    | .error _ => none) = some r
  rw [hd]
  exact h k (by omega)
section EV
variable {d : Nat} {y : xMt} {pc : Nat} {lo : xL} {st : List Value} {σ : xS} {r : xO × xS}
theorem ev_null (hd : decode (xC y) pc = .ok (.aconst_null, 1)) (h : xEv d y (pc + 1) lo (.null :: st) σ r) : xEv d y pc lo st σ r := by
  refine xEv.step hd ?_
  obtain ⟨N, h⟩ := h
  refine ⟨N, fun n hn => ?_⟩
  show xl 1 1 (xrun n d y (pc + 1) lo (.null :: st) σ) = some r
  rw [xl_self]
  exact h n hn
theorem ev_iconst {k : Int} {v : Int32} (hd : decode (xC y) pc = .ok (.iconst k, 1)) (hv : Int32.ofInt k = v) (h : xEv d y (pc + 1) lo (.int v :: st) σ r) : xEv d y pc lo st σ r := by
  refine xEv.step hd ?_
  obtain ⟨N, h⟩ := h
  refine ⟨N, fun n hn => ?_⟩
  show xl 1 1 (xrun n d y (pc + 1) lo (.int (Int32.ofInt k) :: st) σ) = some r
  rw [xl_self, hv]
  exact h n hn
theorem ev_bipush {k : Int} {v : Int32} (hd : decode (xC y) pc = .ok (.bipush k, 2)) (hv : (Int8.ofInt k).toInt32 = v) (h : xEv d y (pc + 2) lo (.int v :: st) σ r) : xEv d y pc lo st σ r := by
  refine xEv.step hd ?_
  obtain ⟨N, h⟩ := h
  refine ⟨N, fun n hn => ?_⟩
  show xl 2 2 (xrun n d y (pc + 2) lo (.int (Int8.ofInt k).toInt32 :: st) σ) = some r
  rw [xl_self, hv]
  exact h n hn
theorem ev_sipush {k : Int} {v : Int32} (hd : decode (xC y) pc = .ok (.sipush k, 3)) (hv : (Int16.ofInt k).toInt32 = v) (h : xEv d y (pc + 3) lo (.int v :: st) σ r) : xEv d y pc lo st σ r := by
  refine xEv.step hd ?_
  obtain ⟨N, h⟩ := h
  refine ⟨N, fun n hn => ?_⟩
  show xl 3 3 (xrun n d y (pc + 3) lo (.int (Int16.ofInt k).toInt32 :: st) σ) = some r
  rw [xl_self, hv]
  exact h n hn
theorem ev_ldc {k : Nat} {v : Int32} (hd : decode (xC y) pc = .ok (.ldc k, 2)) (hv : xldc (xo y) k = some v) (h : xEv d y (pc + 2) lo (.int v :: st) σ r) : xEv d y pc lo st σ r := by
  refine xEv.step hd ?_
  obtain ⟨N, h⟩ := h
  refine ⟨N, fun n hn => ?_⟩
  show xl 2 2 (xq (xldc (xo y) k) fun v => xrun n d y (pc + 2) lo (.int v :: st) σ) = some r
  rw [xl_self, xq_at hv]
  exact h n hn
theorem ev_ldcw {k : Nat} {v : Int32} (hd : decode (xC y) pc = .ok (.ldc_w k, 3)) (hv : xldc (xo y) k = some v) (h : xEv d y (pc + 3) lo (.int v :: st) σ r) : xEv d y pc lo st σ r := by
  refine xEv.step hd ?_
  obtain ⟨N, h⟩ := h
  refine ⟨N, fun n hn => ?_⟩
  show xl 3 3 (xq (xldc (xo y) k) fun v => xrun n d y (pc + 3) lo (.int v :: st) σ) = some r
  rw [xl_self, xq_at hv]
  exact h n hn
theorem ev_iload {k : Nat} {x : Int32} (hd : decode (xC y) pc = .ok (.iload k, 2)) (hv : lo[k]? = some (some (.int x))) (h : xEv d y (pc + 2) lo (.int x :: st) σ r) : xEv d y pc lo st σ r := by
  refine xEv.step hd ?_
  obtain ⟨N, h⟩ := h
  refine ⟨N, fun n hn => ?_⟩
  show xl 2 2 (xli lo k fun x => xrun n d y (pc + 2) lo (.int x :: st) σ) = some r
  rw [xl_self, xli_at hv]
  exact h n hn
theorem ev_iload_n {k : Fin 4} {x : Int32} (hd : decode (xC y) pc = .ok (.iload_n k, 1)) (hv : lo[k.val]? = some (some (.int x))) (h : xEv d y (pc + 1) lo (.int x :: st) σ r) : xEv d y pc lo st σ r := by
  refine xEv.step hd ?_
  obtain ⟨N, h⟩ := h
  refine ⟨N, fun n hn => ?_⟩
  show xl 1 1 (xli lo k.val fun x => xrun n d y (pc + 1) lo (.int x :: st) σ) = some r
  rw [xl_self, xli_at hv]
  exact h n hn
theorem ev_aload {k : Nat} {a : Nat} (hd : decode (xC y) pc = .ok (.aload k, 2)) (hv : lo[k]? = some (some (.ref a))) (h : xEv d y (pc + 2) lo (.ref a :: st) σ r) : xEv d y pc lo st σ r := by
  refine xEv.step hd ?_
  obtain ⟨N, h⟩ := h
  refine ⟨N, fun n hn => ?_⟩
  show xl 2 2 (xlq lo k fun v => xrun n d y (pc + 2) lo (v :: st) σ) = some r
  rw [xl_self, xlq_r hv]
  exact h n hn
theorem ev_aload_n {k : Fin 4} {a : Nat} (hd : decode (xC y) pc = .ok (.aload_n k, 1)) (hv : lo[k.val]? = some (some (.ref a))) (h : xEv d y (pc + 1) lo (.ref a :: st) σ r) : xEv d y pc lo st σ r := by
  refine xEv.step hd ?_
  obtain ⟨N, h⟩ := h
  refine ⟨N, fun n hn => ?_⟩
  show xl 1 1 (xlq lo k.val fun v => xrun n d y (pc + 1) lo (v :: st) σ) = some r
  rw [xl_self, xlq_r hv]
  exact h n hn
theorem ev_aloadN {k : Nat} (hd : decode (xC y) pc = .ok (.aload k, 2)) (hv : lo[k]? = some (some (.null))) (h : xEv d y (pc + 2) lo (.null :: st) σ r) : xEv d y pc lo st σ r := by
  refine xEv.step hd ?_
  obtain ⟨N, h⟩ := h
  refine ⟨N, fun n hn => ?_⟩
  show xl 2 2 (xlq lo k fun v => xrun n d y (pc + 2) lo (v :: st) σ) = some r
  rw [xl_self, xlq_n hv]
  exact h n hn
theorem ev_aload_nN {k : Fin 4} (hd : decode (xC y) pc = .ok (.aload_n k, 1)) (hv : lo[k.val]? = some (some (.null))) (h : xEv d y (pc + 1) lo (.null :: st) σ r) : xEv d y pc lo st σ r := by
  refine xEv.step hd ?_
  obtain ⟨N, h⟩ := h
  refine ⟨N, fun n hn => ?_⟩
  show xl 1 1 (xlq lo k.val fun v => xrun n d y (pc + 1) lo (v :: st) σ) = some r
  rw [xl_self, xlq_n hv]
  exact h n hn
theorem ev_aloadQ {k : Nat} {a : Option Nat} (hd : decode (xC y) pc = .ok (.aload k, 2)) (hv : lo[k]? = some (some (va_rf a))) (h : xEv d y (pc + 2) lo (va_rf a :: st) σ r) : xEv d y pc lo st σ r := by
  refine xEv.step hd ?_
  obtain ⟨N, h⟩ := h
  refine ⟨N, fun n hn => ?_⟩
  show xl 2 2 (xlq lo k fun v => xrun n d y (pc + 2) lo (v :: st) σ) = some r
  rw [xl_self, xlq_q hv]
  exact h n hn
theorem ev_aload_nQ {k : Fin 4} {a : Option Nat} (hd : decode (xC y) pc = .ok (.aload_n k, 1)) (hv : lo[k.val]? = some (some (va_rf a))) (h : xEv d y (pc + 1) lo (va_rf a :: st) σ r) : xEv d y pc lo st σ r := by
  refine xEv.step hd ?_
  obtain ⟨N, h⟩ := h
  refine ⟨N, fun n hn => ?_⟩
  show xl 1 1 (xlq lo k.val fun v => xrun n d y (pc + 1) lo (v :: st) σ) = some r
  rw [xl_self, xlq_q hv]
  exact h n hn
theorem ev_istore {k : Nat} {x : Int32} {lo1 : xL} (hd : decode (xC y) pc = .ok (.istore k, 2)) (hk : k < lo.length) (hs : lo.set k (some (.int x)) = lo1) (h : xEv d y (pc + 2) lo1 st σ r) : xEv d y pc lo (.int x :: st) σ r := by
  refine xEv.step hd ?_
  obtain ⟨N, h⟩ := h
  refine ⟨N, fun n hn => ?_⟩
  show xl 2 2 (xp (k < lo.length) (xrun n d y (pc + 2) (lo.set k (some (.int x))) st σ)) = some r
  rw [xl_self, xp_at hk, hs]
  exact h n hn
theorem ev_istore_n {k : Fin 4} {x : Int32} {lo1 : xL} (hd : decode (xC y) pc = .ok (.istore_n k, 1)) (hk : k.val < lo.length) (hs : lo.set k.val (some (.int x)) = lo1) (h : xEv d y (pc + 1) lo1 st σ r) : xEv d y pc lo (.int x :: st) σ r := by
  refine xEv.step hd ?_
  obtain ⟨N, h⟩ := h
  refine ⟨N, fun n hn => ?_⟩
  show xl 1 1 (xp (k.val < lo.length) (xrun n d y (pc + 1) (lo.set k.val (some (.int x))) st σ)) = some r
  rw [xl_self, xp_at hk, hs]
  exact h n hn
theorem ev_astore {k : Nat} {a : Nat} {lo1 : xL} (hd : decode (xC y) pc = .ok (.astore k, 2)) (hk : k < lo.length) (hs : lo.set k (some (.ref a)) = lo1) (h : xEv d y (pc + 2) lo1 st σ r) : xEv d y pc lo (.ref a :: st) σ r := by
  refine xEv.step hd ?_
  obtain ⟨N, h⟩ := h
  refine ⟨N, fun n hn => ?_⟩
  show xl 2 2 (xp (k < lo.length) (xrun n d y (pc + 2) (lo.set k (some (.ref a))) st σ)) = some r
  rw [xl_self, xp_at hk, hs]
  exact h n hn
theorem ev_astore_n {k : Fin 4} {a : Nat} {lo1 : xL} (hd : decode (xC y) pc = .ok (.astore_n k, 1)) (hk : k.val < lo.length) (hs : lo.set k.val (some (.ref a)) = lo1) (h : xEv d y (pc + 1) lo1 st σ r) : xEv d y pc lo (.ref a :: st) σ r := by
  refine xEv.step hd ?_
  obtain ⟨N, h⟩ := h
  refine ⟨N, fun n hn => ?_⟩
  show xl 1 1 (xp (k.val < lo.length) (xrun n d y (pc + 1) (lo.set k.val (some (.ref a))) st σ)) = some r
  rw [xl_self, xp_at hk, hs]
  exact h n hn
theorem ev_astoreN {k : Nat} {lo1 : xL} (hd : decode (xC y) pc = .ok (.astore k, 2)) (hk : k < lo.length) (hs : lo.set k (some (.null)) = lo1) (h : xEv d y (pc + 2) lo1 st σ r) : xEv d y pc lo (.null :: st) σ r := by
  refine xEv.step hd ?_
  obtain ⟨N, h⟩ := h
  refine ⟨N, fun n hn => ?_⟩
  show xl 2 2 (xp (k < lo.length) (xrun n d y (pc + 2) (lo.set k (some (.null))) st σ)) = some r
  rw [xl_self, xp_at hk, hs]
  exact h n hn
theorem ev_astore_nN {k : Fin 4} {lo1 : xL} (hd : decode (xC y) pc = .ok (.astore_n k, 1)) (hk : k.val < lo.length) (hs : lo.set k.val (some (.null)) = lo1) (h : xEv d y (pc + 1) lo1 st σ r) : xEv d y pc lo (.null :: st) σ r := by
  refine xEv.step hd ?_
  obtain ⟨N, h⟩ := h
  refine ⟨N, fun n hn => ?_⟩
  show xl 1 1 (xp (k.val < lo.length) (xrun n d y (pc + 1) (lo.set k.val (some (.null))) st σ)) = some r
  rw [xl_self, xp_at hk, hs]
  exact h n hn
theorem ev_iinc {k : Nat} {x v : Int32} {c : Int} {lo1 : xL} (hd : decode (xC y) pc = .ok (.iinc k c, 3)) (hv : lo[k]? = some (some (.int x))) (hx : x + Int32.ofInt c = v) (hs : lo.set k (some (.int v)) = lo1) (h : xEv d y (pc + 3) lo1 st σ r) : xEv d y pc lo st σ r := by
  refine xEv.step hd ?_
  obtain ⟨N, h⟩ := h
  refine ⟨N, fun n hn => ?_⟩
  show xl 3 3 (xli lo k fun x => xrun n d y (pc + 3) (lo.set k (some (.int (x + Int32.ofInt c)))) st σ) = some r
  rw [xl_self, xli_at hv, hx, hs]
  exact h n hn
theorem ev_iadd {a b : Int32} (hd : decode (xC y) pc = .ok (.iadd, 1)) (h : xEv d y (pc + 1) lo (.int (a + b) :: st) σ r) : xEv d y pc lo (.int b :: .int a :: st) σ r := by
  refine xEv.step hd ?_
  obtain ⟨N, h⟩ := h
  refine ⟨N, fun n hn => ?_⟩
  show xl 1 1 (xrun n d y (pc + 1) lo (.int (a + b) :: st) σ) = some r
  rw [xl_self]
  exact h n hn
theorem ev_isub {a b : Int32} (hd : decode (xC y) pc = .ok (.isub, 1)) (h : xEv d y (pc + 1) lo (.int (a - b) :: st) σ r) : xEv d y pc lo (.int b :: .int a :: st) σ r := by
  refine xEv.step hd ?_
  obtain ⟨N, h⟩ := h
  refine ⟨N, fun n hn => ?_⟩
  show xl 1 1 (xrun n d y (pc + 1) lo (.int (a - b) :: st) σ) = some r
  rw [xl_self]
  exact h n hn
theorem ev_imul {a b : Int32} (hd : decode (xC y) pc = .ok (.imul, 1)) (h : xEv d y (pc + 1) lo (.int (a * b) :: st) σ r) : xEv d y pc lo (.int b :: .int a :: st) σ r := by
  refine xEv.step hd ?_
  obtain ⟨N, h⟩ := h
  refine ⟨N, fun n hn => ?_⟩
  show xl 1 1 (xrun n d y (pc + 1) lo (.int (a * b) :: st) σ) = some r
  rw [xl_self]
  exact h n hn
theorem ev_iand {a b : Int32} (hd : decode (xC y) pc = .ok (.iand, 1)) (h : xEv d y (pc + 1) lo (.int (a &&& b) :: st) σ r) : xEv d y pc lo (.int b :: .int a :: st) σ r := by
  refine xEv.step hd ?_
  obtain ⟨N, h⟩ := h
  refine ⟨N, fun n hn => ?_⟩
  show xl 1 1 (xrun n d y (pc + 1) lo (.int (a &&& b) :: st) σ) = some r
  rw [xl_self]
  exact h n hn
theorem ev_idiv {a b : Int32} (hd : decode (xC y) pc = .ok (.idiv, 1)) (h0 : ¬ b = 0) (h : xEv d y (pc + 1) lo (.int (a / b) :: st) σ r) : xEv d y pc lo (.int b :: .int a :: st) σ r := by
  refine xEv.step hd ?_
  obtain ⟨N, h⟩ := h
  refine ⟨N, fun n hn => ?_⟩
  show xl 1 1 (xp (¬ b = 0) (xrun n d y (pc + 1) lo (.int (a / b) :: st) σ)) = some r
  rw [xl_self, xp_at h0]
  exact h n hn
theorem ev_irem {a b : Int32} (hd : decode (xC y) pc = .ok (.irem, 1)) (h0 : ¬ b = 0) (h : xEv d y (pc + 1) lo (.int (a - a / b * b) :: st) σ r) : xEv d y pc lo (.int b :: .int a :: st) σ r := by
  refine xEv.step hd ?_
  obtain ⟨N, h⟩ := h
  refine ⟨N, fun n hn => ?_⟩
  show xl 1 1 (xp (¬ b = 0) (xrun n d y (pc + 1) lo (.int (a - a / b * b) :: st) σ)) = some r
  rw [xl_self, xp_at h0]
  exact h n hn
theorem ev_dup {v : Value} (hd : decode (xC y) pc = .ok (.dup, 1)) (hv : v.category = 1) (h : xEv d y (pc + 1) lo (v :: v :: st) σ r) : xEv d y pc lo (v :: st) σ r := by
  refine xEv.step hd ?_
  obtain ⟨N, h⟩ := h
  refine ⟨N, fun n hn => ?_⟩
  show xl 1 1 (xp (v.category = 1) (xrun n d y (pc + 1) lo (v :: v :: st) σ)) = some r
  rw [xl_self, xp_at hv]
  exact h n hn
theorem ev_dup2 {v u : Value} (hd : decode (xC y) pc = .ok (.dup2, 1)) (hv : v.category = 1 ∧ u.category = 1) (h : xEv d y (pc + 1) lo (v :: u :: v :: u :: st) σ r) : xEv d y pc lo (v :: u :: st) σ r := by
  refine xEv.step hd ?_
  obtain ⟨N, h⟩ := h
  refine ⟨N, fun n hn => ?_⟩
  show xl 1 1 (xp (v.category = 1 ∧ u.category = 1) (xrun n d y (pc + 1) lo (v :: u :: v :: u :: st) σ)) = some r
  rw [xl_self, xp_at hv]
  exact h n hn
theorem ev_goto {off : Int} {t : Nat} (hd : decode (xC y) pc = .ok (.goto off, 3)) (ht : (pc : Int) + off = (t : Int)) (h : xEv d y t lo st σ r) : xEv d y pc lo st σ r := by
  refine xEv.step hd ?_
  obtain ⟨N, h⟩ := h
  refine ⟨N, fun n hn => ?_⟩
  show xl 3 3 (xjmp pc off fun t => xrun n d y t lo st σ) = some r
  rw [xl_self, xjmp_to ht]
  exact h n hn
theorem ev_icmp_eq {a b : Int32} {off : Int} {t : Nat} (hd : decode (xC y) pc = .ok (.if_icmp .eq off, 3)) (ht : (pc : Int) + off = (t : Int)) (h1 : a = b → xEv d y t lo st σ r) (h2 : ¬ a = b → xEv d y (pc + 3) lo st σ r) : xEv d y pc lo (.int b :: .int a :: st) σ r := by
  refine xEv.step hd ?_
  by_cases hc : a = b
  · obtain ⟨N, h⟩ := h1 hc
    refine ⟨N, fun n hn => ?_⟩
    show xl 3 3 (xjmp pc off fun t => xif .eq a b (xrun n d y t lo st σ) (xrun n d y (pc + 3) lo st σ)) = some r
    rw [xl_self, xjmp_to ht]
    exact (if_pos hc).trans (h n hn)
  · obtain ⟨N, h⟩ := h2 hc
    refine ⟨N, fun n hn => ?_⟩
    show xl 3 3 (xjmp pc off fun t => xif .eq a b (xrun n d y t lo st σ) (xrun n d y (pc + 3) lo st σ)) = some r
    rw [xl_self, xjmp_to ht]
    exact (if_neg hc).trans (h n hn)
theorem ev_icmp_ne {a b : Int32} {off : Int} {t : Nat} (hd : decode (xC y) pc = .ok (.if_icmp .ne off, 3)) (ht : (pc : Int) + off = (t : Int)) (h1 : ¬ a = b → xEv d y t lo st σ r) (h2 : a = b → xEv d y (pc + 3) lo st σ r) : xEv d y pc lo (.int b :: .int a :: st) σ r := by
  refine xEv.step hd ?_
  by_cases hc : a = b
  · obtain ⟨N, h⟩ := h2 hc
    refine ⟨N, fun n hn => ?_⟩
    show xl 3 3 (xjmp pc off fun t => xif .ne a b (xrun n d y t lo st σ) (xrun n d y (pc + 3) lo st σ)) = some r
    rw [xl_self, xjmp_to ht]
    exact (if_pos hc).trans (h n hn)
  · obtain ⟨N, h⟩ := h1 hc
    refine ⟨N, fun n hn => ?_⟩
    show xl 3 3 (xjmp pc off fun t => xif .ne a b (xrun n d y t lo st σ) (xrun n d y (pc + 3) lo st σ)) = some r
    rw [xl_self, xjmp_to ht]
    exact (if_neg hc).trans (h n hn)
theorem ev_icmp_lt {a b : Int32} {off : Int} {t : Nat} (hd : decode (xC y) pc = .ok (.if_icmp .lt off, 3)) (ht : (pc : Int) + off = (t : Int)) (h1 : a < b → xEv d y t lo st σ r) (h2 : ¬ a < b → xEv d y (pc + 3) lo st σ r) : xEv d y pc lo (.int b :: .int a :: st) σ r := by
  refine xEv.step hd ?_
  by_cases hc : a < b
  · obtain ⟨N, h⟩ := h1 hc
    refine ⟨N, fun n hn => ?_⟩
    show xl 3 3 (xjmp pc off fun t => xif .lt a b (xrun n d y t lo st σ) (xrun n d y (pc + 3) lo st σ)) = some r
    rw [xl_self, xjmp_to ht]
    exact (if_pos hc).trans (h n hn)
  · obtain ⟨N, h⟩ := h2 hc
    refine ⟨N, fun n hn => ?_⟩
    show xl 3 3 (xjmp pc off fun t => xif .lt a b (xrun n d y t lo st σ) (xrun n d y (pc + 3) lo st σ)) = some r
    rw [xl_self, xjmp_to ht]
    exact (if_neg hc).trans (h n hn)
theorem ev_icmp_ge {a b : Int32} {off : Int} {t : Nat} (hd : decode (xC y) pc = .ok (.if_icmp .ge off, 3)) (ht : (pc : Int) + off = (t : Int)) (h1 : b ≤ a → xEv d y t lo st σ r) (h2 : ¬ b ≤ a → xEv d y (pc + 3) lo st σ r) : xEv d y pc lo (.int b :: .int a :: st) σ r := by
  refine xEv.step hd ?_
  by_cases hc : b ≤ a
  · obtain ⟨N, h⟩ := h1 hc
    refine ⟨N, fun n hn => ?_⟩
    show xl 3 3 (xjmp pc off fun t => xif .ge a b (xrun n d y t lo st σ) (xrun n d y (pc + 3) lo st σ)) = some r
    rw [xl_self, xjmp_to ht]
    exact (if_pos hc).trans (h n hn)
  · obtain ⟨N, h⟩ := h2 hc
    refine ⟨N, fun n hn => ?_⟩
    show xl 3 3 (xjmp pc off fun t => xif .ge a b (xrun n d y t lo st σ) (xrun n d y (pc + 3) lo st σ)) = some r
    rw [xl_self, xjmp_to ht]
    exact (if_neg hc).trans (h n hn)
theorem ev_icmp_gt {a b : Int32} {off : Int} {t : Nat} (hd : decode (xC y) pc = .ok (.if_icmp .gt off, 3)) (ht : (pc : Int) + off = (t : Int)) (h1 : b < a → xEv d y t lo st σ r) (h2 : ¬ b < a → xEv d y (pc + 3) lo st σ r) : xEv d y pc lo (.int b :: .int a :: st) σ r := by
  refine xEv.step hd ?_
  by_cases hc : b < a
  · obtain ⟨N, h⟩ := h1 hc
    refine ⟨N, fun n hn => ?_⟩
    show xl 3 3 (xjmp pc off fun t => xif .gt a b (xrun n d y t lo st σ) (xrun n d y (pc + 3) lo st σ)) = some r
    rw [xl_self, xjmp_to ht]
    exact (if_pos hc).trans (h n hn)
  · obtain ⟨N, h⟩ := h2 hc
    refine ⟨N, fun n hn => ?_⟩
    show xl 3 3 (xjmp pc off fun t => xif .gt a b (xrun n d y t lo st σ) (xrun n d y (pc + 3) lo st σ)) = some r
    rw [xl_self, xjmp_to ht]
    exact (if_neg hc).trans (h n hn)
theorem ev_icmp_le {a b : Int32} {off : Int} {t : Nat} (hd : decode (xC y) pc = .ok (.if_icmp .le off, 3)) (ht : (pc : Int) + off = (t : Int)) (h1 : a ≤ b → xEv d y t lo st σ r) (h2 : ¬ a ≤ b → xEv d y (pc + 3) lo st σ r) : xEv d y pc lo (.int b :: .int a :: st) σ r := by
  refine xEv.step hd ?_
  by_cases hc : a ≤ b
  · obtain ⟨N, h⟩ := h1 hc
    refine ⟨N, fun n hn => ?_⟩
    show xl 3 3 (xjmp pc off fun t => xif .le a b (xrun n d y t lo st σ) (xrun n d y (pc + 3) lo st σ)) = some r
    rw [xl_self, xjmp_to ht]
    exact (if_pos hc).trans (h n hn)
  · obtain ⟨N, h⟩ := h2 hc
    refine ⟨N, fun n hn => ?_⟩
    show xl 3 3 (xjmp pc off fun t => xif .le a b (xrun n d y t lo st σ) (xrun n d y (pc + 3) lo st σ)) = some r
    rw [xl_self, xjmp_to ht]
    exact (if_neg hc).trans (h n hn)
theorem ev_if_eq {a : Int32} {off : Int} {t : Nat} (hd : decode (xC y) pc = .ok (.ifCond .eq off, 3)) (ht : (pc : Int) + off = (t : Int)) (h1 : a = 0 → xEv d y t lo st σ r) (h2 : ¬ a = 0 → xEv d y (pc + 3) lo st σ r) : xEv d y pc lo (.int a :: st) σ r := by
  refine xEv.step hd ?_
  by_cases hc : a = 0
  · obtain ⟨N, h⟩ := h1 hc
    refine ⟨N, fun n hn => ?_⟩
    show xl 3 3 (xjmp pc off fun t => xif .eq a 0 (xrun n d y t lo st σ) (xrun n d y (pc + 3) lo st σ)) = some r
    rw [xl_self, xjmp_to ht]
    exact (if_pos hc).trans (h n hn)
  · obtain ⟨N, h⟩ := h2 hc
    refine ⟨N, fun n hn => ?_⟩
    show xl 3 3 (xjmp pc off fun t => xif .eq a 0 (xrun n d y t lo st σ) (xrun n d y (pc + 3) lo st σ)) = some r
    rw [xl_self, xjmp_to ht]
    exact (if_neg hc).trans (h n hn)
theorem ev_if_ne {a : Int32} {off : Int} {t : Nat} (hd : decode (xC y) pc = .ok (.ifCond .ne off, 3)) (ht : (pc : Int) + off = (t : Int)) (h1 : ¬ a = 0 → xEv d y t lo st σ r) (h2 : a = 0 → xEv d y (pc + 3) lo st σ r) : xEv d y pc lo (.int a :: st) σ r := by
  refine xEv.step hd ?_
  by_cases hc : a = 0
  · obtain ⟨N, h⟩ := h2 hc
    refine ⟨N, fun n hn => ?_⟩
    show xl 3 3 (xjmp pc off fun t => xif .ne a 0 (xrun n d y t lo st σ) (xrun n d y (pc + 3) lo st σ)) = some r
    rw [xl_self, xjmp_to ht]
    exact (if_pos hc).trans (h n hn)
  · obtain ⟨N, h⟩ := h1 hc
    refine ⟨N, fun n hn => ?_⟩
    show xl 3 3 (xjmp pc off fun t => xif .ne a 0 (xrun n d y t lo st σ) (xrun n d y (pc + 3) lo st σ)) = some r
    rw [xl_self, xjmp_to ht]
    exact (if_neg hc).trans (h n hn)
theorem ev_if_lt {a : Int32} {off : Int} {t : Nat} (hd : decode (xC y) pc = .ok (.ifCond .lt off, 3)) (ht : (pc : Int) + off = (t : Int)) (h1 : a < 0 → xEv d y t lo st σ r) (h2 : ¬ a < 0 → xEv d y (pc + 3) lo st σ r) : xEv d y pc lo (.int a :: st) σ r := by
  refine xEv.step hd ?_
  by_cases hc : a < 0
  · obtain ⟨N, h⟩ := h1 hc
    refine ⟨N, fun n hn => ?_⟩
    show xl 3 3 (xjmp pc off fun t => xif .lt a 0 (xrun n d y t lo st σ) (xrun n d y (pc + 3) lo st σ)) = some r
    rw [xl_self, xjmp_to ht]
    exact (if_pos hc).trans (h n hn)
  · obtain ⟨N, h⟩ := h2 hc
    refine ⟨N, fun n hn => ?_⟩
    show xl 3 3 (xjmp pc off fun t => xif .lt a 0 (xrun n d y t lo st σ) (xrun n d y (pc + 3) lo st σ)) = some r
    rw [xl_self, xjmp_to ht]
    exact (if_neg hc).trans (h n hn)
theorem ev_if_ge {a : Int32} {off : Int} {t : Nat} (hd : decode (xC y) pc = .ok (.ifCond .ge off, 3)) (ht : (pc : Int) + off = (t : Int)) (h1 : 0 ≤ a → xEv d y t lo st σ r) (h2 : ¬ 0 ≤ a → xEv d y (pc + 3) lo st σ r) : xEv d y pc lo (.int a :: st) σ r := by
  refine xEv.step hd ?_
  by_cases hc : 0 ≤ a
  · obtain ⟨N, h⟩ := h1 hc
    refine ⟨N, fun n hn => ?_⟩
    show xl 3 3 (xjmp pc off fun t => xif .ge a 0 (xrun n d y t lo st σ) (xrun n d y (pc + 3) lo st σ)) = some r
    rw [xl_self, xjmp_to ht]
    exact (if_pos hc).trans (h n hn)
  · obtain ⟨N, h⟩ := h2 hc
    refine ⟨N, fun n hn => ?_⟩
    show xl 3 3 (xjmp pc off fun t => xif .ge a 0 (xrun n d y t lo st σ) (xrun n d y (pc + 3) lo st σ)) = some r
    rw [xl_self, xjmp_to ht]
    exact (if_neg hc).trans (h n hn)
theorem ev_if_gt {a : Int32} {off : Int} {t : Nat} (hd : decode (xC y) pc = .ok (.ifCond .gt off, 3)) (ht : (pc : Int) + off = (t : Int)) (h1 : 0 < a → xEv d y t lo st σ r) (h2 : ¬ 0 < a → xEv d y (pc + 3) lo st σ r) : xEv d y pc lo (.int a :: st) σ r := by
  refine xEv.step hd ?_
  by_cases hc : 0 < a
  · obtain ⟨N, h⟩ := h1 hc
    refine ⟨N, fun n hn => ?_⟩
    show xl 3 3 (xjmp pc off fun t => xif .gt a 0 (xrun n d y t lo st σ) (xrun n d y (pc + 3) lo st σ)) = some r
    rw [xl_self, xjmp_to ht]
    exact (if_pos hc).trans (h n hn)
  · obtain ⟨N, h⟩ := h2 hc
    refine ⟨N, fun n hn => ?_⟩
    show xl 3 3 (xjmp pc off fun t => xif .gt a 0 (xrun n d y t lo st σ) (xrun n d y (pc + 3) lo st σ)) = some r
    rw [xl_self, xjmp_to ht]
    exact (if_neg hc).trans (h n hn)
theorem ev_if_le {a : Int32} {off : Int} {t : Nat} (hd : decode (xC y) pc = .ok (.ifCond .le off, 3)) (ht : (pc : Int) + off = (t : Int)) (h1 : a ≤ 0 → xEv d y t lo st σ r) (h2 : ¬ a ≤ 0 → xEv d y (pc + 3) lo st σ r) : xEv d y pc lo (.int a :: st) σ r := by
  refine xEv.step hd ?_
  by_cases hc : a ≤ 0
  · obtain ⟨N, h⟩ := h1 hc
    refine ⟨N, fun n hn => ?_⟩
    show xl 3 3 (xjmp pc off fun t => xif .le a 0 (xrun n d y t lo st σ) (xrun n d y (pc + 3) lo st σ)) = some r
    rw [xl_self, xjmp_to ht]
    exact (if_pos hc).trans (h n hn)
  · obtain ⟨N, h⟩ := h2 hc
    refine ⟨N, fun n hn => ?_⟩
    show xl 3 3 (xjmp pc off fun t => xif .le a 0 (xrun n d y t lo st σ) (xrun n d y (pc + 3) lo st σ)) = some r
    rw [xl_self, xjmp_to ht]
    exact (if_neg hc).trans (h n hn)
theorem ev_ifnullN {off : Int} {t : Nat} (hd : decode (xC y) pc = .ok (.ifnull off, 3)) (ht : (pc : Int) + off = (t : Int)) (h : xEv d y t lo st σ r) : xEv d y pc lo (.null :: st) σ r := by
  refine xEv.step hd ?_
  obtain ⟨N, h⟩ := h
  refine ⟨N, fun n hn => ?_⟩
  show xl 3 3 (xjmp pc off fun t => xrun n d y t lo st σ) = some r
  rw [xl_self, xjmp_to ht]
  exact h n hn
theorem ev_ifnull {off : Int} {a : Nat} (hd : decode (xC y) pc = .ok (.ifnull off, 3)) (h : xEv d y (pc + 3) lo st σ r) : xEv d y pc lo (.ref a :: st) σ r := by
  refine xEv.step hd ?_
  obtain ⟨N, h⟩ := h
  refine ⟨N, fun n hn => ?_⟩
  show xl 3 3 (xrun n d y (pc + 3) lo st σ) = some r
  rw [xl_self]
  exact h n hn
theorem ev_ifnonnullN {off : Int} (hd : decode (xC y) pc = .ok (.ifnonnull off, 3)) (h : xEv d y (pc + 3) lo st σ r) : xEv d y pc lo (.null :: st) σ r := by
  refine xEv.step hd ?_
  obtain ⟨N, h⟩ := h
  refine ⟨N, fun n hn => ?_⟩
  show xl 3 3 (xrun n d y (pc + 3) lo st σ) = some r
  rw [xl_self]
  exact h n hn
theorem ev_ifnonnull {off : Int} {t a : Nat} (hd : decode (xC y) pc = .ok (.ifnonnull off, 3)) (ht : (pc : Int) + off = (t : Int)) (h : xEv d y t lo st σ r) : xEv d y pc lo (.ref a :: st) σ r := by
  refine xEv.step hd ?_
  obtain ⟨N, h⟩ := h
  refine ⟨N, fun n hn => ?_⟩
  show xl 3 3 (xjmp pc off fun t => xrun n d y t lo st σ) = some r
  rw [xl_self, xjmp_to ht]
  exact h n hn
theorem ev_tsOut {a : Int32} {df l0 h0 : Int} {os : Array Int} {len t : Nat} (hd : decode (xC y) pc = .ok (.tableswitch df l0 h0 os, len)) (hc : a.toInt < l0 ∨ h0 < a.toInt) (ht : (pc : Int) + df = (t : Int)) (h : xEv d y t lo st σ r) : xEv d y pc lo (.int a :: st) σ r := by
  refine xEv.step hd ?_
  obtain ⟨N, h⟩ := h
  refine ⟨N, fun n hn => ?_⟩
  show (if a.toInt < l0 ∨ h0 < a.toInt then xjmp pc df fun t => xrun n d y t lo st σ else xq os[(a.toInt - l0).toNat]? fun off => xjmp pc off fun t => xrun n d y t lo st σ) = some r
  rw [if_pos hc, xjmp_to ht]
  exact h n hn
theorem ev_tsIn {a : Int32} {df l0 h0 off : Int} {os : Array Int} {len t : Nat} (hd : decode (xC y) pc = .ok (.tableswitch df l0 h0 os, len)) (hc : ¬ (a.toInt < l0 ∨ h0 < a.toInt)) (ho : os[(a.toInt - l0).toNat]? = some off) (ht : (pc : Int) + off = (t : Int)) (h : xEv d y t lo st σ r) : xEv d y pc lo (.int a :: st) σ r := by
  refine xEv.step hd ?_
  obtain ⟨N, h⟩ := h
  refine ⟨N, fun n hn => ?_⟩
  show (if a.toInt < l0 ∨ h0 < a.toInt then xjmp pc df fun t => xrun n d y t lo st σ else xq os[(a.toInt - l0).toNat]? fun off => xjmp pc off fun t => xrun n d y t lo st σ) = some r
  rw [if_neg hc, xq_at ho, xjmp_to ht]
  exact h n hn
theorem ev_ls {a : Int32} {df off : Int} {ps : Array (Int × Int)} {len t : Nat} (hd : decode (xC y) pc = .ok (.lookupswitch df ps, len)) (hp : (ps.toList.zip (ps.toList.drop 1)).all (fun (a, next) => a.1 < next.1) = true) (ho : Op.lookupswitch.offset ps.toList df a.toInt = off) (ht : (pc : Int) + off = (t : Int)) (h : xEv d y t lo st σ r) : xEv d y pc lo (.int a :: st) σ r := by
  refine xEv.step hd ?_
  obtain ⟨N, h⟩ := h
  refine ⟨N, fun n hn => ?_⟩
  show xp ((ps.toList.zip (ps.toList.drop 1)).all (fun (a, next) => a.1 < next.1) = true) (xjmp pc (Op.lookupswitch.offset ps.toList df a.toInt) fun t => xrun n d y t lo st σ) = some r
  rw [xp_at hp, ho, xjmp_to ht]
  exact h n hn
theorem ev_get {k a ci j : Nat} {fs : List Value} {v : Value} (hd : decode (xC y) pc = .ok (.getfield k, 3)) (hf : xfl (xo y) k = some (ci, j)) (ha : σ.1 a = some (.inr (ci, fs))) (hv : fs[j]? = some v) (h : xEv d y (pc + 3) lo (v :: st) σ r) : xEv d y pc lo (.ref a :: st) σ r := by
  refine xEv.step hd ?_
  obtain ⟨N, h⟩ := h
  refine ⟨N, fun n hn => ?_⟩
  show xl 3 3 (xq (xfl (xo y) k) fun f => xobj σ.1 a f.1 fun fs => xq fs[f.2]? fun v => xrun n d y (pc + 3) lo (v :: st) σ) = some r
  rw [xl_self, xq_at hf, xobj_at ha, xq_at hv]
  exact h n hn
theorem ev_put {k a ci j : Nat} {fs : List Value} {v : Value} {M1 : xMm} (hd : decode (xC y) pc = .ok (.putfield k, 3)) (hf : xfl (xo y) k = some (ci, j)) (ha : σ.1 a = some (.inr (ci, fs))) (hc : j < fs.length ∧ xfitb ci j v = true ∧ (xfin ci j = false ∨ ((xN y).name = "<init>" ∧ xo y = ci))) (hM : xset σ.1 a (.inr (ci, fs.set j v)) = M1) (h : xEv d y (pc + 3) lo st (M1, σ.2) r) : xEv d y pc lo (v :: .ref a :: st) σ r := by
  refine xEv.step hd ?_
  obtain ⟨N, h⟩ := h
  refine ⟨N, fun n hn => ?_⟩
  show xl 3 3 (xq (xfl (xo y) k) fun f => xobj σ.1 a f.1 fun fs => xp (f.2 < fs.length ∧ xfitb f.1 f.2 v = true ∧ (xfin f.1 f.2 = false ∨ ((xN y).name = "<init>" ∧ xo y = f.1))) (xrun n d y (pc + 3) lo st (xset σ.1 a (.inr (f.1, fs.set f.2 v)), σ.2))) = some r
  rw [xl_self, xq_at hf, xobj_at ha, xp_at hc, hM]
  exact h n hn
theorem ev_alen {a t : Nat} {x : vp_A} {v : Int32} (hd : decode (xC y) pc = .ok (.arraylength, 1)) (ha : σ.1 a = some (.inl (t, x))) (ht : t < xty.length) (hv : Int32.ofNat x.1 = v) (h : xEv d y (pc + 1) lo (.int v :: st) σ r) : xEv d y pc lo (.ref a :: st) σ r := by
  refine xEv.step hd ?_
  obtain ⟨N, h⟩ := h
  refine ⟨N, fun n hn => ?_⟩
  show xl 1 1 (xarr σ.1 a fun t x => xp (t < xty.length) (xrun n d y (pc + 1) lo (.int (Int32.ofNat x.1) :: st) σ)) = some r
  rw [xl_self, xarr_at ha, xp_at ht, hv]
  exact h n hn
theorem ev_iald {a t k : Nat} {f : Nat → Int32} {i v : Int32} (hd : decode (xC y) pc = .ok (.iaload, 1)) (ha : σ.1 a = some (.inl (t, k, .inl f))) (ht : xty[t]? = some .int ∧ xin i k) (hv : f i.toNatClampNeg = v) (h : xEv d y (pc + 1) lo (.int v :: st) σ r) : xEv d y pc lo (.int i :: .ref a :: st) σ r := by
  refine xEv.step hd ?_
  obtain ⟨N, h⟩ := h
  refine ⟨N, fun n hn => ?_⟩
  show xl 1 1 (xari σ.1 a fun t k f => xp (xty[t]? = some .int ∧ xin i k) (xrun n d y (pc + 1) lo (.int (f i.toNatClampNeg) :: st) σ)) = some r
  rw [xl_self, xari_at ha, xp_at ht, hv]
  exact h n hn
theorem ev_zald {a t k : Nat} {f : Nat → Int32} {i v : Int32} (hd : decode (xC y) pc = .ok (.baload, 1)) (ha : σ.1 a = some (.inl (t, k, .inl f))) (ht : xty[t]? = some .boolean ∧ xin i k) (hv : f i.toNatClampNeg = v) (h : xEv d y (pc + 1) lo (.int v :: st) σ r) : xEv d y pc lo (.int i :: .ref a :: st) σ r := by
  refine xEv.step hd ?_
  obtain ⟨N, h⟩ := h
  refine ⟨N, fun n hn => ?_⟩
  show xl 1 1 (xari σ.1 a fun t k f => xp (xty[t]? = some .boolean ∧ xin i k) (xrun n d y (pc + 1) lo (.int (f i.toNatClampNeg) :: st) σ)) = some r
  rw [xl_self, xari_at ha, xp_at ht, hv]
  exact h n hn
theorem ev_aald {a t k : Nat} {f : Nat → Option Nat} {i : Int32} {v : Value} (hd : decode (xC y) pc = .ok (.aaload, 1)) (ha : σ.1 a = some (.inl (t, k, .inr (.inr (.inr (.inr f)))))) (ht : (xtyo t).isSome = true ∧ xin i k) (hv : va_rf (f i.toNatClampNeg) = v) (h : xEv d y (pc + 1) lo (v :: st) σ r) : xEv d y pc lo (.int i :: .ref a :: st) σ r := by
  refine xEv.step hd ?_
  obtain ⟨N, h⟩ := h
  refine ⟨N, fun n hn => ?_⟩
  show xl 1 1 (xarq σ.1 a fun t k f => xp ((xtyo t).isSome = true ∧ xin i k) (xrun n d y (pc + 1) lo (va_rf (f i.toNatClampNeg) :: st) σ)) = some r
  rw [xl_self, xarq_at ha, xp_at ht, hv]
  exact h n hn
theorem ev_iast {a t k : Nat} {f : Nat → Int32} {i x : Int32} {M1 : xMm} (hd : decode (xC y) pc = .ok (.iastore, 1)) (ha : σ.1 a = some (.inl (t, k, .inl f))) (ht : xty[t]? = some .int ∧ xin i k) (hM : xset σ.1 a (.inl (t, k, .inl (upd f i.toNatClampNeg x))) = M1) (h : xEv d y (pc + 1) lo st (M1, σ.2) r) : xEv d y pc lo (.int x :: .int i :: .ref a :: st) σ r := by
  refine xEv.step hd ?_
  obtain ⟨N, h⟩ := h
  refine ⟨N, fun n hn => ?_⟩
  show xl 1 1 (xari σ.1 a fun t k f => xp (xty[t]? = some .int ∧ xin i k) (xrun n d y (pc + 1) lo st (xset σ.1 a (.inl (t, k, .inl (upd f i.toNatClampNeg x))), σ.2))) = some r
  rw [xl_self, xari_at ha, xp_at ht, hM]
  exact h n hn
theorem ev_zast {a t k : Nat} {f : Nat → Int32} {i x : Int32} {M1 : xMm} (hd : decode (xC y) pc = .ok (.bastore, 1)) (ha : σ.1 a = some (.inl (t, k, .inl f))) (ht : xty[t]? = some .boolean ∧ xin i k) (hM : xset σ.1 a (.inl (t, k, .inl (upd f i.toNatClampNeg (x &&& 1)))) = M1) (h : xEv d y (pc + 1) lo st (M1, σ.2) r) : xEv d y pc lo (.int x :: .int i :: .ref a :: st) σ r := by
  refine xEv.step hd ?_
  obtain ⟨N, h⟩ := h
  refine ⟨N, fun n hn => ?_⟩
  show xl 1 1 (xari σ.1 a fun t k f => xp (xty[t]? = some .boolean ∧ xin i k) (xrun n d y (pc + 1) lo st (xset σ.1 a (.inl (t, k, .inl (upd f i.toNatClampNeg (x &&& 1)))), σ.2))) = some r
  rw [xl_self, xari_at ha, xp_at ht, hM]
  exact h n hn
theorem ev_aast {a t k v cv : Nat} {f : Nat → Option Nat} {i : Int32} {vs : List Value} {M1 : xMm} (hd : decode (xC y) pc = .ok (.aastore, 1)) (ha : σ.1 a = some (.inl (t, k, .inr (.inr (.inr (.inr f)))))) (ht : xtyo t = some cv) (hv : σ.1 v = some (.inr (cv, vs))) (hi : xin i k) (hM : xset σ.1 a (.inl (t, k, .inr (.inr (.inr (.inr (va_up f i.toNatClampNeg (some v))))))) = M1) (h : xEv d y (pc + 1) lo st (M1, σ.2) r) : xEv d y pc lo (.ref v :: .int i :: .ref a :: st) σ r := by
  refine xEv.step hd ?_
  obtain ⟨N, h⟩ := h
  refine ⟨N, fun n hn => ?_⟩
  show xl 1 1 (xarq σ.1 a fun t k f => xq (xtyo t) fun cv => xobj σ.1 v cv fun _ => xp (xin i k) (xrun n d y (pc + 1) lo st (xset σ.1 a (.inl (t, k, .inr (.inr (.inr (.inr (va_up f i.toNatClampNeg (some v))))))), σ.2))) = some r
  rw [xl_self, xarq_at ha, xq_at ht, xobj_at hv, xp_at hi, hM]
  exact h n hn
theorem ev_newI {k : Int32} {z : Nat} {S1 : xS} (hd : decode (xC y) pc = .ok (.newarray .int, 2)) (hk : ¬ k < 0 ∧ k.toNatClampNeg ≤ 100000) (hz : k.toNatClampNeg = z) (hS : (xset σ.1 σ.2.1 (.inl (0, z, .inl fun _ => 0)), σ.2.1 + 1, σ.2.2 + z) = S1) (h : xEv d y (pc + 2) lo (.ref σ.2.1 :: st) S1 r) : xEv d y pc lo (.int k :: st) σ r := by
  refine xEv.step hd ?_
  obtain ⟨N, h⟩ := h
  refine ⟨N, fun n hn => ?_⟩
  show xl 2 2 (xp (¬ k < 0 ∧ k.toNatClampNeg ≤ 100000) (xrun n d y (pc + 2) lo (.ref σ.2.1 :: st) (xset σ.1 σ.2.1 (.inl (0, k.toNatClampNeg, .inl fun _ => 0)), σ.2.1 + 1, σ.2.2 + k.toNatClampNeg))) = some r
  rw [xl_self, xp_at hk, hz, hS]
  exact h n hn
theorem ev_newZ {k : Int32} {z : Nat} {S1 : xS} (hd : decode (xC y) pc = .ok (.newarray .boolean, 2)) (hk : ¬ k < 0 ∧ k.toNatClampNeg ≤ 100000) (hz : k.toNatClampNeg = z) (hS : (xset σ.1 σ.2.1 (.inl (1, z, .inl fun _ => 0)), σ.2.1 + 1, σ.2.2 + z) = S1) (h : xEv d y (pc + 2) lo (.ref σ.2.1 :: st) S1 r) : xEv d y pc lo (.int k :: st) σ r := by
  refine xEv.step hd ?_
  obtain ⟨N, h⟩ := h
  refine ⟨N, fun n hn => ?_⟩
  show xl 2 2 (xp (¬ k < 0 ∧ k.toNatClampNeg ≤ 100000) (xrun n d y (pc + 2) lo (.ref σ.2.1 :: st) (xset σ.1 σ.2.1 (.inl (1, k.toNatClampNeg, .inl fun _ => 0)), σ.2.1 + 1, σ.2.2 + k.toNatClampNeg))) = some r
  rw [xl_self, xp_at hk, hz, hS]
  exact h n hn
theorem ev_newA {j t : Nat} {k : Int32} {z : Nat} {S1 : xS} (hd : decode (xC y) pc = .ok (.anewarray j, 3)) (ht : xac (xo y) j = some t) (hk : ¬ k < 0 ∧ k.toNatClampNeg ≤ 100000) (hz : k.toNatClampNeg = z) (hS : (xset σ.1 σ.2.1 (.inl (t, z, .inr (.inr (.inr (.inr fun _ => none))))), σ.2.1 + 1, σ.2.2 + z) = S1) (h : xEv d y (pc + 3) lo (.ref σ.2.1 :: st) S1 r) : xEv d y pc lo (.int k :: st) σ r := by
  refine xEv.step hd ?_
  obtain ⟨N, h⟩ := h
  refine ⟨N, fun n hn => ?_⟩
  show xl 3 3 (xq (xac (xo y) j) fun t => xp (¬ k < 0 ∧ k.toNatClampNeg ≤ 100000) (xrun n d y (pc + 3) lo (.ref σ.2.1 :: st) (xset σ.1 σ.2.1 (.inl (t, k.toNatClampNeg, .inr (.inr (.inr (.inr fun _ => none))))), σ.2.1 + 1, σ.2.2 + k.toNatClampNeg))) = some r
  rw [xl_self, xq_at ht, xp_at hk, hz, hS]
  exact h n hn
theorem ev_new {j ci : Nat} {S1 : xS} (hd : decode (xC y) pc = .ok (.new j, 3)) (h0 : xth y pc = none) (hc : xnw (xo y) j = some ci) (hS : (xset σ.1 σ.2.1 (.inr (ci, xdf ci)), σ.2.1 + 1, σ.2.2 + (xdf ci).length) = S1) (h : xEv d y (pc + 3) lo (.ref σ.2.1 :: st) S1 r) : xEv d y pc lo st σ r := by
  refine xEv.step hd ?_
  obtain ⟨N, h⟩ := h
  refine ⟨N, fun n hn => ?_⟩
  show xl 3 3 (match xth y pc with
      | some q => xp (xwt st ≤ 8) (some (.inr q.2.1, (σ.1, σ.2.1 + 1, σ.2.2 + 6)))
      | none => xq (xnw (xo y) j) fun ci => xrun n d y (pc + 3) lo (.ref σ.2.1 :: st) (xset σ.1 σ.2.1 (.inr (ci, xdf ci)), σ.2.1 + 1, σ.2.2 + (xdf ci).length)) = some r
  rw [xl_self, h0]
  show xq (xnw (xo y) j) _ = some r
  rw [xq_at hc, hS]
  exact h n hn
theorem ev_throw {j : Nat} {E : xTs} (hd : decode (xC y) pc = .ok (.new j, 3)) (h0 : xth y pc = some E) (hw : xwt st ≤ 8) : xEv d y pc lo st σ (.inr E.2.1, (σ.1, σ.2.1 + 1, σ.2.2 + 6)) := by
  refine xEv.step hd ⟨0, fun n _ => ?_⟩
  show xl 3 3 (match xth y pc with
      | some q => xp (xwt st ≤ 8) (some (.inr q.2.1, (σ.1, σ.2.1 + 1, σ.2.2 + 6)))
      | none => xq (xnw (xo y) j) fun ci => xrun n d y (pc + 3) lo (.ref σ.2.1 :: st) (xset σ.1 σ.2.1 (.inr (ci, xdf ci)), σ.2.1 + 1, σ.2.2 + (xdf ci).length)) = _
  rw [xl_self, h0]
  exact if_pos hw
theorem ev_iret {v : Int32} (hd : decode (xC y) pc = .ok (.ireturn, 1)) (hr : xR y = some .int) : xEv d y pc lo [.int v] σ (.inl (some (.int v)), σ) := by
  refine xEv.step hd ⟨0, fun n _ => ?_⟩
  show xl 1 1 (match xR y with
          | some .int => some (.inl (some (.int v)), σ)
          | some .boolean => xp (v = 0 ∨ v = 1) (some (.inl (some (.int v)), σ))
          | _ => none) = _
  rw [xl_self, hr]
theorem ev_zret {v : Int32} (hd : decode (xC y) pc = .ok (.ireturn, 1)) (hr : xR y = some .boolean) (hv : v = 0 ∨ v = 1) : xEv d y pc lo [.int v] σ (.inl (some (.int v)), σ) := by
  refine xEv.step hd ⟨0, fun n _ => ?_⟩
  show xl 1 1 (match xR y with
          | some .int => some (.inl (some (.int v)), σ)
          | some .boolean => xp (v = 0 ∨ v = 1) (some (.inl (some (.int v)), σ))
          | _ => none) = _
  rw [xl_self, hr]
  exact if_pos hv
theorem ev_aret {a : Nat} (hd : decode (xC y) pc = .ok (.areturn, 1)) (hr : xrq (xR y) = true) : xEv d y pc lo [.ref a] σ (.inl (some (.ref a)), σ) := by
  refine xEv.step hd ⟨0, fun n _ => ?_⟩
  show xl 1 1 (xp (xrq (xR y) = true) (some (.inl (some (.ref a)), σ))) = _
  rw [xl_self, xp_at hr]
theorem ev_aretN (hd : decode (xC y) pc = .ok (.areturn, 1)) (hr : xrq (xR y) = true) : xEv d y pc lo [.null] σ (.inl (some .null), σ) := by
  refine xEv.step hd ⟨0, fun n _ => ?_⟩
  show xl 1 1 (xp (xrq (xR y) = true) (some (.inl (some .null), σ))) = _
  rw [xl_self, xp_at hr]
theorem ev_ret (hd : decode (xC y) pc = .ok (.return_, 1)) (hr : xR y = none) : xEv d y pc lo [] σ (.inl none, σ) := by
  refine xEv.step hd ⟨0, fun n _ => ?_⟩
  show xl 1 1 (xp (xR y = none) (some (.inl none, σ))) = _
  rw [xl_self, xp_at hr]
/-- a method's run from its entry -/
def xCl (d : Nat) (z : xMt) (as : List Value) (σ : xS) (r : xO × xS) : Prop := xEv d z 0 (xlo as (xm z)) [] σ r
theorem ev_call {z : xMt} {as rest : List Value} {r1 : xO × xS} (hc : (as.all fun v => v.category == 1) = true ∧ as.length ≤ xm z ∧ xwt rest ≤ 8) (h1 : xCl d z as σ r1) (h2 : match r1.1 with
      | .inl v => xEv (d + 1) y (pc + 3) lo (v.toList ++ rest) r1.2 r
      | .inr E => r = (.inr E, r1.2)) : ∃ N, ∀ n, N ≤ n → xcall (xrun n) (d + 1) y pc lo σ z as rest = some r := by
  obtain ⟨o1, σ1⟩ := r1
  obtain ⟨N1, h1⟩ := h1
  cases o1 with
  | inl v =>
    obtain ⟨N2, h2⟩ := h2
    refine ⟨N1 + N2, fun n hn => ?_⟩
    show xp _ (xq (xrun n d z 0 (xlo as (xm z)) [] σ) _) = some r
    rw [xp_at hc, xq_at (h1 n (by omega))]
    exact h2 n (by omega)
  | inr E =>
    refine ⟨N1, fun n hn => ?_⟩
    show xp _ (xq (xrun n d z 0 (xlo as (xm z)) [] σ) _) = some r
    rw [xp_at hc, xq_at (h1 n (by omega))]
    exact congrArg some (show r = (.inr E, σ1) from h2).symm
theorem ev_s0 {k : Nat} {z : xMt} {r1 : xO × xS} (hd : decode (xC y) pc = .ok (.invokestatic k, 3)) (hq : xca (xo y) k = some (0, z)) (hn : xnp z = 0) (hc : (([] : List Value).all fun v => v.category == 1) = true ∧ 0 ≤ xm z ∧ xwt st ≤ 8) (h1 : xCl d z [] σ r1) (h2 : match r1.1 with
      | .inl v => xEv (d + 1) y (pc + 3) lo (v.toList ++ st) r1.2 r
      | .inr E => r = (.inr E, r1.2)) : xEv (d + 1) y pc lo (st) σ r := by
  refine xEv.step hd ?_
  obtain ⟨N, h⟩ := ev_call (y := y) (pc := pc) (lo := lo) (rest := st) hc h1 h2
  refine ⟨N, fun n hge => ?_⟩
  show xl 3 3 (xq (xca (xo y) k) fun q => xp (q.1 = 0 ∧ xnp q.2 ≤ (st).length) (xcall (xrun n) (d + 1) y pc lo σ q.2 ((st).take (xnp q.2)).reverse ((st).drop (xnp q.2)))) = some r
  rw [xl_self, xq_at hq, xp_at ⟨rfl, by rw [hn]; simp⟩]
  show xcall (xrun n) (d + 1) y pc lo σ z ((st).take (xnp z)).reverse ((st).drop (xnp z)) = some r
  rw [hn]
  exact h n hge
theorem ev_v0 {k b : Nat} {z : xMt} {fs : List Value} {r1 : xO × xS} (hd : decode (xC y) pc = .ok (.invokevirtual k, 3)) (hq : xca (xo y) k = some (1, z)) (hn : xnp z = 0) (hb : σ.1 b = some (.inr (xo z, fs))) (hc : (((.ref b : Value) :: []).all fun v => v.category == 1) = true ∧ 1 ≤ xm z ∧ xwt st ≤ 8) (h1 : xCl d z (.ref b :: []) σ r1) (h2 : match r1.1 with
      | .inl v => xEv (d + 1) y (pc + 3) lo (v.toList ++ st) r1.2 r
      | .inr E => r = (.inr E, r1.2)) : xEv (d + 1) y pc lo (.ref b :: st) σ r := by
  refine xEv.step hd ?_
  obtain ⟨N, h⟩ := ev_call (y := y) (pc := pc) (lo := lo) (rest := st) hc h1 h2
  refine ⟨N, fun n hge => ?_⟩
  show xl 3 3 (xq (xca (xo y) k) fun q => xp (q.1 = 1 ∧ xnp q.2 ≤ (.ref b :: st).length) (xbr ((.ref b :: st).drop (xnp q.2)) fun b9 r9 => xobj σ.1 b9 (xo q.2) fun _ => xcall (xrun n) (d + 1) y pc lo σ q.2 (.ref b9 :: ((.ref b :: st).take (xnp q.2)).reverse) r9)) = some r
  rw [xl_self, xq_at hq, xp_at ⟨rfl, by rw [hn]; simp⟩]
  show xbr ((.ref b :: st).drop (xnp z)) (fun b9 r9 => xobj σ.1 b9 (xo z) fun _ => xcall (xrun n) (d + 1) y pc lo σ z (.ref b9 :: ((.ref b :: st).take (xnp z)).reverse) r9) = some r
  rw [hn]
  show xobj σ.1 b (xo z) (fun _ => xcall (xrun n) (d + 1) y pc lo σ z (.ref b :: []) st) = some r
  rw [xobj_at hb]
  exact h n hge
theorem ev_i0 {k b : Nat} {z : xMt} {σ1 : xS} (hd : decode (xC y) pc = .ok (.invokespecial k, 3)) (hq : ∃ kd, xca (xo y) k = some (kd, z) ∧ ¬ kd = 3 ∧ (kd = 2 ∨ kd = 4)) (hn : xnp z = 0) (hc : (((.ref b : Value) :: []).all fun v => v.category == 1) = true ∧ 1 ≤ xm z ∧ xwt st ≤ 8) (h1 : xCl d z (.ref b :: []) σ (.inl none, σ1)) (h2 : xEv (d + 1) y (pc + 3) lo st σ1 r) : xEv (d + 1) y pc lo (.ref b :: st) σ r := by
  refine xEv.step hd ?_
  obtain ⟨N1, h1⟩ := h1
  obtain ⟨N2, h2⟩ := h2
  refine ⟨N1 + N2, fun n hn9 => ?_⟩
  show xl 3 3 (xq (xca (xo y) k) fun q => if q.1 = 3 then xbr (.ref b :: st) fun _ r9 => xp (xwt r9 ≤ 8) (xrun n (d + 1) y (pc + 3) lo r9 σ) else xp ((q.1 = 2 ∨ q.1 = 4) ∧ xnp q.2 ≤ (.ref b :: st).length) (xbr ((.ref b :: st).drop (xnp q.2)) fun b9 r9 => xcallI (xrun n) (d + 1) y pc lo σ q.2 (.ref b9 :: ((.ref b :: st).take (xnp q.2)).reverse) r9)) = some r
  obtain ⟨kd, hq1, hq2, hq3⟩ := hq
  rw [xl_self, xq_at hq1, if_neg (show ¬ ((kd, z) : Nat × xMt).1 = 3 from hq2), xp_at ⟨hq3, by rw [hn]; simp⟩]
  show xbr ((.ref b :: st).drop (xnp z)) (fun b9 r9 => xcallI (xrun n) (d + 1) y pc lo σ z (.ref b9 :: ((.ref b :: st).take (xnp z)).reverse) r9) = some r
  rw [hn]
  show xp ((((.ref b : Value) :: []).all fun v => v.category == 1) = true ∧ 1 ≤ xm z ∧ xwt st ≤ 8) (xq (xrun n d z 0 (xlo (.ref b :: []) (xm z)) [] σ) _) = some r
  rw [xp_at hc, xq_at (h1 n (by omega))]
  exact h2 n (by omega)
theorem ev_s1 {k : Nat} {z : xMt} {v1 : Value} {r1 : xO × xS} (hd : decode (xC y) pc = .ok (.invokestatic k, 3)) (hq : xca (xo y) k = some (0, z)) (hn : xnp z = 1) (hc : (([v1] : List Value).all fun v => v.category == 1) = true ∧ 1 ≤ xm z ∧ xwt st ≤ 8) (h1 : xCl d z [v1] σ r1) (h2 : match r1.1 with
      | .inl v => xEv (d + 1) y (pc + 3) lo (v.toList ++ st) r1.2 r
      | .inr E => r = (.inr E, r1.2)) : xEv (d + 1) y pc lo (v1 :: st) σ r := by
  refine xEv.step hd ?_
  obtain ⟨N, h⟩ := ev_call (y := y) (pc := pc) (lo := lo) (rest := st) hc h1 h2
  refine ⟨N, fun n hge => ?_⟩
  show xl 3 3 (xq (xca (xo y) k) fun q => xp (q.1 = 0 ∧ xnp q.2 ≤ (v1 :: st).length) (xcall (xrun n) (d + 1) y pc lo σ q.2 ((v1 :: st).take (xnp q.2)).reverse ((v1 :: st).drop (xnp q.2)))) = some r
  rw [xl_self, xq_at hq, xp_at ⟨rfl, by rw [hn]; simp⟩]
  show xcall (xrun n) (d + 1) y pc lo σ z ((v1 :: st).take (xnp z)).reverse ((v1 :: st).drop (xnp z)) = some r
  rw [hn]
  exact h n hge
theorem ev_v1 {k b : Nat} {z : xMt} {fs : List Value} {v1 : Value} {r1 : xO × xS} (hd : decode (xC y) pc = .ok (.invokevirtual k, 3)) (hq : xca (xo y) k = some (1, z)) (hn : xnp z = 1) (hb : σ.1 b = some (.inr (xo z, fs))) (hc : (((.ref b : Value) :: [v1]).all fun v => v.category == 1) = true ∧ 2 ≤ xm z ∧ xwt st ≤ 8) (h1 : xCl d z (.ref b :: [v1]) σ r1) (h2 : match r1.1 with
      | .inl v => xEv (d + 1) y (pc + 3) lo (v.toList ++ st) r1.2 r
      | .inr E => r = (.inr E, r1.2)) : xEv (d + 1) y pc lo (v1 :: .ref b :: st) σ r := by
  refine xEv.step hd ?_
  obtain ⟨N, h⟩ := ev_call (y := y) (pc := pc) (lo := lo) (rest := st) hc h1 h2
  refine ⟨N, fun n hge => ?_⟩
  show xl 3 3 (xq (xca (xo y) k) fun q => xp (q.1 = 1 ∧ xnp q.2 ≤ (v1 :: .ref b :: st).length) (xbr ((v1 :: .ref b :: st).drop (xnp q.2)) fun b9 r9 => xobj σ.1 b9 (xo q.2) fun _ => xcall (xrun n) (d + 1) y pc lo σ q.2 (.ref b9 :: ((v1 :: .ref b :: st).take (xnp q.2)).reverse) r9)) = some r
  rw [xl_self, xq_at hq, xp_at ⟨rfl, by rw [hn]; simp⟩]
  show xbr ((v1 :: .ref b :: st).drop (xnp z)) (fun b9 r9 => xobj σ.1 b9 (xo z) fun _ => xcall (xrun n) (d + 1) y pc lo σ z (.ref b9 :: ((v1 :: .ref b :: st).take (xnp z)).reverse) r9) = some r
  rw [hn]
  show xobj σ.1 b (xo z) (fun _ => xcall (xrun n) (d + 1) y pc lo σ z (.ref b :: [v1]) st) = some r
  rw [xobj_at hb]
  exact h n hge
theorem ev_i1 {k b : Nat} {z : xMt} {v1 : Value} {σ1 : xS} (hd : decode (xC y) pc = .ok (.invokespecial k, 3)) (hq : ∃ kd, xca (xo y) k = some (kd, z) ∧ ¬ kd = 3 ∧ (kd = 2 ∨ kd = 4)) (hn : xnp z = 1) (hc : (((.ref b : Value) :: [v1]).all fun v => v.category == 1) = true ∧ 2 ≤ xm z ∧ xwt st ≤ 8) (h1 : xCl d z (.ref b :: [v1]) σ (.inl none, σ1)) (h2 : xEv (d + 1) y (pc + 3) lo st σ1 r) : xEv (d + 1) y pc lo (v1 :: .ref b :: st) σ r := by
  refine xEv.step hd ?_
  obtain ⟨N1, h1⟩ := h1
  obtain ⟨N2, h2⟩ := h2
  refine ⟨N1 + N2, fun n hn9 => ?_⟩
  show xl 3 3 (xq (xca (xo y) k) fun q => if q.1 = 3 then xbr (v1 :: .ref b :: st) fun _ r9 => xp (xwt r9 ≤ 8) (xrun n (d + 1) y (pc + 3) lo r9 σ) else xp ((q.1 = 2 ∨ q.1 = 4) ∧ xnp q.2 ≤ (v1 :: .ref b :: st).length) (xbr ((v1 :: .ref b :: st).drop (xnp q.2)) fun b9 r9 => xcallI (xrun n) (d + 1) y pc lo σ q.2 (.ref b9 :: ((v1 :: .ref b :: st).take (xnp q.2)).reverse) r9)) = some r
  obtain ⟨kd, hq1, hq2, hq3⟩ := hq
  rw [xl_self, xq_at hq1, if_neg (show ¬ ((kd, z) : Nat × xMt).1 = 3 from hq2), xp_at ⟨hq3, by rw [hn]; simp⟩]
  show xbr ((v1 :: .ref b :: st).drop (xnp z)) (fun b9 r9 => xcallI (xrun n) (d + 1) y pc lo σ z (.ref b9 :: ((v1 :: .ref b :: st).take (xnp z)).reverse) r9) = some r
  rw [hn]
  show xp ((((.ref b : Value) :: [v1]).all fun v => v.category == 1) = true ∧ 2 ≤ xm z ∧ xwt st ≤ 8) (xq (xrun n d z 0 (xlo (.ref b :: [v1]) (xm z)) [] σ) _) = some r
  rw [xp_at hc, xq_at (h1 n (by omega))]
  exact h2 n (by omega)
theorem ev_s2 {k : Nat} {z : xMt} {v1 v2 : Value} {r1 : xO × xS} (hd : decode (xC y) pc = .ok (.invokestatic k, 3)) (hq : xca (xo y) k = some (0, z)) (hn : xnp z = 2) (hc : (([v1, v2] : List Value).all fun v => v.category == 1) = true ∧ 2 ≤ xm z ∧ xwt st ≤ 8) (h1 : xCl d z [v1, v2] σ r1) (h2 : match r1.1 with
      | .inl v => xEv (d + 1) y (pc + 3) lo (v.toList ++ st) r1.2 r
      | .inr E => r = (.inr E, r1.2)) : xEv (d + 1) y pc lo (v2 :: v1 :: st) σ r := by
  refine xEv.step hd ?_
  obtain ⟨N, h⟩ := ev_call (y := y) (pc := pc) (lo := lo) (rest := st) hc h1 h2
  refine ⟨N, fun n hge => ?_⟩
  show xl 3 3 (xq (xca (xo y) k) fun q => xp (q.1 = 0 ∧ xnp q.2 ≤ (v2 :: v1 :: st).length) (xcall (xrun n) (d + 1) y pc lo σ q.2 ((v2 :: v1 :: st).take (xnp q.2)).reverse ((v2 :: v1 :: st).drop (xnp q.2)))) = some r
  rw [xl_self, xq_at hq, xp_at ⟨rfl, by rw [hn]; simp⟩]
  show xcall (xrun n) (d + 1) y pc lo σ z ((v2 :: v1 :: st).take (xnp z)).reverse ((v2 :: v1 :: st).drop (xnp z)) = some r
  rw [hn]
  exact h n hge
theorem ev_v2 {k b : Nat} {z : xMt} {fs : List Value} {v1 v2 : Value} {r1 : xO × xS} (hd : decode (xC y) pc = .ok (.invokevirtual k, 3)) (hq : xca (xo y) k = some (1, z)) (hn : xnp z = 2) (hb : σ.1 b = some (.inr (xo z, fs))) (hc : (((.ref b : Value) :: [v1, v2]).all fun v => v.category == 1) = true ∧ 3 ≤ xm z ∧ xwt st ≤ 8) (h1 : xCl d z (.ref b :: [v1, v2]) σ r1) (h2 : match r1.1 with
      | .inl v => xEv (d + 1) y (pc + 3) lo (v.toList ++ st) r1.2 r
      | .inr E => r = (.inr E, r1.2)) : xEv (d + 1) y pc lo (v2 :: v1 :: .ref b :: st) σ r := by
  refine xEv.step hd ?_
  obtain ⟨N, h⟩ := ev_call (y := y) (pc := pc) (lo := lo) (rest := st) hc h1 h2
  refine ⟨N, fun n hge => ?_⟩
  show xl 3 3 (xq (xca (xo y) k) fun q => xp (q.1 = 1 ∧ xnp q.2 ≤ (v2 :: v1 :: .ref b :: st).length) (xbr ((v2 :: v1 :: .ref b :: st).drop (xnp q.2)) fun b9 r9 => xobj σ.1 b9 (xo q.2) fun _ => xcall (xrun n) (d + 1) y pc lo σ q.2 (.ref b9 :: ((v2 :: v1 :: .ref b :: st).take (xnp q.2)).reverse) r9)) = some r
  rw [xl_self, xq_at hq, xp_at ⟨rfl, by rw [hn]; simp⟩]
  show xbr ((v2 :: v1 :: .ref b :: st).drop (xnp z)) (fun b9 r9 => xobj σ.1 b9 (xo z) fun _ => xcall (xrun n) (d + 1) y pc lo σ z (.ref b9 :: ((v2 :: v1 :: .ref b :: st).take (xnp z)).reverse) r9) = some r
  rw [hn]
  show xobj σ.1 b (xo z) (fun _ => xcall (xrun n) (d + 1) y pc lo σ z (.ref b :: [v1, v2]) st) = some r
  rw [xobj_at hb]
  exact h n hge
theorem ev_i2 {k b : Nat} {z : xMt} {v1 v2 : Value} {σ1 : xS} (hd : decode (xC y) pc = .ok (.invokespecial k, 3)) (hq : ∃ kd, xca (xo y) k = some (kd, z) ∧ ¬ kd = 3 ∧ (kd = 2 ∨ kd = 4)) (hn : xnp z = 2) (hc : (((.ref b : Value) :: [v1, v2]).all fun v => v.category == 1) = true ∧ 3 ≤ xm z ∧ xwt st ≤ 8) (h1 : xCl d z (.ref b :: [v1, v2]) σ (.inl none, σ1)) (h2 : xEv (d + 1) y (pc + 3) lo st σ1 r) : xEv (d + 1) y pc lo (v2 :: v1 :: .ref b :: st) σ r := by
  refine xEv.step hd ?_
  obtain ⟨N1, h1⟩ := h1
  obtain ⟨N2, h2⟩ := h2
  refine ⟨N1 + N2, fun n hn9 => ?_⟩
  show xl 3 3 (xq (xca (xo y) k) fun q => if q.1 = 3 then xbr (v2 :: v1 :: .ref b :: st) fun _ r9 => xp (xwt r9 ≤ 8) (xrun n (d + 1) y (pc + 3) lo r9 σ) else xp ((q.1 = 2 ∨ q.1 = 4) ∧ xnp q.2 ≤ (v2 :: v1 :: .ref b :: st).length) (xbr ((v2 :: v1 :: .ref b :: st).drop (xnp q.2)) fun b9 r9 => xcallI (xrun n) (d + 1) y pc lo σ q.2 (.ref b9 :: ((v2 :: v1 :: .ref b :: st).take (xnp q.2)).reverse) r9)) = some r
  obtain ⟨kd, hq1, hq2, hq3⟩ := hq
  rw [xl_self, xq_at hq1, if_neg (show ¬ ((kd, z) : Nat × xMt).1 = 3 from hq2), xp_at ⟨hq3, by rw [hn]; simp⟩]
  show xbr ((v2 :: v1 :: .ref b :: st).drop (xnp z)) (fun b9 r9 => xcallI (xrun n) (d + 1) y pc lo σ z (.ref b9 :: ((v2 :: v1 :: .ref b :: st).take (xnp z)).reverse) r9) = some r
  rw [hn]
  show xp ((((.ref b : Value) :: [v1, v2]).all fun v => v.category == 1) = true ∧ 3 ≤ xm z ∧ xwt st ≤ 8) (xq (xrun n d z 0 (xlo (.ref b :: [v1, v2]) (xm z)) [] σ) _) = some r
  rw [xp_at hc, xq_at (h1 n (by omega))]
  exact h2 n (by omega)
theorem ev_s3 {k : Nat} {z : xMt} {v1 v2 v3 : Value} {r1 : xO × xS} (hd : decode (xC y) pc = .ok (.invokestatic k, 3)) (hq : xca (xo y) k = some (0, z)) (hn : xnp z = 3) (hc : (([v1, v2, v3] : List Value).all fun v => v.category == 1) = true ∧ 3 ≤ xm z ∧ xwt st ≤ 8) (h1 : xCl d z [v1, v2, v3] σ r1) (h2 : match r1.1 with
      | .inl v => xEv (d + 1) y (pc + 3) lo (v.toList ++ st) r1.2 r
      | .inr E => r = (.inr E, r1.2)) : xEv (d + 1) y pc lo (v3 :: v2 :: v1 :: st) σ r := by
  refine xEv.step hd ?_
  obtain ⟨N, h⟩ := ev_call (y := y) (pc := pc) (lo := lo) (rest := st) hc h1 h2
  refine ⟨N, fun n hge => ?_⟩
  show xl 3 3 (xq (xca (xo y) k) fun q => xp (q.1 = 0 ∧ xnp q.2 ≤ (v3 :: v2 :: v1 :: st).length) (xcall (xrun n) (d + 1) y pc lo σ q.2 ((v3 :: v2 :: v1 :: st).take (xnp q.2)).reverse ((v3 :: v2 :: v1 :: st).drop (xnp q.2)))) = some r
  rw [xl_self, xq_at hq, xp_at ⟨rfl, by rw [hn]; simp⟩]
  show xcall (xrun n) (d + 1) y pc lo σ z ((v3 :: v2 :: v1 :: st).take (xnp z)).reverse ((v3 :: v2 :: v1 :: st).drop (xnp z)) = some r
  rw [hn]
  exact h n hge
theorem ev_v3 {k b : Nat} {z : xMt} {fs : List Value} {v1 v2 v3 : Value} {r1 : xO × xS} (hd : decode (xC y) pc = .ok (.invokevirtual k, 3)) (hq : xca (xo y) k = some (1, z)) (hn : xnp z = 3) (hb : σ.1 b = some (.inr (xo z, fs))) (hc : (((.ref b : Value) :: [v1, v2, v3]).all fun v => v.category == 1) = true ∧ 4 ≤ xm z ∧ xwt st ≤ 8) (h1 : xCl d z (.ref b :: [v1, v2, v3]) σ r1) (h2 : match r1.1 with
      | .inl v => xEv (d + 1) y (pc + 3) lo (v.toList ++ st) r1.2 r
      | .inr E => r = (.inr E, r1.2)) : xEv (d + 1) y pc lo (v3 :: v2 :: v1 :: .ref b :: st) σ r := by
  refine xEv.step hd ?_
  obtain ⟨N, h⟩ := ev_call (y := y) (pc := pc) (lo := lo) (rest := st) hc h1 h2
  refine ⟨N, fun n hge => ?_⟩
  show xl 3 3 (xq (xca (xo y) k) fun q => xp (q.1 = 1 ∧ xnp q.2 ≤ (v3 :: v2 :: v1 :: .ref b :: st).length) (xbr ((v3 :: v2 :: v1 :: .ref b :: st).drop (xnp q.2)) fun b9 r9 => xobj σ.1 b9 (xo q.2) fun _ => xcall (xrun n) (d + 1) y pc lo σ q.2 (.ref b9 :: ((v3 :: v2 :: v1 :: .ref b :: st).take (xnp q.2)).reverse) r9)) = some r
  rw [xl_self, xq_at hq, xp_at ⟨rfl, by rw [hn]; simp⟩]
  show xbr ((v3 :: v2 :: v1 :: .ref b :: st).drop (xnp z)) (fun b9 r9 => xobj σ.1 b9 (xo z) fun _ => xcall (xrun n) (d + 1) y pc lo σ z (.ref b9 :: ((v3 :: v2 :: v1 :: .ref b :: st).take (xnp z)).reverse) r9) = some r
  rw [hn]
  show xobj σ.1 b (xo z) (fun _ => xcall (xrun n) (d + 1) y pc lo σ z (.ref b :: [v1, v2, v3]) st) = some r
  rw [xobj_at hb]
  exact h n hge
theorem ev_i3 {k b : Nat} {z : xMt} {v1 v2 v3 : Value} {σ1 : xS} (hd : decode (xC y) pc = .ok (.invokespecial k, 3)) (hq : ∃ kd, xca (xo y) k = some (kd, z) ∧ ¬ kd = 3 ∧ (kd = 2 ∨ kd = 4)) (hn : xnp z = 3) (hc : (((.ref b : Value) :: [v1, v2, v3]).all fun v => v.category == 1) = true ∧ 4 ≤ xm z ∧ xwt st ≤ 8) (h1 : xCl d z (.ref b :: [v1, v2, v3]) σ (.inl none, σ1)) (h2 : xEv (d + 1) y (pc + 3) lo st σ1 r) : xEv (d + 1) y pc lo (v3 :: v2 :: v1 :: .ref b :: st) σ r := by
  refine xEv.step hd ?_
  obtain ⟨N1, h1⟩ := h1
  obtain ⟨N2, h2⟩ := h2
  refine ⟨N1 + N2, fun n hn9 => ?_⟩
  show xl 3 3 (xq (xca (xo y) k) fun q => if q.1 = 3 then xbr (v3 :: v2 :: v1 :: .ref b :: st) fun _ r9 => xp (xwt r9 ≤ 8) (xrun n (d + 1) y (pc + 3) lo r9 σ) else xp ((q.1 = 2 ∨ q.1 = 4) ∧ xnp q.2 ≤ (v3 :: v2 :: v1 :: .ref b :: st).length) (xbr ((v3 :: v2 :: v1 :: .ref b :: st).drop (xnp q.2)) fun b9 r9 => xcallI (xrun n) (d + 1) y pc lo σ q.2 (.ref b9 :: ((v3 :: v2 :: v1 :: .ref b :: st).take (xnp q.2)).reverse) r9)) = some r
  obtain ⟨kd, hq1, hq2, hq3⟩ := hq
  rw [xl_self, xq_at hq1, if_neg (show ¬ ((kd, z) : Nat × xMt).1 = 3 from hq2), xp_at ⟨hq3, by rw [hn]; simp⟩]
  show xbr ((v3 :: v2 :: v1 :: .ref b :: st).drop (xnp z)) (fun b9 r9 => xcallI (xrun n) (d + 1) y pc lo σ z (.ref b9 :: ((v3 :: v2 :: v1 :: .ref b :: st).take (xnp z)).reverse) r9) = some r
  rw [hn]
  show xp ((((.ref b : Value) :: [v1, v2, v3]).all fun v => v.category == 1) = true ∧ 4 ≤ xm z ∧ xwt st ≤ 8) (xq (xrun n d z 0 (xlo (.ref b :: [v1, v2, v3]) (xm z)) [] σ) _) = some r
  rw [xp_at hc, xq_at (h1 n (by omega))]
  exact h2 n (by omega)
theorem ev_s4 {k : Nat} {z : xMt} {v1 v2 v3 v4 : Value} {r1 : xO × xS} (hd : decode (xC y) pc = .ok (.invokestatic k, 3)) (hq : xca (xo y) k = some (0, z)) (hn : xnp z = 4) (hc : (([v1, v2, v3, v4] : List Value).all fun v => v.category == 1) = true ∧ 4 ≤ xm z ∧ xwt st ≤ 8) (h1 : xCl d z [v1, v2, v3, v4] σ r1) (h2 : match r1.1 with
      | .inl v => xEv (d + 1) y (pc + 3) lo (v.toList ++ st) r1.2 r
      | .inr E => r = (.inr E, r1.2)) : xEv (d + 1) y pc lo (v4 :: v3 :: v2 :: v1 :: st) σ r := by
  refine xEv.step hd ?_
  obtain ⟨N, h⟩ := ev_call (y := y) (pc := pc) (lo := lo) (rest := st) hc h1 h2
  refine ⟨N, fun n hge => ?_⟩
  show xl 3 3 (xq (xca (xo y) k) fun q => xp (q.1 = 0 ∧ xnp q.2 ≤ (v4 :: v3 :: v2 :: v1 :: st).length) (xcall (xrun n) (d + 1) y pc lo σ q.2 ((v4 :: v3 :: v2 :: v1 :: st).take (xnp q.2)).reverse ((v4 :: v3 :: v2 :: v1 :: st).drop (xnp q.2)))) = some r
  rw [xl_self, xq_at hq, xp_at ⟨rfl, by rw [hn]; simp⟩]
  show xcall (xrun n) (d + 1) y pc lo σ z ((v4 :: v3 :: v2 :: v1 :: st).take (xnp z)).reverse ((v4 :: v3 :: v2 :: v1 :: st).drop (xnp z)) = some r
  rw [hn]
  exact h n hge
theorem ev_v4 {k b : Nat} {z : xMt} {fs : List Value} {v1 v2 v3 v4 : Value} {r1 : xO × xS} (hd : decode (xC y) pc = .ok (.invokevirtual k, 3)) (hq : xca (xo y) k = some (1, z)) (hn : xnp z = 4) (hb : σ.1 b = some (.inr (xo z, fs))) (hc : (((.ref b : Value) :: [v1, v2, v3, v4]).all fun v => v.category == 1) = true ∧ 5 ≤ xm z ∧ xwt st ≤ 8) (h1 : xCl d z (.ref b :: [v1, v2, v3, v4]) σ r1) (h2 : match r1.1 with
      | .inl v => xEv (d + 1) y (pc + 3) lo (v.toList ++ st) r1.2 r
      | .inr E => r = (.inr E, r1.2)) : xEv (d + 1) y pc lo (v4 :: v3 :: v2 :: v1 :: .ref b :: st) σ r := by
  refine xEv.step hd ?_
  obtain ⟨N, h⟩ := ev_call (y := y) (pc := pc) (lo := lo) (rest := st) hc h1 h2
  refine ⟨N, fun n hge => ?_⟩
  show xl 3 3 (xq (xca (xo y) k) fun q => xp (q.1 = 1 ∧ xnp q.2 ≤ (v4 :: v3 :: v2 :: v1 :: .ref b :: st).length) (xbr ((v4 :: v3 :: v2 :: v1 :: .ref b :: st).drop (xnp q.2)) fun b9 r9 => xobj σ.1 b9 (xo q.2) fun _ => xcall (xrun n) (d + 1) y pc lo σ q.2 (.ref b9 :: ((v4 :: v3 :: v2 :: v1 :: .ref b :: st).take (xnp q.2)).reverse) r9)) = some r
  rw [xl_self, xq_at hq, xp_at ⟨rfl, by rw [hn]; simp⟩]
  show xbr ((v4 :: v3 :: v2 :: v1 :: .ref b :: st).drop (xnp z)) (fun b9 r9 => xobj σ.1 b9 (xo z) fun _ => xcall (xrun n) (d + 1) y pc lo σ z (.ref b9 :: ((v4 :: v3 :: v2 :: v1 :: .ref b :: st).take (xnp z)).reverse) r9) = some r
  rw [hn]
  show xobj σ.1 b (xo z) (fun _ => xcall (xrun n) (d + 1) y pc lo σ z (.ref b :: [v1, v2, v3, v4]) st) = some r
  rw [xobj_at hb]
  exact h n hge
theorem ev_i4 {k b : Nat} {z : xMt} {v1 v2 v3 v4 : Value} {σ1 : xS} (hd : decode (xC y) pc = .ok (.invokespecial k, 3)) (hq : ∃ kd, xca (xo y) k = some (kd, z) ∧ ¬ kd = 3 ∧ (kd = 2 ∨ kd = 4)) (hn : xnp z = 4) (hc : (((.ref b : Value) :: [v1, v2, v3, v4]).all fun v => v.category == 1) = true ∧ 5 ≤ xm z ∧ xwt st ≤ 8) (h1 : xCl d z (.ref b :: [v1, v2, v3, v4]) σ (.inl none, σ1)) (h2 : xEv (d + 1) y (pc + 3) lo st σ1 r) : xEv (d + 1) y pc lo (v4 :: v3 :: v2 :: v1 :: .ref b :: st) σ r := by
  refine xEv.step hd ?_
  obtain ⟨N1, h1⟩ := h1
  obtain ⟨N2, h2⟩ := h2
  refine ⟨N1 + N2, fun n hn9 => ?_⟩
  show xl 3 3 (xq (xca (xo y) k) fun q => if q.1 = 3 then xbr (v4 :: v3 :: v2 :: v1 :: .ref b :: st) fun _ r9 => xp (xwt r9 ≤ 8) (xrun n (d + 1) y (pc + 3) lo r9 σ) else xp ((q.1 = 2 ∨ q.1 = 4) ∧ xnp q.2 ≤ (v4 :: v3 :: v2 :: v1 :: .ref b :: st).length) (xbr ((v4 :: v3 :: v2 :: v1 :: .ref b :: st).drop (xnp q.2)) fun b9 r9 => xcallI (xrun n) (d + 1) y pc lo σ q.2 (.ref b9 :: ((v4 :: v3 :: v2 :: v1 :: .ref b :: st).take (xnp q.2)).reverse) r9)) = some r
  obtain ⟨kd, hq1, hq2, hq3⟩ := hq
  rw [xl_self, xq_at hq1, if_neg (show ¬ ((kd, z) : Nat × xMt).1 = 3 from hq2), xp_at ⟨hq3, by rw [hn]; simp⟩]
  show xbr ((v4 :: v3 :: v2 :: v1 :: .ref b :: st).drop (xnp z)) (fun b9 r9 => xcallI (xrun n) (d + 1) y pc lo σ z (.ref b9 :: ((v4 :: v3 :: v2 :: v1 :: .ref b :: st).take (xnp z)).reverse) r9) = some r
  rw [hn]
  show xp ((((.ref b : Value) :: [v1, v2, v3, v4]).all fun v => v.category == 1) = true ∧ 5 ≤ xm z ∧ xwt st ≤ 8) (xq (xrun n d z 0 (xlo (.ref b :: [v1, v2, v3, v4]) (xm z)) [] σ) _) = some r
  rw [xp_at hc, xq_at (h1 n (by omega))]
  exact h2 n (by omega)
theorem ev_s5 {k : Nat} {z : xMt} {v1 v2 v3 v4 v5 : Value} {r1 : xO × xS} (hd : decode (xC y) pc = .ok (.invokestatic k, 3)) (hq : xca (xo y) k = some (0, z)) (hn : xnp z = 5) (hc : (([v1, v2, v3, v4, v5] : List Value).all fun v => v.category == 1) = true ∧ 5 ≤ xm z ∧ xwt st ≤ 8) (h1 : xCl d z [v1, v2, v3, v4, v5] σ r1) (h2 : match r1.1 with
      | .inl v => xEv (d + 1) y (pc + 3) lo (v.toList ++ st) r1.2 r
      | .inr E => r = (.inr E, r1.2)) : xEv (d + 1) y pc lo (v5 :: v4 :: v3 :: v2 :: v1 :: st) σ r := by
  refine xEv.step hd ?_
  obtain ⟨N, h⟩ := ev_call (y := y) (pc := pc) (lo := lo) (rest := st) hc h1 h2
  refine ⟨N, fun n hge => ?_⟩
  show xl 3 3 (xq (xca (xo y) k) fun q => xp (q.1 = 0 ∧ xnp q.2 ≤ (v5 :: v4 :: v3 :: v2 :: v1 :: st).length) (xcall (xrun n) (d + 1) y pc lo σ q.2 ((v5 :: v4 :: v3 :: v2 :: v1 :: st).take (xnp q.2)).reverse ((v5 :: v4 :: v3 :: v2 :: v1 :: st).drop (xnp q.2)))) = some r
  rw [xl_self, xq_at hq, xp_at ⟨rfl, by rw [hn]; simp⟩]
  show xcall (xrun n) (d + 1) y pc lo σ z ((v5 :: v4 :: v3 :: v2 :: v1 :: st).take (xnp z)).reverse ((v5 :: v4 :: v3 :: v2 :: v1 :: st).drop (xnp z)) = some r
  rw [hn]
  exact h n hge
theorem ev_v5 {k b : Nat} {z : xMt} {fs : List Value} {v1 v2 v3 v4 v5 : Value} {r1 : xO × xS} (hd : decode (xC y) pc = .ok (.invokevirtual k, 3)) (hq : xca (xo y) k = some (1, z)) (hn : xnp z = 5) (hb : σ.1 b = some (.inr (xo z, fs))) (hc : (((.ref b : Value) :: [v1, v2, v3, v4, v5]).all fun v => v.category == 1) = true ∧ 6 ≤ xm z ∧ xwt st ≤ 8) (h1 : xCl d z (.ref b :: [v1, v2, v3, v4, v5]) σ r1) (h2 : match r1.1 with
      | .inl v => xEv (d + 1) y (pc + 3) lo (v.toList ++ st) r1.2 r
      | .inr E => r = (.inr E, r1.2)) : xEv (d + 1) y pc lo (v5 :: v4 :: v3 :: v2 :: v1 :: .ref b :: st) σ r := by
  refine xEv.step hd ?_
  obtain ⟨N, h⟩ := ev_call (y := y) (pc := pc) (lo := lo) (rest := st) hc h1 h2
  refine ⟨N, fun n hge => ?_⟩
  show xl 3 3 (xq (xca (xo y) k) fun q => xp (q.1 = 1 ∧ xnp q.2 ≤ (v5 :: v4 :: v3 :: v2 :: v1 :: .ref b :: st).length) (xbr ((v5 :: v4 :: v3 :: v2 :: v1 :: .ref b :: st).drop (xnp q.2)) fun b9 r9 => xobj σ.1 b9 (xo q.2) fun _ => xcall (xrun n) (d + 1) y pc lo σ q.2 (.ref b9 :: ((v5 :: v4 :: v3 :: v2 :: v1 :: .ref b :: st).take (xnp q.2)).reverse) r9)) = some r
  rw [xl_self, xq_at hq, xp_at ⟨rfl, by rw [hn]; simp⟩]
  show xbr ((v5 :: v4 :: v3 :: v2 :: v1 :: .ref b :: st).drop (xnp z)) (fun b9 r9 => xobj σ.1 b9 (xo z) fun _ => xcall (xrun n) (d + 1) y pc lo σ z (.ref b9 :: ((v5 :: v4 :: v3 :: v2 :: v1 :: .ref b :: st).take (xnp z)).reverse) r9) = some r
  rw [hn]
  show xobj σ.1 b (xo z) (fun _ => xcall (xrun n) (d + 1) y pc lo σ z (.ref b :: [v1, v2, v3, v4, v5]) st) = some r
  rw [xobj_at hb]
  exact h n hge
theorem ev_i5 {k b : Nat} {z : xMt} {v1 v2 v3 v4 v5 : Value} {σ1 : xS} (hd : decode (xC y) pc = .ok (.invokespecial k, 3)) (hq : ∃ kd, xca (xo y) k = some (kd, z) ∧ ¬ kd = 3 ∧ (kd = 2 ∨ kd = 4)) (hn : xnp z = 5) (hc : (((.ref b : Value) :: [v1, v2, v3, v4, v5]).all fun v => v.category == 1) = true ∧ 6 ≤ xm z ∧ xwt st ≤ 8) (h1 : xCl d z (.ref b :: [v1, v2, v3, v4, v5]) σ (.inl none, σ1)) (h2 : xEv (d + 1) y (pc + 3) lo st σ1 r) : xEv (d + 1) y pc lo (v5 :: v4 :: v3 :: v2 :: v1 :: .ref b :: st) σ r := by
  refine xEv.step hd ?_
  obtain ⟨N1, h1⟩ := h1
  obtain ⟨N2, h2⟩ := h2
  refine ⟨N1 + N2, fun n hn9 => ?_⟩
  show xl 3 3 (xq (xca (xo y) k) fun q => if q.1 = 3 then xbr (v5 :: v4 :: v3 :: v2 :: v1 :: .ref b :: st) fun _ r9 => xp (xwt r9 ≤ 8) (xrun n (d + 1) y (pc + 3) lo r9 σ) else xp ((q.1 = 2 ∨ q.1 = 4) ∧ xnp q.2 ≤ (v5 :: v4 :: v3 :: v2 :: v1 :: .ref b :: st).length) (xbr ((v5 :: v4 :: v3 :: v2 :: v1 :: .ref b :: st).drop (xnp q.2)) fun b9 r9 => xcallI (xrun n) (d + 1) y pc lo σ q.2 (.ref b9 :: ((v5 :: v4 :: v3 :: v2 :: v1 :: .ref b :: st).take (xnp q.2)).reverse) r9)) = some r
  obtain ⟨kd, hq1, hq2, hq3⟩ := hq
  rw [xl_self, xq_at hq1, if_neg (show ¬ ((kd, z) : Nat × xMt).1 = 3 from hq2), xp_at ⟨hq3, by rw [hn]; simp⟩]
  show xbr ((v5 :: v4 :: v3 :: v2 :: v1 :: .ref b :: st).drop (xnp z)) (fun b9 r9 => xcallI (xrun n) (d + 1) y pc lo σ z (.ref b9 :: ((v5 :: v4 :: v3 :: v2 :: v1 :: .ref b :: st).take (xnp z)).reverse) r9) = some r
  rw [hn]
  show xp ((((.ref b : Value) :: [v1, v2, v3, v4, v5]).all fun v => v.category == 1) = true ∧ 6 ≤ xm z ∧ xwt st ≤ 8) (xq (xrun n d z 0 (xlo (.ref b :: [v1, v2, v3, v4, v5]) (xm z)) [] σ) _) = some r
  rw [xp_at hc, xq_at (h1 n (by omega))]
  exact h2 n (by omega)
theorem ev_obj {k b : Nat} {z : xMt} (hd : decode (xC y) pc = .ok (.invokespecial k, 3)) (hq : xca (xo y) k = some (3, z)) (hw : xwt st ≤ 8) (h : xEv d y (pc + 3) lo st σ r) : xEv d y pc lo (.ref b :: st) σ r := by
  refine xEv.step hd ?_
  obtain ⟨N, h⟩ := h
  refine ⟨N, fun n hge => ?_⟩
  show xl 3 3 (xq (xca (xo y) k) fun q => if q.1 = 3 then xp (xwt st ≤ 8) (xrun n d y (pc + 3) lo st σ) else xp ((q.1 = 2 ∨ q.1 = 4) ∧ xnp q.2 ≤ (.ref b :: st).length) (xbr ((.ref b :: st).drop (xnp q.2)) fun b9 r9 => xcallI (xrun n) d y pc lo σ q.2 (.ref b9 :: ((.ref b :: st).take (xnp q.2)).reverse) r9)) = some r
  rw [xl_self, xq_at hq, if_pos (show ((3, z) : Nat × xMt).1 = 3 from rfl), xp_at hw]
  exact h n hge
end EV
end
section
theorem d_C_init_0 : decode (xC k_C_init) 0 = .ok (.aload_n 0, 1) := by decide +kernel
theorem d_C_init_1 : decode (xC k_C_init) 1 = .ok (.invokespecial 3, 3) := by decide +kernel
theorem d_C_init_4 : decode (xC k_C_init) 4 = .ok (.aload_n 0, 1) := by decide +kernel
theorem d_C_init_5 : decode (xC k_C_init) 5 = .ok (.bipush 6, 2) := by decide +kernel
theorem d_C_init_7 : decode (xC k_C_init) 7 = .ok (.anewarray 9, 3) := by decide +kernel
theorem d_C_init_10 : decode (xC k_C_init) 10 = .ok (.putfield 11, 3) := by decide +kernel
theorem d_C_init_13 : decode (xC k_C_init) 13 = .ok (.aload_n 0, 1) := by decide +kernel
theorem d_C_init_14 : decode (xC k_C_init) 14 = .ok (.new 17, 3) := by decide +kernel
theorem d_C_init_17 : decode (xC k_C_init) 17 = .ok (.dup, 1) := by decide +kernel
theorem d_C_init_18 : decode (xC k_C_init) 18 = .ok (.invokespecial 19, 3) := by decide +kernel
theorem d_C_init_21 : decode (xC k_C_init) 21 = .ok (.putfield 20, 3) := by decide +kernel
theorem d_C_init_24 : decode (xC k_C_init) 24 = .ok (.aload_n 0, 1) := by decide +kernel
theorem d_C_init_25 : decode (xC k_C_init) 25 = .ok (.iconst 0, 1) := by decide +kernel
theorem d_C_init_26 : decode (xC k_C_init) 26 = .ok (.putfield 24, 3) := by decide +kernel
theorem d_C_init_29 : decode (xC k_C_init) 29 = .ok (.return_, 1) := by decide +kernel
theorem d_C_add_0 : decode (xC k_C_add) 0 = .ok (.aload_n 0, 1) := by decide +kernel
theorem d_C_add_1 : decode (xC k_C_add) 1 = .ok (.getfield 24, 3) := by decide +kernel
theorem d_C_add_4 : decode (xC k_C_add) 4 = .ok (.bipush 6, 2) := by decide +kernel
theorem d_C_add_6 : decode (xC k_C_add) 6 = .ok (.if_icmp .ge 38, 3) := by decide +kernel
theorem d_C_add_9 : decode (xC k_C_add) 9 = .ok (.aload_n 0, 1) := by decide +kernel
theorem d_C_add_10 : decode (xC k_C_add) 10 = .ok (.getfield 11, 3) := by decide +kernel
theorem d_C_add_13 : decode (xC k_C_add) 13 = .ok (.aload_n 0, 1) := by decide +kernel
theorem d_C_add_14 : decode (xC k_C_add) 14 = .ok (.getfield 24, 3) := by decide +kernel
theorem d_C_add_17 : decode (xC k_C_add) 17 = .ok (.aload_n 1, 1) := by decide +kernel
theorem d_C_add_18 : decode (xC k_C_add) 18 = .ok (.aastore, 1) := by decide +kernel
theorem d_C_add_19 : decode (xC k_C_add) 19 = .ok (.aload_n 0, 1) := by decide +kernel
theorem d_C_add_20 : decode (xC k_C_add) 20 = .ok (.dup, 1) := by decide +kernel
theorem d_C_add_21 : decode (xC k_C_add) 21 = .ok (.getfield 24, 3) := by decide +kernel
theorem d_C_add_24 : decode (xC k_C_add) 24 = .ok (.iconst 1, 1) := by decide +kernel
theorem d_C_add_25 : decode (xC k_C_add) 25 = .ok (.iadd, 1) := by decide +kernel
theorem d_C_add_26 : decode (xC k_C_add) 26 = .ok (.putfield 24, 3) := by decide +kernel
theorem d_C_add_29 : decode (xC k_C_add) 29 = .ok (.aload_n 0, 1) := by decide +kernel
theorem d_C_add_30 : decode (xC k_C_add) 30 = .ok (.aload_n 1, 1) := by decide +kernel
theorem d_C_add_31 : decode (xC k_C_add) 31 = .ok (.iconst 0, 1) := by decide +kernel
theorem d_C_add_32 : decode (xC k_C_add) 32 = .ok (.invokevirtual 28, 3) := by decide +kernel
theorem d_C_add_35 : decode (xC k_C_add) 35 = .ok (.aload_n 0, 1) := by decide +kernel
theorem d_C_add_36 : decode (xC k_C_add) 36 = .ok (.getfield 20, 3) := by decide +kernel
theorem d_C_add_39 : decode (xC k_C_add) 39 = .ok (.bipush 59, 2) := by decide +kernel
theorem d_C_add_41 : decode (xC k_C_add) 41 = .ok (.invokevirtual 32, 3) := by decide +kernel
theorem d_C_add_44 : decode (xC k_C_add) 44 = .ok (.return_, 1) := by decide +kernel
theorem d_C_termAt_0 : decode (xC k_C_termAt) 0 = .ok (.iload_n 1, 1) := by decide +kernel
theorem d_C_termAt_1 : decode (xC k_C_termAt) 1 = .ok (.ifCond .lt 18, 3) := by decide +kernel
theorem d_C_termAt_4 : decode (xC k_C_termAt) 4 = .ok (.iload_n 1, 1) := by decide +kernel
theorem d_C_termAt_5 : decode (xC k_C_termAt) 5 = .ok (.bipush 6, 2) := by decide +kernel
theorem d_C_termAt_7 : decode (xC k_C_termAt) 7 = .ok (.if_icmp .ge 12, 3) := by decide +kernel
theorem d_C_termAt_10 : decode (xC k_C_termAt) 10 = .ok (.aload_n 0, 1) := by decide +kernel
theorem d_C_termAt_11 : decode (xC k_C_termAt) 11 = .ok (.getfield 11, 3) := by decide +kernel
theorem d_C_termAt_14 : decode (xC k_C_termAt) 14 = .ok (.iload_n 1, 1) := by decide +kernel
theorem d_C_termAt_15 : decode (xC k_C_termAt) 15 = .ok (.aaload, 1) := by decide +kernel
theorem d_C_termAt_16 : decode (xC k_C_termAt) 16 = .ok (.goto 4, 3) := by decide +kernel
theorem d_C_termAt_19 : decode (xC k_C_termAt) 19 = .ok (.aconst_null, 1) := by decide +kernel
theorem d_C_termAt_20 : decode (xC k_C_termAt) 20 = .ok (.areturn, 1) := by decide +kernel
theorem d_C_write_0 : decode (xC k_C_write) 0 = .ok (.aload_n 1, 1) := by decide +kernel
theorem d_C_write_1 : decode (xC k_C_write) 1 = .ok (.ifnull 9, 3) := by decide +kernel
theorem d_C_write_4 : decode (xC k_C_write) 4 = .ok (.iload_n 2, 1) := by decide +kernel
theorem d_C_write_5 : decode (xC k_C_write) 5 = .ok (.bipush 40, 2) := by decide +kernel
theorem d_C_write_7 : decode (xC k_C_write) 7 = .ok (.if_icmp .le 4, 3) := by decide +kernel
theorem d_C_write_10 : decode (xC k_C_write) 10 = .ok (.return_, 1) := by decide +kernel
theorem d_C_write_11 : decode (xC k_C_write) 11 = .ok (.aload_n 1, 1) := by decide +kernel
theorem d_C_write_12 : decode (xC k_C_write) 12 = .ok (.getfield 36, 3) := by decide +kernel
theorem d_C_write_15 : decode (xC k_C_write) 15 = .ok (.bipush 33, 2) := by decide +kernel
theorem d_C_write_17 : decode (xC k_C_write) 17 = .ok (.if_icmp .ne 26, 3) := by decide +kernel
theorem d_C_write_20 : decode (xC k_C_write) 20 = .ok (.aload_n 0, 1) := by decide +kernel
theorem d_C_write_21 : decode (xC k_C_write) 21 = .ok (.getfield 20, 3) := by decide +kernel
theorem d_C_write_24 : decode (xC k_C_write) 24 = .ok (.bipush 33, 2) := by decide +kernel
theorem d_C_write_26 : decode (xC k_C_write) 26 = .ok (.invokevirtual 32, 3) := by decide +kernel
theorem d_C_write_29 : decode (xC k_C_write) 29 = .ok (.aload_n 0, 1) := by decide +kernel
theorem d_C_write_30 : decode (xC k_C_write) 30 = .ok (.aload_n 1, 1) := by decide +kernel
theorem d_C_write_31 : decode (xC k_C_write) 31 = .ok (.getfield 39, 3) := by decide +kernel
theorem d_C_write_34 : decode (xC k_C_write) 34 = .ok (.iload_n 2, 1) := by decide +kernel
theorem d_C_write_35 : decode (xC k_C_write) 35 = .ok (.iconst 1, 1) := by decide +kernel
theorem d_C_write_36 : decode (xC k_C_write) 36 = .ok (.iadd, 1) := by decide +kernel
theorem d_C_write_37 : decode (xC k_C_write) 37 = .ok (.invokevirtual 28, 3) := by decide +kernel
theorem d_C_write_40 : decode (xC k_C_write) 40 = .ok (.goto 63, 3) := by decide +kernel
theorem d_C_write_43 : decode (xC k_C_write) 43 = .ok (.aload_n 1, 1) := by decide +kernel
theorem d_C_write_44 : decode (xC k_C_write) 44 = .ok (.getfield 36, 3) := by decide +kernel
theorem d_C_write_47 : decode (xC k_C_write) 47 = .ok (.bipush 124, 2) := by decide +kernel
theorem d_C_write_49 : decode (xC k_C_write) 49 = .ok (.if_icmp .eq 12, 3) := by decide +kernel
theorem d_C_write_52 : decode (xC k_C_write) 52 = .ok (.aload_n 1, 1) := by decide +kernel
theorem d_C_write_53 : decode (xC k_C_write) 53 = .ok (.getfield 36, 3) := by decide +kernel
theorem d_C_write_56 : decode (xC k_C_write) 56 = .ok (.bipush 38, 2) := by decide +kernel
theorem d_C_write_58 : decode (xC k_C_write) 58 = .ok (.if_icmp .ne 12, 3) := by decide +kernel
theorem d_C_write_61 : decode (xC k_C_write) 61 = .ok (.aload_n 0, 1) := by decide +kernel
theorem d_C_write_62 : decode (xC k_C_write) 62 = .ok (.aload_n 1, 1) := by decide +kernel
theorem d_C_write_63 : decode (xC k_C_write) 63 = .ok (.iload_n 2, 1) := by decide +kernel
theorem d_C_write_64 : decode (xC k_C_write) 64 = .ok (.invokevirtual 43, 3) := by decide +kernel
theorem d_C_write_67 : decode (xC k_C_write) 67 = .ok (.goto 36, 3) := by decide +kernel
theorem d_C_write_70 : decode (xC k_C_write) 70 = .ok (.aload_n 0, 1) := by decide +kernel
theorem d_C_write_71 : decode (xC k_C_write) 71 = .ok (.getfield 20, 3) := by decide +kernel
theorem d_C_write_74 : decode (xC k_C_write) 74 = .ok (.aload_n 1, 1) := by decide +kernel
theorem d_C_write_75 : decode (xC k_C_write) 75 = .ok (.getfield 46, 3) := by decide +kernel
theorem d_C_write_78 : decode (xC k_C_write) 78 = .ok (.invokevirtual 32, 3) := by decide +kernel
theorem d_C_write_81 : decode (xC k_C_write) 81 = .ok (.aload_n 0, 1) := by decide +kernel
theorem d_C_write_82 : decode (xC k_C_write) 82 = .ok (.getfield 20, 3) := by decide +kernel
theorem d_C_write_85 : decode (xC k_C_write) 85 = .ok (.aload_n 1, 1) := by decide +kernel
theorem d_C_write_86 : decode (xC k_C_write) 86 = .ok (.getfield 36, 3) := by decide +kernel
theorem d_C_write_89 : decode (xC k_C_write) 89 = .ok (.invokevirtual 32, 3) := by decide +kernel
theorem d_C_write_92 : decode (xC k_C_write) 92 = .ok (.aload_n 0, 1) := by decide +kernel
theorem d_C_write_93 : decode (xC k_C_write) 93 = .ok (.getfield 20, 3) := by decide +kernel
theorem d_C_write_96 : decode (xC k_C_write) 96 = .ok (.aload_n 1, 1) := by decide +kernel
theorem d_C_write_97 : decode (xC k_C_write) 97 = .ok (.getfield 49, 3) := by decide +kernel
theorem d_C_write_100 : decode (xC k_C_write) 100 = .ok (.invokevirtual 52, 3) := by decide +kernel
theorem d_C_write_103 : decode (xC k_C_write) 103 = .ok (.return_, 1) := by decide +kernel
theorem d_C_writeGroup_0 : decode (xC k_C_writeGroup) 0 = .ok (.bipush 40, 2) := by decide +kernel
theorem d_C_writeGroup_2 : decode (xC k_C_writeGroup) 2 = .ok (.istore_n 3, 1) := by decide +kernel
theorem d_C_writeGroup_3 : decode (xC k_C_writeGroup) 3 = .ok (.aload_n 1, 1) := by decide +kernel
theorem d_C_writeGroup_4 : decode (xC k_C_writeGroup) 4 = .ok (.getfield 39, 3) := by decide +kernel
theorem d_C_writeGroup_7 : decode (xC k_C_writeGroup) 7 = .ok (.astore 4, 2) := by decide +kernel
theorem d_C_writeGroup_9 : decode (xC k_C_writeGroup) 9 = .ok (.aload 4, 2) := by decide +kernel
theorem d_C_writeGroup_11 : decode (xC k_C_writeGroup) 11 = .ok (.ifnull 35, 3) := by decide +kernel
theorem d_C_writeGroup_14 : decode (xC k_C_writeGroup) 14 = .ok (.aload_n 0, 1) := by decide +kernel
theorem d_C_writeGroup_15 : decode (xC k_C_writeGroup) 15 = .ok (.getfield 20, 3) := by decide +kernel
theorem d_C_writeGroup_18 : decode (xC k_C_writeGroup) 18 = .ok (.iload_n 3, 1) := by decide +kernel
theorem d_C_writeGroup_19 : decode (xC k_C_writeGroup) 19 = .ok (.invokevirtual 32, 3) := by decide +kernel
theorem d_C_writeGroup_22 : decode (xC k_C_writeGroup) 22 = .ok (.aload_n 0, 1) := by decide +kernel
theorem d_C_writeGroup_23 : decode (xC k_C_writeGroup) 23 = .ok (.aload 4, 2) := by decide +kernel
theorem d_C_writeGroup_25 : decode (xC k_C_writeGroup) 25 = .ok (.iload_n 2, 1) := by decide +kernel
theorem d_C_writeGroup_26 : decode (xC k_C_writeGroup) 26 = .ok (.iconst 1, 1) := by decide +kernel
theorem d_C_writeGroup_27 : decode (xC k_C_writeGroup) 27 = .ok (.iadd, 1) := by decide +kernel
theorem d_C_writeGroup_28 : decode (xC k_C_writeGroup) 28 = .ok (.invokevirtual 28, 3) := by decide +kernel
theorem d_C_writeGroup_31 : decode (xC k_C_writeGroup) 31 = .ok (.aload_n 1, 1) := by decide +kernel
theorem d_C_writeGroup_32 : decode (xC k_C_writeGroup) 32 = .ok (.getfield 36, 3) := by decide +kernel
theorem d_C_writeGroup_35 : decode (xC k_C_writeGroup) 35 = .ok (.istore_n 3, 1) := by decide +kernel
theorem d_C_writeGroup_36 : decode (xC k_C_writeGroup) 36 = .ok (.aload 4, 2) := by decide +kernel
theorem d_C_writeGroup_38 : decode (xC k_C_writeGroup) 38 = .ok (.getfield 55, 3) := by decide +kernel
theorem d_C_writeGroup_41 : decode (xC k_C_writeGroup) 41 = .ok (.astore 4, 2) := by decide +kernel
theorem d_C_writeGroup_43 : decode (xC k_C_writeGroup) 43 = .ok (.goto (-34), 3) := by decide +kernel
theorem d_C_writeGroup_46 : decode (xC k_C_writeGroup) 46 = .ok (.aload_n 0, 1) := by decide +kernel
theorem d_C_writeGroup_47 : decode (xC k_C_writeGroup) 47 = .ok (.getfield 20, 3) := by decide +kernel
theorem d_C_writeGroup_50 : decode (xC k_C_writeGroup) 50 = .ok (.bipush 41, 2) := by decide +kernel
theorem d_C_writeGroup_52 : decode (xC k_C_writeGroup) 52 = .ok (.invokevirtual 32, 3) := by decide +kernel
theorem d_C_writeGroup_55 : decode (xC k_C_writeGroup) 55 = .ok (.return_, 1) := by decide +kernel
theorem d_I_init_0 : decode (xC k_I_init) 0 = .ok (.aload_n 0, 1) := by decide +kernel
theorem d_I_init_1 : decode (xC k_I_init) 1 = .ok (.invokespecial 3, 3) := by decide +kernel
theorem d_I_init_4 : decode (xC k_I_init) 4 = .ok (.aload_n 0, 1) := by decide +kernel
theorem d_I_init_5 : decode (xC k_I_init) 5 = .ok (.bipush 60, 2) := by decide +kernel
theorem d_I_init_7 : decode (xC k_I_init) 7 = .ok (.newarray .int, 2) := by decide +kernel
theorem d_I_init_9 : decode (xC k_I_init) 9 = .ok (.putfield 9, 3) := by decide +kernel
theorem d_I_init_12 : decode (xC k_I_init) 12 = .ok (.aload_n 0, 1) := by decide +kernel
theorem d_I_init_13 : decode (xC k_I_init) 13 = .ok (.bipush 60, 2) := by decide +kernel
theorem d_I_init_15 : decode (xC k_I_init) 15 = .ok (.newarray .int, 2) := by decide +kernel
theorem d_I_init_17 : decode (xC k_I_init) 17 = .ok (.putfield 15, 3) := by decide +kernel
theorem d_I_init_20 : decode (xC k_I_init) 20 = .ok (.aload_n 0, 1) := by decide +kernel
theorem d_I_init_21 : decode (xC k_I_init) 21 = .ok (.iconst 0, 1) := by decide +kernel
theorem d_I_init_22 : decode (xC k_I_init) 22 = .ok (.putfield 18, 3) := by decide +kernel
theorem d_I_init_25 : decode (xC k_I_init) 25 = .ok (.aload_n 0, 1) := by decide +kernel
theorem d_I_init_26 : decode (xC k_I_init) 26 = .ok (.iconst 0, 1) := by decide +kernel
theorem d_I_init_27 : decode (xC k_I_init) 27 = .ok (.putfield 22, 3) := by decide +kernel
theorem d_I_init_30 : decode (xC k_I_init) 30 = .ok (.aload_n 0, 1) := by decide +kernel
theorem d_I_init_31 : decode (xC k_I_init) 31 = .ok (.iconst (-1), 1) := by decide +kernel
theorem d_I_init_32 : decode (xC k_I_init) 32 = .ok (.putfield 25, 3) := by decide +kernel
theorem d_I_init_35 : decode (xC k_I_init) 35 = .ok (.return_, 1) := by decide +kernel
theorem d_I_add_0 : decode (xC k_I_add) 0 = .ok (.aload_n 0, 1) := by decide +kernel
theorem d_I_add_1 : decode (xC k_I_add) 1 = .ok (.getfield 18, 3) := by decide +kernel
theorem d_I_add_4 : decode (xC k_I_add) 4 = .ok (.bipush 60, 2) := by decide +kernel
theorem d_I_add_6 : decode (xC k_I_add) 6 = .ok (.if_icmp .ge 33, 3) := by decide +kernel
theorem d_I_add_9 : decode (xC k_I_add) 9 = .ok (.aload_n 0, 1) := by decide +kernel
theorem d_I_add_10 : decode (xC k_I_add) 10 = .ok (.getfield 9, 3) := by decide +kernel
theorem d_I_add_13 : decode (xC k_I_add) 13 = .ok (.aload_n 0, 1) := by decide +kernel
theorem d_I_add_14 : decode (xC k_I_add) 14 = .ok (.getfield 18, 3) := by decide +kernel
theorem d_I_add_17 : decode (xC k_I_add) 17 = .ok (.iload_n 1, 1) := by decide +kernel
theorem d_I_add_18 : decode (xC k_I_add) 18 = .ok (.iastore, 1) := by decide +kernel
theorem d_I_add_19 : decode (xC k_I_add) 19 = .ok (.aload_n 0, 1) := by decide +kernel
theorem d_I_add_20 : decode (xC k_I_add) 20 = .ok (.getfield 15, 3) := by decide +kernel
theorem d_I_add_23 : decode (xC k_I_add) 23 = .ok (.aload_n 0, 1) := by decide +kernel
theorem d_I_add_24 : decode (xC k_I_add) 24 = .ok (.getfield 18, 3) := by decide +kernel
theorem d_I_add_27 : decode (xC k_I_add) 27 = .ok (.iload_n 2, 1) := by decide +kernel
theorem d_I_add_28 : decode (xC k_I_add) 28 = .ok (.iastore, 1) := by decide +kernel
theorem d_I_add_29 : decode (xC k_I_add) 29 = .ok (.aload_n 0, 1) := by decide +kernel
theorem d_I_add_30 : decode (xC k_I_add) 30 = .ok (.dup, 1) := by decide +kernel
theorem d_I_add_31 : decode (xC k_I_add) 31 = .ok (.getfield 18, 3) := by decide +kernel
theorem d_I_add_34 : decode (xC k_I_add) 34 = .ok (.iconst 1, 1) := by decide +kernel
theorem d_I_add_35 : decode (xC k_I_add) 35 = .ok (.iadd, 1) := by decide +kernel
theorem d_I_add_36 : decode (xC k_I_add) 36 = .ok (.putfield 18, 3) := by decide +kernel
theorem d_I_add_39 : decode (xC k_I_add) 39 = .ok (.return_, 1) := by decide +kernel
theorem d_I_lastHour_0 : decode (xC k_I_lastHour) 0 = .ok (.aload_n 0, 1) := by decide +kernel
theorem d_I_lastHour_1 : decode (xC k_I_lastHour) 1 = .ok (.getfield 18, 3) := by decide +kernel
theorem d_I_lastHour_4 : decode (xC k_I_lastHour) 4 = .ok (.ifCond .le 17, 3) := by decide +kernel
theorem d_I_lastHour_7 : decode (xC k_I_lastHour) 7 = .ok (.aload_n 0, 1) := by decide +kernel
theorem d_I_lastHour_8 : decode (xC k_I_lastHour) 8 = .ok (.getfield 9, 3) := by decide +kernel
theorem d_I_lastHour_11 : decode (xC k_I_lastHour) 11 = .ok (.aload_n 0, 1) := by decide +kernel
theorem d_I_lastHour_12 : decode (xC k_I_lastHour) 12 = .ok (.getfield 18, 3) := by decide +kernel
theorem d_I_lastHour_15 : decode (xC k_I_lastHour) 15 = .ok (.iconst 1, 1) := by decide +kernel
theorem d_I_lastHour_16 : decode (xC k_I_lastHour) 16 = .ok (.isub, 1) := by decide +kernel
theorem d_I_lastHour_17 : decode (xC k_I_lastHour) 17 = .ok (.iaload, 1) := by decide +kernel
theorem d_I_lastHour_18 : decode (xC k_I_lastHour) 18 = .ok (.goto 4, 3) := by decide +kernel
theorem d_I_lastHour_21 : decode (xC k_I_lastHour) 21 = .ok (.iconst (-1), 1) := by decide +kernel
theorem d_I_lastHour_22 : decode (xC k_I_lastHour) 22 = .ok (.ireturn, 1) := by decide +kernel
theorem d_I_valueAt_0 : decode (xC k_I_valueAt) 0 = .ok (.iload_n 1, 1) := by decide +kernel
theorem d_I_valueAt_1 : decode (xC k_I_valueAt) 1 = .ok (.aload_n 0, 1) := by decide +kernel
theorem d_I_valueAt_2 : decode (xC k_I_valueAt) 2 = .ok (.getfield 22, 3) := by decide +kernel
theorem d_I_valueAt_5 : decode (xC k_I_valueAt) 5 = .ok (.if_icmp .lt 13, 3) := by decide +kernel
theorem d_I_valueAt_8 : decode (xC k_I_valueAt) 8 = .ok (.iload_n 1, 1) := by decide +kernel
theorem d_I_valueAt_9 : decode (xC k_I_valueAt) 9 = .ok (.aload_n 0, 1) := by decide +kernel
theorem d_I_valueAt_10 : decode (xC k_I_valueAt) 10 = .ok (.getfield 25, 3) := by decide +kernel
theorem d_I_valueAt_13 : decode (xC k_I_valueAt) 13 = .ok (.if_icmp .gt 5, 3) := by decide +kernel
theorem d_I_valueAt_16 : decode (xC k_I_valueAt) 16 = .ok (.iconst (-1), 1) := by decide +kernel
theorem d_I_valueAt_17 : decode (xC k_I_valueAt) 17 = .ok (.ireturn, 1) := by decide +kernel
theorem d_I_valueAt_18 : decode (xC k_I_valueAt) 18 = .ok (.aload_n 0, 1) := by decide +kernel
theorem d_I_valueAt_19 : decode (xC k_I_valueAt) 19 = .ok (.getfield 18, 3) := by decide +kernel
theorem d_I_valueAt_22 : decode (xC k_I_valueAt) 22 = .ok (.iconst 1, 1) := by decide +kernel
theorem d_I_valueAt_23 : decode (xC k_I_valueAt) 23 = .ok (.isub, 1) := by decide +kernel
theorem d_I_valueAt_24 : decode (xC k_I_valueAt) 24 = .ok (.istore_n 2, 1) := by decide +kernel
theorem d_I_valueAt_25 : decode (xC k_I_valueAt) 25 = .ok (.iload_n 2, 1) := by decide +kernel
theorem d_I_valueAt_26 : decode (xC k_I_valueAt) 26 = .ok (.ifCond .lt 26, 3) := by decide +kernel
theorem d_I_valueAt_29 : decode (xC k_I_valueAt) 29 = .ok (.aload_n 0, 1) := by decide +kernel
theorem d_I_valueAt_30 : decode (xC k_I_valueAt) 30 = .ok (.getfield 9, 3) := by decide +kernel
theorem d_I_valueAt_33 : decode (xC k_I_valueAt) 33 = .ok (.iload_n 2, 1) := by decide +kernel
theorem d_I_valueAt_34 : decode (xC k_I_valueAt) 34 = .ok (.iaload, 1) := by decide +kernel
theorem d_I_valueAt_35 : decode (xC k_I_valueAt) 35 = .ok (.iload_n 1, 1) := by decide +kernel
theorem d_I_valueAt_36 : decode (xC k_I_valueAt) 36 = .ok (.if_icmp .gt 10, 3) := by decide +kernel
theorem d_I_valueAt_39 : decode (xC k_I_valueAt) 39 = .ok (.aload_n 0, 1) := by decide +kernel
theorem d_I_valueAt_40 : decode (xC k_I_valueAt) 40 = .ok (.getfield 15, 3) := by decide +kernel
theorem d_I_valueAt_43 : decode (xC k_I_valueAt) 43 = .ok (.iload_n 2, 1) := by decide +kernel
theorem d_I_valueAt_44 : decode (xC k_I_valueAt) 44 = .ok (.iaload, 1) := by decide +kernel
theorem d_I_valueAt_45 : decode (xC k_I_valueAt) 45 = .ok (.ireturn, 1) := by decide +kernel
theorem d_I_valueAt_46 : decode (xC k_I_valueAt) 46 = .ok (.iinc 2 (-1), 3) := by decide +kernel
theorem d_I_valueAt_49 : decode (xC k_I_valueAt) 49 = .ok (.goto (-24), 3) := by decide +kernel
theorem d_I_valueAt_52 : decode (xC k_I_valueAt) 52 = .ok (.iconst (-1), 1) := by decide +kernel
theorem d_I_valueAt_53 : decode (xC k_I_valueAt) 53 = .ok (.ireturn, 1) := by decide +kernel
theorem d_O_init_0 : decode (xC k_O_init) 0 = .ok (.aload_n 0, 1) := by decide +kernel
theorem d_O_init_1 : decode (xC k_O_init) 1 = .ok (.invokespecial 3, 3) := by decide +kernel
theorem d_O_init_4 : decode (xC k_O_init) 4 = .ok (.aload_n 0, 1) := by decide +kernel
theorem d_O_init_5 : decode (xC k_O_init) 5 = .ok (.bipush 100, 2) := by decide +kernel
theorem d_O_init_7 : decode (xC k_O_init) 7 = .ok (.newarray .int, 2) := by decide +kernel
theorem d_O_init_9 : decode (xC k_O_init) 9 = .ok (.putfield 9, 3) := by decide +kernel
theorem d_O_init_12 : decode (xC k_O_init) 12 = .ok (.aload_n 0, 1) := by decide +kernel
theorem d_O_init_13 : decode (xC k_O_init) 13 = .ok (.bipush 100, 2) := by decide +kernel
theorem d_O_init_15 : decode (xC k_O_init) 15 = .ok (.newarray .int, 2) := by decide +kernel
theorem d_O_init_17 : decode (xC k_O_init) 17 = .ok (.putfield 15, 3) := by decide +kernel
theorem d_O_init_20 : decode (xC k_O_init) 20 = .ok (.aload_n 0, 1) := by decide +kernel
theorem d_O_init_21 : decode (xC k_O_init) 21 = .ok (.bipush 6, 2) := by decide +kernel
theorem d_O_init_23 : decode (xC k_O_init) 23 = .ok (.newarray .boolean, 2) := by decide +kernel
theorem d_O_init_25 : decode (xC k_O_init) 25 = .ok (.putfield 18, 3) := by decide +kernel
theorem d_O_init_28 : decode (xC k_O_init) 28 = .ok (.aload_n 0, 1) := by decide +kernel
theorem d_O_init_29 : decode (xC k_O_init) 29 = .ok (.iconst 0, 1) := by decide +kernel
theorem d_O_init_30 : decode (xC k_O_init) 30 = .ok (.putfield 22, 3) := by decide +kernel
theorem d_O_init_33 : decode (xC k_O_init) 33 = .ok (.aload_n 0, 1) := by decide +kernel
theorem d_O_init_34 : decode (xC k_O_init) 34 = .ok (.iconst 0, 1) := by decide +kernel
theorem d_O_init_35 : decode (xC k_O_init) 35 = .ok (.putfield 26, 3) := by decide +kernel
theorem d_O_init_38 : decode (xC k_O_init) 38 = .ok (.aload_n 0, 1) := by decide +kernel
theorem d_O_init_39 : decode (xC k_O_init) 39 = .ok (.aload_n 1, 1) := by decide +kernel
theorem d_O_init_40 : decode (xC k_O_init) 40 = .ok (.putfield 30, 3) := by decide +kernel
theorem d_O_init_43 : decode (xC k_O_init) 43 = .ok (.aload_n 0, 1) := by decide +kernel
theorem d_O_init_44 : decode (xC k_O_init) 44 = .ok (.aload_n 2, 1) := by decide +kernel
theorem d_O_init_45 : decode (xC k_O_init) 45 = .ok (.putfield 34, 3) := by decide +kernel
theorem d_O_init_48 : decode (xC k_O_init) 48 = .ok (.return_, 1) := by decide +kernel
theorem d_O_forget_0 : decode (xC k_O_forget) 0 = .ok (.iload_n 1, 1) := by decide +kernel
theorem d_O_forget_1 : decode (xC k_O_forget) 1 = .ok (.ifCond .lt 16, 3) := by decide +kernel
theorem d_O_forget_4 : decode (xC k_O_forget) 4 = .ok (.iload_n 1, 1) := by decide +kernel
theorem d_O_forget_5 : decode (xC k_O_forget) 5 = .ok (.bipush 6, 2) := by decide +kernel
theorem d_O_forget_7 : decode (xC k_O_forget) 7 = .ok (.if_icmp .ge 10, 3) := by decide +kernel
theorem d_O_forget_10 : decode (xC k_O_forget) 10 = .ok (.aload_n 0, 1) := by decide +kernel
theorem d_O_forget_11 : decode (xC k_O_forget) 11 = .ok (.getfield 18, 3) := by decide +kernel
theorem d_O_forget_14 : decode (xC k_O_forget) 14 = .ok (.iload_n 1, 1) := by decide +kernel
theorem d_O_forget_15 : decode (xC k_O_forget) 15 = .ok (.iconst 0, 1) := by decide +kernel
theorem d_O_forget_16 : decode (xC k_O_forget) 16 = .ok (.bastore, 1) := by decide +kernel
theorem d_O_forget_17 : decode (xC k_O_forget) 17 = .ok (.return_, 1) := by decide +kernel
theorem d_O_tell_0 : decode (xC k_O_tell) 0 = .ok (.iload_n 2, 1) := by decide +kernel
theorem d_O_tell_1 : decode (xC k_O_tell) 1 = .ok (.ifCond .lt 27, 3) := by decide +kernel
theorem d_O_tell_4 : decode (xC k_O_tell) 4 = .ok (.iload_n 2, 1) := by decide +kernel
theorem d_O_tell_5 : decode (xC k_O_tell) 5 = .ok (.bipush 6, 2) := by decide +kernel
theorem d_O_tell_7 : decode (xC k_O_tell) 7 = .ok (.if_icmp .ge 21, 3) := by decide +kernel
theorem d_O_tell_10 : decode (xC k_O_tell) 10 = .ok (.aload_n 0, 1) := by decide +kernel
theorem d_O_tell_11 : decode (xC k_O_tell) 11 = .ok (.getfield 18, 3) := by decide +kernel
theorem d_O_tell_14 : decode (xC k_O_tell) 14 = .ok (.iload_n 2, 1) := by decide +kernel
theorem d_O_tell_15 : decode (xC k_O_tell) 15 = .ok (.baload, 1) := by decide +kernel
theorem d_O_tell_16 : decode (xC k_O_tell) 16 = .ok (.ifCond .ne 12, 3) := by decide +kernel
theorem d_O_tell_19 : decode (xC k_O_tell) 19 = .ok (.aload_n 0, 1) := by decide +kernel
theorem d_O_tell_20 : decode (xC k_O_tell) 20 = .ok (.getfield 26, 3) := by decide +kernel
theorem d_O_tell_23 : decode (xC k_O_tell) 23 = .ok (.bipush 100, 2) := by decide +kernel
theorem d_O_tell_25 : decode (xC k_O_tell) 25 = .ok (.if_icmp .lt 4, 3) := by decide +kernel
theorem d_O_tell_28 : decode (xC k_O_tell) 28 = .ok (.return_, 1) := by decide +kernel
theorem d_O_tell_29 : decode (xC k_O_tell) 29 = .ok (.aload_n 0, 1) := by decide +kernel
theorem d_O_tell_30 : decode (xC k_O_tell) 30 = .ok (.getfield 18, 3) := by decide +kernel
theorem d_O_tell_33 : decode (xC k_O_tell) 33 = .ok (.iload_n 2, 1) := by decide +kernel
theorem d_O_tell_34 : decode (xC k_O_tell) 34 = .ok (.iconst 1, 1) := by decide +kernel
theorem d_O_tell_35 : decode (xC k_O_tell) 35 = .ok (.bastore, 1) := by decide +kernel
theorem d_O_tell_36 : decode (xC k_O_tell) 36 = .ok (.aload_n 0, 1) := by decide +kernel
theorem d_O_tell_37 : decode (xC k_O_tell) 37 = .ok (.getfield 9, 3) := by decide +kernel
theorem d_O_tell_40 : decode (xC k_O_tell) 40 = .ok (.aload_n 0, 1) := by decide +kernel
theorem d_O_tell_41 : decode (xC k_O_tell) 41 = .ok (.getfield 26, 3) := by decide +kernel
theorem d_O_tell_44 : decode (xC k_O_tell) 44 = .ok (.iload_n 1, 1) := by decide +kernel
theorem d_O_tell_45 : decode (xC k_O_tell) 45 = .ok (.iastore, 1) := by decide +kernel
theorem d_O_tell_46 : decode (xC k_O_tell) 46 = .ok (.aload_n 0, 1) := by decide +kernel
theorem d_O_tell_47 : decode (xC k_O_tell) 47 = .ok (.getfield 15, 3) := by decide +kernel
theorem d_O_tell_50 : decode (xC k_O_tell) 50 = .ok (.aload_n 0, 1) := by decide +kernel
theorem d_O_tell_51 : decode (xC k_O_tell) 51 = .ok (.getfield 26, 3) := by decide +kernel
theorem d_O_tell_54 : decode (xC k_O_tell) 54 = .ok (.iload_n 2, 1) := by decide +kernel
theorem d_O_tell_55 : decode (xC k_O_tell) 55 = .ok (.iastore, 1) := by decide +kernel
theorem d_O_tell_56 : decode (xC k_O_tell) 56 = .ok (.aload_n 0, 1) := by decide +kernel
theorem d_O_tell_57 : decode (xC k_O_tell) 57 = .ok (.dup, 1) := by decide +kernel
theorem d_O_tell_58 : decode (xC k_O_tell) 58 = .ok (.getfield 26, 3) := by decide +kernel
theorem d_O_tell_61 : decode (xC k_O_tell) 61 = .ok (.iconst 1, 1) := by decide +kernel
theorem d_O_tell_62 : decode (xC k_O_tell) 62 = .ok (.iadd, 1) := by decide +kernel
theorem d_O_tell_63 : decode (xC k_O_tell) 63 = .ok (.putfield 26, 3) := by decide +kernel
theorem d_O_tell_66 : decode (xC k_O_tell) 66 = .ok (.return_, 1) := by decide +kernel
theorem d_O_price_0 : decode (xC k_O_price) 0 = .ok (.iconst 5, 1) := by decide +kernel
theorem d_O_price_1 : decode (xC k_O_price) 1 = .ok (.aload_n 0, 1) := by decide +kernel
theorem d_O_price_2 : decode (xC k_O_price) 2 = .ok (.getfield 34, 3) := by decide +kernel
theorem d_O_price_5 : decode (xC k_O_price) 5 = .ok (.invokevirtual 38, 3) := by decide +kernel
theorem d_O_price_8 : decode (xC k_O_price) 8 = .ok (.imul, 1) := by decide +kernel
theorem d_O_price_9 : decode (xC k_O_price) 9 = .ok (.bipush 20, 2) := by decide +kernel
theorem d_O_price_11 : decode (xC k_O_price) 11 = .ok (.aload_n 0, 1) := by decide +kernel
theorem d_O_price_12 : decode (xC k_O_price) 12 = .ok (.getfield 30, 3) := by decide +kernel
theorem d_O_price_15 : decode (xC k_O_price) 15 = .ok (.getfield 44, 3) := by decide +kernel
theorem d_O_price_18 : decode (xC k_O_price) 18 = .ok (.imul, 1) := by decide +kernel
theorem d_O_price_19 : decode (xC k_O_price) 19 = .ok (.iadd, 1) := by decide +kernel
theorem d_O_price_20 : decode (xC k_O_price) 20 = .ok (.bipush 50, 2) := by decide +kernel
theorem d_O_price_22 : decode (xC k_O_price) 22 = .ok (.aload_n 0, 1) := by decide +kernel
theorem d_O_price_23 : decode (xC k_O_price) 23 = .ok (.getfield 26, 3) := by decide +kernel
theorem d_O_price_26 : decode (xC k_O_price) 26 = .ok (.imul, 1) := by decide +kernel
theorem d_O_price_27 : decode (xC k_O_price) 27 = .ok (.iadd, 1) := by decide +kernel
theorem d_O_price_28 : decode (xC k_O_price) 28 = .ok (.istore_n 1, 1) := by decide +kernel
theorem d_O_price_29 : decode (xC k_O_price) 29 = .ok (.aload_n 0, 1) := by decide +kernel
theorem d_O_price_30 : decode (xC k_O_price) 30 = .ok (.getfield 22, 3) := by decide +kernel
theorem d_O_price_33 : decode (xC k_O_price) 33 = .ok (.ifCond .eq 7, 3) := by decide +kernel
theorem d_O_price_36 : decode (xC k_O_price) 36 = .ok (.iload_n 1, 1) := by decide +kernel
theorem d_O_price_37 : decode (xC k_O_price) 37 = .ok (.goto 8, 3) := by decide +kernel
theorem d_O_price_40 : decode (xC k_O_price) 40 = .ok (.iload_n 1, 1) := by decide +kernel
theorem d_O_price_41 : decode (xC k_O_price) 41 = .ok (.sipush 300, 3) := by decide +kernel
theorem d_O_price_44 : decode (xC k_O_price) 44 = .ok (.iadd, 1) := by decide +kernel
theorem d_O_price_45 : decode (xC k_O_price) 45 = .ok (.ireturn, 1) := by decide +kernel
theorem d_N_init_0 : decode (xC k_N_init) 0 = .ok (.aload_n 0, 1) := by decide +kernel
theorem d_N_init_1 : decode (xC k_N_init) 1 = .ok (.invokespecial 3, 3) := by decide +kernel
theorem d_N_init_4 : decode (xC k_N_init) 4 = .ok (.aload_n 0, 1) := by decide +kernel
theorem d_N_init_5 : decode (xC k_N_init) 5 = .ok (.aconst_null, 1) := by decide +kernel
theorem d_N_init_6 : decode (xC k_N_init) 6 = .ok (.putfield 9, 3) := by decide +kernel
theorem d_N_init_9 : decode (xC k_N_init) 9 = .ok (.aload_n 0, 1) := by decide +kernel
theorem d_N_init_10 : decode (xC k_N_init) 10 = .ok (.iload_n 1, 1) := by decide +kernel
theorem d_N_init_11 : decode (xC k_N_init) 11 = .ok (.putfield 15, 3) := by decide +kernel
theorem d_N_init_14 : decode (xC k_N_init) 14 = .ok (.aload_n 0, 1) := by decide +kernel
theorem d_N_init_15 : decode (xC k_N_init) 15 = .ok (.iconst 0, 1) := by decide +kernel
theorem d_N_init_16 : decode (xC k_N_init) 16 = .ok (.putfield 19, 3) := by decide +kernel
theorem d_N_init_19 : decode (xC k_N_init) 19 = .ok (.aload_n 0, 1) := by decide +kernel
theorem d_N_init_20 : decode (xC k_N_init) 20 = .ok (.iconst 0, 1) := by decide +kernel
theorem d_N_init_21 : decode (xC k_N_init) 21 = .ok (.putfield 22, 3) := by decide +kernel
theorem d_N_init_24 : decode (xC k_N_init) 24 = .ok (.aload_n 0, 1) := by decide +kernel
theorem d_N_init_25 : decode (xC k_N_init) 25 = .ok (.aload_n 2, 1) := by decide +kernel
theorem d_N_init_26 : decode (xC k_N_init) 26 = .ok (.putfield 25, 3) := by decide +kernel
theorem d_N_init_29 : decode (xC k_N_init) 29 = .ok (.return_, 1) := by decide +kernel
theorem d_N_init2_0 : decode (xC k_N_init2) 0 = .ok (.aload_n 0, 1) := by decide +kernel
theorem d_N_init2_1 : decode (xC k_N_init2) 1 = .ok (.invokespecial 3, 3) := by decide +kernel
theorem d_N_init2_4 : decode (xC k_N_init2) 4 = .ok (.aload_n 0, 1) := by decide +kernel
theorem d_N_init2_5 : decode (xC k_N_init2) 5 = .ok (.aconst_null, 1) := by decide +kernel
theorem d_N_init2_6 : decode (xC k_N_init2) 6 = .ok (.putfield 9, 3) := by decide +kernel
theorem d_N_init2_9 : decode (xC k_N_init2) 9 = .ok (.aload_n 0, 1) := by decide +kernel
theorem d_N_init2_10 : decode (xC k_N_init2) 10 = .ok (.iload_n 1, 1) := by decide +kernel
theorem d_N_init2_11 : decode (xC k_N_init2) 11 = .ok (.putfield 15, 3) := by decide +kernel
theorem d_N_init2_14 : decode (xC k_N_init2) 14 = .ok (.aload_n 0, 1) := by decide +kernel
theorem d_N_init2_15 : decode (xC k_N_init2) 15 = .ok (.iload_n 2, 1) := by decide +kernel
theorem d_N_init2_16 : decode (xC k_N_init2) 16 = .ok (.putfield 19, 3) := by decide +kernel
theorem d_N_init2_19 : decode (xC k_N_init2) 19 = .ok (.aload_n 0, 1) := by decide +kernel
theorem d_N_init2_20 : decode (xC k_N_init2) 20 = .ok (.iload_n 3, 1) := by decide +kernel
theorem d_N_init2_21 : decode (xC k_N_init2) 21 = .ok (.putfield 22, 3) := by decide +kernel
theorem d_N_init2_24 : decode (xC k_N_init2) 24 = .ok (.aload_n 0, 1) := by decide +kernel
theorem d_N_init2_25 : decode (xC k_N_init2) 25 = .ok (.aconst_null, 1) := by decide +kernel
theorem d_N_init2_26 : decode (xC k_N_init2) 26 = .ok (.putfield 25, 3) := by decide +kernel
theorem d_N_init2_29 : decode (xC k_N_init2) 29 = .ok (.return_, 1) := by decide +kernel
theorem d_N_compared_0 : decode (xC k_N_compared) 0 = .ok (.aload_n 0, 1) := by decide +kernel
theorem d_N_compared_1 : decode (xC k_N_compared) 1 = .ok (.getfield 15, 3) := by decide +kernel
theorem d_N_compared_4 : decode (xC k_N_compared) 4 = .ok (.bipush 60, 2) := by decide +kernel
theorem d_N_compared_6 : decode (xC k_N_compared) 6 = .ok (.if_icmp .ne 19, 3) := by decide +kernel
theorem d_N_compared_9 : decode (xC k_N_compared) 9 = .ok (.iload_n 1, 1) := by decide +kernel
theorem d_N_compared_10 : decode (xC k_N_compared) 10 = .ok (.aload_n 0, 1) := by decide +kernel
theorem d_N_compared_11 : decode (xC k_N_compared) 11 = .ok (.getfield 22, 3) := by decide +kernel
theorem d_N_compared_14 : decode (xC k_N_compared) 14 = .ok (.if_icmp .ge 7, 3) := by decide +kernel
theorem d_N_compared_17 : decode (xC k_N_compared) 17 = .ok (.iconst 1, 1) := by decide +kernel
theorem d_N_compared_18 : decode (xC k_N_compared) 18 = .ok (.goto 45, 3) := by decide +kernel
theorem d_N_compared_21 : decode (xC k_N_compared) 21 = .ok (.iconst 0, 1) := by decide +kernel
theorem d_N_compared_22 : decode (xC k_N_compared) 22 = .ok (.goto 41, 3) := by decide +kernel
theorem d_N_compared_25 : decode (xC k_N_compared) 25 = .ok (.aload_n 0, 1) := by decide +kernel
theorem d_N_compared_26 : decode (xC k_N_compared) 26 = .ok (.getfield 15, 3) := by decide +kernel
theorem d_N_compared_29 : decode (xC k_N_compared) 29 = .ok (.bipush 62, 2) := by decide +kernel
theorem d_N_compared_31 : decode (xC k_N_compared) 31 = .ok (.if_icmp .ne 19, 3) := by decide +kernel
theorem d_N_compared_34 : decode (xC k_N_compared) 34 = .ok (.iload_n 1, 1) := by decide +kernel
theorem d_N_compared_35 : decode (xC k_N_compared) 35 = .ok (.aload_n 0, 1) := by decide +kernel
theorem d_N_compared_36 : decode (xC k_N_compared) 36 = .ok (.getfield 22, 3) := by decide +kernel
theorem d_N_compared_39 : decode (xC k_N_compared) 39 = .ok (.if_icmp .le 7, 3) := by decide +kernel
theorem d_N_compared_42 : decode (xC k_N_compared) 42 = .ok (.iconst 1, 1) := by decide +kernel
theorem d_N_compared_43 : decode (xC k_N_compared) 43 = .ok (.goto 20, 3) := by decide +kernel
theorem d_N_compared_46 : decode (xC k_N_compared) 46 = .ok (.iconst 0, 1) := by decide +kernel
theorem d_N_compared_47 : decode (xC k_N_compared) 47 = .ok (.goto 16, 3) := by decide +kernel
theorem d_N_compared_50 : decode (xC k_N_compared) 50 = .ok (.iload_n 1, 1) := by decide +kernel
theorem d_N_compared_51 : decode (xC k_N_compared) 51 = .ok (.aload_n 0, 1) := by decide +kernel
theorem d_N_compared_52 : decode (xC k_N_compared) 52 = .ok (.getfield 22, 3) := by decide +kernel
theorem d_N_compared_55 : decode (xC k_N_compared) 55 = .ok (.if_icmp .ne 7, 3) := by decide +kernel
theorem d_N_compared_58 : decode (xC k_N_compared) 58 = .ok (.iconst 1, 1) := by decide +kernel
theorem d_N_compared_59 : decode (xC k_N_compared) 59 = .ok (.goto 4, 3) := by decide +kernel
theorem d_N_compared_62 : decode (xC k_N_compared) 62 = .ok (.iconst 0, 1) := by decide +kernel
theorem d_N_compared_63 : decode (xC k_N_compared) 63 = .ok (.istore_n 2, 1) := by decide +kernel
theorem d_N_compared_64 : decode (xC k_N_compared) 64 = .ok (.iload_n 2, 1) := by decide +kernel
theorem d_N_compared_65 : decode (xC k_N_compared) 65 = .ok (.ifCond .eq 7, 3) := by decide +kernel
theorem d_N_compared_68 : decode (xC k_N_compared) 68 = .ok (.iconst 1, 1) := by decide +kernel
theorem d_N_compared_69 : decode (xC k_N_compared) 69 = .ok (.goto 4, 3) := by decide +kernel
theorem d_N_compared_72 : decode (xC k_N_compared) 72 = .ok (.iconst 0, 1) := by decide +kernel
theorem d_N_compared_73 : decode (xC k_N_compared) 73 = .ok (.ireturn, 1) := by decide +kernel
theorem d_R_init_0 : decode (xC k_R_init) 0 = .ok (.aload_n 0, 1) := by decide +kernel
theorem d_R_init_1 : decode (xC k_R_init) 1 = .ok (.invokespecial 3, 3) := by decide +kernel
theorem d_R_init_4 : decode (xC k_R_init) 4 = .ok (.aload_n 0, 1) := by decide +kernel
theorem d_R_init_5 : decode (xC k_R_init) 5 = .ok (.iconst 0, 1) := by decide +kernel
theorem d_R_init_6 : decode (xC k_R_init) 6 = .ok (.putfield 9, 3) := by decide +kernel
theorem d_R_init_9 : decode (xC k_R_init) 9 = .ok (.aload_n 0, 1) := by decide +kernel
theorem d_R_init_10 : decode (xC k_R_init) 10 = .ok (.aload_n 1, 1) := by decide +kernel
theorem d_R_init_11 : decode (xC k_R_init) 11 = .ok (.putfield 15, 3) := by decide +kernel
theorem d_R_init_14 : decode (xC k_R_init) 14 = .ok (.return_, 1) := by decide +kernel
theorem d_R_readContract_0 : decode (xC k_R_readContract) 0 = .ok (.new 19, 3) := by decide +kernel
theorem d_R_readContract_3 : decode (xC k_R_readContract) 3 = .ok (.dup, 1) := by decide +kernel
theorem d_R_readContract_4 : decode (xC k_R_readContract) 4 = .ok (.invokespecial 21, 3) := by decide +kernel
theorem d_R_readContract_7 : decode (xC k_R_readContract) 7 = .ok (.astore_n 1, 1) := by decide +kernel
theorem d_R_readContract_8 : decode (xC k_R_readContract) 8 = .ok (.iconst 5, 1) := by decide +kernel
theorem d_R_readContract_9 : decode (xC k_R_readContract) 9 = .ok (.istore_n 2, 1) := by decide +kernel
theorem d_R_readContract_10 : decode (xC k_R_readContract) 10 = .ok (.iload_n 2, 1) := by decide +kernel
theorem d_R_readContract_11 : decode (xC k_R_readContract) 11 = .ok (.ifCond .lt 69, 3) := by decide +kernel
theorem d_R_readContract_14 : decode (xC k_R_readContract) 14 = .ok (.aload_n 0, 1) := by decide +kernel
theorem d_R_readContract_15 : decode (xC k_R_readContract) 15 = .ok (.bipush 124, 2) := by decide +kernel
theorem d_R_readContract_17 : decode (xC k_R_readContract) 17 = .ok (.iconst 0, 1) := by decide +kernel
theorem d_R_readContract_18 : decode (xC k_R_readContract) 18 = .ok (.invokevirtual 22, 3) := by decide +kernel
theorem d_R_readContract_21 : decode (xC k_R_readContract) 21 = .ok (.astore_n 3, 1) := by decide +kernel
theorem d_R_readContract_22 : decode (xC k_R_readContract) 22 = .ok (.aload_n 3, 1) := by decide +kernel
theorem d_R_readContract_23 : decode (xC k_R_readContract) 23 = .ok (.ifnonnull 5, 3) := by decide +kernel
theorem d_R_readContract_26 : decode (xC k_R_readContract) 26 = .ok (.aconst_null, 1) := by decide +kernel
theorem d_R_readContract_27 : decode (xC k_R_readContract) 27 = .ok (.areturn, 1) := by decide +kernel
theorem d_R_readContract_28 : decode (xC k_R_readContract) 28 = .ok (.aload_n 1, 1) := by decide +kernel
theorem d_R_readContract_29 : decode (xC k_R_readContract) 29 = .ok (.aload_n 3, 1) := by decide +kernel
theorem d_R_readContract_30 : decode (xC k_R_readContract) 30 = .ok (.invokevirtual 26, 3) := by decide +kernel
theorem d_R_readContract_33 : decode (xC k_R_readContract) 33 = .ok (.aload_n 0, 1) := by decide +kernel
theorem d_R_readContract_34 : decode (xC k_R_readContract) 34 = .ok (.getfield 9, 3) := by decide +kernel
theorem d_R_readContract_37 : decode (xC k_R_readContract) 37 = .ok (.aload_n 0, 1) := by decide +kernel
theorem d_R_readContract_38 : decode (xC k_R_readContract) 38 = .ok (.getfield 15, 3) := by decide +kernel
theorem d_R_readContract_41 : decode (xC k_R_readContract) 41 = .ok (.getfield 30, 3) := by decide +kernel
theorem d_R_readContract_44 : decode (xC k_R_readContract) 44 = .ok (.if_icmp .lt 5, 3) := by decide +kernel
theorem d_R_readContract_47 : decode (xC k_R_readContract) 47 = .ok (.aload_n 1, 1) := by decide +kernel
theorem d_R_readContract_48 : decode (xC k_R_readContract) 48 = .ok (.areturn, 1) := by decide +kernel
theorem d_R_readContract_49 : decode (xC k_R_readContract) 49 = .ok (.aload_n 0, 1) := by decide +kernel
theorem d_R_readContract_50 : decode (xC k_R_readContract) 50 = .ok (.invokevirtual 35, 3) := by decide +kernel
theorem d_R_readContract_53 : decode (xC k_R_readContract) 53 = .ok (.bipush 59, 2) := by decide +kernel
theorem d_R_readContract_55 : decode (xC k_R_readContract) 55 = .ok (.if_icmp .ne 7, 3) := by decide +kernel
theorem d_R_readContract_58 : decode (xC k_R_readContract) 58 = .ok (.iload_n 2, 1) := by decide +kernel
theorem d_R_readContract_59 : decode (xC k_R_readContract) 59 = .ok (.ifCond .ne 5, 3) := by decide +kernel
theorem d_R_readContract_62 : decode (xC k_R_readContract) 62 = .ok (.aconst_null, 1) := by decide +kernel
theorem d_R_readContract_63 : decode (xC k_R_readContract) 63 = .ok (.areturn, 1) := by decide +kernel
theorem d_R_readContract_64 : decode (xC k_R_readContract) 64 = .ok (.aload_n 0, 1) := by decide +kernel
theorem d_R_readContract_65 : decode (xC k_R_readContract) 65 = .ok (.dup, 1) := by decide +kernel
theorem d_R_readContract_66 : decode (xC k_R_readContract) 66 = .ok (.getfield 9, 3) := by decide +kernel
theorem d_R_readContract_69 : decode (xC k_R_readContract) 69 = .ok (.iconst 1, 1) := by decide +kernel
theorem d_R_readContract_70 : decode (xC k_R_readContract) 70 = .ok (.iadd, 1) := by decide +kernel
theorem d_R_readContract_71 : decode (xC k_R_readContract) 71 = .ok (.putfield 9, 3) := by decide +kernel
theorem d_R_readContract_74 : decode (xC k_R_readContract) 74 = .ok (.iinc 2 (-1), 3) := by decide +kernel
theorem d_R_readContract_77 : decode (xC k_R_readContract) 77 = .ok (.goto (-67), 3) := by decide +kernel
theorem d_R_readContract_80 : decode (xC k_R_readContract) 80 = .ok (.aconst_null, 1) := by decide +kernel
theorem d_R_readContract_81 : decode (xC k_R_readContract) 81 = .ok (.areturn, 1) := by decide +kernel
theorem d_R_readGroup_0 : decode (xC k_R_readGroup) 0 = .ok (.aload_n 0, 1) := by decide +kernel
theorem d_R_readGroup_1 : decode (xC k_R_readGroup) 1 = .ok (.iload_n 1, 1) := by decide +kernel
theorem d_R_readGroup_2 : decode (xC k_R_readGroup) 2 = .ok (.iload_n 2, 1) := by decide +kernel
theorem d_R_readGroup_3 : decode (xC k_R_readGroup) 3 = .ok (.invokevirtual 39, 3) := by decide +kernel
theorem d_R_readGroup_6 : decode (xC k_R_readGroup) 6 = .ok (.astore_n 3, 1) := by decide +kernel
theorem d_R_readGroup_7 : decode (xC k_R_readGroup) 7 = .ok (.aload_n 3, 1) := by decide +kernel
theorem d_R_readGroup_8 : decode (xC k_R_readGroup) 8 = .ok (.ifnull 11, 3) := by decide +kernel
theorem d_R_readGroup_11 : decode (xC k_R_readGroup) 11 = .ok (.aload_n 0, 1) := by decide +kernel
theorem d_R_readGroup_12 : decode (xC k_R_readGroup) 12 = .ok (.invokevirtual 35, 3) := by decide +kernel
theorem d_R_readGroup_15 : decode (xC k_R_readGroup) 15 = .ok (.iload_n 1, 1) := by decide +kernel
theorem d_R_readGroup_16 : decode (xC k_R_readGroup) 16 = .ok (.if_icmp .eq 5, 3) := by decide +kernel
theorem d_R_readGroup_19 : decode (xC k_R_readGroup) 19 = .ok (.aload_n 3, 1) := by decide +kernel
theorem d_R_readGroup_20 : decode (xC k_R_readGroup) 20 = .ok (.areturn, 1) := by decide +kernel
theorem d_R_readGroup_21 : decode (xC k_R_readGroup) 21 = .ok (.aload_n 3, 1) := by decide +kernel
theorem d_R_readGroup_22 : decode (xC k_R_readGroup) 22 = .ok (.astore 4, 2) := by decide +kernel
theorem d_R_readGroup_24 : decode (xC k_R_readGroup) 24 = .ok (.iconst 1, 1) := by decide +kernel
theorem d_R_readGroup_25 : decode (xC k_R_readGroup) 25 = .ok (.istore 5, 2) := by decide +kernel
theorem d_R_readGroup_27 : decode (xC k_R_readGroup) 27 = .ok (.iload 5, 2) := by decide +kernel
theorem d_R_readGroup_29 : decode (xC k_R_readGroup) 29 = .ok (.bipush 80, 2) := by decide +kernel
theorem d_R_readGroup_31 : decode (xC k_R_readGroup) 31 = .ok (.if_icmp .ge 53, 3) := by decide +kernel
theorem d_R_readGroup_34 : decode (xC k_R_readGroup) 34 = .ok (.aload_n 0, 1) := by decide +kernel
theorem d_R_readGroup_35 : decode (xC k_R_readGroup) 35 = .ok (.invokevirtual 35, 3) := by decide +kernel
theorem d_R_readGroup_38 : decode (xC k_R_readGroup) 38 = .ok (.iload_n 1, 1) := by decide +kernel
theorem d_R_readGroup_39 : decode (xC k_R_readGroup) 39 = .ok (.if_icmp .ne 45, 3) := by decide +kernel
theorem d_R_readGroup_42 : decode (xC k_R_readGroup) 42 = .ok (.aload_n 0, 1) := by decide +kernel
theorem d_R_readGroup_43 : decode (xC k_R_readGroup) 43 = .ok (.dup, 1) := by decide +kernel
theorem d_R_readGroup_44 : decode (xC k_R_readGroup) 44 = .ok (.getfield 9, 3) := by decide +kernel
theorem d_R_readGroup_47 : decode (xC k_R_readGroup) 47 = .ok (.iconst 1, 1) := by decide +kernel
theorem d_R_readGroup_48 : decode (xC k_R_readGroup) 48 = .ok (.iadd, 1) := by decide +kernel
theorem d_R_readGroup_49 : decode (xC k_R_readGroup) 49 = .ok (.putfield 9, 3) := by decide +kernel
theorem d_R_readGroup_52 : decode (xC k_R_readGroup) 52 = .ok (.aload_n 0, 1) := by decide +kernel
theorem d_R_readGroup_53 : decode (xC k_R_readGroup) 53 = .ok (.iload_n 1, 1) := by decide +kernel
theorem d_R_readGroup_54 : decode (xC k_R_readGroup) 54 = .ok (.iload_n 2, 1) := by decide +kernel
theorem d_R_readGroup_55 : decode (xC k_R_readGroup) 55 = .ok (.invokevirtual 39, 3) := by decide +kernel
theorem d_R_readGroup_58 : decode (xC k_R_readGroup) 58 = .ok (.astore 6, 2) := by decide +kernel
theorem d_R_readGroup_60 : decode (xC k_R_readGroup) 60 = .ok (.aload 6, 2) := by decide +kernel
theorem d_R_readGroup_62 : decode (xC k_R_readGroup) 62 = .ok (.ifnonnull 5, 3) := by decide +kernel
theorem d_R_readGroup_65 : decode (xC k_R_readGroup) 65 = .ok (.aconst_null, 1) := by decide +kernel
theorem d_R_readGroup_66 : decode (xC k_R_readGroup) 66 = .ok (.areturn, 1) := by decide +kernel
theorem d_R_readGroup_67 : decode (xC k_R_readGroup) 67 = .ok (.aload 4, 2) := by decide +kernel
theorem d_R_readGroup_69 : decode (xC k_R_readGroup) 69 = .ok (.aload 6, 2) := by decide +kernel
theorem d_R_readGroup_71 : decode (xC k_R_readGroup) 71 = .ok (.putfield 42, 3) := by decide +kernel
theorem d_R_readGroup_74 : decode (xC k_R_readGroup) 74 = .ok (.aload 6, 2) := by decide +kernel
theorem d_R_readGroup_76 : decode (xC k_R_readGroup) 76 = .ok (.astore 4, 2) := by decide +kernel
theorem d_R_readGroup_78 : decode (xC k_R_readGroup) 78 = .ok (.iinc 5 1, 3) := by decide +kernel
theorem d_R_readGroup_81 : decode (xC k_R_readGroup) 81 = .ok (.goto (-54), 3) := by decide +kernel
theorem d_R_readGroup_84 : decode (xC k_R_readGroup) 84 = .ok (.new 43, 3) := by decide +kernel
theorem d_R_readGroup_87 : decode (xC k_R_readGroup) 87 = .ok (.dup, 1) := by decide +kernel
theorem d_R_readGroup_88 : decode (xC k_R_readGroup) 88 = .ok (.iload_n 1, 1) := by decide +kernel
theorem d_R_readGroup_89 : decode (xC k_R_readGroup) 89 = .ok (.aload_n 3, 1) := by decide +kernel
theorem d_R_readGroup_90 : decode (xC k_R_readGroup) 90 = .ok (.invokespecial 48, 3) := by decide +kernel
theorem d_R_readGroup_93 : decode (xC k_R_readGroup) 93 = .ok (.areturn, 1) := by decide +kernel
theorem d_R_readItem_0 : decode (xC k_R_readItem) 0 = .ok (.iload_n 1, 1) := by decide +kernel
theorem d_R_readItem_1 : decode (xC k_R_readItem) 1 = .ok (.bipush 124, 2) := by decide +kernel
theorem d_R_readItem_3 : decode (xC k_R_readItem) 3 = .ok (.if_icmp .ne 13, 3) := by decide +kernel
theorem d_R_readItem_6 : decode (xC k_R_readItem) 6 = .ok (.aload_n 0, 1) := by decide +kernel
theorem d_R_readItem_7 : decode (xC k_R_readItem) 7 = .ok (.bipush 38, 2) := by decide +kernel
theorem d_R_readItem_9 : decode (xC k_R_readItem) 9 = .ok (.iload_n 2, 1) := by decide +kernel
theorem d_R_readItem_10 : decode (xC k_R_readItem) 10 = .ok (.invokevirtual 22, 3) := by decide +kernel
theorem d_R_readItem_13 : decode (xC k_R_readItem) 13 = .ok (.goto 9, 3) := by decide +kernel
theorem d_R_readItem_16 : decode (xC k_R_readItem) 16 = .ok (.aload_n 0, 1) := by decide +kernel
theorem d_R_readItem_17 : decode (xC k_R_readItem) 17 = .ok (.iload_n 2, 1) := by decide +kernel
theorem d_R_readItem_18 : decode (xC k_R_readItem) 18 = .ok (.iconst 0, 1) := by decide +kernel
theorem d_R_readItem_19 : decode (xC k_R_readItem) 19 = .ok (.invokevirtual 51, 3) := by decide +kernel
theorem d_R_readItem_22 : decode (xC k_R_readItem) 22 = .ok (.areturn, 1) := by decide +kernel
theorem d_R_readBit_0 : decode (xC k_R_readBit) 0 = .ok (.aload_n 0, 1) := by decide +kernel
theorem d_R_readBit_1 : decode (xC k_R_readBit) 1 = .ok (.invokevirtual 35, 3) := by decide +kernel
theorem d_R_readBit_4 : decode (xC k_R_readBit) 4 = .ok (.bipush 33, 2) := by decide +kernel
theorem d_R_readBit_6 : decode (xC k_R_readBit) 6 = .ok (.if_icmp .ne 46, 3) := by decide +kernel
theorem d_R_readBit_9 : decode (xC k_R_readBit) 9 = .ok (.iload_n 2, 1) := by decide +kernel
theorem d_R_readBit_10 : decode (xC k_R_readBit) 10 = .ok (.iconst 3, 1) := by decide +kernel
theorem d_R_readBit_11 : decode (xC k_R_readBit) 11 = .ok (.if_icmp .ge 41, 3) := by decide +kernel
theorem d_R_readBit_14 : decode (xC k_R_readBit) 14 = .ok (.aload_n 0, 1) := by decide +kernel
theorem d_R_readBit_15 : decode (xC k_R_readBit) 15 = .ok (.dup, 1) := by decide +kernel
theorem d_R_readBit_16 : decode (xC k_R_readBit) 16 = .ok (.getfield 9, 3) := by decide +kernel
theorem d_R_readBit_19 : decode (xC k_R_readBit) 19 = .ok (.iconst 1, 1) := by decide +kernel
theorem d_R_readBit_20 : decode (xC k_R_readBit) 20 = .ok (.iadd, 1) := by decide +kernel
theorem d_R_readBit_21 : decode (xC k_R_readBit) 21 = .ok (.putfield 9, 3) := by decide +kernel
theorem d_R_readBit_24 : decode (xC k_R_readBit) 24 = .ok (.aload_n 0, 1) := by decide +kernel
theorem d_R_readBit_25 : decode (xC k_R_readBit) 25 = .ok (.iload_n 1, 1) := by decide +kernel
theorem d_R_readBit_26 : decode (xC k_R_readBit) 26 = .ok (.iload_n 2, 1) := by decide +kernel
theorem d_R_readBit_27 : decode (xC k_R_readBit) 27 = .ok (.iconst 1, 1) := by decide +kernel
theorem d_R_readBit_28 : decode (xC k_R_readBit) 28 = .ok (.iadd, 1) := by decide +kernel
theorem d_R_readBit_29 : decode (xC k_R_readBit) 29 = .ok (.invokevirtual 51, 3) := by decide +kernel
theorem d_R_readBit_32 : decode (xC k_R_readBit) 32 = .ok (.astore_n 3, 1) := by decide +kernel
theorem d_R_readBit_33 : decode (xC k_R_readBit) 33 = .ok (.aload_n 3, 1) := by decide +kernel
theorem d_R_readBit_34 : decode (xC k_R_readBit) 34 = .ok (.ifnonnull 7, 3) := by decide +kernel
theorem d_R_readBit_37 : decode (xC k_R_readBit) 37 = .ok (.aconst_null, 1) := by decide +kernel
theorem d_R_readBit_38 : decode (xC k_R_readBit) 38 = .ok (.goto 13, 3) := by decide +kernel
theorem d_R_readBit_41 : decode (xC k_R_readBit) 41 = .ok (.new 43, 3) := by decide +kernel
theorem d_R_readBit_44 : decode (xC k_R_readBit) 44 = .ok (.dup, 1) := by decide +kernel
theorem d_R_readBit_45 : decode (xC k_R_readBit) 45 = .ok (.bipush 33, 2) := by decide +kernel
theorem d_R_readBit_47 : decode (xC k_R_readBit) 47 = .ok (.aload_n 3, 1) := by decide +kernel
theorem d_R_readBit_48 : decode (xC k_R_readBit) 48 = .ok (.invokespecial 48, 3) := by decide +kernel
theorem d_R_readBit_51 : decode (xC k_R_readBit) 51 = .ok (.areturn, 1) := by decide +kernel
theorem d_R_readBit_52 : decode (xC k_R_readBit) 52 = .ok (.aload_n 0, 1) := by decide +kernel
theorem d_R_readBit_53 : decode (xC k_R_readBit) 53 = .ok (.invokevirtual 35, 3) := by decide +kernel
theorem d_R_readBit_56 : decode (xC k_R_readBit) 56 = .ok (.bipush 40, 2) := by decide +kernel
theorem d_R_readBit_58 : decode (xC k_R_readBit) 58 = .ok (.if_icmp .ne 55, 3) := by decide +kernel
theorem d_R_readBit_61 : decode (xC k_R_readBit) 61 = .ok (.iload_n 1, 1) := by decide +kernel
theorem d_R_readBit_62 : decode (xC k_R_readBit) 62 = .ok (.iconst 5, 1) := by decide +kernel
theorem d_R_readBit_63 : decode (xC k_R_readBit) 63 = .ok (.if_icmp .ge 50, 3) := by decide +kernel
theorem d_R_readBit_66 : decode (xC k_R_readBit) 66 = .ok (.aload_n 0, 1) := by decide +kernel
theorem d_R_readBit_67 : decode (xC k_R_readBit) 67 = .ok (.dup, 1) := by decide +kernel
theorem d_R_readBit_68 : decode (xC k_R_readBit) 68 = .ok (.getfield 9, 3) := by decide +kernel
theorem d_R_readBit_71 : decode (xC k_R_readBit) 71 = .ok (.iconst 1, 1) := by decide +kernel
theorem d_R_readBit_72 : decode (xC k_R_readBit) 72 = .ok (.iadd, 1) := by decide +kernel
theorem d_R_readBit_73 : decode (xC k_R_readBit) 73 = .ok (.putfield 9, 3) := by decide +kernel
theorem d_R_readBit_76 : decode (xC k_R_readBit) 76 = .ok (.aload_n 0, 1) := by decide +kernel
theorem d_R_readBit_77 : decode (xC k_R_readBit) 77 = .ok (.bipush 124, 2) := by decide +kernel
theorem d_R_readBit_79 : decode (xC k_R_readBit) 79 = .ok (.iload_n 1, 1) := by decide +kernel
theorem d_R_readBit_80 : decode (xC k_R_readBit) 80 = .ok (.iconst 1, 1) := by decide +kernel
theorem d_R_readBit_81 : decode (xC k_R_readBit) 81 = .ok (.iadd, 1) := by decide +kernel
theorem d_R_readBit_82 : decode (xC k_R_readBit) 82 = .ok (.invokevirtual 22, 3) := by decide +kernel
theorem d_R_readBit_85 : decode (xC k_R_readBit) 85 = .ok (.astore_n 3, 1) := by decide +kernel
theorem d_R_readBit_86 : decode (xC k_R_readBit) 86 = .ok (.aload_n 3, 1) := by decide +kernel
theorem d_R_readBit_87 : decode (xC k_R_readBit) 87 = .ok (.ifnull 12, 3) := by decide +kernel
theorem d_R_readBit_90 : decode (xC k_R_readBit) 90 = .ok (.aload_n 0, 1) := by decide +kernel
theorem d_R_readBit_91 : decode (xC k_R_readBit) 91 = .ok (.invokevirtual 35, 3) := by decide +kernel
theorem d_R_readBit_94 : decode (xC k_R_readBit) 94 = .ok (.bipush 41, 2) := by decide +kernel
theorem d_R_readBit_96 : decode (xC k_R_readBit) 96 = .ok (.if_icmp .eq 5, 3) := by decide +kernel
theorem d_R_readBit_99 : decode (xC k_R_readBit) 99 = .ok (.aconst_null, 1) := by decide +kernel
theorem d_R_readBit_100 : decode (xC k_R_readBit) 100 = .ok (.areturn, 1) := by decide +kernel
theorem d_R_readBit_101 : decode (xC k_R_readBit) 101 = .ok (.aload_n 0, 1) := by decide +kernel
theorem d_R_readBit_102 : decode (xC k_R_readBit) 102 = .ok (.dup, 1) := by decide +kernel
theorem d_R_readBit_103 : decode (xC k_R_readBit) 103 = .ok (.getfield 9, 3) := by decide +kernel
theorem d_R_readBit_106 : decode (xC k_R_readBit) 106 = .ok (.iconst 1, 1) := by decide +kernel
theorem d_R_readBit_107 : decode (xC k_R_readBit) 107 = .ok (.iadd, 1) := by decide +kernel
theorem d_R_readBit_108 : decode (xC k_R_readBit) 108 = .ok (.putfield 9, 3) := by decide +kernel
theorem d_R_readBit_111 : decode (xC k_R_readBit) 111 = .ok (.aload_n 3, 1) := by decide +kernel
theorem d_R_readBit_112 : decode (xC k_R_readBit) 112 = .ok (.areturn, 1) := by decide +kernel
theorem d_R_readBit_113 : decode (xC k_R_readBit) 113 = .ok (.aload_n 0, 1) := by decide +kernel
theorem d_R_readBit_114 : decode (xC k_R_readBit) 114 = .ok (.invokevirtual 54, 3) := by decide +kernel
theorem d_R_readBit_117 : decode (xC k_R_readBit) 117 = .ok (.areturn, 1) := by decide +kernel
theorem d_R_readName_0 : decode (xC k_R_readName) 0 = .ok (.aload_n 0, 1) := by decide +kernel
theorem d_R_readName_1 : decode (xC k_R_readName) 1 = .ok (.invokevirtual 35, 3) := by decide +kernel
theorem d_R_readName_4 : decode (xC k_R_readName) 4 = .ok (.istore_n 1, 1) := by decide +kernel
theorem d_R_readName_5 : decode (xC k_R_readName) 5 = .ok (.iload_n 1, 1) := by decide +kernel
theorem d_R_readName_6 : decode (xC k_R_readName) 6 = .ok (.invokestatic 58, 3) := by decide +kernel
theorem d_R_readName_9 : decode (xC k_R_readName) 9 = .ok (.ifCond .ne 5, 3) := by decide +kernel
theorem d_R_readName_12 : decode (xC k_R_readName) 12 = .ok (.aconst_null, 1) := by decide +kernel
theorem d_R_readName_13 : decode (xC k_R_readName) 13 = .ok (.areturn, 1) := by decide +kernel
theorem d_R_readName_14 : decode (xC k_R_readName) 14 = .ok (.aload_n 0, 1) := by decide +kernel
theorem d_R_readName_15 : decode (xC k_R_readName) 15 = .ok (.dup, 1) := by decide +kernel
theorem d_R_readName_16 : decode (xC k_R_readName) 16 = .ok (.getfield 9, 3) := by decide +kernel
theorem d_R_readName_19 : decode (xC k_R_readName) 19 = .ok (.iconst 1, 1) := by decide +kernel
theorem d_R_readName_20 : decode (xC k_R_readName) 20 = .ok (.iadd, 1) := by decide +kernel
theorem d_R_readName_21 : decode (xC k_R_readName) 21 = .ok (.putfield 9, 3) := by decide +kernel
theorem d_R_readName_24 : decode (xC k_R_readName) 24 = .ok (.aload_n 0, 1) := by decide +kernel
theorem d_R_readName_25 : decode (xC k_R_readName) 25 = .ok (.invokevirtual 35, 3) := by decide +kernel
theorem d_R_readName_28 : decode (xC k_R_readName) 28 = .ok (.istore_n 2, 1) := by decide +kernel
theorem d_R_readName_29 : decode (xC k_R_readName) 29 = .ok (.iload_n 2, 1) := by decide +kernel
theorem d_R_readName_30 : decode (xC k_R_readName) 30 = .ok (.bipush 60, 2) := by decide +kernel
theorem d_R_readName_32 : decode (xC k_R_readName) 32 = .ok (.if_icmp .eq 17, 3) := by decide +kernel
theorem d_R_readName_35 : decode (xC k_R_readName) 35 = .ok (.iload_n 2, 1) := by decide +kernel
theorem d_R_readName_36 : decode (xC k_R_readName) 36 = .ok (.bipush 61, 2) := by decide +kernel
theorem d_R_readName_38 : decode (xC k_R_readName) 38 = .ok (.if_icmp .eq 11, 3) := by decide +kernel
theorem d_R_readName_41 : decode (xC k_R_readName) 41 = .ok (.iload_n 2, 1) := by decide +kernel
theorem d_R_readName_42 : decode (xC k_R_readName) 42 = .ok (.bipush 62, 2) := by decide +kernel
theorem d_R_readName_44 : decode (xC k_R_readName) 44 = .ok (.if_icmp .eq 5, 3) := by decide +kernel
theorem d_R_readName_47 : decode (xC k_R_readName) 47 = .ok (.aconst_null, 1) := by decide +kernel
theorem d_R_readName_48 : decode (xC k_R_readName) 48 = .ok (.areturn, 1) := by decide +kernel
theorem d_R_readName_49 : decode (xC k_R_readName) 49 = .ok (.aload_n 0, 1) := by decide +kernel
theorem d_R_readName_50 : decode (xC k_R_readName) 50 = .ok (.dup, 1) := by decide +kernel
theorem d_R_readName_51 : decode (xC k_R_readName) 51 = .ok (.getfield 9, 3) := by decide +kernel
theorem d_R_readName_54 : decode (xC k_R_readName) 54 = .ok (.iconst 1, 1) := by decide +kernel
theorem d_R_readName_55 : decode (xC k_R_readName) 55 = .ok (.iadd, 1) := by decide +kernel
theorem d_R_readName_56 : decode (xC k_R_readName) 56 = .ok (.putfield 9, 3) := by decide +kernel
theorem d_R_readName_59 : decode (xC k_R_readName) 59 = .ok (.aload_n 0, 1) := by decide +kernel
theorem d_R_readName_60 : decode (xC k_R_readName) 60 = .ok (.invokevirtual 35, 3) := by decide +kernel
theorem d_R_readName_63 : decode (xC k_R_readName) 63 = .ok (.invokestatic 62, 3) := by decide +kernel
theorem d_R_readName_66 : decode (xC k_R_readName) 66 = .ok (.ifCond .ne 5, 3) := by decide +kernel
theorem d_R_readName_69 : decode (xC k_R_readName) 69 = .ok (.aconst_null, 1) := by decide +kernel
theorem d_R_readName_70 : decode (xC k_R_readName) 70 = .ok (.areturn, 1) := by decide +kernel
theorem d_R_readName_71 : decode (xC k_R_readName) 71 = .ok (.new 43, 3) := by decide +kernel
theorem d_R_readName_74 : decode (xC k_R_readName) 74 = .ok (.dup, 1) := by decide +kernel
theorem d_R_readName_75 : decode (xC k_R_readName) 75 = .ok (.iload_n 2, 1) := by decide +kernel
theorem d_R_readName_76 : decode (xC k_R_readName) 76 = .ok (.iload_n 1, 1) := by decide +kernel
theorem d_R_readName_77 : decode (xC k_R_readName) 77 = .ok (.aload_n 0, 1) := by decide +kernel
theorem d_R_readName_78 : decode (xC k_R_readName) 78 = .ok (.invokevirtual 65, 3) := by decide +kernel
theorem d_R_readName_81 : decode (xC k_R_readName) 81 = .ok (.invokespecial 68, 3) := by decide +kernel
theorem d_R_readName_84 : decode (xC k_R_readName) 84 = .ok (.areturn, 1) := by decide +kernel
theorem d_R_readNumber_0 : decode (xC k_R_readNumber) 0 = .ok (.iconst 0, 1) := by decide +kernel
theorem d_R_readNumber_1 : decode (xC k_R_readNumber) 1 = .ok (.istore_n 1, 1) := by decide +kernel
theorem d_R_readNumber_2 : decode (xC k_R_readNumber) 2 = .ok (.iconst 0, 1) := by decide +kernel
theorem d_R_readNumber_3 : decode (xC k_R_readNumber) 3 = .ok (.istore_n 2, 1) := by decide +kernel
theorem d_R_readNumber_4 : decode (xC k_R_readNumber) 4 = .ok (.iload_n 2, 1) := by decide +kernel
theorem d_R_readNumber_5 : decode (xC k_R_readNumber) 5 = .ok (.bipush 6, 2) := by decide +kernel
theorem d_R_readNumber_7 : decode (xC k_R_readNumber) 7 = .ok (.if_icmp .ge 42, 3) := by decide +kernel
theorem d_R_readNumber_10 : decode (xC k_R_readNumber) 10 = .ok (.aload_n 0, 1) := by decide +kernel
theorem d_R_readNumber_11 : decode (xC k_R_readNumber) 11 = .ok (.invokevirtual 35, 3) := by decide +kernel
theorem d_R_readNumber_14 : decode (xC k_R_readNumber) 14 = .ok (.invokestatic 62, 3) := by decide +kernel
theorem d_R_readNumber_17 : decode (xC k_R_readNumber) 17 = .ok (.ifCond .eq 32, 3) := by decide +kernel
theorem d_R_readNumber_20 : decode (xC k_R_readNumber) 20 = .ok (.bipush 10, 2) := by decide +kernel
theorem d_R_readNumber_22 : decode (xC k_R_readNumber) 22 = .ok (.iload_n 1, 1) := by decide +kernel
theorem d_R_readNumber_23 : decode (xC k_R_readNumber) 23 = .ok (.imul, 1) := by decide +kernel
theorem d_R_readNumber_24 : decode (xC k_R_readNumber) 24 = .ok (.aload_n 0, 1) := by decide +kernel
theorem d_R_readNumber_25 : decode (xC k_R_readNumber) 25 = .ok (.invokevirtual 35, 3) := by decide +kernel
theorem d_R_readNumber_28 : decode (xC k_R_readNumber) 28 = .ok (.bipush 48, 2) := by decide +kernel
theorem d_R_readNumber_30 : decode (xC k_R_readNumber) 30 = .ok (.isub, 1) := by decide +kernel
theorem d_R_readNumber_31 : decode (xC k_R_readNumber) 31 = .ok (.iadd, 1) := by decide +kernel
theorem d_R_readNumber_32 : decode (xC k_R_readNumber) 32 = .ok (.istore_n 1, 1) := by decide +kernel
theorem d_R_readNumber_33 : decode (xC k_R_readNumber) 33 = .ok (.aload_n 0, 1) := by decide +kernel
theorem d_R_readNumber_34 : decode (xC k_R_readNumber) 34 = .ok (.dup, 1) := by decide +kernel
theorem d_R_readNumber_35 : decode (xC k_R_readNumber) 35 = .ok (.getfield 9, 3) := by decide +kernel
theorem d_R_readNumber_38 : decode (xC k_R_readNumber) 38 = .ok (.iconst 1, 1) := by decide +kernel
theorem d_R_readNumber_39 : decode (xC k_R_readNumber) 39 = .ok (.iadd, 1) := by decide +kernel
theorem d_R_readNumber_40 : decode (xC k_R_readNumber) 40 = .ok (.putfield 9, 3) := by decide +kernel
theorem d_R_readNumber_43 : decode (xC k_R_readNumber) 43 = .ok (.iinc 2 1, 3) := by decide +kernel
theorem d_R_readNumber_46 : decode (xC k_R_readNumber) 46 = .ok (.goto (-42), 3) := by decide +kernel
theorem d_R_readNumber_49 : decode (xC k_R_readNumber) 49 = .ok (.iload_n 1, 1) := by decide +kernel
theorem d_R_readNumber_50 : decode (xC k_R_readNumber) 50 = .ok (.ireturn, 1) := by decide +kernel
theorem d_R_sign_0 : decode (xC k_R_sign) 0 = .ok (.aload_n 0, 1) := by decide +kernel
theorem d_R_sign_1 : decode (xC k_R_sign) 1 = .ok (.getfield 15, 3) := by decide +kernel
theorem d_R_sign_4 : decode (xC k_R_sign) 4 = .ok (.aload_n 0, 1) := by decide +kernel
theorem d_R_sign_5 : decode (xC k_R_sign) 5 = .ok (.getfield 9, 3) := by decide +kernel
theorem d_R_sign_8 : decode (xC k_R_sign) 8 = .ok (.invokevirtual 71, 3) := by decide +kernel
theorem d_R_sign_11 : decode (xC k_R_sign) 11 = .ok (.ireturn, 1) := by decide +kernel
theorem d_R_isName_0 : decode (xC k_R_isName) 0 = .ok (.iload_n 0, 1) := by decide +kernel
theorem d_R_isName_1 : decode (xC k_R_isName) 1 = .ok (.bipush 97, 2) := by decide +kernel
theorem d_R_isName_3 : decode (xC k_R_isName) 3 = .ok (.if_icmp .lt 9, 3) := by decide +kernel
theorem d_R_isName_6 : decode (xC k_R_isName) 6 = .ok (.iload_n 0, 1) := by decide +kernel
theorem d_R_isName_7 : decode (xC k_R_isName) 7 = .ok (.bipush 104, 2) := by decide +kernel
theorem d_R_isName_9 : decode (xC k_R_isName) 9 = .ok (.if_icmp .le 15, 3) := by decide +kernel
theorem d_R_isName_12 : decode (xC k_R_isName) 12 = .ok (.iload_n 0, 1) := by decide +kernel
theorem d_R_isName_13 : decode (xC k_R_isName) 13 = .ok (.bipush 121, 2) := by decide +kernel
theorem d_R_isName_15 : decode (xC k_R_isName) 15 = .ok (.if_icmp .eq 9, 3) := by decide +kernel
theorem d_R_isName_18 : decode (xC k_R_isName) 18 = .ok (.iload_n 0, 1) := by decide +kernel
theorem d_R_isName_19 : decode (xC k_R_isName) 19 = .ok (.bipush 122, 2) := by decide +kernel
theorem d_R_isName_21 : decode (xC k_R_isName) 21 = .ok (.if_icmp .ne 7, 3) := by decide +kernel
theorem d_R_isName_24 : decode (xC k_R_isName) 24 = .ok (.iconst 1, 1) := by decide +kernel
theorem d_R_isName_25 : decode (xC k_R_isName) 25 = .ok (.goto 4, 3) := by decide +kernel
theorem d_R_isName_28 : decode (xC k_R_isName) 28 = .ok (.iconst 0, 1) := by decide +kernel
theorem d_R_isName_29 : decode (xC k_R_isName) 29 = .ok (.ireturn, 1) := by decide +kernel
theorem d_R_isDigit_0 : decode (xC k_R_isDigit) 0 = .ok (.iload_n 0, 1) := by decide +kernel
theorem d_R_isDigit_1 : decode (xC k_R_isDigit) 1 = .ok (.bipush 48, 2) := by decide +kernel
theorem d_R_isDigit_3 : decode (xC k_R_isDigit) 3 = .ok (.if_icmp .lt 13, 3) := by decide +kernel
theorem d_R_isDigit_6 : decode (xC k_R_isDigit) 6 = .ok (.iload_n 0, 1) := by decide +kernel
theorem d_R_isDigit_7 : decode (xC k_R_isDigit) 7 = .ok (.bipush 57, 2) := by decide +kernel
theorem d_R_isDigit_9 : decode (xC k_R_isDigit) 9 = .ok (.if_icmp .gt 7, 3) := by decide +kernel
theorem d_R_isDigit_12 : decode (xC k_R_isDigit) 12 = .ok (.iconst 1, 1) := by decide +kernel
theorem d_R_isDigit_13 : decode (xC k_R_isDigit) 13 = .ok (.goto 4, 3) := by decide +kernel
theorem d_R_isDigit_16 : decode (xC k_R_isDigit) 16 = .ok (.iconst 0, 1) := by decide +kernel
theorem d_R_isDigit_17 : decode (xC k_R_isDigit) 17 = .ok (.ireturn, 1) := by decide +kernel
theorem d_W_init_0 : decode (xC k_W_init) 0 = .ok (.aload_n 0, 1) := by decide +kernel
theorem d_W_init_1 : decode (xC k_W_init) 1 = .ok (.invokespecial 3, 3) := by decide +kernel
theorem d_W_init_4 : decode (xC k_W_init) 4 = .ok (.aload_n 0, 1) := by decide +kernel
theorem d_W_init_5 : decode (xC k_W_init) 5 = .ok (.sipush 240, 3) := by decide +kernel
theorem d_W_init_8 : decode (xC k_W_init) 8 = .ok (.newarray .int, 2) := by decide +kernel
theorem d_W_init_10 : decode (xC k_W_init) 10 = .ok (.putfield 9, 3) := by decide +kernel
theorem d_W_init_13 : decode (xC k_W_init) 13 = .ok (.aload_n 0, 1) := by decide +kernel
theorem d_W_init_14 : decode (xC k_W_init) 14 = .ok (.iconst 0, 1) := by decide +kernel
theorem d_W_init_15 : decode (xC k_W_init) 15 = .ok (.putfield 15, 3) := by decide +kernel
theorem d_W_init_18 : decode (xC k_W_init) 18 = .ok (.return_, 1) := by decide +kernel
theorem d_W_clear_0 : decode (xC k_W_clear) 0 = .ok (.aload_n 0, 1) := by decide +kernel
theorem d_W_clear_1 : decode (xC k_W_clear) 1 = .ok (.iconst 0, 1) := by decide +kernel
theorem d_W_clear_2 : decode (xC k_W_clear) 2 = .ok (.putfield 15, 3) := by decide +kernel
theorem d_W_clear_5 : decode (xC k_W_clear) 5 = .ok (.return_, 1) := by decide +kernel
theorem d_W_add_0 : decode (xC k_W_add) 0 = .ok (.aload_n 0, 1) := by decide +kernel
theorem d_W_add_1 : decode (xC k_W_add) 1 = .ok (.getfield 15, 3) := by decide +kernel
theorem d_W_add_4 : decode (xC k_W_add) 4 = .ok (.sipush 240, 3) := by decide +kernel
theorem d_W_add_7 : decode (xC k_W_add) 7 = .ok (.if_icmp .ge 23, 3) := by decide +kernel
theorem d_W_add_10 : decode (xC k_W_add) 10 = .ok (.aload_n 0, 1) := by decide +kernel
theorem d_W_add_11 : decode (xC k_W_add) 11 = .ok (.getfield 9, 3) := by decide +kernel
theorem d_W_add_14 : decode (xC k_W_add) 14 = .ok (.aload_n 0, 1) := by decide +kernel
theorem d_W_add_15 : decode (xC k_W_add) 15 = .ok (.getfield 15, 3) := by decide +kernel
theorem d_W_add_18 : decode (xC k_W_add) 18 = .ok (.iload_n 1, 1) := by decide +kernel
theorem d_W_add_19 : decode (xC k_W_add) 19 = .ok (.iastore, 1) := by decide +kernel
theorem d_W_add_20 : decode (xC k_W_add) 20 = .ok (.aload_n 0, 1) := by decide +kernel
theorem d_W_add_21 : decode (xC k_W_add) 21 = .ok (.dup, 1) := by decide +kernel
theorem d_W_add_22 : decode (xC k_W_add) 22 = .ok (.getfield 15, 3) := by decide +kernel
theorem d_W_add_25 : decode (xC k_W_add) 25 = .ok (.iconst 1, 1) := by decide +kernel
theorem d_W_add_26 : decode (xC k_W_add) 26 = .ok (.iadd, 1) := by decide +kernel
theorem d_W_add_27 : decode (xC k_W_add) 27 = .ok (.putfield 15, 3) := by decide +kernel
theorem d_W_add_30 : decode (xC k_W_add) 30 = .ok (.return_, 1) := by decide +kernel
theorem d_W_addNumber_0 : decode (xC k_W_addNumber) 0 = .ok (.aload_n 0, 1) := by decide +kernel
theorem d_W_addNumber_1 : decode (xC k_W_addNumber) 1 = .ok (.getfield 15, 3) := by decide +kernel
theorem d_W_addNumber_4 : decode (xC k_W_addNumber) 4 = .ok (.iconst 1, 1) := by decide +kernel
theorem d_W_addNumber_5 : decode (xC k_W_addNumber) 5 = .ok (.iadd, 1) := by decide +kernel
theorem d_W_addNumber_6 : decode (xC k_W_addNumber) 6 = .ok (.istore_n 2, 1) := by decide +kernel
theorem d_W_addNumber_7 : decode (xC k_W_addNumber) 7 = .ok (.iload_n 1, 1) := by decide +kernel
theorem d_W_addNumber_8 : decode (xC k_W_addNumber) 8 = .ok (.bipush 10, 2) := by decide +kernel
theorem d_W_addNumber_10 : decode (xC k_W_addNumber) 10 = .ok (.idiv, 1) := by decide +kernel
theorem d_W_addNumber_11 : decode (xC k_W_addNumber) 11 = .ok (.istore_n 3, 1) := by decide +kernel
theorem d_W_addNumber_12 : decode (xC k_W_addNumber) 12 = .ok (.iload_n 3, 1) := by decide +kernel
theorem d_W_addNumber_13 : decode (xC k_W_addNumber) 13 = .ok (.ifCond .le 14, 3) := by decide +kernel
theorem d_W_addNumber_16 : decode (xC k_W_addNumber) 16 = .ok (.iinc 2 1, 3) := by decide +kernel
theorem d_W_addNumber_19 : decode (xC k_W_addNumber) 19 = .ok (.iload_n 3, 1) := by decide +kernel
theorem d_W_addNumber_20 : decode (xC k_W_addNumber) 20 = .ok (.bipush 10, 2) := by decide +kernel
theorem d_W_addNumber_22 : decode (xC k_W_addNumber) 22 = .ok (.idiv, 1) := by decide +kernel
theorem d_W_addNumber_23 : decode (xC k_W_addNumber) 23 = .ok (.istore_n 3, 1) := by decide +kernel
theorem d_W_addNumber_24 : decode (xC k_W_addNumber) 24 = .ok (.goto (-12), 3) := by decide +kernel
theorem d_W_addNumber_27 : decode (xC k_W_addNumber) 27 = .ok (.iload_n 2, 1) := by decide +kernel
theorem d_W_addNumber_28 : decode (xC k_W_addNumber) 28 = .ok (.sipush 240, 3) := by decide +kernel
theorem d_W_addNumber_31 : decode (xC k_W_addNumber) 31 = .ok (.if_icmp .le 4, 3) := by decide +kernel
theorem d_W_addNumber_34 : decode (xC k_W_addNumber) 34 = .ok (.return_, 1) := by decide +kernel
theorem d_W_addNumber_35 : decode (xC k_W_addNumber) 35 = .ok (.iload_n 1, 1) := by decide +kernel
theorem d_W_addNumber_36 : decode (xC k_W_addNumber) 36 = .ok (.istore_n 3, 1) := by decide +kernel
theorem d_W_addNumber_37 : decode (xC k_W_addNumber) 37 = .ok (.iload_n 2, 1) := by decide +kernel
theorem d_W_addNumber_38 : decode (xC k_W_addNumber) 38 = .ok (.iconst 1, 1) := by decide +kernel
theorem d_W_addNumber_39 : decode (xC k_W_addNumber) 39 = .ok (.isub, 1) := by decide +kernel
theorem d_W_addNumber_40 : decode (xC k_W_addNumber) 40 = .ok (.istore 4, 2) := by decide +kernel
theorem d_W_addNumber_42 : decode (xC k_W_addNumber) 42 = .ok (.iload 4, 2) := by decide +kernel
theorem d_W_addNumber_44 : decode (xC k_W_addNumber) 44 = .ok (.aload_n 0, 1) := by decide +kernel
theorem d_W_addNumber_45 : decode (xC k_W_addNumber) 45 = .ok (.getfield 15, 3) := by decide +kernel
theorem d_W_addNumber_48 : decode (xC k_W_addNumber) 48 = .ok (.if_icmp .lt 28, 3) := by decide +kernel
theorem d_W_addNumber_51 : decode (xC k_W_addNumber) 51 = .ok (.aload_n 0, 1) := by decide +kernel
theorem d_W_addNumber_52 : decode (xC k_W_addNumber) 52 = .ok (.getfield 9, 3) := by decide +kernel
theorem d_W_addNumber_55 : decode (xC k_W_addNumber) 55 = .ok (.iload 4, 2) := by decide +kernel
theorem d_W_addNumber_57 : decode (xC k_W_addNumber) 57 = .ok (.bipush 48, 2) := by decide +kernel
theorem d_W_addNumber_59 : decode (xC k_W_addNumber) 59 = .ok (.iload_n 3, 1) := by decide +kernel
theorem d_W_addNumber_60 : decode (xC k_W_addNumber) 60 = .ok (.bipush 10, 2) := by decide +kernel
theorem d_W_addNumber_62 : decode (xC k_W_addNumber) 62 = .ok (.irem, 1) := by decide +kernel
theorem d_W_addNumber_63 : decode (xC k_W_addNumber) 63 = .ok (.iadd, 1) := by decide +kernel
theorem d_W_addNumber_64 : decode (xC k_W_addNumber) 64 = .ok (.iastore, 1) := by decide +kernel
theorem d_W_addNumber_65 : decode (xC k_W_addNumber) 65 = .ok (.iload_n 3, 1) := by decide +kernel
theorem d_W_addNumber_66 : decode (xC k_W_addNumber) 66 = .ok (.bipush 10, 2) := by decide +kernel
theorem d_W_addNumber_68 : decode (xC k_W_addNumber) 68 = .ok (.idiv, 1) := by decide +kernel
theorem d_W_addNumber_69 : decode (xC k_W_addNumber) 69 = .ok (.istore_n 3, 1) := by decide +kernel
theorem d_W_addNumber_70 : decode (xC k_W_addNumber) 70 = .ok (.iinc 4 (-1), 3) := by decide +kernel
theorem d_W_addNumber_73 : decode (xC k_W_addNumber) 73 = .ok (.goto (-31), 3) := by decide +kernel
theorem d_W_addNumber_76 : decode (xC k_W_addNumber) 76 = .ok (.aload_n 0, 1) := by decide +kernel
theorem d_W_addNumber_77 : decode (xC k_W_addNumber) 77 = .ok (.iload_n 2, 1) := by decide +kernel
theorem d_W_addNumber_78 : decode (xC k_W_addNumber) 78 = .ok (.putfield 15, 3) := by decide +kernel
theorem d_W_addNumber_81 : decode (xC k_W_addNumber) 81 = .ok (.return_, 1) := by decide +kernel
theorem d_W_signAt_0 : decode (xC k_W_signAt) 0 = .ok (.iload_n 1, 1) := by decide +kernel
theorem d_W_signAt_1 : decode (xC k_W_signAt) 1 = .ok (.ifCond .lt 20, 3) := by decide +kernel
theorem d_W_signAt_4 : decode (xC k_W_signAt) 4 = .ok (.iload_n 1, 1) := by decide +kernel
theorem d_W_signAt_5 : decode (xC k_W_signAt) 5 = .ok (.aload_n 0, 1) := by decide +kernel
theorem d_W_signAt_6 : decode (xC k_W_signAt) 6 = .ok (.getfield 15, 3) := by decide +kernel
theorem d_W_signAt_9 : decode (xC k_W_signAt) 9 = .ok (.if_icmp .ge 12, 3) := by decide +kernel
theorem d_W_signAt_12 : decode (xC k_W_signAt) 12 = .ok (.aload_n 0, 1) := by decide +kernel
theorem d_W_signAt_13 : decode (xC k_W_signAt) 13 = .ok (.getfield 9, 3) := by decide +kernel
theorem d_W_signAt_16 : decode (xC k_W_signAt) 16 = .ok (.iload_n 1, 1) := by decide +kernel
theorem d_W_signAt_17 : decode (xC k_W_signAt) 17 = .ok (.iaload, 1) := by decide +kernel
theorem d_W_signAt_18 : decode (xC k_W_signAt) 18 = .ok (.goto 4, 3) := by decide +kernel
theorem d_W_signAt_21 : decode (xC k_W_signAt) 21 = .ok (.iconst 0, 1) := by decide +kernel
theorem d_W_signAt_22 : decode (xC k_W_signAt) 22 = .ok (.ireturn, 1) := by decide +kernel
theorem d_P_init_0 : decode (xC k_P_init) 0 = .ok (.aload_n 0, 1) := by decide +kernel
theorem d_P_init_1 : decode (xC k_P_init) 1 = .ok (.invokespecial 1, 3) := by decide +kernel
theorem d_P_init_4 : decode (xC k_P_init) 4 = .ok (.aload_n 0, 1) := by decide +kernel
theorem d_P_init_5 : decode (xC k_P_init) 5 = .ok (.iload_n 1, 1) := by decide +kernel
theorem d_P_init_6 : decode (xC k_P_init) 6 = .ok (.putfield 7, 3) := by decide +kernel
theorem d_P_init_9 : decode (xC k_P_init) 9 = .ok (.aload_n 0, 1) := by decide +kernel
theorem d_P_init_10 : decode (xC k_P_init) 10 = .ok (.iload_n 2, 1) := by decide +kernel
theorem d_P_init_11 : decode (xC k_P_init) 11 = .ok (.putfield 13, 3) := by decide +kernel
theorem d_P_init_14 : decode (xC k_P_init) 14 = .ok (.aload_n 0, 1) := by decide +kernel
theorem d_P_init_15 : decode (xC k_P_init) 15 = .ok (.iload_n 3, 1) := by decide +kernel
theorem d_P_init_16 : decode (xC k_P_init) 16 = .ok (.putfield 16, 3) := by decide +kernel
theorem d_P_init_19 : decode (xC k_P_init) 19 = .ok (.return_, 1) := by decide +kernel
theorem d_P_hasDay_0 : decode (xC k_P_hasDay) 0 = .ok (.iload_n 1, 1) := by decide +kernel
theorem d_P_hasDay_1 : decode (xC k_P_hasDay) 1 = .ok (.aload_n 0, 1) := by decide +kernel
theorem d_P_hasDay_2 : decode (xC k_P_hasDay) 2 = .ok (.getfield 13, 3) := by decide +kernel
theorem d_P_hasDay_5 : decode (xC k_P_hasDay) 5 = .ok (.if_icmp .lt 15, 3) := by decide +kernel
theorem d_P_hasDay_8 : decode (xC k_P_hasDay) 8 = .ok (.iload_n 1, 1) := by decide +kernel
theorem d_P_hasDay_9 : decode (xC k_P_hasDay) 9 = .ok (.aload_n 0, 1) := by decide +kernel
theorem d_P_hasDay_10 : decode (xC k_P_hasDay) 10 = .ok (.getfield 16, 3) := by decide +kernel
theorem d_P_hasDay_13 : decode (xC k_P_hasDay) 13 = .ok (.if_icmp .gt 7, 3) := by decide +kernel
theorem d_P_hasDay_16 : decode (xC k_P_hasDay) 16 = .ok (.iconst 1, 1) := by decide +kernel
theorem d_P_hasDay_17 : decode (xC k_P_hasDay) 17 = .ok (.goto 4, 3) := by decide +kernel
theorem d_P_hasDay_20 : decode (xC k_P_hasDay) 20 = .ok (.iconst 0, 1) := by decide +kernel
theorem d_P_hasDay_21 : decode (xC k_P_hasDay) 21 = .ok (.ireturn, 1) := by decide +kernel
theorem d_P_length_0 : decode (xC k_P_length) 0 = .ok (.aload_n 0, 1) := by decide +kernel
theorem d_P_length_1 : decode (xC k_P_length) 1 = .ok (.getfield 16, 3) := by decide +kernel
theorem d_P_length_4 : decode (xC k_P_length) 4 = .ok (.aload_n 0, 1) := by decide +kernel
theorem d_P_length_5 : decode (xC k_P_length) 5 = .ok (.getfield 13, 3) := by decide +kernel
theorem d_P_length_8 : decode (xC k_P_length) 8 = .ok (.isub, 1) := by decide +kernel
theorem d_P_length_9 : decode (xC k_P_length) 9 = .ok (.iconst 1, 1) := by decide +kernel
theorem d_P_length_10 : decode (xC k_P_length) 10 = .ok (.iadd, 1) := by decide +kernel
theorem d_P_length_11 : decode (xC k_P_length) 11 = .ok (.ireturn, 1) := by decide +kernel
end
section
theorem d_L_init_0 : decode (xC k_L_init) 0 = .ok (.aload_n 0, 1) := by decide +kernel
theorem d_L_init_1 : decode (xC k_L_init) 1 = .ok (.invokespecial 1, 3) := by decide +kernel
theorem d_L_init_4 : decode (xC k_L_init) 4 = .ok (.aload_n 0, 1) := by decide +kernel
theorem d_L_init_5 : decode (xC k_L_init) 5 = .ok (.new 7, 3) := by decide +kernel
theorem d_L_init_8 : decode (xC k_L_init) 8 = .ok (.dup, 1) := by decide +kernel
theorem d_L_init_9 : decode (xC k_L_init) 9 = .ok (.invokespecial 9, 3) := by decide +kernel
theorem d_L_init_12 : decode (xC k_L_init) 12 = .ok (.putfield 10, 3) := by decide +kernel
theorem d_L_init_15 : decode (xC k_L_init) 15 = .ok (.aload_n 0, 1) := by decide +kernel
theorem d_L_init_16 : decode (xC k_L_init) 16 = .ok (.new 7, 3) := by decide +kernel
theorem d_L_init_19 : decode (xC k_L_init) 19 = .ok (.dup, 1) := by decide +kernel
theorem d_L_init_20 : decode (xC k_L_init) 20 = .ok (.invokespecial 9, 3) := by decide +kernel
theorem d_L_init_23 : decode (xC k_L_init) 23 = .ok (.putfield 16, 3) := by decide +kernel
theorem d_L_init_26 : decode (xC k_L_init) 26 = .ok (.aload_n 0, 1) := by decide +kernel
theorem d_L_init_27 : decode (xC k_L_init) 27 = .ok (.bipush 8, 2) := by decide +kernel
theorem d_L_init_29 : decode (xC k_L_init) 29 = .ok (.anewarray 19, 3) := by decide +kernel
theorem d_L_init_32 : decode (xC k_L_init) 32 = .ok (.putfield 21, 3) := by decide +kernel
theorem d_L_init_35 : decode (xC k_L_init) 35 = .ok (.aload_n 0, 1) := by decide +kernel
theorem d_L_init_36 : decode (xC k_L_init) 36 = .ok (.bipush 8, 2) := by decide +kernel
theorem d_L_init_38 : decode (xC k_L_init) 38 = .ok (.anewarray 25, 3) := by decide +kernel
theorem d_L_init_41 : decode (xC k_L_init) 41 = .ok (.putfield 27, 3) := by decide +kernel
theorem d_L_init_44 : decode (xC k_L_init) 44 = .ok (.aload_n 0, 1) := by decide +kernel
theorem d_L_init_45 : decode (xC k_L_init) 45 = .ok (.bipush 20, 2) := by decide +kernel
theorem d_L_init_47 : decode (xC k_L_init) 47 = .ok (.anewarray 31, 3) := by decide +kernel
theorem d_L_init_50 : decode (xC k_L_init) 50 = .ok (.putfield 33, 3) := by decide +kernel
theorem d_L_init_53 : decode (xC k_L_init) 53 = .ok (.aload_n 0, 1) := by decide +kernel
theorem d_L_init_54 : decode (xC k_L_init) 54 = .ok (.bipush 30, 2) := by decide +kernel
theorem d_L_init_56 : decode (xC k_L_init) 56 = .ok (.anewarray 37, 3) := by decide +kernel
theorem d_L_init_59 : decode (xC k_L_init) 59 = .ok (.putfield 39, 3) := by decide +kernel
theorem d_L_init_62 : decode (xC k_L_init) 62 = .ok (.aload_n 0, 1) := by decide +kernel
theorem d_L_init_63 : decode (xC k_L_init) 63 = .ok (.iconst 0, 1) := by decide +kernel
theorem d_L_init_64 : decode (xC k_L_init) 64 = .ok (.putfield 43, 3) := by decide +kernel
theorem d_L_init_67 : decode (xC k_L_init) 67 = .ok (.aload_n 0, 1) := by decide +kernel
theorem d_L_init_68 : decode (xC k_L_init) 68 = .ok (.iconst 0, 1) := by decide +kernel
theorem d_L_init_69 : decode (xC k_L_init) 69 = .ok (.putfield 47, 3) := by decide +kernel
theorem d_L_init_72 : decode (xC k_L_init) 72 = .ok (.aload_n 0, 1) := by decide +kernel
theorem d_L_init_73 : decode (xC k_L_init) 73 = .ok (.iconst 0, 1) := by decide +kernel
theorem d_L_init_74 : decode (xC k_L_init) 74 = .ok (.putfield 50, 3) := by decide +kernel
theorem d_L_init_77 : decode (xC k_L_init) 77 = .ok (.iconst 0, 1) := by decide +kernel
theorem d_L_init_78 : decode (xC k_L_init) 78 = .ok (.istore_n 1, 1) := by decide +kernel
theorem d_L_init_79 : decode (xC k_L_init) 79 = .ok (.iload_n 1, 1) := by decide +kernel
theorem d_L_init_80 : decode (xC k_L_init) 80 = .ok (.bipush 8, 2) := by decide +kernel
theorem d_L_init_82 : decode (xC k_L_init) 82 = .ok (.if_icmp .ge 22, 3) := by decide +kernel
theorem d_L_init_85 : decode (xC k_L_init) 85 = .ok (.aload_n 0, 1) := by decide +kernel
theorem d_L_init_86 : decode (xC k_L_init) 86 = .ok (.getfield 27, 3) := by decide +kernel
theorem d_L_init_89 : decode (xC k_L_init) 89 = .ok (.iload_n 1, 1) := by decide +kernel
theorem d_L_init_90 : decode (xC k_L_init) 90 = .ok (.new 25, 3) := by decide +kernel
theorem d_L_init_93 : decode (xC k_L_init) 93 = .ok (.dup, 1) := by decide +kernel
theorem d_L_init_94 : decode (xC k_L_init) 94 = .ok (.invokespecial 53, 3) := by decide +kernel
theorem d_L_init_97 : decode (xC k_L_init) 97 = .ok (.aastore, 1) := by decide +kernel
theorem d_L_init_98 : decode (xC k_L_init) 98 = .ok (.iinc 1 1, 3) := by decide +kernel
theorem d_L_init_101 : decode (xC k_L_init) 101 = .ok (.goto (-22), 3) := by decide +kernel
theorem d_L_init_104 : decode (xC k_L_init) 104 = .ok (.return_, 1) := by decide +kernel
theorem d_L_unit_0 : decode (xC k_L_unit) 0 = .ok (.aload_n 0, 1) := by decide +kernel
theorem d_L_unit_1 : decode (xC k_L_unit) 1 = .ok (.getfield 10, 3) := by decide +kernel
theorem d_L_unit_4 : decode (xC k_L_unit) 4 = .ok (.getfield 54, 3) := by decide +kernel
theorem d_L_unit_7 : decode (xC k_L_unit) 7 = .ok (.bipush 80, 2) := by decide +kernel
theorem d_L_unit_9 : decode (xC k_L_unit) 9 = .ok (.if_icmp .lt 13, 3) := by decide +kernel
theorem d_L_unit_12 : decode (xC k_L_unit) 12 = .ok (.new 57, 3) := by decide +kernel
theorem d_L_unit_15 : decode (xC k_L_unit) 15 = .ok (.dup, 1) := by decide +kernel
theorem d_L_unit_16 : decode (xC k_L_unit) 16 = .ok (.ldc 59, 2) := by decide +kernel
theorem d_L_unit_18 : decode (xC k_L_unit) 18 = .ok (.invokespecial 61, 3) := by decide +kernel
theorem d_L_unit_21 : decode (xC k_L_unit) 21 = .ok (.athrow, 1) := by decide +kernel
theorem d_L_unit_22 : decode (xC k_L_unit) 22 = .ok (.iload_n 1, 1) := by decide +kernel
theorem d_L_unit_23 : decode (xC k_L_unit) 23 = .ok (.bipush 33, 2) := by decide +kernel
theorem d_L_unit_25 : decode (xC k_L_unit) 25 = .ok (.if_icmp .lt 9, 3) := by decide +kernel
theorem d_L_unit_28 : decode (xC k_L_unit) 28 = .ok (.iload_n 1, 1) := by decide +kernel
theorem d_L_unit_29 : decode (xC k_L_unit) 29 = .ok (.bipush 126, 2) := by decide +kernel
theorem d_L_unit_31 : decode (xC k_L_unit) 31 = .ok (.if_icmp .le 13, 3) := by decide +kernel
theorem d_L_unit_34 : decode (xC k_L_unit) 34 = .ok (.new 64, 3) := by decide +kernel
theorem d_L_unit_37 : decode (xC k_L_unit) 37 = .ok (.dup, 1) := by decide +kernel
theorem d_L_unit_38 : decode (xC k_L_unit) 38 = .ok (.ldc 66, 2) := by decide +kernel
theorem d_L_unit_40 : decode (xC k_L_unit) 40 = .ok (.invokespecial 68, 3) := by decide +kernel
theorem d_L_unit_43 : decode (xC k_L_unit) 43 = .ok (.athrow, 1) := by decide +kernel
theorem d_L_unit_44 : decode (xC k_L_unit) 44 = .ok (.aload_n 0, 1) := by decide +kernel
theorem d_L_unit_45 : decode (xC k_L_unit) 45 = .ok (.getfield 10, 3) := by decide +kernel
theorem d_L_unit_48 : decode (xC k_L_unit) 48 = .ok (.iload_n 1, 1) := by decide +kernel
theorem d_L_unit_49 : decode (xC k_L_unit) 49 = .ok (.invokevirtual 69, 3) := by decide +kernel
theorem d_L_unit_52 : decode (xC k_L_unit) 52 = .ok (.aload_n 0, 1) := by decide +kernel
theorem d_L_unit_53 : decode (xC k_L_unit) 53 = .ok (.getfield 10, 3) := by decide +kernel
theorem d_L_unit_56 : decode (xC k_L_unit) 56 = .ok (.getfield 54, 3) := by decide +kernel
theorem d_L_unit_59 : decode (xC k_L_unit) 59 = .ok (.ireturn, 1) := by decide +kernel
theorem d_L_read_0 : decode (xC k_L_read) 0 = .ok (.aload_n 0, 1) := by decide +kernel
theorem d_L_read_1 : decode (xC k_L_read) 1 = .ok (.getfield 43, 3) := by decide +kernel
theorem d_L_read_4 : decode (xC k_L_read) 4 = .ok (.bipush 8, 2) := by decide +kernel
theorem d_L_read_6 : decode (xC k_L_read) 6 = .ok (.if_icmp .lt 13, 3) := by decide +kernel
theorem d_L_read_9 : decode (xC k_L_read) 9 = .ok (.new 57, 3) := by decide +kernel
theorem d_L_read_12 : decode (xC k_L_read) 12 = .ok (.dup, 1) := by decide +kernel
theorem d_L_read_13 : decode (xC k_L_read) 13 = .ok (.ldc 73, 2) := by decide +kernel
theorem d_L_read_15 : decode (xC k_L_read) 15 = .ok (.invokespecial 61, 3) := by decide +kernel
theorem d_L_read_18 : decode (xC k_L_read) 18 = .ok (.athrow, 1) := by decide +kernel
theorem d_L_read_19 : decode (xC k_L_read) 19 = .ok (.new 75, 3) := by decide +kernel
theorem d_L_read_22 : decode (xC k_L_read) 22 = .ok (.dup, 1) := by decide +kernel
theorem d_L_read_23 : decode (xC k_L_read) 23 = .ok (.aload_n 0, 1) := by decide +kernel
theorem d_L_read_24 : decode (xC k_L_read) 24 = .ok (.getfield 10, 3) := by decide +kernel
theorem d_L_read_27 : decode (xC k_L_read) 27 = .ok (.invokespecial 77, 3) := by decide +kernel
theorem d_L_read_30 : decode (xC k_L_read) 30 = .ok (.astore_n 1, 1) := by decide +kernel
theorem d_L_read_31 : decode (xC k_L_read) 31 = .ok (.aload_n 1, 1) := by decide +kernel
theorem d_L_read_32 : decode (xC k_L_read) 32 = .ok (.invokevirtual 80, 3) := by decide +kernel
theorem d_L_read_35 : decode (xC k_L_read) 35 = .ok (.astore_n 2, 1) := by decide +kernel
theorem d_L_read_36 : decode (xC k_L_read) 36 = .ok (.aload_n 0, 1) := by decide +kernel
theorem d_L_read_37 : decode (xC k_L_read) 37 = .ok (.getfield 10, 3) := by decide +kernel
theorem d_L_read_40 : decode (xC k_L_read) 40 = .ok (.invokevirtual 84, 3) := by decide +kernel
theorem d_L_read_43 : decode (xC k_L_read) 43 = .ok (.aload_n 2, 1) := by decide +kernel
theorem d_L_read_44 : decode (xC k_L_read) 44 = .ok (.ifnonnull 10, 3) := by decide +kernel
theorem d_L_read_47 : decode (xC k_L_read) 47 = .ok (.iconst (-1), 1) := by decide +kernel
theorem d_L_read_48 : decode (xC k_L_read) 48 = .ok (.aload_n 1, 1) := by decide +kernel
theorem d_L_read_49 : decode (xC k_L_read) 49 = .ok (.getfield 87, 3) := by decide +kernel
theorem d_L_read_52 : decode (xC k_L_read) 52 = .ok (.isub, 1) := by decide +kernel
theorem d_L_read_53 : decode (xC k_L_read) 53 = .ok (.ireturn, 1) := by decide +kernel
theorem d_L_read_54 : decode (xC k_L_read) 54 = .ok (.aload_n 0, 1) := by decide +kernel
theorem d_L_read_55 : decode (xC k_L_read) 55 = .ok (.getfield 21, 3) := by decide +kernel
theorem d_L_read_58 : decode (xC k_L_read) 58 = .ok (.aload_n 0, 1) := by decide +kernel
theorem d_L_read_59 : decode (xC k_L_read) 59 = .ok (.getfield 43, 3) := by decide +kernel
theorem d_L_read_62 : decode (xC k_L_read) 62 = .ok (.aload_n 2, 1) := by decide +kernel
theorem d_L_read_63 : decode (xC k_L_read) 63 = .ok (.aastore, 1) := by decide +kernel
theorem d_L_read_64 : decode (xC k_L_read) 64 = .ok (.aload_n 0, 1) := by decide +kernel
theorem d_L_read_65 : decode (xC k_L_read) 65 = .ok (.dup, 1) := by decide +kernel
theorem d_L_read_66 : decode (xC k_L_read) 66 = .ok (.getfield 43, 3) := by decide +kernel
theorem d_L_read_69 : decode (xC k_L_read) 69 = .ok (.iconst 1, 1) := by decide +kernel
theorem d_L_read_70 : decode (xC k_L_read) 70 = .ok (.iadd, 1) := by decide +kernel
theorem d_L_read_71 : decode (xC k_L_read) 71 = .ok (.putfield 43, 3) := by decide +kernel
theorem d_L_read_74 : decode (xC k_L_read) 74 = .ok (.aload_n 0, 1) := by decide +kernel
theorem d_L_read_75 : decode (xC k_L_read) 75 = .ok (.getfield 43, 3) := by decide +kernel
theorem d_L_read_78 : decode (xC k_L_read) 78 = .ok (.iconst 1, 1) := by decide +kernel
theorem d_L_read_79 : decode (xC k_L_read) 79 = .ok (.isub, 1) := by decide +kernel
theorem d_L_read_80 : decode (xC k_L_read) 80 = .ok (.ireturn, 1) := by decide +kernel
theorem d_L_terms_0 : decode (xC k_L_terms) 0 = .ok (.aload_n 0, 1) := by decide +kernel
theorem d_L_terms_1 : decode (xC k_L_terms) 1 = .ok (.iload_n 1, 1) := by decide +kernel
theorem d_L_terms_2 : decode (xC k_L_terms) 2 = .ok (.invokevirtual 90, 3) := by decide +kernel
theorem d_L_terms_5 : decode (xC k_L_terms) 5 = .ok (.getfield 94, 3) := by decide +kernel
theorem d_L_terms_8 : decode (xC k_L_terms) 8 = .ok (.ireturn, 1) := by decide +kernel
theorem d_L_written_0 : decode (xC k_L_written) 0 = .ok (.aload_n 0, 1) := by decide +kernel
theorem d_L_written_1 : decode (xC k_L_written) 1 = .ok (.iload_n 1, 1) := by decide +kernel
theorem d_L_written_2 : decode (xC k_L_written) 2 = .ok (.invokevirtual 90, 3) := by decide +kernel
theorem d_L_written_5 : decode (xC k_L_written) 5 = .ok (.getfield 95, 3) := by decide +kernel
theorem d_L_written_8 : decode (xC k_L_written) 8 = .ok (.iload_n 2, 1) := by decide +kernel
theorem d_L_written_9 : decode (xC k_L_written) 9 = .ok (.invokestatic 98, 3) := by decide +kernel
theorem d_L_written_12 : decode (xC k_L_written) 12 = .ok (.ireturn, 1) := by decide +kernel
theorem d_L_input_0 : decode (xC k_L_input) 0 = .ok (.aload_n 0, 1) := by decide +kernel
theorem d_L_input_1 : decode (xC k_L_input) 1 = .ok (.iload_n 1, 1) := by decide +kernel
theorem d_L_input_2 : decode (xC k_L_input) 2 = .ok (.invokevirtual 102, 3) := by decide +kernel
theorem d_L_input_5 : decode (xC k_L_input) 5 = .ok (.astore 4, 2) := by decide +kernel
theorem d_L_input_7 : decode (xC k_L_input) 7 = .ok (.aload 4, 2) := by decide +kernel
theorem d_L_input_9 : decode (xC k_L_input) 9 = .ok (.getfield 106, 3) := by decide +kernel
theorem d_L_input_12 : decode (xC k_L_input) 12 = .ok (.bipush 60, 2) := by decide +kernel
theorem d_L_input_14 : decode (xC k_L_input) 14 = .ok (.if_icmp .lt 13, 3) := by decide +kernel
theorem d_L_input_17 : decode (xC k_L_input) 17 = .ok (.new 57, 3) := by decide +kernel
theorem d_L_input_20 : decode (xC k_L_input) 20 = .ok (.dup, 1) := by decide +kernel
theorem d_L_input_21 : decode (xC k_L_input) 21 = .ok (.ldc 107, 2) := by decide +kernel
theorem d_L_input_23 : decode (xC k_L_input) 23 = .ok (.invokespecial 61, 3) := by decide +kernel
theorem d_L_input_26 : decode (xC k_L_input) 26 = .ok (.athrow, 1) := by decide +kernel
theorem d_L_input_27 : decode (xC k_L_input) 27 = .ok (.iload_n 2, 1) := by decide +kernel
theorem d_L_input_28 : decode (xC k_L_input) 28 = .ok (.invokestatic 109, 3) := by decide +kernel
theorem d_L_input_31 : decode (xC k_L_input) 31 = .ok (.ifCond .eq 22, 3) := by decide +kernel
theorem d_L_input_34 : decode (xC k_L_input) 34 = .ok (.iload_n 2, 1) := by decide +kernel
theorem d_L_input_35 : decode (xC k_L_input) 35 = .ok (.aload 4, 2) := by decide +kernel
theorem d_L_input_37 : decode (xC k_L_input) 37 = .ok (.invokevirtual 113, 3) := by decide +kernel
theorem d_L_input_40 : decode (xC k_L_input) 40 = .ok (.if_icmp .le 13, 3) := by decide +kernel
theorem d_L_input_43 : decode (xC k_L_input) 43 = .ok (.iload_n 3, 1) := by decide +kernel
theorem d_L_input_44 : decode (xC k_L_input) 44 = .ok (.ifCond .lt 9, 3) := by decide +kernel
theorem d_L_input_47 : decode (xC k_L_input) 47 = .ok (.iload_n 3, 1) := by decide +kernel
theorem d_L_input_48 : decode (xC k_L_input) 48 = .ok (.ldc 117, 2) := by decide +kernel
theorem d_L_input_50 : decode (xC k_L_input) 50 = .ok (.if_icmp .le 13, 3) := by decide +kernel
theorem d_L_input_53 : decode (xC k_L_input) 53 = .ok (.new 64, 3) := by decide +kernel
theorem d_L_input_56 : decode (xC k_L_input) 56 = .ok (.dup, 1) := by decide +kernel
theorem d_L_input_57 : decode (xC k_L_input) 57 = .ok (.ldc 118, 2) := by decide +kernel
theorem d_L_input_59 : decode (xC k_L_input) 59 = .ok (.invokespecial 68, 3) := by decide +kernel
theorem d_L_input_62 : decode (xC k_L_input) 62 = .ok (.athrow, 1) := by decide +kernel
theorem d_L_input_63 : decode (xC k_L_input) 63 = .ok (.aload 4, 2) := by decide +kernel
theorem d_L_input_65 : decode (xC k_L_input) 65 = .ok (.iload_n 2, 1) := by decide +kernel
theorem d_L_input_66 : decode (xC k_L_input) 66 = .ok (.iload_n 3, 1) := by decide +kernel
theorem d_L_input_67 : decode (xC k_L_input) 67 = .ok (.invokevirtual 120, 3) := by decide +kernel
theorem d_L_input_70 : decode (xC k_L_input) 70 = .ok (.aload 4, 2) := by decide +kernel
theorem d_L_input_72 : decode (xC k_L_input) 72 = .ok (.getfield 106, 3) := by decide +kernel
theorem d_L_input_75 : decode (xC k_L_input) 75 = .ok (.ireturn, 1) := by decide +kernel
theorem d_L_fails_0 : decode (xC k_L_fails) 0 = .ok (.aload_n 0, 1) := by decide +kernel
theorem d_L_fails_1 : decode (xC k_L_fails) 1 = .ok (.iload_n 1, 1) := by decide +kernel
theorem d_L_fails_2 : decode (xC k_L_fails) 2 = .ok (.invokevirtual 102, 3) := by decide +kernel
theorem d_L_fails_5 : decode (xC k_L_fails) 5 = .ok (.astore 4, 2) := by decide +kernel
theorem d_L_fails_7 : decode (xC k_L_fails) 7 = .ok (.iload_n 2, 1) := by decide +kernel
theorem d_L_fails_8 : decode (xC k_L_fails) 8 = .ok (.invokestatic 109, 3) := by decide +kernel
theorem d_L_fails_11 : decode (xC k_L_fails) 11 = .ok (.ifCond .eq 15, 3) := by decide +kernel
theorem d_L_fails_14 : decode (xC k_L_fails) 14 = .ok (.iload_n 3, 1) := by decide +kernel
theorem d_L_fails_15 : decode (xC k_L_fails) 15 = .ok (.invokestatic 109, 3) := by decide +kernel
theorem d_L_fails_18 : decode (xC k_L_fails) 18 = .ok (.ifCond .eq 8, 3) := by decide +kernel
theorem d_L_fails_21 : decode (xC k_L_fails) 21 = .ok (.iload_n 3, 1) := by decide +kernel
theorem d_L_fails_22 : decode (xC k_L_fails) 22 = .ok (.iload_n 2, 1) := by decide +kernel
theorem d_L_fails_23 : decode (xC k_L_fails) 23 = .ok (.if_icmp .ge 13, 3) := by decide +kernel
theorem d_L_fails_26 : decode (xC k_L_fails) 26 = .ok (.new 64, 3) := by decide +kernel
theorem d_L_fails_29 : decode (xC k_L_fails) 29 = .ok (.dup, 1) := by decide +kernel
theorem d_L_fails_30 : decode (xC k_L_fails) 30 = .ok (.ldc 123, 2) := by decide +kernel
theorem d_L_fails_32 : decode (xC k_L_fails) 32 = .ok (.invokespecial 68, 3) := by decide +kernel
theorem d_L_fails_35 : decode (xC k_L_fails) 35 = .ok (.athrow, 1) := by decide +kernel
theorem d_L_fails_36 : decode (xC k_L_fails) 36 = .ok (.aload 4, 2) := by decide +kernel
theorem d_L_fails_38 : decode (xC k_L_fails) 38 = .ok (.iload_n 2, 1) := by decide +kernel
theorem d_L_fails_39 : decode (xC k_L_fails) 39 = .ok (.putfield 125, 3) := by decide +kernel
theorem d_L_fails_42 : decode (xC k_L_fails) 42 = .ok (.aload 4, 2) := by decide +kernel
theorem d_L_fails_44 : decode (xC k_L_fails) 44 = .ok (.iload_n 3, 1) := by decide +kernel
theorem d_L_fails_45 : decode (xC k_L_fails) 45 = .ok (.putfield 128, 3) := by decide +kernel
theorem d_L_fails_48 : decode (xC k_L_fails) 48 = .ok (.return_, 1) := by decide +kernel
theorem d_L_loan_0 : decode (xC k_L_loan) 0 = .ok (.aload_n 0, 1) := by decide +kernel
theorem d_L_loan_1 : decode (xC k_L_loan) 1 = .ok (.iload_n 1, 1) := by decide +kernel
theorem d_L_loan_2 : decode (xC k_L_loan) 2 = .ok (.invokevirtual 90, 3) := by decide +kernel
theorem d_L_loan_5 : decode (xC k_L_loan) 5 = .ok (.astore 5, 2) := by decide +kernel
theorem d_L_loan_7 : decode (xC k_L_loan) 7 = .ok (.iload_n 2, 1) := by decide +kernel
theorem d_L_loan_8 : decode (xC k_L_loan) 8 = .ok (.invokestatic 131, 3) := by decide +kernel
theorem d_L_loan_11 : decode (xC k_L_loan) 11 = .ok (.aload_n 0, 1) := by decide +kernel
theorem d_L_loan_12 : decode (xC k_L_loan) 12 = .ok (.getfield 47, 3) := by decide +kernel
theorem d_L_loan_15 : decode (xC k_L_loan) 15 = .ok (.bipush 20, 2) := by decide +kernel
theorem d_L_loan_17 : decode (xC k_L_loan) 17 = .ok (.if_icmp .lt 13, 3) := by decide +kernel
theorem d_L_loan_20 : decode (xC k_L_loan) 20 = .ok (.new 57, 3) := by decide +kernel
theorem d_L_loan_23 : decode (xC k_L_loan) 23 = .ok (.dup, 1) := by decide +kernel
theorem d_L_loan_24 : decode (xC k_L_loan) 24 = .ok (.ldc 134, 2) := by decide +kernel
theorem d_L_loan_26 : decode (xC k_L_loan) 26 = .ok (.invokespecial 61, 3) := by decide +kernel
theorem d_L_loan_29 : decode (xC k_L_loan) 29 = .ok (.athrow, 1) := by decide +kernel
theorem d_L_loan_30 : decode (xC k_L_loan) 30 = .ok (.iload_n 3, 1) := by decide +kernel
theorem d_L_loan_31 : decode (xC k_L_loan) 31 = .ok (.iload 4, 2) := by decide +kernel
theorem d_L_loan_33 : decode (xC k_L_loan) 33 = .ok (.invokestatic 136, 3) := by decide +kernel
theorem d_L_loan_36 : decode (xC k_L_loan) 36 = .ok (.new 37, 3) := by decide +kernel
theorem d_L_loan_39 : decode (xC k_L_loan) 39 = .ok (.dup, 1) := by decide +kernel
theorem d_L_loan_40 : decode (xC k_L_loan) 40 = .ok (.iload_n 2, 1) := by decide +kernel
theorem d_L_loan_41 : decode (xC k_L_loan) 41 = .ok (.iload_n 3, 1) := by decide +kernel
theorem d_L_loan_42 : decode (xC k_L_loan) 42 = .ok (.iload 4, 2) := by decide +kernel
theorem d_L_loan_44 : decode (xC k_L_loan) 44 = .ok (.invokespecial 139, 3) := by decide +kernel
theorem d_L_loan_47 : decode (xC k_L_loan) 47 = .ok (.astore 6, 2) := by decide +kernel
theorem d_L_loan_49 : decode (xC k_L_loan) 49 = .ok (.aload_n 0, 1) := by decide +kernel
theorem d_L_loan_50 : decode (xC k_L_loan) 50 = .ok (.aload 6, 2) := by decide +kernel
theorem d_L_loan_52 : decode (xC k_L_loan) 52 = .ok (.iconst (-1), 1) := by decide +kernel
theorem d_L_loan_53 : decode (xC k_L_loan) 53 = .ok (.invokevirtual 142, 3) := by decide +kernel
theorem d_L_loan_56 : decode (xC k_L_loan) 56 = .ok (.ifCond .eq 5, 3) := by decide +kernel
theorem d_L_loan_59 : decode (xC k_L_loan) 59 = .ok (.iconst (-1), 1) := by decide +kernel
theorem d_L_loan_60 : decode (xC k_L_loan) 60 = .ok (.ireturn, 1) := by decide +kernel
theorem d_L_loan_61 : decode (xC k_L_loan) 61 = .ok (.aload_n 0, 1) := by decide +kernel
theorem d_L_loan_62 : decode (xC k_L_loan) 62 = .ok (.getfield 33, 3) := by decide +kernel
theorem d_L_loan_65 : decode (xC k_L_loan) 65 = .ok (.aload_n 0, 1) := by decide +kernel
theorem d_L_loan_66 : decode (xC k_L_loan) 66 = .ok (.getfield 47, 3) := by decide +kernel
theorem d_L_loan_69 : decode (xC k_L_loan) 69 = .ok (.new 31, 3) := by decide +kernel
theorem d_L_loan_72 : decode (xC k_L_loan) 72 = .ok (.dup, 1) := by decide +kernel
theorem d_L_loan_73 : decode (xC k_L_loan) 73 = .ok (.aload 5, 2) := by decide +kernel
theorem d_L_loan_75 : decode (xC k_L_loan) 75 = .ok (.aload 6, 2) := by decide +kernel
theorem d_L_loan_77 : decode (xC k_L_loan) 77 = .ok (.invokespecial 146, 3) := by decide +kernel
theorem d_L_loan_80 : decode (xC k_L_loan) 80 = .ok (.aastore, 1) := by decide +kernel
theorem d_L_loan_81 : decode (xC k_L_loan) 81 = .ok (.aload_n 0, 1) := by decide +kernel
theorem d_L_loan_82 : decode (xC k_L_loan) 82 = .ok (.dup, 1) := by decide +kernel
theorem d_L_loan_83 : decode (xC k_L_loan) 83 = .ok (.getfield 47, 3) := by decide +kernel
theorem d_L_loan_86 : decode (xC k_L_loan) 86 = .ok (.iconst 1, 1) := by decide +kernel
theorem d_L_loan_87 : decode (xC k_L_loan) 87 = .ok (.iadd, 1) := by decide +kernel
theorem d_L_loan_88 : decode (xC k_L_loan) 88 = .ok (.putfield 47, 3) := by decide +kernel
theorem d_L_loan_91 : decode (xC k_L_loan) 91 = .ok (.aload_n 0, 1) := by decide +kernel
theorem d_L_loan_92 : decode (xC k_L_loan) 92 = .ok (.getfield 47, 3) := by decide +kernel
theorem d_L_loan_95 : decode (xC k_L_loan) 95 = .ok (.iconst 1, 1) := by decide +kernel
theorem d_L_loan_96 : decode (xC k_L_loan) 96 = .ok (.isub, 1) := by decide +kernel
theorem d_L_loan_97 : decode (xC k_L_loan) 97 = .ok (.ireturn, 1) := by decide +kernel
theorem d_L_shield_0 : decode (xC k_L_shield) 0 = .ok (.aload_n 0, 1) := by decide +kernel
theorem d_L_shield_1 : decode (xC k_L_shield) 1 = .ok (.iload_n 1, 1) := by decide +kernel
theorem d_L_shield_2 : decode (xC k_L_shield) 2 = .ok (.invokevirtual 149, 3) := by decide +kernel
theorem d_L_shield_5 : decode (xC k_L_shield) 5 = .ok (.astore_n 3, 1) := by decide +kernel
theorem d_L_shield_6 : decode (xC k_L_shield) 6 = .ok (.aload_n 3, 1) := by decide +kernel
theorem d_L_shield_7 : decode (xC k_L_shield) 7 = .ok (.getfield 153, 3) := by decide +kernel
theorem d_L_shield_10 : decode (xC k_L_shield) 10 = .ok (.iload_n 2, 1) := by decide +kernel
theorem d_L_shield_11 : decode (xC k_L_shield) 11 = .ok (.if_icmp .eq 7, 3) := by decide +kernel
theorem d_L_shield_14 : decode (xC k_L_shield) 14 = .ok (.iconst 1, 1) := by decide +kernel
theorem d_L_shield_15 : decode (xC k_L_shield) 15 = .ok (.goto 4, 3) := by decide +kernel
theorem d_L_shield_18 : decode (xC k_L_shield) 18 = .ok (.iconst 0, 1) := by decide +kernel
theorem d_L_shield_19 : decode (xC k_L_shield) 19 = .ok (.istore 4, 2) := by decide +kernel
theorem d_L_shield_21 : decode (xC k_L_shield) 21 = .ok (.aload_n 3, 1) := by decide +kernel
theorem d_L_shield_22 : decode (xC k_L_shield) 22 = .ok (.iload_n 2, 1) := by decide +kernel
theorem d_L_shield_23 : decode (xC k_L_shield) 23 = .ok (.putfield 153, 3) := by decide +kernel
theorem d_L_shield_26 : decode (xC k_L_shield) 26 = .ok (.iload 4, 2) := by decide +kernel
theorem d_L_shield_28 : decode (xC k_L_shield) 28 = .ok (.ireturn, 1) := by decide +kernel
theorem d_L_ask_0 : decode (xC k_L_ask) 0 = .ok (.aload_n 0, 1) := by decide +kernel
theorem d_L_ask_1 : decode (xC k_L_ask) 1 = .ok (.iload_n 1, 1) := by decide +kernel
theorem d_L_ask_2 : decode (xC k_L_ask) 2 = .ok (.invokevirtual 149, 3) := by decide +kernel
theorem d_L_ask_5 : decode (xC k_L_ask) 5 = .ok (.astore_n 3, 1) := by decide +kernel
theorem d_L_ask_6 : decode (xC k_L_ask) 6 = .ok (.iload_n 2, 1) := by decide +kernel
theorem d_L_ask_7 : decode (xC k_L_ask) 7 = .ok (.invokestatic 157, 3) := by decide +kernel
theorem d_L_ask_10 : decode (xC k_L_ask) 10 = .ok (.aload_n 3, 1) := by decide +kernel
theorem d_L_ask_11 : decode (xC k_L_ask) 11 = .ok (.getfield 160, 3) := by decide +kernel
theorem d_L_ask_14 : decode (xC k_L_ask) 14 = .ok (.iload_n 2, 1) := by decide +kernel
theorem d_L_ask_15 : decode (xC k_L_ask) 15 = .ok (.bipush 24, 2) := by decide +kernel
theorem d_L_ask_17 : decode (xC k_L_ask) 17 = .ok (.idiv, 1) := by decide +kernel
theorem d_L_ask_18 : decode (xC k_L_ask) 18 = .ok (.invokevirtual 164, 3) := by decide +kernel
theorem d_L_ask_21 : decode (xC k_L_ask) 21 = .ok (.ifCond .ne 5, 3) := by decide +kernel
theorem d_L_ask_24 : decode (xC k_L_ask) 24 = .ok (.iconst (-1), 1) := by decide +kernel
theorem d_L_ask_25 : decode (xC k_L_ask) 25 = .ok (.ireturn, 1) := by decide +kernel
theorem d_L_ask_26 : decode (xC k_L_ask) 26 = .ok (.iconst 0, 1) := by decide +kernel
theorem d_L_ask_27 : decode (xC k_L_ask) 27 = .ok (.istore 4, 2) := by decide +kernel
theorem d_L_ask_29 : decode (xC k_L_ask) 29 = .ok (.iconst 0, 1) := by decide +kernel
theorem d_L_ask_30 : decode (xC k_L_ask) 30 = .ok (.istore 5, 2) := by decide +kernel
theorem d_L_ask_32 : decode (xC k_L_ask) 32 = .ok (.iload 5, 2) := by decide +kernel
theorem d_L_ask_34 : decode (xC k_L_ask) 34 = .ok (.aload_n 3, 1) := by decide +kernel
theorem d_L_ask_35 : decode (xC k_L_ask) 35 = .ok (.getfield 167, 3) := by decide +kernel
theorem d_L_ask_38 : decode (xC k_L_ask) 38 = .ok (.getfield 94, 3) := by decide +kernel
theorem d_L_ask_41 : decode (xC k_L_ask) 41 = .ok (.if_icmp .ge 70, 3) := by decide +kernel
theorem d_L_ask_44 : decode (xC k_L_ask) 44 = .ok (.aload_n 0, 1) := by decide +kernel
theorem d_L_ask_45 : decode (xC k_L_ask) 45 = .ok (.aload_n 3, 1) := by decide +kernel
theorem d_L_ask_46 : decode (xC k_L_ask) 46 = .ok (.getfield 167, 3) := by decide +kernel
theorem d_L_ask_49 : decode (xC k_L_ask) 49 = .ok (.iload 5, 2) := by decide +kernel
theorem d_L_ask_51 : decode (xC k_L_ask) 51 = .ok (.invokevirtual 171, 3) := by decide +kernel
theorem d_L_ask_54 : decode (xC k_L_ask) 54 = .ok (.aload_n 3, 1) := by decide +kernel
theorem d_L_ask_55 : decode (xC k_L_ask) 55 = .ok (.iload_n 2, 1) := by decide +kernel
theorem d_L_ask_56 : decode (xC k_L_ask) 56 = .ok (.iconst 0, 1) := by decide +kernel
theorem d_L_ask_57 : decode (xC k_L_ask) 57 = .ok (.invokevirtual 175, 3) := by decide +kernel
theorem d_L_ask_60 : decode (xC k_L_ask) 60 = .ok (.istore 6, 2) := by decide +kernel
theorem d_L_ask_62 : decode (xC k_L_ask) 62 = .ok (.iload 6, 2) := by decide +kernel
theorem d_L_ask_64 : decode (xC k_L_ask) 64 = .ok (.iconst 1, 1) := by decide +kernel
theorem d_L_ask_65 : decode (xC k_L_ask) 65 = .ok (.if_icmp .ne 12, 3) := by decide +kernel
theorem d_L_ask_68 : decode (xC k_L_ask) 68 = .ok (.aload_n 3, 1) := by decide +kernel
theorem d_L_ask_69 : decode (xC k_L_ask) 69 = .ok (.iload 5, 2) := by decide +kernel
theorem d_L_ask_71 : decode (xC k_L_ask) 71 = .ok (.invokevirtual 179, 3) := by decide +kernel
theorem d_L_ask_74 : decode (xC k_L_ask) 74 = .ok (.goto 31, 3) := by decide +kernel
theorem d_L_ask_77 : decode (xC k_L_ask) 77 = .ok (.iload 6, 2) := by decide +kernel
theorem d_L_ask_79 : decode (xC k_L_ask) 79 = .ok (.ifCond .ne 26, 3) := by decide +kernel
theorem d_L_ask_82 : decode (xC k_L_ask) 82 = .ok (.aload_n 3, 1) := by decide +kernel
theorem d_L_ask_83 : decode (xC k_L_ask) 83 = .ok (.iload_n 2, 1) := by decide +kernel
theorem d_L_ask_84 : decode (xC k_L_ask) 84 = .ok (.iload 5, 2) := by decide +kernel
theorem d_L_ask_86 : decode (xC k_L_ask) 86 = .ok (.invokevirtual 182, 3) := by decide +kernel
theorem d_L_ask_89 : decode (xC k_L_ask) 89 = .ok (.iload 4, 2) := by decide +kernel
theorem d_L_ask_91 : decode (xC k_L_ask) 91 = .ok (.ifCond .ne 10, 3) := by decide +kernel
theorem d_L_ask_94 : decode (xC k_L_ask) 94 = .ok (.iconst 1, 1) := by decide +kernel
theorem d_L_ask_95 : decode (xC k_L_ask) 95 = .ok (.iload 5, 2) := by decide +kernel
theorem d_L_ask_97 : decode (xC k_L_ask) 97 = .ok (.iadd, 1) := by decide +kernel
theorem d_L_ask_98 : decode (xC k_L_ask) 98 = .ok (.goto 5, 3) := by decide +kernel
theorem d_L_ask_101 : decode (xC k_L_ask) 101 = .ok (.iload 4, 2) := by decide +kernel
theorem d_L_ask_103 : decode (xC k_L_ask) 103 = .ok (.istore 4, 2) := by decide +kernel
theorem d_L_ask_105 : decode (xC k_L_ask) 105 = .ok (.iinc 5 1, 3) := by decide +kernel
theorem d_L_ask_108 : decode (xC k_L_ask) 108 = .ok (.goto (-76), 3) := by decide +kernel
theorem d_L_ask_111 : decode (xC k_L_ask) 111 = .ok (.iload 4, 2) := by decide +kernel
theorem d_L_ask_113 : decode (xC k_L_ask) 113 = .ok (.ireturn, 1) := by decide +kernel
theorem d_L_open_0 : decode (xC k_L_open) 0 = .ok (.aload_n 0, 1) := by decide +kernel
theorem d_L_open_1 : decode (xC k_L_open) 1 = .ok (.iload_n 1, 1) := by decide +kernel
theorem d_L_open_2 : decode (xC k_L_open) 2 = .ok (.invokevirtual 149, 3) := by decide +kernel
theorem d_L_open_5 : decode (xC k_L_open) 5 = .ok (.astore 4, 2) := by decide +kernel
theorem d_L_open_7 : decode (xC k_L_open) 7 = .ok (.iload_n 3, 1) := by decide +kernel
theorem d_L_open_8 : decode (xC k_L_open) 8 = .ok (.ifCond .ge 13, 3) := by decide +kernel
theorem d_L_open_11 : decode (xC k_L_open) 11 = .ok (.new 185, 3) := by decide +kernel
theorem d_L_open_14 : decode (xC k_L_open) 14 = .ok (.dup, 1) := by decide +kernel
theorem d_L_open_15 : decode (xC k_L_open) 15 = .ok (.ldc 187, 2) := by decide +kernel
theorem d_L_open_17 : decode (xC k_L_open) 17 = .ok (.invokespecial 189, 3) := by decide +kernel
theorem d_L_open_20 : decode (xC k_L_open) 20 = .ok (.athrow, 1) := by decide +kernel
theorem d_L_open_21 : decode (xC k_L_open) 21 = .ok (.iload_n 2, 1) := by decide +kernel
theorem d_L_open_22 : decode (xC k_L_open) 22 = .ok (.invokestatic 157, 3) := by decide +kernel
theorem d_L_open_25 : decode (xC k_L_open) 25 = .ok (.iconst 0, 1) := by decide +kernel
theorem d_L_open_26 : decode (xC k_L_open) 26 = .ok (.istore 5, 2) := by decide +kernel
theorem d_L_open_28 : decode (xC k_L_open) 28 = .ok (.iconst 0, 1) := by decide +kernel
theorem d_L_open_29 : decode (xC k_L_open) 29 = .ok (.istore 6, 2) := by decide +kernel
theorem d_L_open_31 : decode (xC k_L_open) 31 = .ok (.iload 6, 2) := by decide +kernel
theorem d_L_open_33 : decode (xC k_L_open) 33 = .ok (.aload 4, 2) := by decide +kernel
theorem d_L_open_35 : decode (xC k_L_open) 35 = .ok (.getfield 167, 3) := by decide +kernel
theorem d_L_open_38 : decode (xC k_L_open) 38 = .ok (.getfield 94, 3) := by decide +kernel
theorem d_L_open_41 : decode (xC k_L_open) 41 = .ok (.if_icmp .ge 43, 3) := by decide +kernel
theorem d_L_open_44 : decode (xC k_L_open) 44 = .ok (.aload_n 0, 1) := by decide +kernel
theorem d_L_open_45 : decode (xC k_L_open) 45 = .ok (.aload 4, 2) := by decide +kernel
theorem d_L_open_47 : decode (xC k_L_open) 47 = .ok (.getfield 167, 3) := by decide +kernel
theorem d_L_open_50 : decode (xC k_L_open) 50 = .ok (.iload 6, 2) := by decide +kernel
theorem d_L_open_52 : decode (xC k_L_open) 52 = .ok (.invokevirtual 171, 3) := by decide +kernel
theorem d_L_open_55 : decode (xC k_L_open) 55 = .ok (.aload 4, 2) := by decide +kernel
theorem d_L_open_57 : decode (xC k_L_open) 57 = .ok (.iload_n 2, 1) := by decide +kernel
theorem d_L_open_58 : decode (xC k_L_open) 58 = .ok (.iconst 0, 1) := by decide +kernel
theorem d_L_open_59 : decode (xC k_L_open) 59 = .ok (.invokevirtual 175, 3) := by decide +kernel
theorem d_L_open_62 : decode (xC k_L_open) 62 = .ok (.iconst 2, 1) := by decide +kernel
theorem d_L_open_63 : decode (xC k_L_open) 63 = .ok (.if_icmp .ne 15, 3) := by decide +kernel
theorem d_L_open_66 : decode (xC k_L_open) 66 = .ok (.iload 5, 2) := by decide +kernel
theorem d_L_open_68 : decode (xC k_L_open) 68 = .ok (.iload_n 3, 1) := by decide +kernel
theorem d_L_open_69 : decode (xC k_L_open) 69 = .ok (.if_icmp .ne 6, 3) := by decide +kernel
theorem d_L_open_72 : decode (xC k_L_open) 72 = .ok (.iload 6, 2) := by decide +kernel
theorem d_L_open_74 : decode (xC k_L_open) 74 = .ok (.ireturn, 1) := by decide +kernel
theorem d_L_open_75 : decode (xC k_L_open) 75 = .ok (.iinc 5 1, 3) := by decide +kernel
theorem d_L_open_78 : decode (xC k_L_open) 78 = .ok (.iinc 6 1, 3) := by decide +kernel
theorem d_L_open_81 : decode (xC k_L_open) 81 = .ok (.goto (-50), 3) := by decide +kernel
theorem d_L_open_84 : decode (xC k_L_open) 84 = .ok (.iconst (-1), 1) := by decide +kernel
theorem d_L_open_85 : decode (xC k_L_open) 85 = .ok (.ireturn, 1) := by decide +kernel
theorem d_L_told_0 : decode (xC k_L_told) 0 = .ok (.aload_n 0, 1) := by decide +kernel
theorem d_L_told_1 : decode (xC k_L_told) 1 = .ok (.iload_n 1, 1) := by decide +kernel
theorem d_L_told_2 : decode (xC k_L_told) 2 = .ok (.invokevirtual 149, 3) := by decide +kernel
theorem d_L_told_5 : decode (xC k_L_told) 5 = .ok (.astore 4, 2) := by decide +kernel
theorem d_L_told_7 : decode (xC k_L_told) 7 = .ok (.iload_n 3, 1) := by decide +kernel
theorem d_L_told_8 : decode (xC k_L_told) 8 = .ok (.ifCond .lt 22, 3) := by decide +kernel
theorem d_L_told_11 : decode (xC k_L_told) 11 = .ok (.iload_n 3, 1) := by decide +kernel
theorem d_L_told_12 : decode (xC k_L_told) 12 = .ok (.iconst 1, 1) := by decide +kernel
theorem d_L_told_13 : decode (xC k_L_told) 13 = .ok (.if_icmp .gt 17, 3) := by decide +kernel
theorem d_L_told_16 : decode (xC k_L_told) 16 = .ok (.iload_n 2, 1) := by decide +kernel
theorem d_L_told_17 : decode (xC k_L_told) 17 = .ok (.iconst (-1), 1) := by decide +kernel
theorem d_L_told_18 : decode (xC k_L_told) 18 = .ok (.if_icmp .lt 12, 3) := by decide +kernel
theorem d_L_told_21 : decode (xC k_L_told) 21 = .ok (.iload_n 2, 1) := by decide +kernel
theorem d_L_told_22 : decode (xC k_L_told) 22 = .ok (.aload 4, 2) := by decide +kernel
theorem d_L_told_24 : decode (xC k_L_told) 24 = .ok (.getfield 190, 3) := by decide +kernel
theorem d_L_told_27 : decode (xC k_L_told) 27 = .ok (.if_icmp .lt 13, 3) := by decide +kernel
theorem d_L_told_30 : decode (xC k_L_told) 30 = .ok (.new 185, 3) := by decide +kernel
theorem d_L_told_33 : decode (xC k_L_told) 33 = .ok (.dup, 1) := by decide +kernel
theorem d_L_told_34 : decode (xC k_L_told) 34 = .ok (.ldc 193, 2) := by decide +kernel
theorem d_L_told_36 : decode (xC k_L_told) 36 = .ok (.invokespecial 189, 3) := by decide +kernel
theorem d_L_told_39 : decode (xC k_L_told) 39 = .ok (.athrow, 1) := by decide +kernel
theorem d_L_told_40 : decode (xC k_L_told) 40 = .ok (.iload_n 2, 1) := by decide +kernel
theorem d_L_told_41 : decode (xC k_L_told) 41 = .ok (.iconst (-1), 1) := by decide +kernel
theorem d_L_told_42 : decode (xC k_L_told) 42 = .ok (.if_icmp .ne 9, 3) := by decide +kernel
theorem d_L_told_45 : decode (xC k_L_told) 45 = .ok (.aload 4, 2) := by decide +kernel
theorem d_L_told_47 : decode (xC k_L_told) 47 = .ok (.getfield 190, 3) := by decide +kernel
theorem d_L_told_50 : decode (xC k_L_told) 50 = .ok (.ireturn, 1) := by decide +kernel
theorem d_L_told_51 : decode (xC k_L_told) 51 = .ok (.iload_n 3, 1) := by decide +kernel
theorem d_L_told_52 : decode (xC k_L_told) 52 = .ok (.ifCond .ne 13, 3) := by decide +kernel
theorem d_L_told_55 : decode (xC k_L_told) 55 = .ok (.aload 4, 2) := by decide +kernel
theorem d_L_told_57 : decode (xC k_L_told) 57 = .ok (.getfield 195, 3) := by decide +kernel
theorem d_L_told_60 : decode (xC k_L_told) 60 = .ok (.iload_n 2, 1) := by decide +kernel
theorem d_L_told_61 : decode (xC k_L_told) 61 = .ok (.iaload, 1) := by decide +kernel
theorem d_L_told_62 : decode (xC k_L_told) 62 = .ok (.goto 10, 3) := by decide +kernel
theorem d_L_told_65 : decode (xC k_L_told) 65 = .ok (.aload 4, 2) := by decide +kernel
theorem d_L_told_67 : decode (xC k_L_told) 67 = .ok (.getfield 199, 3) := by decide +kernel
theorem d_L_told_70 : decode (xC k_L_told) 70 = .ok (.iload_n 2, 1) := by decide +kernel
theorem d_L_told_71 : decode (xC k_L_told) 71 = .ok (.iaload, 1) := by decide +kernel
theorem d_L_told_72 : decode (xC k_L_told) 72 = .ok (.ireturn, 1) := by decide +kernel
theorem d_L_extend_0 : decode (xC k_L_extend) 0 = .ok (.aload_n 0, 1) := by decide +kernel
theorem d_L_extend_1 : decode (xC k_L_extend) 1 = .ok (.iload_n 1, 1) := by decide +kernel
theorem d_L_extend_2 : decode (xC k_L_extend) 2 = .ok (.invokevirtual 149, 3) := by decide +kernel
theorem d_L_extend_5 : decode (xC k_L_extend) 5 = .ok (.astore 4, 2) := by decide +kernel
theorem d_L_extend_7 : decode (xC k_L_extend) 7 = .ok (.iload_n 2, 1) := by decide +kernel
theorem d_L_extend_8 : decode (xC k_L_extend) 8 = .ok (.invokestatic 202, 3) := by decide +kernel
theorem d_L_extend_11 : decode (xC k_L_extend) 11 = .ok (.ifCond .eq 10, 3) := by decide +kernel
theorem d_L_extend_14 : decode (xC k_L_extend) 14 = .ok (.iload_n 3, 1) := by decide +kernel
theorem d_L_extend_15 : decode (xC k_L_extend) 15 = .ok (.invokestatic 202, 3) := by decide +kernel
theorem d_L_extend_18 : decode (xC k_L_extend) 18 = .ok (.ifCond .ne 13, 3) := by decide +kernel
theorem d_L_extend_21 : decode (xC k_L_extend) 21 = .ok (.new 64, 3) := by decide +kernel
theorem d_L_extend_24 : decode (xC k_L_extend) 24 = .ok (.dup, 1) := by decide +kernel
theorem d_L_extend_25 : decode (xC k_L_extend) 25 = .ok (.ldc 205, 2) := by decide +kernel
theorem d_L_extend_27 : decode (xC k_L_extend) 27 = .ok (.invokespecial 68, 3) := by decide +kernel
theorem d_L_extend_30 : decode (xC k_L_extend) 30 = .ok (.athrow, 1) := by decide +kernel
theorem d_L_extend_31 : decode (xC k_L_extend) 31 = .ok (.iload_n 3, 1) := by decide +kernel
theorem d_L_extend_32 : decode (xC k_L_extend) 32 = .ok (.aload 4, 2) := by decide +kernel
theorem d_L_extend_34 : decode (xC k_L_extend) 34 = .ok (.getfield 160, 3) := by decide +kernel
theorem d_L_extend_37 : decode (xC k_L_extend) 37 = .ok (.getfield 207, 3) := by decide +kernel
theorem d_L_extend_40 : decode (xC k_L_extend) 40 = .ok (.if_icmp .le 5, 3) := by decide +kernel
theorem d_L_extend_43 : decode (xC k_L_extend) 43 = .ok (.iconst 1, 1) := by decide +kernel
theorem d_L_extend_44 : decode (xC k_L_extend) 44 = .ok (.ireturn, 1) := by decide +kernel
theorem d_L_extend_45 : decode (xC k_L_extend) 45 = .ok (.iload_n 2, 1) := by decide +kernel
theorem d_L_extend_46 : decode (xC k_L_extend) 46 = .ok (.aload 4, 2) := by decide +kernel
theorem d_L_extend_48 : decode (xC k_L_extend) 48 = .ok (.getfield 160, 3) := by decide +kernel
theorem d_L_extend_51 : decode (xC k_L_extend) 51 = .ok (.getfield 207, 3) := by decide +kernel
theorem d_L_extend_54 : decode (xC k_L_extend) 54 = .ok (.if_icmp .gt 5, 3) := by decide +kernel
theorem d_L_extend_57 : decode (xC k_L_extend) 57 = .ok (.iconst 2, 1) := by decide +kernel
theorem d_L_extend_58 : decode (xC k_L_extend) 58 = .ok (.ireturn, 1) := by decide +kernel
theorem d_L_extend_59 : decode (xC k_L_extend) 59 = .ok (.new 37, 3) := by decide +kernel
theorem d_L_extend_62 : decode (xC k_L_extend) 62 = .ok (.dup, 1) := by decide +kernel
theorem d_L_extend_63 : decode (xC k_L_extend) 63 = .ok (.aload 4, 2) := by decide +kernel
theorem d_L_extend_65 : decode (xC k_L_extend) 65 = .ok (.getfield 160, 3) := by decide +kernel
theorem d_L_extend_68 : decode (xC k_L_extend) 68 = .ok (.getfield 210, 3) := by decide +kernel
theorem d_L_extend_71 : decode (xC k_L_extend) 71 = .ok (.aload 4, 2) := by decide +kernel
theorem d_L_extend_73 : decode (xC k_L_extend) 73 = .ok (.getfield 160, 3) := by decide +kernel
theorem d_L_extend_76 : decode (xC k_L_extend) 76 = .ok (.getfield 213, 3) := by decide +kernel
theorem d_L_extend_79 : decode (xC k_L_extend) 79 = .ok (.iload_n 2, 1) := by decide +kernel
theorem d_L_extend_80 : decode (xC k_L_extend) 80 = .ok (.invokespecial 139, 3) := by decide +kernel
theorem d_L_extend_83 : decode (xC k_L_extend) 83 = .ok (.astore 5, 2) := by decide +kernel
theorem d_L_extend_85 : decode (xC k_L_extend) 85 = .ok (.aload_n 0, 1) := by decide +kernel
theorem d_L_extend_86 : decode (xC k_L_extend) 86 = .ok (.aload 5, 2) := by decide +kernel
theorem d_L_extend_88 : decode (xC k_L_extend) 88 = .ok (.iload_n 1, 1) := by decide +kernel
theorem d_L_extend_89 : decode (xC k_L_extend) 89 = .ok (.invokevirtual 142, 3) := by decide +kernel
theorem d_L_extend_92 : decode (xC k_L_extend) 92 = .ok (.ifCond .eq 5, 3) := by decide +kernel
theorem d_L_extend_95 : decode (xC k_L_extend) 95 = .ok (.iconst 3, 1) := by decide +kernel
theorem d_L_extend_96 : decode (xC k_L_extend) 96 = .ok (.ireturn, 1) := by decide +kernel
theorem d_L_extend_97 : decode (xC k_L_extend) 97 = .ok (.aload 4, 2) := by decide +kernel
theorem d_L_extend_99 : decode (xC k_L_extend) 99 = .ok (.aload 5, 2) := by decide +kernel
theorem d_L_extend_101 : decode (xC k_L_extend) 101 = .ok (.putfield 160, 3) := by decide +kernel
theorem d_L_extend_104 : decode (xC k_L_extend) 104 = .ok (.iconst 0, 1) := by decide +kernel
theorem d_L_extend_105 : decode (xC k_L_extend) 105 = .ok (.ireturn, 1) := by decide +kernel
theorem d_L_request_0 : decode (xC k_L_request) 0 = .ok (.iload_n 1, 1) := by decide +kernel
theorem d_L_request_1 : decode (xC k_L_request) 1 = .ok (.invokestatic 131, 3) := by decide +kernel
theorem d_L_request_4 : decode (xC k_L_request) 4 = .ok (.aload_n 0, 1) := by decide +kernel
theorem d_L_request_5 : decode (xC k_L_request) 5 = .ok (.getfield 50, 3) := by decide +kernel
theorem d_L_request_8 : decode (xC k_L_request) 8 = .ok (.bipush 30, 2) := by decide +kernel
theorem d_L_request_10 : decode (xC k_L_request) 10 = .ok (.if_icmp .lt 13, 3) := by decide +kernel
theorem d_L_request_13 : decode (xC k_L_request) 13 = .ok (.new 57, 3) := by decide +kernel
theorem d_L_request_16 : decode (xC k_L_request) 16 = .ok (.dup, 1) := by decide +kernel
theorem d_L_request_17 : decode (xC k_L_request) 17 = .ok (.ldc 216, 2) := by decide +kernel
theorem d_L_request_19 : decode (xC k_L_request) 19 = .ok (.invokespecial 61, 3) := by decide +kernel
theorem d_L_request_22 : decode (xC k_L_request) 22 = .ok (.athrow, 1) := by decide +kernel
theorem d_L_request_23 : decode (xC k_L_request) 23 = .ok (.iload_n 2, 1) := by decide +kernel
theorem d_L_request_24 : decode (xC k_L_request) 24 = .ok (.iload_n 3, 1) := by decide +kernel
theorem d_L_request_25 : decode (xC k_L_request) 25 = .ok (.invokestatic 136, 3) := by decide +kernel
theorem d_L_request_28 : decode (xC k_L_request) 28 = .ok (.aload_n 0, 1) := by decide +kernel
theorem d_L_request_29 : decode (xC k_L_request) 29 = .ok (.getfield 39, 3) := by decide +kernel
theorem d_L_request_32 : decode (xC k_L_request) 32 = .ok (.aload_n 0, 1) := by decide +kernel
theorem d_L_request_33 : decode (xC k_L_request) 33 = .ok (.getfield 50, 3) := by decide +kernel
theorem d_L_request_36 : decode (xC k_L_request) 36 = .ok (.new 37, 3) := by decide +kernel
theorem d_L_request_39 : decode (xC k_L_request) 39 = .ok (.dup, 1) := by decide +kernel
theorem d_L_request_40 : decode (xC k_L_request) 40 = .ok (.iload_n 1, 1) := by decide +kernel
theorem d_L_request_41 : decode (xC k_L_request) 41 = .ok (.iload_n 2, 1) := by decide +kernel
theorem d_L_request_42 : decode (xC k_L_request) 42 = .ok (.iload_n 3, 1) := by decide +kernel
theorem d_L_request_43 : decode (xC k_L_request) 43 = .ok (.invokespecial 139, 3) := by decide +kernel
theorem d_L_request_46 : decode (xC k_L_request) 46 = .ok (.aastore, 1) := by decide +kernel
theorem d_L_request_47 : decode (xC k_L_request) 47 = .ok (.aload_n 0, 1) := by decide +kernel
theorem d_L_request_48 : decode (xC k_L_request) 48 = .ok (.dup, 1) := by decide +kernel
theorem d_L_request_49 : decode (xC k_L_request) 49 = .ok (.getfield 50, 3) := by decide +kernel
theorem d_L_request_52 : decode (xC k_L_request) 52 = .ok (.iconst 1, 1) := by decide +kernel
theorem d_L_request_53 : decode (xC k_L_request) 53 = .ok (.iadd, 1) := by decide +kernel
theorem d_L_request_54 : decode (xC k_L_request) 54 = .ok (.putfield 50, 3) := by decide +kernel
theorem d_L_request_57 : decode (xC k_L_request) 57 = .ok (.aload_n 0, 1) := by decide +kernel
theorem d_L_request_58 : decode (xC k_L_request) 58 = .ok (.getfield 50, 3) := by decide +kernel
theorem d_L_request_61 : decode (xC k_L_request) 61 = .ok (.iconst 1, 1) := by decide +kernel
theorem d_L_request_62 : decode (xC k_L_request) 62 = .ok (.isub, 1) := by decide +kernel
theorem d_L_request_63 : decode (xC k_L_request) 63 = .ok (.ireturn, 1) := by decide +kernel
theorem d_L_clash_0 : decode (xC k_L_clash) 0 = .ok (.iload_n 1, 1) := by decide +kernel
theorem d_L_clash_1 : decode (xC k_L_clash) 1 = .ok (.ifCond .lt 12, 3) := by decide +kernel
theorem d_L_clash_4 : decode (xC k_L_clash) 4 = .ok (.iload_n 2, 1) := by decide +kernel
theorem d_L_clash_5 : decode (xC k_L_clash) 5 = .ok (.ifCond .lt 8, 3) := by decide +kernel
theorem d_L_clash_8 : decode (xC k_L_clash) 8 = .ok (.iload_n 2, 1) := by decide +kernel
theorem d_L_clash_9 : decode (xC k_L_clash) 9 = .ok (.iconst 1, 1) := by decide +kernel
theorem d_L_clash_10 : decode (xC k_L_clash) 10 = .ok (.if_icmp .le 13, 3) := by decide +kernel
theorem d_L_clash_13 : decode (xC k_L_clash) 13 = .ok (.new 185, 3) := by decide +kernel
theorem d_L_clash_16 : decode (xC k_L_clash) 16 = .ok (.dup, 1) := by decide +kernel
theorem d_L_clash_17 : decode (xC k_L_clash) 17 = .ok (.ldc 193, 2) := by decide +kernel
theorem d_L_clash_19 : decode (xC k_L_clash) 19 = .ok (.invokespecial 189, 3) := by decide +kernel
theorem d_L_clash_22 : decode (xC k_L_clash) 22 = .ok (.athrow, 1) := by decide +kernel
theorem d_L_clash_23 : decode (xC k_L_clash) 23 = .ok (.iconst 0, 1) := by decide +kernel
theorem d_L_clash_24 : decode (xC k_L_clash) 24 = .ok (.istore_n 3, 1) := by decide +kernel
theorem d_L_clash_25 : decode (xC k_L_clash) 25 = .ok (.iconst 0, 1) := by decide +kernel
theorem d_L_clash_26 : decode (xC k_L_clash) 26 = .ok (.istore 4, 2) := by decide +kernel
theorem d_L_clash_28 : decode (xC k_L_clash) 28 = .ok (.iload 4, 2) := by decide +kernel
theorem d_L_clash_30 : decode (xC k_L_clash) 30 = .ok (.aload_n 0, 1) := by decide +kernel
theorem d_L_clash_31 : decode (xC k_L_clash) 31 = .ok (.getfield 50, 3) := by decide +kernel
theorem d_L_clash_34 : decode (xC k_L_clash) 34 = .ok (.if_icmp .ge 77, 3) := by decide +kernel
theorem d_L_clash_37 : decode (xC k_L_clash) 37 = .ok (.iload 4, 2) := by decide +kernel
theorem d_L_clash_39 : decode (xC k_L_clash) 39 = .ok (.iconst 1, 1) := by decide +kernel
theorem d_L_clash_40 : decode (xC k_L_clash) 40 = .ok (.iadd, 1) := by decide +kernel
theorem d_L_clash_41 : decode (xC k_L_clash) 41 = .ok (.istore 5, 2) := by decide +kernel
theorem d_L_clash_43 : decode (xC k_L_clash) 43 = .ok (.iload 5, 2) := by decide +kernel
theorem d_L_clash_45 : decode (xC k_L_clash) 45 = .ok (.aload_n 0, 1) := by decide +kernel
theorem d_L_clash_46 : decode (xC k_L_clash) 46 = .ok (.getfield 50, 3) := by decide +kernel
theorem d_L_clash_49 : decode (xC k_L_clash) 49 = .ok (.aload_n 0, 1) := by decide +kernel
theorem d_L_clash_50 : decode (xC k_L_clash) 50 = .ok (.getfield 47, 3) := by decide +kernel
theorem d_L_clash_53 : decode (xC k_L_clash) 53 = .ok (.iadd, 1) := by decide +kernel
theorem d_L_clash_54 : decode (xC k_L_clash) 54 = .ok (.if_icmp .ge 51, 3) := by decide +kernel
theorem d_L_clash_57 : decode (xC k_L_clash) 57 = .ok (.aload_n 0, 1) := by decide +kernel
theorem d_L_clash_58 : decode (xC k_L_clash) 58 = .ok (.iload 4, 2) := by decide +kernel
theorem d_L_clash_60 : decode (xC k_L_clash) 60 = .ok (.invokevirtual 218, 3) := by decide +kernel
theorem d_L_clash_63 : decode (xC k_L_clash) 63 = .ok (.aload_n 0, 1) := by decide +kernel
theorem d_L_clash_64 : decode (xC k_L_clash) 64 = .ok (.iload 5, 2) := by decide +kernel
theorem d_L_clash_66 : decode (xC k_L_clash) 66 = .ok (.invokevirtual 218, 3) := by decide +kernel
theorem d_L_clash_69 : decode (xC k_L_clash) 69 = .ok (.invokestatic 222, 3) := by decide +kernel
theorem d_L_clash_72 : decode (xC k_L_clash) 72 = .ok (.ifCond .eq 27, 3) := by decide +kernel
theorem d_L_clash_75 : decode (xC k_L_clash) 75 = .ok (.iload_n 3, 1) := by decide +kernel
theorem d_L_clash_76 : decode (xC k_L_clash) 76 = .ok (.iload_n 1, 1) := by decide +kernel
theorem d_L_clash_77 : decode (xC k_L_clash) 77 = .ok (.if_icmp .ne 19, 3) := by decide +kernel
theorem d_L_clash_80 : decode (xC k_L_clash) 80 = .ok (.iload_n 2, 1) := by decide +kernel
theorem d_L_clash_81 : decode (xC k_L_clash) 81 = .ok (.ifCond .ne 8, 3) := by decide +kernel
theorem d_L_clash_84 : decode (xC k_L_clash) 84 = .ok (.iload 4, 2) := by decide +kernel
theorem d_L_clash_86 : decode (xC k_L_clash) 86 = .ok (.goto 9, 3) := by decide +kernel
theorem d_L_clash_89 : decode (xC k_L_clash) 89 = .ok (.aload_n 0, 1) := by decide +kernel
theorem d_L_clash_90 : decode (xC k_L_clash) 90 = .ok (.iload 5, 2) := by decide +kernel
theorem d_L_clash_92 : decode (xC k_L_clash) 92 = .ok (.invokevirtual 226, 3) := by decide +kernel
theorem d_L_clash_95 : decode (xC k_L_clash) 95 = .ok (.ireturn, 1) := by decide +kernel
theorem d_L_clash_96 : decode (xC k_L_clash) 96 = .ok (.iinc 3 1, 3) := by decide +kernel
theorem d_L_clash_99 : decode (xC k_L_clash) 99 = .ok (.iinc 5 1, 3) := by decide +kernel
theorem d_L_clash_102 : decode (xC k_L_clash) 102 = .ok (.goto (-59), 3) := by decide +kernel
theorem d_L_clash_105 : decode (xC k_L_clash) 105 = .ok (.iinc 4 1, 3) := by decide +kernel
theorem d_L_clash_108 : decode (xC k_L_clash) 108 = .ok (.goto (-80), 3) := by decide +kernel
theorem d_L_clash_111 : decode (xC k_L_clash) 111 = .ok (.iconst (-1), 1) := by decide +kernel
theorem d_L_clash_112 : decode (xC k_L_clash) 112 = .ok (.ireturn, 1) := by decide +kernel
theorem d_L_days_0 : decode (xC k_L_days) 0 = .ok (.aload_n 0, 1) := by decide +kernel
theorem d_L_days_1 : decode (xC k_L_days) 1 = .ok (.iload_n 1, 1) := by decide +kernel
theorem d_L_days_2 : decode (xC k_L_days) 2 = .ok (.invokevirtual 149, 3) := by decide +kernel
theorem d_L_days_5 : decode (xC k_L_days) 5 = .ok (.getfield 160, 3) := by decide +kernel
theorem d_L_days_8 : decode (xC k_L_days) 8 = .ok (.invokevirtual 230, 3) := by decide +kernel
theorem d_L_days_11 : decode (xC k_L_days) 11 = .ok (.ireturn, 1) := by decide +kernel
theorem d_L_fee_0 : decode (xC k_L_fee) 0 = .ok (.aload_n 0, 1) := by decide +kernel
theorem d_L_fee_1 : decode (xC k_L_fee) 1 = .ok (.iload_n 1, 1) := by decide +kernel
theorem d_L_fee_2 : decode (xC k_L_fee) 2 = .ok (.invokevirtual 149, 3) := by decide +kernel
theorem d_L_fee_5 : decode (xC k_L_fee) 5 = .ok (.invokevirtual 233, 3) := by decide +kernel
theorem d_L_fee_8 : decode (xC k_L_fee) 8 = .ok (.ireturn, 1) := by decide +kernel
theorem d_L_letter_0 : decode (xC k_L_letter) 0 = .ok (.aload_n 0, 1) := by decide +kernel
theorem d_L_letter_1 : decode (xC k_L_letter) 1 = .ok (.iload_n 1, 1) := by decide +kernel
theorem d_L_letter_2 : decode (xC k_L_letter) 2 = .ok (.invokevirtual 149, 3) := by decide +kernel
theorem d_L_letter_5 : decode (xC k_L_letter) 5 = .ok (.astore_n 3, 1) := by decide +kernel
theorem d_L_letter_6 : decode (xC k_L_letter) 6 = .ok (.aload_n 0, 1) := by decide +kernel
theorem d_L_letter_7 : decode (xC k_L_letter) 7 = .ok (.getfield 16, 3) := by decide +kernel
theorem d_L_letter_10 : decode (xC k_L_letter) 10 = .ok (.invokevirtual 84, 3) := by decide +kernel
theorem d_L_letter_13 : decode (xC k_L_letter) 13 = .ok (.aload_n 0, 1) := by decide +kernel
theorem d_L_letter_14 : decode (xC k_L_letter) 14 = .ok (.getfield 16, 3) := by decide +kernel
theorem d_L_letter_17 : decode (xC k_L_letter) 17 = .ok (.bipush 35, 2) := by decide +kernel
theorem d_L_letter_19 : decode (xC k_L_letter) 19 = .ok (.invokevirtual 69, 3) := by decide +kernel
theorem d_L_letter_22 : decode (xC k_L_letter) 22 = .ok (.aload_n 0, 1) := by decide +kernel
theorem d_L_letter_23 : decode (xC k_L_letter) 23 = .ok (.getfield 16, 3) := by decide +kernel
theorem d_L_letter_26 : decode (xC k_L_letter) 26 = .ok (.iload_n 1, 1) := by decide +kernel
theorem d_L_letter_27 : decode (xC k_L_letter) 27 = .ok (.invokevirtual 236, 3) := by decide +kernel
theorem d_L_letter_30 : decode (xC k_L_letter) 30 = .ok (.aload_n 0, 1) := by decide +kernel
theorem d_L_letter_31 : decode (xC k_L_letter) 31 = .ok (.getfield 16, 3) := by decide +kernel
theorem d_L_letter_34 : decode (xC k_L_letter) 34 = .ok (.bipush 64, 2) := by decide +kernel
theorem d_L_letter_36 : decode (xC k_L_letter) 36 = .ok (.invokevirtual 69, 3) := by decide +kernel
theorem d_L_letter_39 : decode (xC k_L_letter) 39 = .ok (.aload_n 0, 1) := by decide +kernel
theorem d_L_letter_40 : decode (xC k_L_letter) 40 = .ok (.getfield 16, 3) := by decide +kernel
theorem d_L_letter_43 : decode (xC k_L_letter) 43 = .ok (.aload_n 3, 1) := by decide +kernel
theorem d_L_letter_44 : decode (xC k_L_letter) 44 = .ok (.getfield 160, 3) := by decide +kernel
theorem d_L_letter_47 : decode (xC k_L_letter) 47 = .ok (.getfield 210, 3) := by decide +kernel
theorem d_L_letter_50 : decode (xC k_L_letter) 50 = .ok (.invokevirtual 236, 3) := by decide +kernel
theorem d_L_letter_53 : decode (xC k_L_letter) 53 = .ok (.aload_n 0, 1) := by decide +kernel
theorem d_L_letter_54 : decode (xC k_L_letter) 54 = .ok (.getfield 16, 3) := by decide +kernel
theorem d_L_letter_57 : decode (xC k_L_letter) 57 = .ok (.bipush 58, 2) := by decide +kernel
theorem d_L_letter_59 : decode (xC k_L_letter) 59 = .ok (.invokevirtual 69, 3) := by decide +kernel
theorem d_L_letter_62 : decode (xC k_L_letter) 62 = .ok (.aload_n 0, 1) := by decide +kernel
theorem d_L_letter_63 : decode (xC k_L_letter) 63 = .ok (.getfield 16, 3) := by decide +kernel
theorem d_L_letter_66 : decode (xC k_L_letter) 66 = .ok (.aload_n 3, 1) := by decide +kernel
theorem d_L_letter_67 : decode (xC k_L_letter) 67 = .ok (.getfield 160, 3) := by decide +kernel
theorem d_L_letter_70 : decode (xC k_L_letter) 70 = .ok (.getfield 213, 3) := by decide +kernel
theorem d_L_letter_73 : decode (xC k_L_letter) 73 = .ok (.invokevirtual 236, 3) := by decide +kernel
theorem d_L_letter_76 : decode (xC k_L_letter) 76 = .ok (.aload_n 0, 1) := by decide +kernel
theorem d_L_letter_77 : decode (xC k_L_letter) 77 = .ok (.getfield 16, 3) := by decide +kernel
theorem d_L_letter_80 : decode (xC k_L_letter) 80 = .ok (.bipush 45, 2) := by decide +kernel
theorem d_L_letter_82 : decode (xC k_L_letter) 82 = .ok (.invokevirtual 69, 3) := by decide +kernel
theorem d_L_letter_85 : decode (xC k_L_letter) 85 = .ok (.aload_n 0, 1) := by decide +kernel
theorem d_L_letter_86 : decode (xC k_L_letter) 86 = .ok (.getfield 16, 3) := by decide +kernel
theorem d_L_letter_89 : decode (xC k_L_letter) 89 = .ok (.aload_n 3, 1) := by decide +kernel
theorem d_L_letter_90 : decode (xC k_L_letter) 90 = .ok (.getfield 160, 3) := by decide +kernel
theorem d_L_letter_93 : decode (xC k_L_letter) 93 = .ok (.getfield 207, 3) := by decide +kernel
theorem d_L_letter_96 : decode (xC k_L_letter) 96 = .ok (.invokevirtual 236, 3) := by decide +kernel
theorem d_L_letter_99 : decode (xC k_L_letter) 99 = .ok (.aload_n 0, 1) := by decide +kernel
theorem d_L_letter_100 : decode (xC k_L_letter) 100 = .ok (.getfield 16, 3) := by decide +kernel
theorem d_L_letter_103 : decode (xC k_L_letter) 103 = .ok (.bipush 61, 2) := by decide +kernel
theorem d_L_letter_105 : decode (xC k_L_letter) 105 = .ok (.invokevirtual 69, 3) := by decide +kernel
theorem d_L_letter_108 : decode (xC k_L_letter) 108 = .ok (.aload_n 0, 1) := by decide +kernel
theorem d_L_letter_109 : decode (xC k_L_letter) 109 = .ok (.getfield 16, 3) := by decide +kernel
theorem d_L_letter_112 : decode (xC k_L_letter) 112 = .ok (.aload_n 3, 1) := by decide +kernel
theorem d_L_letter_113 : decode (xC k_L_letter) 113 = .ok (.invokevirtual 233, 3) := by decide +kernel
theorem d_L_letter_116 : decode (xC k_L_letter) 116 = .ok (.invokevirtual 236, 3) := by decide +kernel
theorem d_L_letter_119 : decode (xC k_L_letter) 119 = .ok (.iconst 0, 1) := by decide +kernel
theorem d_L_letter_120 : decode (xC k_L_letter) 120 = .ok (.istore 4, 2) := by decide +kernel
theorem d_L_letter_122 : decode (xC k_L_letter) 122 = .ok (.iload 4, 2) := by decide +kernel
theorem d_L_letter_124 : decode (xC k_L_letter) 124 = .ok (.aload_n 3, 1) := by decide +kernel
theorem d_L_letter_125 : decode (xC k_L_letter) 125 = .ok (.getfield 190, 3) := by decide +kernel
theorem d_L_letter_128 : decode (xC k_L_letter) 128 = .ok (.if_icmp .ge 32, 3) := by decide +kernel
theorem d_L_letter_131 : decode (xC k_L_letter) 131 = .ok (.aload_n 0, 1) := by decide +kernel
theorem d_L_letter_132 : decode (xC k_L_letter) 132 = .ok (.getfield 16, 3) := by decide +kernel
theorem d_L_letter_135 : decode (xC k_L_letter) 135 = .ok (.bipush 33, 2) := by decide +kernel
theorem d_L_letter_137 : decode (xC k_L_letter) 137 = .ok (.invokevirtual 69, 3) := by decide +kernel
theorem d_L_letter_140 : decode (xC k_L_letter) 140 = .ok (.aload_n 0, 1) := by decide +kernel
theorem d_L_letter_141 : decode (xC k_L_letter) 141 = .ok (.getfield 16, 3) := by decide +kernel
theorem d_L_letter_144 : decode (xC k_L_letter) 144 = .ok (.aload_n 3, 1) := by decide +kernel
theorem d_L_letter_145 : decode (xC k_L_letter) 145 = .ok (.getfield 199, 3) := by decide +kernel
theorem d_L_letter_148 : decode (xC k_L_letter) 148 = .ok (.iload 4, 2) := by decide +kernel
theorem d_L_letter_150 : decode (xC k_L_letter) 150 = .ok (.iaload, 1) := by decide +kernel
theorem d_L_letter_151 : decode (xC k_L_letter) 151 = .ok (.invokevirtual 236, 3) := by decide +kernel
theorem d_L_letter_154 : decode (xC k_L_letter) 154 = .ok (.iinc 4 1, 3) := by decide +kernel
theorem d_L_letter_157 : decode (xC k_L_letter) 157 = .ok (.goto (-35), 3) := by decide +kernel
theorem d_L_letter_160 : decode (xC k_L_letter) 160 = .ok (.aload_n 0, 1) := by decide +kernel
theorem d_L_letter_161 : decode (xC k_L_letter) 161 = .ok (.getfield 16, 3) := by decide +kernel
theorem d_L_letter_164 : decode (xC k_L_letter) 164 = .ok (.iload_n 2, 1) := by decide +kernel
theorem d_L_letter_165 : decode (xC k_L_letter) 165 = .ok (.invokestatic 98, 3) := by decide +kernel
theorem d_L_letter_168 : decode (xC k_L_letter) 168 = .ok (.ireturn, 1) := by decide +kernel
theorem d_L_count_0 : decode (xC k_L_count) 0 = .ok (.iload_n 1, 1) := by decide +kernel
theorem d_L_count_1 : decode (xC k_L_count) 1 = .ok (.tableswitch 63 0 4 #[35, 43, 48, 53, 58], 35) := by decide +kernel
theorem d_L_count_36 : decode (xC k_L_count) 36 = .ok (.aload_n 0, 1) := by decide +kernel
theorem d_L_count_37 : decode (xC k_L_count) 37 = .ok (.getfield 10, 3) := by decide +kernel
theorem d_L_count_40 : decode (xC k_L_count) 40 = .ok (.getfield 54, 3) := by decide +kernel
theorem d_L_count_43 : decode (xC k_L_count) 43 = .ok (.ireturn, 1) := by decide +kernel
theorem d_L_count_44 : decode (xC k_L_count) 44 = .ok (.aload_n 0, 1) := by decide +kernel
theorem d_L_count_45 : decode (xC k_L_count) 45 = .ok (.getfield 43, 3) := by decide +kernel
theorem d_L_count_48 : decode (xC k_L_count) 48 = .ok (.ireturn, 1) := by decide +kernel
theorem d_L_count_49 : decode (xC k_L_count) 49 = .ok (.aload_n 0, 1) := by decide +kernel
theorem d_L_count_50 : decode (xC k_L_count) 50 = .ok (.getfield 47, 3) := by decide +kernel
theorem d_L_count_53 : decode (xC k_L_count) 53 = .ok (.ireturn, 1) := by decide +kernel
theorem d_L_count_54 : decode (xC k_L_count) 54 = .ok (.aload_n 0, 1) := by decide +kernel
theorem d_L_count_55 : decode (xC k_L_count) 55 = .ok (.getfield 50, 3) := by decide +kernel
theorem d_L_count_58 : decode (xC k_L_count) 58 = .ok (.ireturn, 1) := by decide +kernel
theorem d_L_count_59 : decode (xC k_L_count) 59 = .ok (.aload_n 0, 1) := by decide +kernel
theorem d_L_count_60 : decode (xC k_L_count) 60 = .ok (.invokevirtual 239, 3) := by decide +kernel
theorem d_L_count_63 : decode (xC k_L_count) 63 = .ok (.ireturn, 1) := by decide +kernel
theorem d_L_count_64 : decode (xC k_L_count) 64 = .ok (.new 185, 3) := by decide +kernel
theorem d_L_count_67 : decode (xC k_L_count) 67 = .ok (.dup, 1) := by decide +kernel
theorem d_L_count_68 : decode (xC k_L_count) 68 = .ok (.ldc 242, 2) := by decide +kernel
theorem d_L_count_70 : decode (xC k_L_count) 70 = .ok (.invokespecial 189, 3) := by decide +kernel
theorem d_L_count_73 : decode (xC k_L_count) 73 = .ok (.athrow, 1) := by decide +kernel
theorem d_L_inputRows_0 : decode (xC k_L_inputRows) 0 = .ok (.iconst 0, 1) := by decide +kernel
theorem d_L_inputRows_1 : decode (xC k_L_inputRows) 1 = .ok (.istore_n 1, 1) := by decide +kernel
theorem d_L_inputRows_2 : decode (xC k_L_inputRows) 2 = .ok (.iconst 0, 1) := by decide +kernel
theorem d_L_inputRows_3 : decode (xC k_L_inputRows) 3 = .ok (.istore_n 2, 1) := by decide +kernel
theorem d_L_inputRows_4 : decode (xC k_L_inputRows) 4 = .ok (.iload_n 2, 1) := by decide +kernel
theorem d_L_inputRows_5 : decode (xC k_L_inputRows) 5 = .ok (.bipush 8, 2) := by decide +kernel
theorem d_L_inputRows_7 : decode (xC k_L_inputRows) 7 = .ok (.if_icmp .ge 20, 3) := by decide +kernel
theorem d_L_inputRows_10 : decode (xC k_L_inputRows) 10 = .ok (.iload_n 1, 1) := by decide +kernel
theorem d_L_inputRows_11 : decode (xC k_L_inputRows) 11 = .ok (.aload_n 0, 1) := by decide +kernel
theorem d_L_inputRows_12 : decode (xC k_L_inputRows) 12 = .ok (.iload_n 2, 1) := by decide +kernel
theorem d_L_inputRows_13 : decode (xC k_L_inputRows) 13 = .ok (.invokevirtual 102, 3) := by decide +kernel
theorem d_L_inputRows_16 : decode (xC k_L_inputRows) 16 = .ok (.getfield 106, 3) := by decide +kernel
theorem d_L_inputRows_19 : decode (xC k_L_inputRows) 19 = .ok (.iadd, 1) := by decide +kernel
theorem d_L_inputRows_20 : decode (xC k_L_inputRows) 20 = .ok (.istore_n 1, 1) := by decide +kernel
theorem d_L_inputRows_21 : decode (xC k_L_inputRows) 21 = .ok (.iinc 2 1, 3) := by decide +kernel
theorem d_L_inputRows_24 : decode (xC k_L_inputRows) 24 = .ok (.goto (-20), 3) := by decide +kernel
theorem d_L_inputRows_27 : decode (xC k_L_inputRows) 27 = .ok (.iload_n 1, 1) := by decide +kernel
theorem d_L_inputRows_28 : decode (xC k_L_inputRows) 28 = .ok (.ireturn, 1) := by decide +kernel
theorem d_L_contractOf_0 : decode (xC k_L_contractOf) 0 = .ok (.iload_n 1, 1) := by decide +kernel
theorem d_L_contractOf_1 : decode (xC k_L_contractOf) 1 = .ok (.ifCond .lt 18, 3) := by decide +kernel
theorem d_L_contractOf_4 : decode (xC k_L_contractOf) 4 = .ok (.iload_n 1, 1) := by decide +kernel
theorem d_L_contractOf_5 : decode (xC k_L_contractOf) 5 = .ok (.bipush 8, 2) := by decide +kernel
theorem d_L_contractOf_7 : decode (xC k_L_contractOf) 7 = .ok (.if_icmp .ge 12, 3) := by decide +kernel
theorem d_L_contractOf_10 : decode (xC k_L_contractOf) 10 = .ok (.aload_n 0, 1) := by decide +kernel
theorem d_L_contractOf_11 : decode (xC k_L_contractOf) 11 = .ok (.getfield 21, 3) := by decide +kernel
theorem d_L_contractOf_14 : decode (xC k_L_contractOf) 14 = .ok (.iload_n 1, 1) := by decide +kernel
theorem d_L_contractOf_15 : decode (xC k_L_contractOf) 15 = .ok (.aaload, 1) := by decide +kernel
theorem d_L_contractOf_16 : decode (xC k_L_contractOf) 16 = .ok (.goto 4, 3) := by decide +kernel
theorem d_L_contractOf_19 : decode (xC k_L_contractOf) 19 = .ok (.aconst_null, 1) := by decide +kernel
theorem d_L_contractOf_20 : decode (xC k_L_contractOf) 20 = .ok (.astore_n 2, 1) := by decide +kernel
theorem d_L_contractOf_21 : decode (xC k_L_contractOf) 21 = .ok (.aload_n 2, 1) := by decide +kernel
theorem d_L_contractOf_22 : decode (xC k_L_contractOf) 22 = .ok (.ifnonnull 13, 3) := by decide +kernel
theorem d_L_contractOf_25 : decode (xC k_L_contractOf) 25 = .ok (.new 185, 3) := by decide +kernel
theorem d_L_contractOf_28 : decode (xC k_L_contractOf) 28 = .ok (.dup, 1) := by decide +kernel
theorem d_L_contractOf_29 : decode (xC k_L_contractOf) 29 = .ok (.ldc 244, 2) := by decide +kernel
theorem d_L_contractOf_31 : decode (xC k_L_contractOf) 31 = .ok (.invokespecial 189, 3) := by decide +kernel
theorem d_L_contractOf_34 : decode (xC k_L_contractOf) 34 = .ok (.athrow, 1) := by decide +kernel
theorem d_L_contractOf_35 : decode (xC k_L_contractOf) 35 = .ok (.aload_n 2, 1) := by decide +kernel
theorem d_L_contractOf_36 : decode (xC k_L_contractOf) 36 = .ok (.areturn, 1) := by decide +kernel
theorem d_L_inputOf_0 : decode (xC k_L_inputOf) 0 = .ok (.iload_n 1, 1) := by decide +kernel
theorem d_L_inputOf_1 : decode (xC k_L_inputOf) 1 = .ok (.ifCond .lt 18, 3) := by decide +kernel
theorem d_L_inputOf_4 : decode (xC k_L_inputOf) 4 = .ok (.iload_n 1, 1) := by decide +kernel
theorem d_L_inputOf_5 : decode (xC k_L_inputOf) 5 = .ok (.bipush 8, 2) := by decide +kernel
theorem d_L_inputOf_7 : decode (xC k_L_inputOf) 7 = .ok (.if_icmp .ge 12, 3) := by decide +kernel
theorem d_L_inputOf_10 : decode (xC k_L_inputOf) 10 = .ok (.aload_n 0, 1) := by decide +kernel
theorem d_L_inputOf_11 : decode (xC k_L_inputOf) 11 = .ok (.getfield 27, 3) := by decide +kernel
theorem d_L_inputOf_14 : decode (xC k_L_inputOf) 14 = .ok (.iload_n 1, 1) := by decide +kernel
theorem d_L_inputOf_15 : decode (xC k_L_inputOf) 15 = .ok (.aaload, 1) := by decide +kernel
theorem d_L_inputOf_16 : decode (xC k_L_inputOf) 16 = .ok (.goto 4, 3) := by decide +kernel
theorem d_L_inputOf_19 : decode (xC k_L_inputOf) 19 = .ok (.aconst_null, 1) := by decide +kernel
theorem d_L_inputOf_20 : decode (xC k_L_inputOf) 20 = .ok (.astore_n 2, 1) := by decide +kernel
theorem d_L_inputOf_21 : decode (xC k_L_inputOf) 21 = .ok (.aload_n 2, 1) := by decide +kernel
theorem d_L_inputOf_22 : decode (xC k_L_inputOf) 22 = .ok (.ifnonnull 13, 3) := by decide +kernel
theorem d_L_inputOf_25 : decode (xC k_L_inputOf) 25 = .ok (.new 185, 3) := by decide +kernel
theorem d_L_inputOf_28 : decode (xC k_L_inputOf) 28 = .ok (.dup, 1) := by decide +kernel
theorem d_L_inputOf_29 : decode (xC k_L_inputOf) 29 = .ok (.ldc 246, 2) := by decide +kernel
theorem d_L_inputOf_31 : decode (xC k_L_inputOf) 31 = .ok (.invokespecial 189, 3) := by decide +kernel
theorem d_L_inputOf_34 : decode (xC k_L_inputOf) 34 = .ok (.athrow, 1) := by decide +kernel
theorem d_L_inputOf_35 : decode (xC k_L_inputOf) 35 = .ok (.aload_n 2, 1) := by decide +kernel
theorem d_L_inputOf_36 : decode (xC k_L_inputOf) 36 = .ok (.areturn, 1) := by decide +kernel
theorem d_L_loanOf_0 : decode (xC k_L_loanOf) 0 = .ok (.iload_n 1, 1) := by decide +kernel
theorem d_L_loanOf_1 : decode (xC k_L_loanOf) 1 = .ok (.ifCond .lt 18, 3) := by decide +kernel
theorem d_L_loanOf_4 : decode (xC k_L_loanOf) 4 = .ok (.iload_n 1, 1) := by decide +kernel
theorem d_L_loanOf_5 : decode (xC k_L_loanOf) 5 = .ok (.bipush 20, 2) := by decide +kernel
theorem d_L_loanOf_7 : decode (xC k_L_loanOf) 7 = .ok (.if_icmp .ge 12, 3) := by decide +kernel
theorem d_L_loanOf_10 : decode (xC k_L_loanOf) 10 = .ok (.aload_n 0, 1) := by decide +kernel
theorem d_L_loanOf_11 : decode (xC k_L_loanOf) 11 = .ok (.getfield 33, 3) := by decide +kernel
theorem d_L_loanOf_14 : decode (xC k_L_loanOf) 14 = .ok (.iload_n 1, 1) := by decide +kernel
theorem d_L_loanOf_15 : decode (xC k_L_loanOf) 15 = .ok (.aaload, 1) := by decide +kernel
theorem d_L_loanOf_16 : decode (xC k_L_loanOf) 16 = .ok (.goto 4, 3) := by decide +kernel
theorem d_L_loanOf_19 : decode (xC k_L_loanOf) 19 = .ok (.aconst_null, 1) := by decide +kernel
theorem d_L_loanOf_20 : decode (xC k_L_loanOf) 20 = .ok (.astore_n 2, 1) := by decide +kernel
theorem d_L_loanOf_21 : decode (xC k_L_loanOf) 21 = .ok (.aload_n 2, 1) := by decide +kernel
theorem d_L_loanOf_22 : decode (xC k_L_loanOf) 22 = .ok (.ifnonnull 13, 3) := by decide +kernel
theorem d_L_loanOf_25 : decode (xC k_L_loanOf) 25 = .ok (.new 185, 3) := by decide +kernel
theorem d_L_loanOf_28 : decode (xC k_L_loanOf) 28 = .ok (.dup, 1) := by decide +kernel
theorem d_L_loanOf_29 : decode (xC k_L_loanOf) 29 = .ok (.ldc 248, 2) := by decide +kernel
theorem d_L_loanOf_31 : decode (xC k_L_loanOf) 31 = .ok (.invokespecial 189, 3) := by decide +kernel
theorem d_L_loanOf_34 : decode (xC k_L_loanOf) 34 = .ok (.athrow, 1) := by decide +kernel
theorem d_L_loanOf_35 : decode (xC k_L_loanOf) 35 = .ok (.aload_n 2, 1) := by decide +kernel
theorem d_L_loanOf_36 : decode (xC k_L_loanOf) 36 = .ok (.areturn, 1) := by decide +kernel
theorem d_L_spanAt_0 : decode (xC k_L_spanAt) 0 = .ok (.iload_n 1, 1) := by decide +kernel
theorem d_L_spanAt_1 : decode (xC k_L_spanAt) 1 = .ok (.ifCond .lt 18, 3) := by decide +kernel
theorem d_L_spanAt_4 : decode (xC k_L_spanAt) 4 = .ok (.iload_n 1, 1) := by decide +kernel
theorem d_L_spanAt_5 : decode (xC k_L_spanAt) 5 = .ok (.aload_n 0, 1) := by decide +kernel
theorem d_L_spanAt_6 : decode (xC k_L_spanAt) 6 = .ok (.getfield 50, 3) := by decide +kernel
theorem d_L_spanAt_9 : decode (xC k_L_spanAt) 9 = .ok (.if_icmp .ge 10, 3) := by decide +kernel
theorem d_L_spanAt_12 : decode (xC k_L_spanAt) 12 = .ok (.aload_n 0, 1) := by decide +kernel
theorem d_L_spanAt_13 : decode (xC k_L_spanAt) 13 = .ok (.getfield 39, 3) := by decide +kernel
theorem d_L_spanAt_16 : decode (xC k_L_spanAt) 16 = .ok (.iload_n 1, 1) := by decide +kernel
theorem d_L_spanAt_17 : decode (xC k_L_spanAt) 17 = .ok (.aaload, 1) := by decide +kernel
theorem d_L_spanAt_18 : decode (xC k_L_spanAt) 18 = .ok (.areturn, 1) := by decide +kernel
theorem d_L_spanAt_19 : decode (xC k_L_spanAt) 19 = .ok (.iload_n 1, 1) := by decide +kernel
theorem d_L_spanAt_20 : decode (xC k_L_spanAt) 20 = .ok (.aload_n 0, 1) := by decide +kernel
theorem d_L_spanAt_21 : decode (xC k_L_spanAt) 21 = .ok (.getfield 50, 3) := by decide +kernel
theorem d_L_spanAt_24 : decode (xC k_L_spanAt) 24 = .ok (.isub, 1) := by decide +kernel
theorem d_L_spanAt_25 : decode (xC k_L_spanAt) 25 = .ok (.istore_n 2, 1) := by decide +kernel
theorem d_L_spanAt_26 : decode (xC k_L_spanAt) 26 = .ok (.iload_n 2, 1) := by decide +kernel
theorem d_L_spanAt_27 : decode (xC k_L_spanAt) 27 = .ok (.ifCond .lt 22, 3) := by decide +kernel
theorem d_L_spanAt_30 : decode (xC k_L_spanAt) 30 = .ok (.iload_n 2, 1) := by decide +kernel
theorem d_L_spanAt_31 : decode (xC k_L_spanAt) 31 = .ok (.aload_n 0, 1) := by decide +kernel
theorem d_L_spanAt_32 : decode (xC k_L_spanAt) 32 = .ok (.getfield 47, 3) := by decide +kernel
theorem d_L_spanAt_35 : decode (xC k_L_spanAt) 35 = .ok (.if_icmp .ge 14, 3) := by decide +kernel
theorem d_L_spanAt_38 : decode (xC k_L_spanAt) 38 = .ok (.aload_n 0, 1) := by decide +kernel
theorem d_L_spanAt_39 : decode (xC k_L_spanAt) 39 = .ok (.iload_n 2, 1) := by decide +kernel
theorem d_L_spanAt_40 : decode (xC k_L_spanAt) 40 = .ok (.invokevirtual 149, 3) := by decide +kernel
theorem d_L_spanAt_43 : decode (xC k_L_spanAt) 43 = .ok (.getfield 160, 3) := by decide +kernel
theorem d_L_spanAt_46 : decode (xC k_L_spanAt) 46 = .ok (.goto 4, 3) := by decide +kernel
theorem d_L_spanAt_49 : decode (xC k_L_spanAt) 49 = .ok (.aconst_null, 1) := by decide +kernel
theorem d_L_spanAt_50 : decode (xC k_L_spanAt) 50 = .ok (.areturn, 1) := by decide +kernel
theorem d_L_numberAt_0 : decode (xC k_L_numberAt) 0 = .ok (.iload_n 1, 1) := by decide +kernel
theorem d_L_numberAt_1 : decode (xC k_L_numberAt) 1 = .ok (.aload_n 0, 1) := by decide +kernel
theorem d_L_numberAt_2 : decode (xC k_L_numberAt) 2 = .ok (.getfield 50, 3) := by decide +kernel
theorem d_L_numberAt_5 : decode (xC k_L_numberAt) 5 = .ok (.if_icmp .ge 7, 3) := by decide +kernel
theorem d_L_numberAt_8 : decode (xC k_L_numberAt) 8 = .ok (.iload_n 1, 1) := by decide +kernel
theorem d_L_numberAt_9 : decode (xC k_L_numberAt) 9 = .ok (.goto 12, 3) := by decide +kernel
theorem d_L_numberAt_12 : decode (xC k_L_numberAt) 12 = .ok (.bipush 100, 2) := by decide +kernel
theorem d_L_numberAt_14 : decode (xC k_L_numberAt) 14 = .ok (.iload_n 1, 1) := by decide +kernel
theorem d_L_numberAt_15 : decode (xC k_L_numberAt) 15 = .ok (.iadd, 1) := by decide +kernel
theorem d_L_numberAt_16 : decode (xC k_L_numberAt) 16 = .ok (.aload_n 0, 1) := by decide +kernel
theorem d_L_numberAt_17 : decode (xC k_L_numberAt) 17 = .ok (.getfield 50, 3) := by decide +kernel
theorem d_L_numberAt_20 : decode (xC k_L_numberAt) 20 = .ok (.isub, 1) := by decide +kernel
theorem d_L_numberAt_21 : decode (xC k_L_numberAt) 21 = .ok (.ireturn, 1) := by decide +kernel
theorem d_L_clashesWithLoan_0 : decode (xC k_L_clashesWithLoan) 0 = .ok (.iconst 0, 1) := by decide +kernel
theorem d_L_clashesWithLoan_1 : decode (xC k_L_clashesWithLoan) 1 = .ok (.istore_n 3, 1) := by decide +kernel
theorem d_L_clashesWithLoan_2 : decode (xC k_L_clashesWithLoan) 2 = .ok (.iload_n 3, 1) := by decide +kernel
theorem d_L_clashesWithLoan_3 : decode (xC k_L_clashesWithLoan) 3 = .ok (.aload_n 0, 1) := by decide +kernel
theorem d_L_clashesWithLoan_4 : decode (xC k_L_clashesWithLoan) 4 = .ok (.getfield 47, 3) := by decide +kernel
theorem d_L_clashesWithLoan_7 : decode (xC k_L_clashesWithLoan) 7 = .ok (.if_icmp .ge 31, 3) := by decide +kernel
theorem d_L_clashesWithLoan_10 : decode (xC k_L_clashesWithLoan) 10 = .ok (.iload_n 3, 1) := by decide +kernel
theorem d_L_clashesWithLoan_11 : decode (xC k_L_clashesWithLoan) 11 = .ok (.iload_n 2, 1) := by decide +kernel
theorem d_L_clashesWithLoan_12 : decode (xC k_L_clashesWithLoan) 12 = .ok (.if_icmp .eq 20, 3) := by decide +kernel
theorem d_L_clashesWithLoan_15 : decode (xC k_L_clashesWithLoan) 15 = .ok (.aload_n 1, 1) := by decide +kernel
theorem d_L_clashesWithLoan_16 : decode (xC k_L_clashesWithLoan) 16 = .ok (.aload_n 0, 1) := by decide +kernel
theorem d_L_clashesWithLoan_17 : decode (xC k_L_clashesWithLoan) 17 = .ok (.iload_n 3, 1) := by decide +kernel
theorem d_L_clashesWithLoan_18 : decode (xC k_L_clashesWithLoan) 18 = .ok (.invokevirtual 149, 3) := by decide +kernel
theorem d_L_clashesWithLoan_21 : decode (xC k_L_clashesWithLoan) 21 = .ok (.getfield 160, 3) := by decide +kernel
theorem d_L_clashesWithLoan_24 : decode (xC k_L_clashesWithLoan) 24 = .ok (.invokestatic 222, 3) := by decide +kernel
theorem d_L_clashesWithLoan_27 : decode (xC k_L_clashesWithLoan) 27 = .ok (.ifCond .eq 5, 3) := by decide +kernel
theorem d_L_clashesWithLoan_30 : decode (xC k_L_clashesWithLoan) 30 = .ok (.iconst 1, 1) := by decide +kernel
theorem d_L_clashesWithLoan_31 : decode (xC k_L_clashesWithLoan) 31 = .ok (.ireturn, 1) := by decide +kernel
theorem d_L_clashesWithLoan_32 : decode (xC k_L_clashesWithLoan) 32 = .ok (.iinc 3 1, 3) := by decide +kernel
theorem d_L_clashesWithLoan_35 : decode (xC k_L_clashesWithLoan) 35 = .ok (.goto (-33), 3) := by decide +kernel
theorem d_L_clashesWithLoan_38 : decode (xC k_L_clashesWithLoan) 38 = .ok (.iconst 0, 1) := by decide +kernel
theorem d_L_clashesWithLoan_39 : decode (xC k_L_clashesWithLoan) 39 = .ok (.ireturn, 1) := by decide +kernel
theorem d_L_areClashing_0 : decode (xC k_L_areClashing) 0 = .ok (.aload_n 0, 1) := by decide +kernel
theorem d_L_areClashing_1 : decode (xC k_L_areClashing) 1 = .ok (.ifnull 44, 3) := by decide +kernel
theorem d_L_areClashing_4 : decode (xC k_L_areClashing) 4 = .ok (.aload_n 1, 1) := by decide +kernel
theorem d_L_areClashing_5 : decode (xC k_L_areClashing) 5 = .ok (.ifnull 40, 3) := by decide +kernel
theorem d_L_areClashing_8 : decode (xC k_L_areClashing) 8 = .ok (.aload_n 0, 1) := by decide +kernel
theorem d_L_areClashing_9 : decode (xC k_L_areClashing) 9 = .ok (.getfield 210, 3) := by decide +kernel
theorem d_L_areClashing_12 : decode (xC k_L_areClashing) 12 = .ok (.aload_n 1, 1) := by decide +kernel
theorem d_L_areClashing_13 : decode (xC k_L_areClashing) 13 = .ok (.getfield 210, 3) := by decide +kernel
theorem d_L_areClashing_16 : decode (xC k_L_areClashing) 16 = .ok (.if_icmp .ne 29, 3) := by decide +kernel
theorem d_L_areClashing_19 : decode (xC k_L_areClashing) 19 = .ok (.aload_n 0, 1) := by decide +kernel
theorem d_L_areClashing_20 : decode (xC k_L_areClashing) 20 = .ok (.getfield 213, 3) := by decide +kernel
theorem d_L_areClashing_23 : decode (xC k_L_areClashing) 23 = .ok (.aload_n 1, 1) := by decide +kernel
theorem d_L_areClashing_24 : decode (xC k_L_areClashing) 24 = .ok (.getfield 207, 3) := by decide +kernel
theorem d_L_areClashing_27 : decode (xC k_L_areClashing) 27 = .ok (.if_icmp .gt 18, 3) := by decide +kernel
theorem d_L_areClashing_30 : decode (xC k_L_areClashing) 30 = .ok (.aload_n 1, 1) := by decide +kernel
theorem d_L_areClashing_31 : decode (xC k_L_areClashing) 31 = .ok (.getfield 213, 3) := by decide +kernel
theorem d_L_areClashing_34 : decode (xC k_L_areClashing) 34 = .ok (.aload_n 0, 1) := by decide +kernel
theorem d_L_areClashing_35 : decode (xC k_L_areClashing) 35 = .ok (.getfield 207, 3) := by decide +kernel
theorem d_L_areClashing_38 : decode (xC k_L_areClashing) 38 = .ok (.if_icmp .gt 7, 3) := by decide +kernel
theorem d_L_areClashing_41 : decode (xC k_L_areClashing) 41 = .ok (.iconst 1, 1) := by decide +kernel
theorem d_L_areClashing_42 : decode (xC k_L_areClashing) 42 = .ok (.goto 4, 3) := by decide +kernel
theorem d_L_areClashing_45 : decode (xC k_L_areClashing) 45 = .ok (.iconst 0, 1) := by decide +kernel
theorem d_L_areClashing_46 : decode (xC k_L_areClashing) 46 = .ok (.ireturn, 1) := by decide +kernel
theorem d_L_signOrSize_0 : decode (xC k_L_signOrSize) 0 = .ok (.iload_n 1, 1) := by decide +kernel
theorem d_L_signOrSize_1 : decode (xC k_L_signOrSize) 1 = .ok (.iconst (-1), 1) := by decide +kernel
theorem d_L_signOrSize_2 : decode (xC k_L_signOrSize) 2 = .ok (.if_icmp .lt 11, 3) := by decide +kernel
theorem d_L_signOrSize_5 : decode (xC k_L_signOrSize) 5 = .ok (.iload_n 1, 1) := by decide +kernel
theorem d_L_signOrSize_6 : decode (xC k_L_signOrSize) 6 = .ok (.aload_n 0, 1) := by decide +kernel
theorem d_L_signOrSize_7 : decode (xC k_L_signOrSize) 7 = .ok (.getfield 54, 3) := by decide +kernel
theorem d_L_signOrSize_10 : decode (xC k_L_signOrSize) 10 = .ok (.if_icmp .lt 13, 3) := by decide +kernel
theorem d_L_signOrSize_13 : decode (xC k_L_signOrSize) 13 = .ok (.new 185, 3) := by decide +kernel
theorem d_L_signOrSize_16 : decode (xC k_L_signOrSize) 16 = .ok (.dup, 1) := by decide +kernel
theorem d_L_signOrSize_17 : decode (xC k_L_signOrSize) 17 = .ok (.ldc 250, 2) := by decide +kernel
theorem d_L_signOrSize_19 : decode (xC k_L_signOrSize) 19 = .ok (.invokespecial 189, 3) := by decide +kernel
theorem d_L_signOrSize_22 : decode (xC k_L_signOrSize) 22 = .ok (.athrow, 1) := by decide +kernel
theorem d_L_signOrSize_23 : decode (xC k_L_signOrSize) 23 = .ok (.iload_n 1, 1) := by decide +kernel
theorem d_L_signOrSize_24 : decode (xC k_L_signOrSize) 24 = .ok (.iconst (-1), 1) := by decide +kernel
theorem d_L_signOrSize_25 : decode (xC k_L_signOrSize) 25 = .ok (.if_icmp .ne 10, 3) := by decide +kernel
theorem d_L_signOrSize_28 : decode (xC k_L_signOrSize) 28 = .ok (.aload_n 0, 1) := by decide +kernel
theorem d_L_signOrSize_29 : decode (xC k_L_signOrSize) 29 = .ok (.getfield 54, 3) := by decide +kernel
theorem d_L_signOrSize_32 : decode (xC k_L_signOrSize) 32 = .ok (.goto 8, 3) := by decide +kernel
theorem d_L_signOrSize_35 : decode (xC k_L_signOrSize) 35 = .ok (.aload_n 0, 1) := by decide +kernel
theorem d_L_signOrSize_36 : decode (xC k_L_signOrSize) 36 = .ok (.iload_n 1, 1) := by decide +kernel
theorem d_L_signOrSize_37 : decode (xC k_L_signOrSize) 37 = .ok (.invokevirtual 252, 3) := by decide +kernel
theorem d_L_signOrSize_40 : decode (xC k_L_signOrSize) 40 = .ok (.ireturn, 1) := by decide +kernel
theorem d_L_isHour_0 : decode (xC k_L_isHour) 0 = .ok (.iload_n 0, 1) := by decide +kernel
theorem d_L_isHour_1 : decode (xC k_L_isHour) 1 = .ok (.ifCond .lt 13, 3) := by decide +kernel
theorem d_L_isHour_4 : decode (xC k_L_isHour) 4 = .ok (.iload_n 0, 1) := by decide +kernel
theorem d_L_isHour_5 : decode (xC k_L_isHour) 5 = .ok (.ldc 255, 2) := by decide +kernel
theorem d_L_isHour_7 : decode (xC k_L_isHour) 7 = .ok (.if_icmp .gt 7, 3) := by decide +kernel
theorem d_L_isHour_10 : decode (xC k_L_isHour) 10 = .ok (.iconst 1, 1) := by decide +kernel
theorem d_L_isHour_11 : decode (xC k_L_isHour) 11 = .ok (.goto 4, 3) := by decide +kernel
theorem d_L_isHour_14 : decode (xC k_L_isHour) 14 = .ok (.iconst 0, 1) := by decide +kernel
theorem d_L_isHour_15 : decode (xC k_L_isHour) 15 = .ok (.ireturn, 1) := by decide +kernel
theorem d_L_isDay_0 : decode (xC k_L_isDay) 0 = .ok (.iload_n 0, 1) := by decide +kernel
theorem d_L_isDay_1 : decode (xC k_L_isDay) 1 = .ok (.ifCond .lt 14, 3) := by decide +kernel
theorem d_L_isDay_4 : decode (xC k_L_isDay) 4 = .ok (.iload_n 0, 1) := by decide +kernel
theorem d_L_isDay_5 : decode (xC k_L_isDay) 5 = .ok (.ldc_w 256, 3) := by decide +kernel
theorem d_L_isDay_8 : decode (xC k_L_isDay) 8 = .ok (.if_icmp .gt 7, 3) := by decide +kernel
theorem d_L_isDay_11 : decode (xC k_L_isDay) 11 = .ok (.iconst 1, 1) := by decide +kernel
theorem d_L_isDay_12 : decode (xC k_L_isDay) 12 = .ok (.goto 4, 3) := by decide +kernel
theorem d_L_isDay_15 : decode (xC k_L_isDay) 15 = .ok (.iconst 0, 1) := by decide +kernel
theorem d_L_isDay_16 : decode (xC k_L_isDay) 16 = .ok (.ireturn, 1) := by decide +kernel
theorem d_L_refuseNoHour_0 : decode (xC k_L_refuseNoHour) 0 = .ok (.iload_n 0, 1) := by decide +kernel
theorem d_L_refuseNoHour_1 : decode (xC k_L_refuseNoHour) 1 = .ok (.invokestatic 109, 3) := by decide +kernel
theorem d_L_refuseNoHour_4 : decode (xC k_L_refuseNoHour) 4 = .ok (.ifCond .ne 14, 3) := by decide +kernel
theorem d_L_refuseNoHour_7 : decode (xC k_L_refuseNoHour) 7 = .ok (.new 64, 3) := by decide +kernel
theorem d_L_refuseNoHour_10 : decode (xC k_L_refuseNoHour) 10 = .ok (.dup, 1) := by decide +kernel
theorem d_L_refuseNoHour_11 : decode (xC k_L_refuseNoHour) 11 = .ok (.ldc_w 257, 3) := by decide +kernel
theorem d_L_refuseNoHour_14 : decode (xC k_L_refuseNoHour) 14 = .ok (.invokespecial 68, 3) := by decide +kernel
theorem d_L_refuseNoHour_17 : decode (xC k_L_refuseNoHour) 17 = .ok (.athrow, 1) := by decide +kernel
theorem d_L_refuseNoHour_18 : decode (xC k_L_refuseNoHour) 18 = .ok (.return_, 1) := by decide +kernel
theorem d_L_refuseNoDays_0 : decode (xC k_L_refuseNoDays) 0 = .ok (.iload_n 0, 1) := by decide +kernel
theorem d_L_refuseNoDays_1 : decode (xC k_L_refuseNoDays) 1 = .ok (.invokestatic 202, 3) := by decide +kernel
theorem d_L_refuseNoDays_4 : decode (xC k_L_refuseNoDays) 4 = .ok (.ifCond .eq 15, 3) := by decide +kernel
theorem d_L_refuseNoDays_7 : decode (xC k_L_refuseNoDays) 7 = .ok (.iload_n 1, 1) := by decide +kernel
theorem d_L_refuseNoDays_8 : decode (xC k_L_refuseNoDays) 8 = .ok (.invokestatic 202, 3) := by decide +kernel
theorem d_L_refuseNoDays_11 : decode (xC k_L_refuseNoDays) 11 = .ok (.ifCond .eq 8, 3) := by decide +kernel
theorem d_L_refuseNoDays_14 : decode (xC k_L_refuseNoDays) 14 = .ok (.iload_n 1, 1) := by decide +kernel
theorem d_L_refuseNoDays_15 : decode (xC k_L_refuseNoDays) 15 = .ok (.iload_n 0, 1) := by decide +kernel
theorem d_L_refuseNoDays_16 : decode (xC k_L_refuseNoDays) 16 = .ok (.if_icmp .ge 13, 3) := by decide +kernel
theorem d_L_refuseNoDays_19 : decode (xC k_L_refuseNoDays) 19 = .ok (.new 64, 3) := by decide +kernel
theorem d_L_refuseNoDays_22 : decode (xC k_L_refuseNoDays) 22 = .ok (.dup, 1) := by decide +kernel
theorem d_L_refuseNoDays_23 : decode (xC k_L_refuseNoDays) 23 = .ok (.ldc 205, 2) := by decide +kernel
theorem d_L_refuseNoDays_25 : decode (xC k_L_refuseNoDays) 25 = .ok (.invokespecial 68, 3) := by decide +kernel
theorem d_L_refuseNoDays_28 : decode (xC k_L_refuseNoDays) 28 = .ok (.athrow, 1) := by decide +kernel
theorem d_L_refuseNoDays_29 : decode (xC k_L_refuseNoDays) 29 = .ok (.return_, 1) := by decide +kernel
theorem d_L_refuseNoThing_0 : decode (xC k_L_refuseNoThing) 0 = .ok (.iload_n 0, 1) := by decide +kernel
theorem d_L_refuseNoThing_1 : decode (xC k_L_refuseNoThing) 1 = .ok (.ifCond .lt 9, 3) := by decide +kernel
theorem d_L_refuseNoThing_4 : decode (xC k_L_refuseNoThing) 4 = .ok (.iload_n 0, 1) := by decide +kernel
theorem d_L_refuseNoThing_5 : decode (xC k_L_refuseNoThing) 5 = .ok (.bipush 16, 2) := by decide +kernel
theorem d_L_refuseNoThing_7 : decode (xC k_L_refuseNoThing) 7 = .ok (.if_icmp .lt 14, 3) := by decide +kernel
theorem d_L_refuseNoThing_10 : decode (xC k_L_refuseNoThing) 10 = .ok (.new 185, 3) := by decide +kernel
theorem d_L_refuseNoThing_13 : decode (xC k_L_refuseNoThing) 13 = .ok (.dup, 1) := by decide +kernel
theorem d_L_refuseNoThing_14 : decode (xC k_L_refuseNoThing) 14 = .ok (.ldc_w 259, 3) := by decide +kernel
theorem d_L_refuseNoThing_17 : decode (xC k_L_refuseNoThing) 17 = .ok (.invokespecial 189, 3) := by decide +kernel
theorem d_L_refuseNoThing_20 : decode (xC k_L_refuseNoThing) 20 = .ok (.athrow, 1) := by decide +kernel
theorem d_L_refuseNoThing_21 : decode (xC k_L_refuseNoThing) 21 = .ok (.return_, 1) := by decide +kernel
theorem d_L_stateOf_0 : decode (xC k_L_stateOf) 0 = .ok (.aload_n 1, 1) := by decide +kernel
theorem d_L_stateOf_1 : decode (xC k_L_stateOf) 1 = .ok (.ifnull 10, 3) := by decide +kernel
theorem d_L_stateOf_4 : decode (xC k_L_stateOf) 4 = .ok (.iload 4, 2) := by decide +kernel
theorem d_L_stateOf_6 : decode (xC k_L_stateOf) 6 = .ok (.bipush 40, 2) := by decide +kernel
theorem d_L_stateOf_8 : decode (xC k_L_stateOf) 8 = .ok (.if_icmp .le 5, 3) := by decide +kernel
theorem d_L_stateOf_11 : decode (xC k_L_stateOf) 11 = .ok (.iconst 2, 1) := by decide +kernel
theorem d_L_stateOf_12 : decode (xC k_L_stateOf) 12 = .ok (.ireturn, 1) := by decide +kernel
theorem d_L_stateOf_13 : decode (xC k_L_stateOf) 13 = .ok (.aload_n 1, 1) := by decide +kernel
theorem d_L_stateOf_14 : decode (xC k_L_stateOf) 14 = .ok (.getfield 261, 3) := by decide +kernel
theorem d_L_stateOf_17 : decode (xC k_L_stateOf) 17 = .ok (.lookupswitch 63 #[(33, 35), (38, 53), (124, 53)], 35) := by decide +kernel
theorem d_L_stateOf_52 : decode (xC k_L_stateOf) 52 = .ok (.aload_n 0, 1) := by decide +kernel
theorem d_L_stateOf_53 : decode (xC k_L_stateOf) 53 = .ok (.aload_n 1, 1) := by decide +kernel
theorem d_L_stateOf_54 : decode (xC k_L_stateOf) 54 = .ok (.getfield 266, 3) := by decide +kernel
theorem d_L_stateOf_57 : decode (xC k_L_stateOf) 57 = .ok (.aload_n 2, 1) := by decide +kernel
theorem d_L_stateOf_58 : decode (xC k_L_stateOf) 58 = .ok (.iload_n 3, 1) := by decide +kernel
theorem d_L_stateOf_59 : decode (xC k_L_stateOf) 59 = .ok (.iload 4, 2) := by decide +kernel
theorem d_L_stateOf_61 : decode (xC k_L_stateOf) 61 = .ok (.iconst 1, 1) := by decide +kernel
theorem d_L_stateOf_62 : decode (xC k_L_stateOf) 62 = .ok (.iadd, 1) := by decide +kernel
theorem d_L_stateOf_63 : decode (xC k_L_stateOf) 63 = .ok (.invokevirtual 175, 3) := by decide +kernel
theorem d_L_stateOf_66 : decode (xC k_L_stateOf) 66 = .ok (.invokestatic 270, 3) := by decide +kernel
theorem d_L_stateOf_69 : decode (xC k_L_stateOf) 69 = .ok (.ireturn, 1) := by decide +kernel
theorem d_L_stateOf_70 : decode (xC k_L_stateOf) 70 = .ok (.aload_n 0, 1) := by decide +kernel
theorem d_L_stateOf_71 : decode (xC k_L_stateOf) 71 = .ok (.aload_n 1, 1) := by decide +kernel
theorem d_L_stateOf_72 : decode (xC k_L_stateOf) 72 = .ok (.aload_n 2, 1) := by decide +kernel
theorem d_L_stateOf_73 : decode (xC k_L_stateOf) 73 = .ok (.iload_n 3, 1) := by decide +kernel
theorem d_L_stateOf_74 : decode (xC k_L_stateOf) 74 = .ok (.iload 4, 2) := by decide +kernel
theorem d_L_stateOf_76 : decode (xC k_L_stateOf) 76 = .ok (.invokevirtual 273, 3) := by decide +kernel
theorem d_L_stateOf_79 : decode (xC k_L_stateOf) 79 = .ok (.ireturn, 1) := by decide +kernel
theorem d_L_stateOf_80 : decode (xC k_L_stateOf) 80 = .ok (.aload_n 0, 1) := by decide +kernel
theorem d_L_stateOf_81 : decode (xC k_L_stateOf) 81 = .ok (.aload_n 1, 1) := by decide +kernel
theorem d_L_stateOf_82 : decode (xC k_L_stateOf) 82 = .ok (.aload_n 2, 1) := by decide +kernel
theorem d_L_stateOf_83 : decode (xC k_L_stateOf) 83 = .ok (.iload_n 3, 1) := by decide +kernel
theorem d_L_stateOf_84 : decode (xC k_L_stateOf) 84 = .ok (.invokevirtual 276, 3) := by decide +kernel
theorem d_L_stateOf_87 : decode (xC k_L_stateOf) 87 = .ok (.ireturn, 1) := by decide +kernel
theorem d_L_stateOfGroup_0 : decode (xC k_L_stateOfGroup) 0 = .ok (.aload_n 1, 1) := by decide +kernel
theorem d_L_stateOfGroup_1 : decode (xC k_L_stateOfGroup) 1 = .ok (.getfield 261, 3) := by decide +kernel
theorem d_L_stateOfGroup_4 : decode (xC k_L_stateOfGroup) 4 = .ok (.bipush 124, 2) := by decide +kernel
theorem d_L_stateOfGroup_6 : decode (xC k_L_stateOfGroup) 6 = .ok (.if_icmp .ne 7, 3) := by decide +kernel
theorem d_L_stateOfGroup_9 : decode (xC k_L_stateOfGroup) 9 = .ok (.iconst 0, 1) := by decide +kernel
theorem d_L_stateOfGroup_10 : decode (xC k_L_stateOfGroup) 10 = .ok (.goto 4, 3) := by decide +kernel
theorem d_L_stateOfGroup_13 : decode (xC k_L_stateOfGroup) 13 = .ok (.iconst 1, 1) := by decide +kernel
theorem d_L_stateOfGroup_14 : decode (xC k_L_stateOfGroup) 14 = .ok (.istore 5, 2) := by decide +kernel
theorem d_L_stateOfGroup_16 : decode (xC k_L_stateOfGroup) 16 = .ok (.aload_n 1, 1) := by decide +kernel
theorem d_L_stateOfGroup_17 : decode (xC k_L_stateOfGroup) 17 = .ok (.getfield 266, 3) := by decide +kernel
theorem d_L_stateOfGroup_20 : decode (xC k_L_stateOfGroup) 20 = .ok (.astore 6, 2) := by decide +kernel
theorem d_L_stateOfGroup_22 : decode (xC k_L_stateOfGroup) 22 = .ok (.aload 6, 2) := by decide +kernel
theorem d_L_stateOfGroup_24 : decode (xC k_L_stateOfGroup) 24 = .ok (.ifnull 37, 3) := by decide +kernel
theorem d_L_stateOfGroup_27 : decode (xC k_L_stateOfGroup) 27 = .ok (.aload_n 0, 1) := by decide +kernel
theorem d_L_stateOfGroup_28 : decode (xC k_L_stateOfGroup) 28 = .ok (.aload 6, 2) := by decide +kernel
theorem d_L_stateOfGroup_30 : decode (xC k_L_stateOfGroup) 30 = .ok (.aload_n 2, 1) := by decide +kernel
theorem d_L_stateOfGroup_31 : decode (xC k_L_stateOfGroup) 31 = .ok (.iload_n 3, 1) := by decide +kernel
theorem d_L_stateOfGroup_32 : decode (xC k_L_stateOfGroup) 32 = .ok (.iload 4, 2) := by decide +kernel
theorem d_L_stateOfGroup_34 : decode (xC k_L_stateOfGroup) 34 = .ok (.iconst 1, 1) := by decide +kernel
theorem d_L_stateOfGroup_35 : decode (xC k_L_stateOfGroup) 35 = .ok (.iadd, 1) := by decide +kernel
theorem d_L_stateOfGroup_36 : decode (xC k_L_stateOfGroup) 36 = .ok (.invokevirtual 175, 3) := by decide +kernel
theorem d_L_stateOfGroup_39 : decode (xC k_L_stateOfGroup) 39 = .ok (.istore 7, 2) := by decide +kernel
theorem d_L_stateOfGroup_41 : decode (xC k_L_stateOfGroup) 41 = .ok (.iload 7, 2) := by decide +kernel
theorem d_L_stateOfGroup_43 : decode (xC k_L_stateOfGroup) 43 = .ok (.iload 5, 2) := by decide +kernel
theorem d_L_stateOfGroup_45 : decode (xC k_L_stateOfGroup) 45 = .ok (.if_icmp .eq 6, 3) := by decide +kernel
theorem d_L_stateOfGroup_48 : decode (xC k_L_stateOfGroup) 48 = .ok (.iload 7, 2) := by decide +kernel
theorem d_L_stateOfGroup_50 : decode (xC k_L_stateOfGroup) 50 = .ok (.ireturn, 1) := by decide +kernel
theorem d_L_stateOfGroup_51 : decode (xC k_L_stateOfGroup) 51 = .ok (.aload 6, 2) := by decide +kernel
theorem d_L_stateOfGroup_53 : decode (xC k_L_stateOfGroup) 53 = .ok (.getfield 280, 3) := by decide +kernel
theorem d_L_stateOfGroup_56 : decode (xC k_L_stateOfGroup) 56 = .ok (.astore 6, 2) := by decide +kernel
theorem d_L_stateOfGroup_58 : decode (xC k_L_stateOfGroup) 58 = .ok (.goto (-36), 3) := by decide +kernel
theorem d_L_stateOfGroup_61 : decode (xC k_L_stateOfGroup) 61 = .ok (.iload 5, 2) := by decide +kernel
theorem d_L_stateOfGroup_63 : decode (xC k_L_stateOfGroup) 63 = .ok (.ireturn, 1) := by decide +kernel
theorem d_L_stateOfName_0 : decode (xC k_L_stateOfName) 0 = .ok (.aload_n 1, 1) := by decide +kernel
theorem d_L_stateOfName_1 : decode (xC k_L_stateOfName) 1 = .ok (.getfield 283, 3) := by decide +kernel
theorem d_L_stateOfName_4 : decode (xC k_L_stateOfName) 4 = .ok (.bipush 121, 2) := by decide +kernel
theorem d_L_stateOfName_6 : decode (xC k_L_stateOfName) 6 = .ok (.if_icmp .ne 20, 3) := by decide +kernel
theorem d_L_stateOfName_9 : decode (xC k_L_stateOfName) 9 = .ok (.aload_n 1, 1) := by decide +kernel
theorem d_L_stateOfName_10 : decode (xC k_L_stateOfName) 10 = .ok (.iload_n 3, 1) := by decide +kernel
theorem d_L_stateOfName_11 : decode (xC k_L_stateOfName) 11 = .ok (.bipush 24, 2) := by decide +kernel
theorem d_L_stateOfName_13 : decode (xC k_L_stateOfName) 13 = .ok (.idiv, 1) := by decide +kernel
theorem d_L_stateOfName_14 : decode (xC k_L_stateOfName) 14 = .ok (.aload_n 2, 1) := by decide +kernel
theorem d_L_stateOfName_15 : decode (xC k_L_stateOfName) 15 = .ok (.getfield 160, 3) := by decide +kernel
theorem d_L_stateOfName_18 : decode (xC k_L_stateOfName) 18 = .ok (.getfield 213, 3) := by decide +kernel
theorem d_L_stateOfName_21 : decode (xC k_L_stateOfName) 21 = .ok (.isub, 1) := by decide +kernel
theorem d_L_stateOfName_22 : decode (xC k_L_stateOfName) 22 = .ok (.invokevirtual 286, 3) := by decide +kernel
theorem d_L_stateOfName_25 : decode (xC k_L_stateOfName) 25 = .ok (.ireturn, 1) := by decide +kernel
theorem d_L_stateOfName_26 : decode (xC k_L_stateOfName) 26 = .ok (.aload_n 1, 1) := by decide +kernel
theorem d_L_stateOfName_27 : decode (xC k_L_stateOfName) 27 = .ok (.getfield 283, 3) := by decide +kernel
theorem d_L_stateOfName_30 : decode (xC k_L_stateOfName) 30 = .ok (.bipush 122, 2) := by decide +kernel
theorem d_L_stateOfName_32 : decode (xC k_L_stateOfName) 32 = .ok (.if_icmp .ne 20, 3) := by decide +kernel
theorem d_L_stateOfName_35 : decode (xC k_L_stateOfName) 35 = .ok (.aload_n 1, 1) := by decide +kernel
theorem d_L_stateOfName_36 : decode (xC k_L_stateOfName) 36 = .ok (.aload_n 2, 1) := by decide +kernel
theorem d_L_stateOfName_37 : decode (xC k_L_stateOfName) 37 = .ok (.getfield 153, 3) := by decide +kernel
theorem d_L_stateOfName_40 : decode (xC k_L_stateOfName) 40 = .ok (.ifCond .eq 7, 3) := by decide +kernel
theorem d_L_stateOfName_43 : decode (xC k_L_stateOfName) 43 = .ok (.iconst 1, 1) := by decide +kernel
theorem d_L_stateOfName_44 : decode (xC k_L_stateOfName) 44 = .ok (.goto 4, 3) := by decide +kernel
theorem d_L_stateOfName_47 : decode (xC k_L_stateOfName) 47 = .ok (.iconst 0, 1) := by decide +kernel
theorem d_L_stateOfName_48 : decode (xC k_L_stateOfName) 48 = .ok (.invokevirtual 286, 3) := by decide +kernel
theorem d_L_stateOfName_51 : decode (xC k_L_stateOfName) 51 = .ok (.ireturn, 1) := by decide +kernel
theorem d_L_stateOfName_52 : decode (xC k_L_stateOfName) 52 = .ok (.aload_n 0, 1) := by decide +kernel
theorem d_L_stateOfName_53 : decode (xC k_L_stateOfName) 53 = .ok (.aload_n 1, 1) := by decide +kernel
theorem d_L_stateOfName_54 : decode (xC k_L_stateOfName) 54 = .ok (.getfield 283, 3) := by decide +kernel
theorem d_L_stateOfName_57 : decode (xC k_L_stateOfName) 57 = .ok (.bipush 97, 2) := by decide +kernel
theorem d_L_stateOfName_59 : decode (xC k_L_stateOfName) 59 = .ok (.isub, 1) := by decide +kernel
theorem d_L_stateOfName_60 : decode (xC k_L_stateOfName) 60 = .ok (.invokevirtual 102, 3) := by decide +kernel
theorem d_L_stateOfName_63 : decode (xC k_L_stateOfName) 63 = .ok (.iload_n 3, 1) := by decide +kernel
theorem d_L_stateOfName_64 : decode (xC k_L_stateOfName) 64 = .ok (.invokevirtual 289, 3) := by decide +kernel
theorem d_L_stateOfName_67 : decode (xC k_L_stateOfName) 67 = .ok (.istore 4, 2) := by decide +kernel
theorem d_L_stateOfName_69 : decode (xC k_L_stateOfName) 69 = .ok (.iload 4, 2) := by decide +kernel
theorem d_L_stateOfName_71 : decode (xC k_L_stateOfName) 71 = .ok (.iconst (-1), 1) := by decide +kernel
theorem d_L_stateOfName_72 : decode (xC k_L_stateOfName) 72 = .ok (.if_icmp .ne 7, 3) := by decide +kernel
theorem d_L_stateOfName_75 : decode (xC k_L_stateOfName) 75 = .ok (.iconst 2, 1) := by decide +kernel
theorem d_L_stateOfName_76 : decode (xC k_L_stateOfName) 76 = .ok (.goto 9, 3) := by decide +kernel
theorem d_L_stateOfName_79 : decode (xC k_L_stateOfName) 79 = .ok (.aload_n 1, 1) := by decide +kernel
theorem d_L_stateOfName_80 : decode (xC k_L_stateOfName) 80 = .ok (.iload 4, 2) := by decide +kernel
theorem d_L_stateOfName_82 : decode (xC k_L_stateOfName) 82 = .ok (.invokevirtual 286, 3) := by decide +kernel
theorem d_L_stateOfName_85 : decode (xC k_L_stateOfName) 85 = .ok (.ireturn, 1) := by decide +kernel
theorem d_L_turnedRound_0 : decode (xC k_L_turnedRound) 0 = .ok (.iload_n 0, 1) := by decide +kernel
theorem d_L_turnedRound_1 : decode (xC k_L_turnedRound) 1 = .ok (.iconst 2, 1) := by decide +kernel
theorem d_L_turnedRound_2 : decode (xC k_L_turnedRound) 2 = .ok (.if_icmp .ne 5, 3) := by decide +kernel
theorem d_L_turnedRound_5 : decode (xC k_L_turnedRound) 5 = .ok (.iconst 2, 1) := by decide +kernel
theorem d_L_turnedRound_6 : decode (xC k_L_turnedRound) 6 = .ok (.ireturn, 1) := by decide +kernel
theorem d_L_turnedRound_7 : decode (xC k_L_turnedRound) 7 = .ok (.iload_n 0, 1) := by decide +kernel
theorem d_L_turnedRound_8 : decode (xC k_L_turnedRound) 8 = .ok (.iconst 1, 1) := by decide +kernel
theorem d_L_turnedRound_9 : decode (xC k_L_turnedRound) 9 = .ok (.if_icmp .ne 7, 3) := by decide +kernel
theorem d_L_turnedRound_12 : decode (xC k_L_turnedRound) 12 = .ok (.iconst 0, 1) := by decide +kernel
theorem d_L_turnedRound_13 : decode (xC k_L_turnedRound) 13 = .ok (.goto 4, 3) := by decide +kernel
theorem d_L_turnedRound_16 : decode (xC k_L_turnedRound) 16 = .ok (.iconst 1, 1) := by decide +kernel
theorem d_L_turnedRound_17 : decode (xC k_L_turnedRound) 17 = .ok (.ireturn, 1) := by decide +kernel
end
section
theorem d_M_init_0 : decode (xC k_M_init) 0 = .ok (.aload_n 0, 1) := by decide +kernel
theorem d_M_init_1 : decode (xC k_M_init) 1 = .ok (.invokespecial 1, 3) := by decide +kernel
theorem d_M_init_4 : decode (xC k_M_init) 4 = .ok (.aload_n 0, 1) := by decide +kernel
theorem d_M_init_5 : decode (xC k_M_init) 5 = .ok (.bipush 80, 2) := by decide +kernel
theorem d_M_init_7 : decode (xC k_M_init) 7 = .ok (.newarray .int, 2) := by decide +kernel
theorem d_M_init_9 : decode (xC k_M_init) 9 = .ok (.putfield 7, 3) := by decide +kernel
theorem d_M_init_12 : decode (xC k_M_init) 12 = .ok (.aload_n 0, 1) := by decide +kernel
theorem d_M_init_13 : decode (xC k_M_init) 13 = .ok (.bipush 8, 2) := by decide +kernel
theorem d_M_init_15 : decode (xC k_M_init) 15 = .ok (.newarray .int, 2) := by decide +kernel
theorem d_M_init_17 : decode (xC k_M_init) 17 = .ok (.putfield 13, 3) := by decide +kernel
theorem d_M_init_20 : decode (xC k_M_init) 20 = .ok (.aload_n 0, 1) := by decide +kernel
theorem d_M_init_21 : decode (xC k_M_init) 21 = .ok (.bipush 48, 2) := by decide +kernel
theorem d_M_init_23 : decode (xC k_M_init) 23 = .ok (.newarray .int, 2) := by decide +kernel
theorem d_M_init_25 : decode (xC k_M_init) 25 = .ok (.putfield 16, 3) := by decide +kernel
theorem d_M_init_28 : decode (xC k_M_init) 28 = .ok (.aload_n 0, 1) := by decide +kernel
theorem d_M_init_29 : decode (xC k_M_init) 29 = .ok (.bipush 8, 2) := by decide +kernel
theorem d_M_init_31 : decode (xC k_M_init) 31 = .ok (.newarray .int, 2) := by decide +kernel
theorem d_M_init_33 : decode (xC k_M_init) 33 = .ok (.putfield 19, 3) := by decide +kernel
theorem d_M_init_36 : decode (xC k_M_init) 36 = .ok (.aload_n 0, 1) := by decide +kernel
theorem d_M_init_37 : decode (xC k_M_init) 37 = .ok (.sipush 1280, 3) := by decide +kernel
theorem d_M_init_40 : decode (xC k_M_init) 40 = .ok (.newarray .int, 2) := by decide +kernel
theorem d_M_init_42 : decode (xC k_M_init) 42 = .ok (.putfield 22, 3) := by decide +kernel
theorem d_M_init_45 : decode (xC k_M_init) 45 = .ok (.aload_n 0, 1) := by decide +kernel
theorem d_M_init_46 : decode (xC k_M_init) 46 = .ok (.sipush 1280, 3) := by decide +kernel
theorem d_M_init_49 : decode (xC k_M_init) 49 = .ok (.newarray .int, 2) := by decide +kernel
theorem d_M_init_51 : decode (xC k_M_init) 51 = .ok (.putfield 25, 3) := by decide +kernel
theorem d_M_init_54 : decode (xC k_M_init) 54 = .ok (.aload_n 0, 1) := by decide +kernel
theorem d_M_init_55 : decode (xC k_M_init) 55 = .ok (.sipush 1280, 3) := by decide +kernel
theorem d_M_init_58 : decode (xC k_M_init) 58 = .ok (.newarray .int, 2) := by decide +kernel
theorem d_M_init_60 : decode (xC k_M_init) 60 = .ok (.putfield 28, 3) := by decide +kernel
theorem d_M_init_63 : decode (xC k_M_init) 63 = .ok (.aload_n 0, 1) := by decide +kernel
theorem d_M_init_64 : decode (xC k_M_init) 64 = .ok (.sipush 1280, 3) := by decide +kernel
theorem d_M_init_67 : decode (xC k_M_init) 67 = .ok (.newarray .int, 2) := by decide +kernel
theorem d_M_init_69 : decode (xC k_M_init) 69 = .ok (.putfield 31, 3) := by decide +kernel
theorem d_M_init_72 : decode (xC k_M_init) 72 = .ok (.aload_n 0, 1) := by decide +kernel
theorem d_M_init_73 : decode (xC k_M_init) 73 = .ok (.sipush 1280, 3) := by decide +kernel
theorem d_M_init_76 : decode (xC k_M_init) 76 = .ok (.newarray .int, 2) := by decide +kernel
theorem d_M_init_78 : decode (xC k_M_init) 78 = .ok (.putfield 34, 3) := by decide +kernel
theorem d_M_init_81 : decode (xC k_M_init) 81 = .ok (.aload_n 0, 1) := by decide +kernel
theorem d_M_init_82 : decode (xC k_M_init) 82 = .ok (.sipush 1280, 3) := by decide +kernel
theorem d_M_init_85 : decode (xC k_M_init) 85 = .ok (.newarray .int, 2) := by decide +kernel
theorem d_M_init_87 : decode (xC k_M_init) 87 = .ok (.putfield 37, 3) := by decide +kernel
theorem d_M_init_90 : decode (xC k_M_init) 90 = .ok (.aload_n 0, 1) := by decide +kernel
theorem d_M_init_91 : decode (xC k_M_init) 91 = .ok (.sipush 160, 3) := by decide +kernel
theorem d_M_init_94 : decode (xC k_M_init) 94 = .ok (.newarray .int, 2) := by decide +kernel
theorem d_M_init_96 : decode (xC k_M_init) 96 = .ok (.putfield 40, 3) := by decide +kernel
theorem d_M_init_99 : decode (xC k_M_init) 99 = .ok (.aload_n 0, 1) := by decide +kernel
theorem d_M_init_100 : decode (xC k_M_init) 100 = .ok (.sipush 400, 3) := by decide +kernel
theorem d_M_init_103 : decode (xC k_M_init) 103 = .ok (.newarray .int, 2) := by decide +kernel
theorem d_M_init_105 : decode (xC k_M_init) 105 = .ok (.putfield 43, 3) := by decide +kernel
theorem d_M_init_108 : decode (xC k_M_init) 108 = .ok (.aload_n 0, 1) := by decide +kernel
theorem d_M_init_109 : decode (xC k_M_init) 109 = .ok (.sipush 400, 3) := by decide +kernel
theorem d_M_init_112 : decode (xC k_M_init) 112 = .ok (.newarray .int, 2) := by decide +kernel
theorem d_M_init_114 : decode (xC k_M_init) 114 = .ok (.putfield 46, 3) := by decide +kernel
theorem d_M_init_117 : decode (xC k_M_init) 117 = .ok (.aload_n 0, 1) := by decide +kernel
theorem d_M_init_118 : decode (xC k_M_init) 118 = .ok (.bipush 8, 2) := by decide +kernel
theorem d_M_init_120 : decode (xC k_M_init) 120 = .ok (.newarray .int, 2) := by decide +kernel
theorem d_M_init_122 : decode (xC k_M_init) 122 = .ok (.putfield 49, 3) := by decide +kernel
theorem d_M_init_125 : decode (xC k_M_init) 125 = .ok (.aload_n 0, 1) := by decide +kernel
theorem d_M_init_126 : decode (xC k_M_init) 126 = .ok (.sipush 480, 3) := by decide +kernel
theorem d_M_init_129 : decode (xC k_M_init) 129 = .ok (.newarray .int, 2) := by decide +kernel
theorem d_M_init_131 : decode (xC k_M_init) 131 = .ok (.putfield 52, 3) := by decide +kernel
theorem d_M_init_134 : decode (xC k_M_init) 134 = .ok (.aload_n 0, 1) := by decide +kernel
theorem d_M_init_135 : decode (xC k_M_init) 135 = .ok (.sipush 480, 3) := by decide +kernel
theorem d_M_init_138 : decode (xC k_M_init) 138 = .ok (.newarray .int, 2) := by decide +kernel
theorem d_M_init_140 : decode (xC k_M_init) 140 = .ok (.putfield 55, 3) := by decide +kernel
theorem d_M_init_143 : decode (xC k_M_init) 143 = .ok (.aload_n 0, 1) := by decide +kernel
theorem d_M_init_144 : decode (xC k_M_init) 144 = .ok (.bipush 8, 2) := by decide +kernel
theorem d_M_init_146 : decode (xC k_M_init) 146 = .ok (.newarray .int, 2) := by decide +kernel
theorem d_M_init_148 : decode (xC k_M_init) 148 = .ok (.putfield 58, 3) := by decide +kernel
theorem d_M_init_151 : decode (xC k_M_init) 151 = .ok (.aload_n 0, 1) := by decide +kernel
theorem d_M_init_152 : decode (xC k_M_init) 152 = .ok (.bipush 8, 2) := by decide +kernel
theorem d_M_init_154 : decode (xC k_M_init) 154 = .ok (.newarray .int, 2) := by decide +kernel
theorem d_M_init_156 : decode (xC k_M_init) 156 = .ok (.putfield 61, 3) := by decide +kernel
theorem d_M_init_159 : decode (xC k_M_init) 159 = .ok (.aload_n 0, 1) := by decide +kernel
theorem d_M_init_160 : decode (xC k_M_init) 160 = .ok (.bipush 20, 2) := by decide +kernel
theorem d_M_init_162 : decode (xC k_M_init) 162 = .ok (.newarray .int, 2) := by decide +kernel
theorem d_M_init_164 : decode (xC k_M_init) 164 = .ok (.putfield 64, 3) := by decide +kernel
theorem d_M_init_167 : decode (xC k_M_init) 167 = .ok (.aload_n 0, 1) := by decide +kernel
theorem d_M_init_168 : decode (xC k_M_init) 168 = .ok (.bipush 20, 2) := by decide +kernel
theorem d_M_init_170 : decode (xC k_M_init) 170 = .ok (.newarray .int, 2) := by decide +kernel
theorem d_M_init_172 : decode (xC k_M_init) 172 = .ok (.putfield 67, 3) := by decide +kernel
theorem d_M_init_175 : decode (xC k_M_init) 175 = .ok (.aload_n 0, 1) := by decide +kernel
theorem d_M_init_176 : decode (xC k_M_init) 176 = .ok (.bipush 20, 2) := by decide +kernel
theorem d_M_init_178 : decode (xC k_M_init) 178 = .ok (.newarray .int, 2) := by decide +kernel
theorem d_M_init_180 : decode (xC k_M_init) 180 = .ok (.putfield 70, 3) := by decide +kernel
theorem d_M_init_183 : decode (xC k_M_init) 183 = .ok (.aload_n 0, 1) := by decide +kernel
theorem d_M_init_184 : decode (xC k_M_init) 184 = .ok (.bipush 20, 2) := by decide +kernel
theorem d_M_init_186 : decode (xC k_M_init) 186 = .ok (.newarray .int, 2) := by decide +kernel
theorem d_M_init_188 : decode (xC k_M_init) 188 = .ok (.putfield 73, 3) := by decide +kernel
theorem d_M_init_191 : decode (xC k_M_init) 191 = .ok (.aload_n 0, 1) := by decide +kernel
theorem d_M_init_192 : decode (xC k_M_init) 192 = .ok (.bipush 20, 2) := by decide +kernel
theorem d_M_init_194 : decode (xC k_M_init) 194 = .ok (.newarray .boolean, 2) := by decide +kernel
theorem d_M_init_196 : decode (xC k_M_init) 196 = .ok (.putfield 76, 3) := by decide +kernel
theorem d_M_init_199 : decode (xC k_M_init) 199 = .ok (.aload_n 0, 1) := by decide +kernel
theorem d_M_init_200 : decode (xC k_M_init) 200 = .ok (.bipush 120, 2) := by decide +kernel
theorem d_M_init_202 : decode (xC k_M_init) 202 = .ok (.newarray .boolean, 2) := by decide +kernel
theorem d_M_init_204 : decode (xC k_M_init) 204 = .ok (.putfield 80, 3) := by decide +kernel
theorem d_M_init_207 : decode (xC k_M_init) 207 = .ok (.aload_n 0, 1) := by decide +kernel
theorem d_M_init_208 : decode (xC k_M_init) 208 = .ok (.bipush 20, 2) := by decide +kernel
theorem d_M_init_210 : decode (xC k_M_init) 210 = .ok (.newarray .int, 2) := by decide +kernel
theorem d_M_init_212 : decode (xC k_M_init) 212 = .ok (.putfield 83, 3) := by decide +kernel
theorem d_M_init_215 : decode (xC k_M_init) 215 = .ok (.aload_n 0, 1) := by decide +kernel
theorem d_M_init_216 : decode (xC k_M_init) 216 = .ok (.sipush 2000, 3) := by decide +kernel
theorem d_M_init_219 : decode (xC k_M_init) 219 = .ok (.newarray .int, 2) := by decide +kernel
theorem d_M_init_221 : decode (xC k_M_init) 221 = .ok (.putfield 86, 3) := by decide +kernel
theorem d_M_init_224 : decode (xC k_M_init) 224 = .ok (.aload_n 0, 1) := by decide +kernel
theorem d_M_init_225 : decode (xC k_M_init) 225 = .ok (.sipush 2000, 3) := by decide +kernel
theorem d_M_init_228 : decode (xC k_M_init) 228 = .ok (.newarray .int, 2) := by decide +kernel
theorem d_M_init_230 : decode (xC k_M_init) 230 = .ok (.putfield 89, 3) := by decide +kernel
theorem d_M_init_233 : decode (xC k_M_init) 233 = .ok (.aload_n 0, 1) := by decide +kernel
theorem d_M_init_234 : decode (xC k_M_init) 234 = .ok (.bipush 30, 2) := by decide +kernel
theorem d_M_init_236 : decode (xC k_M_init) 236 = .ok (.newarray .int, 2) := by decide +kernel
theorem d_M_init_238 : decode (xC k_M_init) 238 = .ok (.putfield 92, 3) := by decide +kernel
theorem d_M_init_241 : decode (xC k_M_init) 241 = .ok (.aload_n 0, 1) := by decide +kernel
theorem d_M_init_242 : decode (xC k_M_init) 242 = .ok (.bipush 30, 2) := by decide +kernel
theorem d_M_init_244 : decode (xC k_M_init) 244 = .ok (.newarray .int, 2) := by decide +kernel
theorem d_M_init_246 : decode (xC k_M_init) 246 = .ok (.putfield 95, 3) := by decide +kernel
theorem d_M_init_249 : decode (xC k_M_init) 249 = .ok (.aload_n 0, 1) := by decide +kernel
theorem d_M_init_250 : decode (xC k_M_init) 250 = .ok (.bipush 30, 2) := by decide +kernel
theorem d_M_init_252 : decode (xC k_M_init) 252 = .ok (.newarray .int, 2) := by decide +kernel
theorem d_M_init_254 : decode (xC k_M_init) 254 = .ok (.putfield 98, 3) := by decide +kernel
theorem d_M_init_257 : decode (xC k_M_init) 257 = .ok (.iconst 0, 1) := by decide +kernel
theorem d_M_init_258 : decode (xC k_M_init) 258 = .ok (.istore_n 1, 1) := by decide +kernel
theorem d_M_init_259 : decode (xC k_M_init) 259 = .ok (.iload_n 1, 1) := by decide +kernel
theorem d_M_init_260 : decode (xC k_M_init) 260 = .ok (.bipush 8, 2) := by decide +kernel
theorem d_M_init_262 : decode (xC k_M_init) 262 = .ok (.if_icmp .ge 16, 3) := by decide +kernel
theorem d_M_init_265 : decode (xC k_M_init) 265 = .ok (.aload_n 0, 1) := by decide +kernel
theorem d_M_init_266 : decode (xC k_M_init) 266 = .ok (.getfield 61, 3) := by decide +kernel
theorem d_M_init_269 : decode (xC k_M_init) 269 = .ok (.iload_n 1, 1) := by decide +kernel
theorem d_M_init_270 : decode (xC k_M_init) 270 = .ok (.iconst (-1), 1) := by decide +kernel
theorem d_M_init_271 : decode (xC k_M_init) 271 = .ok (.iastore, 1) := by decide +kernel
theorem d_M_init_272 : decode (xC k_M_init) 272 = .ok (.iinc 1 1, 3) := by decide +kernel
theorem d_M_init_275 : decode (xC k_M_init) 275 = .ok (.goto (-16), 3) := by decide +kernel
theorem d_M_init_278 : decode (xC k_M_init) 278 = .ok (.return_, 1) := by decide +kernel
theorem d_M_thrown_0 : decode (xC k_M_thrown) 0 = .ok (.aload_n 0, 1) := by decide +kernel
theorem d_M_thrown_1 : decode (xC k_M_thrown) 1 = .ok (.getfield 101, 3) := by decide +kernel
theorem d_M_thrown_4 : decode (xC k_M_thrown) 4 = .ok (.ireturn, 1) := by decide +kernel
theorem d_M_goes_0 : decode (xC k_M_goes) 0 = .ok (.aload_n 0, 1) := by decide +kernel
theorem d_M_goes_1 : decode (xC k_M_goes) 1 = .ok (.iload_n 1, 1) := by decide +kernel
theorem d_M_goes_2 : decode (xC k_M_goes) 2 = .ok (.ifCond .ne 7, 3) := by decide +kernel
theorem d_M_goes_5 : decode (xC k_M_goes) 5 = .ok (.iconst 1, 1) := by decide +kernel
theorem d_M_goes_6 : decode (xC k_M_goes) 6 = .ok (.goto 20, 3) := by decide +kernel
theorem d_M_goes_9 : decode (xC k_M_goes) 9 = .ok (.iload_n 2, 1) := by decide +kernel
theorem d_M_goes_10 : decode (xC k_M_goes) 10 = .ok (.ifCond .ne 7, 3) := by decide +kernel
theorem d_M_goes_13 : decode (xC k_M_goes) 13 = .ok (.iconst 2, 1) := by decide +kernel
theorem d_M_goes_14 : decode (xC k_M_goes) 14 = .ok (.goto 12, 3) := by decide +kernel
theorem d_M_goes_17 : decode (xC k_M_goes) 17 = .ok (.iload_n 3, 1) := by decide +kernel
theorem d_M_goes_18 : decode (xC k_M_goes) 18 = .ok (.ifCond .ne 7, 3) := by decide +kernel
theorem d_M_goes_21 : decode (xC k_M_goes) 21 = .ok (.iconst 3, 1) := by decide +kernel
theorem d_M_goes_22 : decode (xC k_M_goes) 22 = .ok (.goto 4, 3) := by decide +kernel
theorem d_M_goes_25 : decode (xC k_M_goes) 25 = .ok (.iconst 0, 1) := by decide +kernel
theorem d_M_goes_26 : decode (xC k_M_goes) 26 = .ok (.putfield 101, 3) := by decide +kernel
theorem d_M_goes_29 : decode (xC k_M_goes) 29 = .ok (.aload_n 0, 1) := by decide +kernel
theorem d_M_goes_30 : decode (xC k_M_goes) 30 = .ok (.getfield 101, 3) := by decide +kernel
theorem d_M_goes_33 : decode (xC k_M_goes) 33 = .ok (.ifCond .ne 7, 3) := by decide +kernel
theorem d_M_goes_36 : decode (xC k_M_goes) 36 = .ok (.iconst 1, 1) := by decide +kernel
theorem d_M_goes_37 : decode (xC k_M_goes) 37 = .ok (.goto 4, 3) := by decide +kernel
theorem d_M_goes_40 : decode (xC k_M_goes) 40 = .ok (.iconst 0, 1) := by decide +kernel
theorem d_M_goes_41 : decode (xC k_M_goes) 41 = .ok (.ireturn, 1) := by decide +kernel
theorem d_M_within_0 : decode (xC k_M_within) 0 = .ok (.iload_n 0, 1) := by decide +kernel
theorem d_M_within_1 : decode (xC k_M_within) 1 = .ok (.iload_n 1, 1) := by decide +kernel
theorem d_M_within_2 : decode (xC k_M_within) 2 = .ok (.if_icmp .lt 12, 3) := by decide +kernel
theorem d_M_within_5 : decode (xC k_M_within) 5 = .ok (.iload_n 0, 1) := by decide +kernel
theorem d_M_within_6 : decode (xC k_M_within) 6 = .ok (.iload_n 2, 1) := by decide +kernel
theorem d_M_within_7 : decode (xC k_M_within) 7 = .ok (.if_icmp .gt 7, 3) := by decide +kernel
theorem d_M_within_10 : decode (xC k_M_within) 10 = .ok (.iconst 1, 1) := by decide +kernel
theorem d_M_within_11 : decode (xC k_M_within) 11 = .ok (.goto 4, 3) := by decide +kernel
theorem d_M_within_14 : decode (xC k_M_within) 14 = .ok (.iconst 0, 1) := by decide +kernel
theorem d_M_within_15 : decode (xC k_M_within) 15 = .ok (.ireturn, 1) := by decide +kernel
theorem d_M_isLoan_0 : decode (xC k_M_isLoan) 0 = .ok (.iload_n 1, 1) := by decide +kernel
theorem d_M_isLoan_1 : decode (xC k_M_isLoan) 1 = .ok (.ifCond .lt 15, 3) := by decide +kernel
theorem d_M_isLoan_4 : decode (xC k_M_isLoan) 4 = .ok (.iload_n 1, 1) := by decide +kernel
theorem d_M_isLoan_5 : decode (xC k_M_isLoan) 5 = .ok (.aload_n 0, 1) := by decide +kernel
theorem d_M_isLoan_6 : decode (xC k_M_isLoan) 6 = .ok (.getfield 105, 3) := by decide +kernel
theorem d_M_isLoan_9 : decode (xC k_M_isLoan) 9 = .ok (.if_icmp .ge 7, 3) := by decide +kernel
theorem d_M_isLoan_12 : decode (xC k_M_isLoan) 12 = .ok (.iconst 1, 1) := by decide +kernel
theorem d_M_isLoan_13 : decode (xC k_M_isLoan) 13 = .ok (.goto 4, 3) := by decide +kernel
theorem d_M_isLoan_16 : decode (xC k_M_isLoan) 16 = .ok (.iconst 0, 1) := by decide +kernel
theorem d_M_isLoan_17 : decode (xC k_M_isLoan) 17 = .ok (.ireturn, 1) := by decide +kernel
theorem d_M_isThing_0 : decode (xC k_M_isThing) 0 = .ok (.iload_n 0, 1) := by decide +kernel
theorem d_M_isThing_1 : decode (xC k_M_isThing) 1 = .ok (.ifCond .lt 13, 3) := by decide +kernel
theorem d_M_isThing_4 : decode (xC k_M_isThing) 4 = .ok (.iload_n 0, 1) := by decide +kernel
theorem d_M_isThing_5 : decode (xC k_M_isThing) 5 = .ok (.bipush 16, 2) := by decide +kernel
theorem d_M_isThing_7 : decode (xC k_M_isThing) 7 = .ok (.if_icmp .ge 7, 3) := by decide +kernel
theorem d_M_isThing_10 : decode (xC k_M_isThing) 10 = .ok (.iconst 1, 1) := by decide +kernel
theorem d_M_isThing_11 : decode (xC k_M_isThing) 11 = .ok (.goto 4, 3) := by decide +kernel
theorem d_M_isThing_14 : decode (xC k_M_isThing) 14 = .ok (.iconst 0, 1) := by decide +kernel
theorem d_M_isThing_15 : decode (xC k_M_isThing) 15 = .ok (.ireturn, 1) := by decide +kernel
theorem d_M_areDays_0 : decode (xC k_M_areDays) 0 = .ok (.iload_n 0, 1) := by decide +kernel
theorem d_M_areDays_1 : decode (xC k_M_areDays) 1 = .ok (.ifCond .lt 18, 3) := by decide +kernel
theorem d_M_areDays_4 : decode (xC k_M_areDays) 4 = .ok (.iload_n 0, 1) := by decide +kernel
theorem d_M_areDays_5 : decode (xC k_M_areDays) 5 = .ok (.iload_n 1, 1) := by decide +kernel
theorem d_M_areDays_6 : decode (xC k_M_areDays) 6 = .ok (.if_icmp .gt 13, 3) := by decide +kernel
theorem d_M_areDays_9 : decode (xC k_M_areDays) 9 = .ok (.iload_n 1, 1) := by decide +kernel
theorem d_M_areDays_10 : decode (xC k_M_areDays) 10 = .ok (.ldc 108, 2) := by decide +kernel
theorem d_M_areDays_12 : decode (xC k_M_areDays) 12 = .ok (.if_icmp .gt 7, 3) := by decide +kernel
theorem d_M_areDays_15 : decode (xC k_M_areDays) 15 = .ok (.iconst 1, 1) := by decide +kernel
theorem d_M_areDays_16 : decode (xC k_M_areDays) 16 = .ok (.goto 4, 3) := by decide +kernel
theorem d_M_areDays_19 : decode (xC k_M_areDays) 19 = .ok (.iconst 0, 1) := by decide +kernel
theorem d_M_areDays_20 : decode (xC k_M_areDays) 20 = .ok (.ireturn, 1) := by decide +kernel
theorem d_M_unit_0 : decode (xC k_M_unit) 0 = .ok (.aload_n 0, 1) := by decide +kernel
theorem d_M_unit_1 : decode (xC k_M_unit) 1 = .ok (.aload_n 0, 1) := by decide +kernel
theorem d_M_unit_2 : decode (xC k_M_unit) 2 = .ok (.getfield 109, 3) := by decide +kernel
theorem d_M_unit_5 : decode (xC k_M_unit) 5 = .ok (.bipush 80, 2) := by decide +kernel
theorem d_M_unit_7 : decode (xC k_M_unit) 7 = .ok (.if_icmp .ge 7, 3) := by decide +kernel
theorem d_M_unit_10 : decode (xC k_M_unit) 10 = .ok (.iconst 1, 1) := by decide +kernel
theorem d_M_unit_11 : decode (xC k_M_unit) 11 = .ok (.goto 4, 3) := by decide +kernel
theorem d_M_unit_14 : decode (xC k_M_unit) 14 = .ok (.iconst 0, 1) := by decide +kernel
theorem d_M_unit_15 : decode (xC k_M_unit) 15 = .ok (.iload_n 1, 1) := by decide +kernel
theorem d_M_unit_16 : decode (xC k_M_unit) 16 = .ok (.bipush 33, 2) := by decide +kernel
theorem d_M_unit_18 : decode (xC k_M_unit) 18 = .ok (.bipush 126, 2) := by decide +kernel
theorem d_M_unit_20 : decode (xC k_M_unit) 20 = .ok (.invokestatic 112, 3) := by decide +kernel
theorem d_M_unit_23 : decode (xC k_M_unit) 23 = .ok (.iconst 1, 1) := by decide +kernel
theorem d_M_unit_24 : decode (xC k_M_unit) 24 = .ok (.invokevirtual 116, 3) := by decide +kernel
theorem d_M_unit_27 : decode (xC k_M_unit) 27 = .ok (.ifCond .ne 5, 3) := by decide +kernel
theorem d_M_unit_30 : decode (xC k_M_unit) 30 = .ok (.iconst 0, 1) := by decide +kernel
theorem d_M_unit_31 : decode (xC k_M_unit) 31 = .ok (.ireturn, 1) := by decide +kernel
theorem d_M_unit_32 : decode (xC k_M_unit) 32 = .ok (.aload_n 0, 1) := by decide +kernel
theorem d_M_unit_33 : decode (xC k_M_unit) 33 = .ok (.getfield 7, 3) := by decide +kernel
theorem d_M_unit_36 : decode (xC k_M_unit) 36 = .ok (.aload_n 0, 1) := by decide +kernel
theorem d_M_unit_37 : decode (xC k_M_unit) 37 = .ok (.getfield 109, 3) := by decide +kernel
theorem d_M_unit_40 : decode (xC k_M_unit) 40 = .ok (.iload_n 1, 1) := by decide +kernel
theorem d_M_unit_41 : decode (xC k_M_unit) 41 = .ok (.iastore, 1) := by decide +kernel
theorem d_M_unit_42 : decode (xC k_M_unit) 42 = .ok (.aload_n 0, 1) := by decide +kernel
theorem d_M_unit_43 : decode (xC k_M_unit) 43 = .ok (.dup, 1) := by decide +kernel
theorem d_M_unit_44 : decode (xC k_M_unit) 44 = .ok (.getfield 109, 3) := by decide +kernel
theorem d_M_unit_47 : decode (xC k_M_unit) 47 = .ok (.iconst 1, 1) := by decide +kernel
theorem d_M_unit_48 : decode (xC k_M_unit) 48 = .ok (.iadd, 1) := by decide +kernel
theorem d_M_unit_49 : decode (xC k_M_unit) 49 = .ok (.putfield 109, 3) := by decide +kernel
theorem d_M_unit_52 : decode (xC k_M_unit) 52 = .ok (.aload_n 0, 1) := by decide +kernel
theorem d_M_unit_53 : decode (xC k_M_unit) 53 = .ok (.getfield 109, 3) := by decide +kernel
theorem d_M_unit_56 : decode (xC k_M_unit) 56 = .ok (.ireturn, 1) := by decide +kernel
theorem d_M_isDigit_0 : decode (xC k_M_isDigit) 0 = .ok (.iload_n 0, 1) := by decide +kernel
theorem d_M_isDigit_1 : decode (xC k_M_isDigit) 1 = .ok (.bipush 48, 2) := by decide +kernel
theorem d_M_isDigit_3 : decode (xC k_M_isDigit) 3 = .ok (.if_icmp .lt 13, 3) := by decide +kernel
theorem d_M_isDigit_6 : decode (xC k_M_isDigit) 6 = .ok (.iload_n 0, 1) := by decide +kernel
theorem d_M_isDigit_7 : decode (xC k_M_isDigit) 7 = .ok (.bipush 57, 2) := by decide +kernel
theorem d_M_isDigit_9 : decode (xC k_M_isDigit) 9 = .ok (.if_icmp .gt 7, 3) := by decide +kernel
theorem d_M_isDigit_12 : decode (xC k_M_isDigit) 12 = .ok (.iconst 1, 1) := by decide +kernel
theorem d_M_isDigit_13 : decode (xC k_M_isDigit) 13 = .ok (.goto 4, 3) := by decide +kernel
theorem d_M_isDigit_16 : decode (xC k_M_isDigit) 16 = .ok (.iconst 0, 1) := by decide +kernel
theorem d_M_isDigit_17 : decode (xC k_M_isDigit) 17 = .ok (.ireturn, 1) := by decide +kernel
theorem d_M_isName_0 : decode (xC k_M_isName) 0 = .ok (.iload_n 0, 1) := by decide +kernel
theorem d_M_isName_1 : decode (xC k_M_isName) 1 = .ok (.bipush 97, 2) := by decide +kernel
theorem d_M_isName_3 : decode (xC k_M_isName) 3 = .ok (.if_icmp .lt 9, 3) := by decide +kernel
theorem d_M_isName_6 : decode (xC k_M_isName) 6 = .ok (.iload_n 0, 1) := by decide +kernel
theorem d_M_isName_7 : decode (xC k_M_isName) 7 = .ok (.bipush 104, 2) := by decide +kernel
theorem d_M_isName_9 : decode (xC k_M_isName) 9 = .ok (.if_icmp .le 15, 3) := by decide +kernel
theorem d_M_isName_12 : decode (xC k_M_isName) 12 = .ok (.iload_n 0, 1) := by decide +kernel
theorem d_M_isName_13 : decode (xC k_M_isName) 13 = .ok (.bipush 121, 2) := by decide +kernel
theorem d_M_isName_15 : decode (xC k_M_isName) 15 = .ok (.if_icmp .eq 9, 3) := by decide +kernel
theorem d_M_isName_18 : decode (xC k_M_isName) 18 = .ok (.iload_n 0, 1) := by decide +kernel
theorem d_M_isName_19 : decode (xC k_M_isName) 19 = .ok (.bipush 122, 2) := by decide +kernel
theorem d_M_isName_21 : decode (xC k_M_isName) 21 = .ok (.if_icmp .ne 7, 3) := by decide +kernel
theorem d_M_isName_24 : decode (xC k_M_isName) 24 = .ok (.iconst 1, 1) := by decide +kernel
theorem d_M_isName_25 : decode (xC k_M_isName) 25 = .ok (.goto 4, 3) := by decide +kernel
theorem d_M_isName_28 : decode (xC k_M_isName) 28 = .ok (.iconst 0, 1) := by decide +kernel
theorem d_M_isName_29 : decode (xC k_M_isName) 29 = .ok (.ireturn, 1) := by decide +kernel
theorem d_M_fault_0 : decode (xC k_M_fault) 0 = .ok (.iconst 0, 1) := by decide +kernel
theorem d_M_fault_1 : decode (xC k_M_fault) 1 = .ok (.istore_n 1, 1) := by decide +kernel
theorem d_M_fault_2 : decode (xC k_M_fault) 2 = .ok (.iconst 0, 1) := by decide +kernel
theorem d_M_fault_3 : decode (xC k_M_fault) 3 = .ok (.istore_n 2, 1) := by decide +kernel
theorem d_M_fault_4 : decode (xC k_M_fault) 4 = .ok (.iconst 0, 1) := by decide +kernel
theorem d_M_fault_5 : decode (xC k_M_fault) 5 = .ok (.istore_n 3, 1) := by decide +kernel
theorem d_M_fault_6 : decode (xC k_M_fault) 6 = .ok (.iconst 1, 1) := by decide +kernel
theorem d_M_fault_7 : decode (xC k_M_fault) 7 = .ok (.istore 4, 2) := by decide +kernel
theorem d_M_fault_9 : decode (xC k_M_fault) 9 = .ok (.iconst 0, 1) := by decide +kernel
theorem d_M_fault_10 : decode (xC k_M_fault) 10 = .ok (.istore 5, 2) := by decide +kernel
theorem d_M_fault_12 : decode (xC k_M_fault) 12 = .ok (.iconst 0, 1) := by decide +kernel
theorem d_M_fault_13 : decode (xC k_M_fault) 13 = .ok (.istore 6, 2) := by decide +kernel
theorem d_M_fault_15 : decode (xC k_M_fault) 15 = .ok (.iload 6, 2) := by decide +kernel
theorem d_M_fault_17 : decode (xC k_M_fault) 17 = .ok (.aload_n 0, 1) := by decide +kernel
theorem d_M_fault_18 : decode (xC k_M_fault) 18 = .ok (.getfield 109, 3) := by decide +kernel
theorem d_M_fault_21 : decode (xC k_M_fault) 21 = .ok (.if_icmp .ge 351, 3) := by decide +kernel
theorem d_M_fault_24 : decode (xC k_M_fault) 24 = .ok (.aload_n 0, 1) := by decide +kernel
theorem d_M_fault_25 : decode (xC k_M_fault) 25 = .ok (.getfield 7, 3) := by decide +kernel
theorem d_M_fault_28 : decode (xC k_M_fault) 28 = .ok (.iload 6, 2) := by decide +kernel
theorem d_M_fault_30 : decode (xC k_M_fault) 30 = .ok (.iaload, 1) := by decide +kernel
theorem d_M_fault_31 : decode (xC k_M_fault) 31 = .ok (.istore 7, 2) := by decide +kernel
theorem d_M_fault_33 : decode (xC k_M_fault) 33 = .ok (.iconst 0, 1) := by decide +kernel
theorem d_M_fault_34 : decode (xC k_M_fault) 34 = .ok (.istore 8, 2) := by decide +kernel
theorem d_M_fault_36 : decode (xC k_M_fault) 36 = .ok (.iload_n 1, 1) := by decide +kernel
theorem d_M_fault_37 : decode (xC k_M_fault) 37 = .ok (.ifCond .ne 109, 3) := by decide +kernel
theorem d_M_fault_40 : decode (xC k_M_fault) 40 = .ok (.iload 7, 2) := by decide +kernel
theorem d_M_fault_42 : decode (xC k_M_fault) 42 = .ok (.bipush 33, 2) := by decide +kernel
theorem d_M_fault_44 : decode (xC k_M_fault) 44 = .ok (.if_icmp .ne 12, 3) := by decide +kernel
theorem d_M_fault_47 : decode (xC k_M_fault) 47 = .ok (.iload_n 2, 1) := by decide +kernel
theorem d_M_fault_48 : decode (xC k_M_fault) 48 = .ok (.iconst 3, 1) := by decide +kernel
theorem d_M_fault_49 : decode (xC k_M_fault) 49 = .ok (.if_icmp .ge 7, 3) := by decide +kernel
theorem d_M_fault_52 : decode (xC k_M_fault) 52 = .ok (.iconst 1, 1) := by decide +kernel
theorem d_M_fault_53 : decode (xC k_M_fault) 53 = .ok (.goto 4, 3) := by decide +kernel
theorem d_M_fault_56 : decode (xC k_M_fault) 56 = .ok (.iconst 0, 1) := by decide +kernel
theorem d_M_fault_57 : decode (xC k_M_fault) 57 = .ok (.istore 9, 2) := by decide +kernel
theorem d_M_fault_59 : decode (xC k_M_fault) 59 = .ok (.iload 7, 2) := by decide +kernel
theorem d_M_fault_61 : decode (xC k_M_fault) 61 = .ok (.bipush 40, 2) := by decide +kernel
theorem d_M_fault_63 : decode (xC k_M_fault) 63 = .ok (.if_icmp .ne 12, 3) := by decide +kernel
theorem d_M_fault_66 : decode (xC k_M_fault) 66 = .ok (.iload_n 3, 1) := by decide +kernel
theorem d_M_fault_67 : decode (xC k_M_fault) 67 = .ok (.iconst 5, 1) := by decide +kernel
theorem d_M_fault_68 : decode (xC k_M_fault) 68 = .ok (.if_icmp .ge 7, 3) := by decide +kernel
theorem d_M_fault_71 : decode (xC k_M_fault) 71 = .ok (.iconst 1, 1) := by decide +kernel
theorem d_M_fault_72 : decode (xC k_M_fault) 72 = .ok (.goto 4, 3) := by decide +kernel
theorem d_M_fault_75 : decode (xC k_M_fault) 75 = .ok (.iconst 0, 1) := by decide +kernel
theorem d_M_fault_76 : decode (xC k_M_fault) 76 = .ok (.istore 10, 2) := by decide +kernel
theorem d_M_fault_78 : decode (xC k_M_fault) 78 = .ok (.iload 9, 2) := by decide +kernel
theorem d_M_fault_80 : decode (xC k_M_fault) 80 = .ok (.ifCond .ne 16, 3) := by decide +kernel
theorem d_M_fault_83 : decode (xC k_M_fault) 83 = .ok (.iload 10, 2) := by decide +kernel
theorem d_M_fault_85 : decode (xC k_M_fault) 85 = .ok (.ifCond .ne 11, 3) := by decide +kernel
theorem d_M_fault_88 : decode (xC k_M_fault) 88 = .ok (.iload 7, 2) := by decide +kernel
theorem d_M_fault_90 : decode (xC k_M_fault) 90 = .ok (.invokestatic 120, 3) := by decide +kernel
theorem d_M_fault_93 : decode (xC k_M_fault) 93 = .ok (.ifCond .eq 7, 3) := by decide +kernel
theorem d_M_fault_96 : decode (xC k_M_fault) 96 = .ok (.iconst 1, 1) := by decide +kernel
theorem d_M_fault_97 : decode (xC k_M_fault) 97 = .ok (.goto 4, 3) := by decide +kernel
theorem d_M_fault_100 : decode (xC k_M_fault) 100 = .ok (.iconst 0, 1) := by decide +kernel
theorem d_M_fault_101 : decode (xC k_M_fault) 101 = .ok (.istore 8, 2) := by decide +kernel
theorem d_M_fault_103 : decode (xC k_M_fault) 103 = .ok (.iload 9, 2) := by decide +kernel
theorem d_M_fault_105 : decode (xC k_M_fault) 105 = .ok (.ifCond .eq 9, 3) := by decide +kernel
theorem d_M_fault_108 : decode (xC k_M_fault) 108 = .ok (.iload_n 2, 1) := by decide +kernel
theorem d_M_fault_109 : decode (xC k_M_fault) 109 = .ok (.iconst 1, 1) := by decide +kernel
theorem d_M_fault_110 : decode (xC k_M_fault) 110 = .ok (.iadd, 1) := by decide +kernel
theorem d_M_fault_111 : decode (xC k_M_fault) 111 = .ok (.goto 4, 3) := by decide +kernel
theorem d_M_fault_114 : decode (xC k_M_fault) 114 = .ok (.iconst 0, 1) := by decide +kernel
theorem d_M_fault_115 : decode (xC k_M_fault) 115 = .ok (.istore_n 2, 1) := by decide +kernel
theorem d_M_fault_116 : decode (xC k_M_fault) 116 = .ok (.iload 10, 2) := by decide +kernel
theorem d_M_fault_118 : decode (xC k_M_fault) 118 = .ok (.ifCond .eq 9, 3) := by decide +kernel
theorem d_M_fault_121 : decode (xC k_M_fault) 121 = .ok (.iload_n 3, 1) := by decide +kernel
theorem d_M_fault_122 : decode (xC k_M_fault) 122 = .ok (.iconst 1, 1) := by decide +kernel
theorem d_M_fault_123 : decode (xC k_M_fault) 123 = .ok (.iadd, 1) := by decide +kernel
theorem d_M_fault_124 : decode (xC k_M_fault) 124 = .ok (.goto 4, 3) := by decide +kernel
theorem d_M_fault_127 : decode (xC k_M_fault) 127 = .ok (.iload_n 3, 1) := by decide +kernel
theorem d_M_fault_128 : decode (xC k_M_fault) 128 = .ok (.istore_n 3, 1) := by decide +kernel
theorem d_M_fault_129 : decode (xC k_M_fault) 129 = .ok (.iload 7, 2) := by decide +kernel
theorem d_M_fault_131 : decode (xC k_M_fault) 131 = .ok (.invokestatic 120, 3) := by decide +kernel
theorem d_M_fault_134 : decode (xC k_M_fault) 134 = .ok (.ifCond .eq 7, 3) := by decide +kernel
theorem d_M_fault_137 : decode (xC k_M_fault) 137 = .ok (.iconst 1, 1) := by decide +kernel
theorem d_M_fault_138 : decode (xC k_M_fault) 138 = .ok (.goto 4, 3) := by decide +kernel
theorem d_M_fault_141 : decode (xC k_M_fault) 141 = .ok (.iconst 0, 1) := by decide +kernel
theorem d_M_fault_142 : decode (xC k_M_fault) 142 = .ok (.istore_n 1, 1) := by decide +kernel
theorem d_M_fault_143 : decode (xC k_M_fault) 143 = .ok (.goto 215, 3) := by decide +kernel
theorem d_M_fault_146 : decode (xC k_M_fault) 146 = .ok (.iload_n 1, 1) := by decide +kernel
theorem d_M_fault_147 : decode (xC k_M_fault) 147 = .ok (.iconst 1, 1) := by decide +kernel
theorem d_M_fault_148 : decode (xC k_M_fault) 148 = .ok (.if_icmp .ne 36, 3) := by decide +kernel
theorem d_M_fault_151 : decode (xC k_M_fault) 151 = .ok (.iload 7, 2) := by decide +kernel
theorem d_M_fault_153 : decode (xC k_M_fault) 153 = .ok (.bipush 60, 2) := by decide +kernel
theorem d_M_fault_155 : decode (xC k_M_fault) 155 = .ok (.if_icmp .eq 17, 3) := by decide +kernel
theorem d_M_fault_158 : decode (xC k_M_fault) 158 = .ok (.iload 7, 2) := by decide +kernel
theorem d_M_fault_160 : decode (xC k_M_fault) 160 = .ok (.bipush 61, 2) := by decide +kernel
theorem d_M_fault_162 : decode (xC k_M_fault) 162 = .ok (.if_icmp .eq 10, 3) := by decide +kernel
theorem d_M_fault_165 : decode (xC k_M_fault) 165 = .ok (.iload 7, 2) := by decide +kernel
theorem d_M_fault_167 : decode (xC k_M_fault) 167 = .ok (.bipush 62, 2) := by decide +kernel
theorem d_M_fault_169 : decode (xC k_M_fault) 169 = .ok (.if_icmp .ne 7, 3) := by decide +kernel
theorem d_M_fault_172 : decode (xC k_M_fault) 172 = .ok (.iconst 1, 1) := by decide +kernel
theorem d_M_fault_173 : decode (xC k_M_fault) 173 = .ok (.goto 4, 3) := by decide +kernel
theorem d_M_fault_176 : decode (xC k_M_fault) 176 = .ok (.iconst 0, 1) := by decide +kernel
theorem d_M_fault_177 : decode (xC k_M_fault) 177 = .ok (.istore 8, 2) := by decide +kernel
theorem d_M_fault_179 : decode (xC k_M_fault) 179 = .ok (.iconst 2, 1) := by decide +kernel
theorem d_M_fault_180 : decode (xC k_M_fault) 180 = .ok (.istore_n 1, 1) := by decide +kernel
theorem d_M_fault_181 : decode (xC k_M_fault) 181 = .ok (.goto 177, 3) := by decide +kernel
theorem d_M_fault_184 : decode (xC k_M_fault) 184 = .ok (.iload_n 1, 1) := by decide +kernel
theorem d_M_fault_185 : decode (xC k_M_fault) 185 = .ok (.iconst 2, 1) := by decide +kernel
theorem d_M_fault_186 : decode (xC k_M_fault) 186 = .ok (.if_icmp .eq 16, 3) := by decide +kernel
theorem d_M_fault_189 : decode (xC k_M_fault) 189 = .ok (.iload_n 1, 1) := by decide +kernel
theorem d_M_fault_190 : decode (xC k_M_fault) 190 = .ok (.iconst 3, 1) := by decide +kernel
theorem d_M_fault_191 : decode (xC k_M_fault) 191 = .ok (.if_icmp .ne 53, 3) := by decide +kernel
theorem d_M_fault_194 : decode (xC k_M_fault) 194 = .ok (.iload 7, 2) := by decide +kernel
theorem d_M_fault_196 : decode (xC k_M_fault) 196 = .ok (.invokestatic 124, 3) := by decide +kernel
theorem d_M_fault_199 : decode (xC k_M_fault) 199 = .ok (.ifCond .eq 45, 3) := by decide +kernel
theorem d_M_fault_202 : decode (xC k_M_fault) 202 = .ok (.iload_n 1, 1) := by decide +kernel
theorem d_M_fault_203 : decode (xC k_M_fault) 203 = .ok (.iconst 2, 1) := by decide +kernel
theorem d_M_fault_204 : decode (xC k_M_fault) 204 = .ok (.if_icmp .ne 7, 3) := by decide +kernel
theorem d_M_fault_207 : decode (xC k_M_fault) 207 = .ok (.iconst 1, 1) := by decide +kernel
theorem d_M_fault_208 : decode (xC k_M_fault) 208 = .ok (.goto 7, 3) := by decide +kernel
theorem d_M_fault_211 : decode (xC k_M_fault) 211 = .ok (.iload 5, 2) := by decide +kernel
theorem d_M_fault_213 : decode (xC k_M_fault) 213 = .ok (.iconst 1, 1) := by decide +kernel
theorem d_M_fault_214 : decode (xC k_M_fault) 214 = .ok (.iadd, 1) := by decide +kernel
theorem d_M_fault_215 : decode (xC k_M_fault) 215 = .ok (.istore 5, 2) := by decide +kernel
theorem d_M_fault_217 : decode (xC k_M_fault) 217 = .ok (.iload 7, 2) := by decide +kernel
theorem d_M_fault_219 : decode (xC k_M_fault) 219 = .ok (.invokestatic 124, 3) := by decide +kernel
theorem d_M_fault_222 : decode (xC k_M_fault) 222 = .ok (.ifCond .eq 14, 3) := by decide +kernel
theorem d_M_fault_225 : decode (xC k_M_fault) 225 = .ok (.iload 5, 2) := by decide +kernel
theorem d_M_fault_227 : decode (xC k_M_fault) 227 = .ok (.bipush 7, 2) := by decide +kernel
theorem d_M_fault_229 : decode (xC k_M_fault) 229 = .ok (.if_icmp .ge 7, 3) := by decide +kernel
theorem d_M_fault_232 : decode (xC k_M_fault) 232 = .ok (.iconst 1, 1) := by decide +kernel
theorem d_M_fault_233 : decode (xC k_M_fault) 233 = .ok (.goto 4, 3) := by decide +kernel
theorem d_M_fault_236 : decode (xC k_M_fault) 236 = .ok (.iconst 0, 1) := by decide +kernel
theorem d_M_fault_237 : decode (xC k_M_fault) 237 = .ok (.istore 8, 2) := by decide +kernel
theorem d_M_fault_239 : decode (xC k_M_fault) 239 = .ok (.iconst 3, 1) := by decide +kernel
theorem d_M_fault_240 : decode (xC k_M_fault) 240 = .ok (.istore_n 1, 1) := by decide +kernel
theorem d_M_fault_241 : decode (xC k_M_fault) 241 = .ok (.goto 117, 3) := by decide +kernel
theorem d_M_fault_244 : decode (xC k_M_fault) 244 = .ok (.iload 7, 2) := by decide +kernel
theorem d_M_fault_246 : decode (xC k_M_fault) 246 = .ok (.bipush 41, 2) := by decide +kernel
theorem d_M_fault_248 : decode (xC k_M_fault) 248 = .ok (.if_icmp .ne 11, 3) := by decide +kernel
theorem d_M_fault_251 : decode (xC k_M_fault) 251 = .ok (.iload_n 3, 1) := by decide +kernel
theorem d_M_fault_252 : decode (xC k_M_fault) 252 = .ok (.ifCond .le 7, 3) := by decide +kernel
theorem d_M_fault_255 : decode (xC k_M_fault) 255 = .ok (.iconst 1, 1) := by decide +kernel
theorem d_M_fault_256 : decode (xC k_M_fault) 256 = .ok (.goto 4, 3) := by decide +kernel
theorem d_M_fault_259 : decode (xC k_M_fault) 259 = .ok (.iconst 0, 1) := by decide +kernel
theorem d_M_fault_260 : decode (xC k_M_fault) 260 = .ok (.istore 9, 2) := by decide +kernel
theorem d_M_fault_262 : decode (xC k_M_fault) 262 = .ok (.iload 7, 2) := by decide +kernel
theorem d_M_fault_264 : decode (xC k_M_fault) 264 = .ok (.bipush 59, 2) := by decide +kernel
theorem d_M_fault_266 : decode (xC k_M_fault) 266 = .ok (.if_icmp .ne 18, 3) := by decide +kernel
theorem d_M_fault_269 : decode (xC k_M_fault) 269 = .ok (.iload_n 3, 1) := by decide +kernel
theorem d_M_fault_270 : decode (xC k_M_fault) 270 = .ok (.ifCond .ne 14, 3) := by decide +kernel
theorem d_M_fault_273 : decode (xC k_M_fault) 273 = .ok (.iload 4, 2) := by decide +kernel
theorem d_M_fault_275 : decode (xC k_M_fault) 275 = .ok (.bipush 6, 2) := by decide +kernel
theorem d_M_fault_277 : decode (xC k_M_fault) 277 = .ok (.if_icmp .ge 7, 3) := by decide +kernel
theorem d_M_fault_280 : decode (xC k_M_fault) 280 = .ok (.iconst 1, 1) := by decide +kernel
theorem d_M_fault_281 : decode (xC k_M_fault) 281 = .ok (.goto 4, 3) := by decide +kernel
theorem d_M_fault_284 : decode (xC k_M_fault) 284 = .ok (.iconst 0, 1) := by decide +kernel
theorem d_M_fault_285 : decode (xC k_M_fault) 285 = .ok (.istore 10, 2) := by decide +kernel
theorem d_M_fault_287 : decode (xC k_M_fault) 287 = .ok (.iload 7, 2) := by decide +kernel
theorem d_M_fault_289 : decode (xC k_M_fault) 289 = .ok (.bipush 38, 2) := by decide +kernel
theorem d_M_fault_291 : decode (xC k_M_fault) 291 = .ok (.if_icmp .eq 20, 3) := by decide +kernel
theorem d_M_fault_294 : decode (xC k_M_fault) 294 = .ok (.iload 7, 2) := by decide +kernel
theorem d_M_fault_296 : decode (xC k_M_fault) 296 = .ok (.bipush 124, 2) := by decide +kernel
theorem d_M_fault_298 : decode (xC k_M_fault) 298 = .ok (.if_icmp .eq 13, 3) := by decide +kernel
theorem d_M_fault_301 : decode (xC k_M_fault) 301 = .ok (.iload 9, 2) := by decide +kernel
theorem d_M_fault_303 : decode (xC k_M_fault) 303 = .ok (.ifCond .ne 8, 3) := by decide +kernel
theorem d_M_fault_306 : decode (xC k_M_fault) 306 = .ok (.iload 10, 2) := by decide +kernel
theorem d_M_fault_308 : decode (xC k_M_fault) 308 = .ok (.ifCond .eq 7, 3) := by decide +kernel
theorem d_M_fault_311 : decode (xC k_M_fault) 311 = .ok (.iconst 1, 1) := by decide +kernel
theorem d_M_fault_312 : decode (xC k_M_fault) 312 = .ok (.goto 4, 3) := by decide +kernel
theorem d_M_fault_315 : decode (xC k_M_fault) 315 = .ok (.iconst 0, 1) := by decide +kernel
theorem d_M_fault_316 : decode (xC k_M_fault) 316 = .ok (.istore 8, 2) := by decide +kernel
theorem d_M_fault_318 : decode (xC k_M_fault) 318 = .ok (.iload 9, 2) := by decide +kernel
theorem d_M_fault_320 : decode (xC k_M_fault) 320 = .ok (.ifCond .eq 9, 3) := by decide +kernel
theorem d_M_fault_323 : decode (xC k_M_fault) 323 = .ok (.iload_n 3, 1) := by decide +kernel
theorem d_M_fault_324 : decode (xC k_M_fault) 324 = .ok (.iconst 1, 1) := by decide +kernel
theorem d_M_fault_325 : decode (xC k_M_fault) 325 = .ok (.isub, 1) := by decide +kernel
theorem d_M_fault_326 : decode (xC k_M_fault) 326 = .ok (.goto 4, 3) := by decide +kernel
theorem d_M_fault_329 : decode (xC k_M_fault) 329 = .ok (.iload_n 3, 1) := by decide +kernel
theorem d_M_fault_330 : decode (xC k_M_fault) 330 = .ok (.istore_n 3, 1) := by decide +kernel
theorem d_M_fault_331 : decode (xC k_M_fault) 331 = .ok (.iload 10, 2) := by decide +kernel
theorem d_M_fault_333 : decode (xC k_M_fault) 333 = .ok (.ifCond .eq 10, 3) := by decide +kernel
theorem d_M_fault_336 : decode (xC k_M_fault) 336 = .ok (.iload 4, 2) := by decide +kernel
theorem d_M_fault_338 : decode (xC k_M_fault) 338 = .ok (.iconst 1, 1) := by decide +kernel
theorem d_M_fault_339 : decode (xC k_M_fault) 339 = .ok (.iadd, 1) := by decide +kernel
theorem d_M_fault_340 : decode (xC k_M_fault) 340 = .ok (.goto 5, 3) := by decide +kernel
theorem d_M_fault_343 : decode (xC k_M_fault) 343 = .ok (.iload 4, 2) := by decide +kernel
theorem d_M_fault_345 : decode (xC k_M_fault) 345 = .ok (.istore 4, 2) := by decide +kernel
theorem d_M_fault_347 : decode (xC k_M_fault) 347 = .ok (.iload 9, 2) := by decide +kernel
theorem d_M_fault_349 : decode (xC k_M_fault) 349 = .ok (.ifCond .eq 7, 3) := by decide +kernel
theorem d_M_fault_352 : decode (xC k_M_fault) 352 = .ok (.iconst 4, 1) := by decide +kernel
theorem d_M_fault_353 : decode (xC k_M_fault) 353 = .ok (.goto 4, 3) := by decide +kernel
theorem d_M_fault_356 : decode (xC k_M_fault) 356 = .ok (.iconst 0, 1) := by decide +kernel
theorem d_M_fault_357 : decode (xC k_M_fault) 357 = .ok (.istore_n 1, 1) := by decide +kernel
theorem d_M_fault_358 : decode (xC k_M_fault) 358 = .ok (.iload 8, 2) := by decide +kernel
theorem d_M_fault_360 : decode (xC k_M_fault) 360 = .ok (.ifCond .ne 6, 3) := by decide +kernel
theorem d_M_fault_363 : decode (xC k_M_fault) 363 = .ok (.iload 6, 2) := by decide +kernel
theorem d_M_fault_365 : decode (xC k_M_fault) 365 = .ok (.ireturn, 1) := by decide +kernel
theorem d_M_fault_366 : decode (xC k_M_fault) 366 = .ok (.iinc 6 1, 3) := by decide +kernel
theorem d_M_fault_369 : decode (xC k_M_fault) 369 = .ok (.goto (-354), 3) := by decide +kernel
theorem d_M_fault_372 : decode (xC k_M_fault) 372 = .ok (.iload_n 1, 1) := by decide +kernel
theorem d_M_fault_373 : decode (xC k_M_fault) 373 = .ok (.iconst 2, 1) := by decide +kernel
theorem d_M_fault_374 : decode (xC k_M_fault) 374 = .ok (.if_icmp .le 11, 3) := by decide +kernel
theorem d_M_fault_377 : decode (xC k_M_fault) 377 = .ok (.iload_n 3, 1) := by decide +kernel
theorem d_M_fault_378 : decode (xC k_M_fault) 378 = .ok (.ifCond .ne 7, 3) := by decide +kernel
theorem d_M_fault_381 : decode (xC k_M_fault) 381 = .ok (.iconst (-1), 1) := by decide +kernel
theorem d_M_fault_382 : decode (xC k_M_fault) 382 = .ok (.goto 7, 3) := by decide +kernel
theorem d_M_fault_385 : decode (xC k_M_fault) 385 = .ok (.aload_n 0, 1) := by decide +kernel
theorem d_M_fault_386 : decode (xC k_M_fault) 386 = .ok (.getfield 109, 3) := by decide +kernel
theorem d_M_fault_389 : decode (xC k_M_fault) 389 = .ok (.ireturn, 1) := by decide +kernel
theorem d_M_node_0 : decode (xC k_M_node) 0 = .ok (.sipush 160, 3) := by decide +kernel
theorem d_M_node_3 : decode (xC k_M_node) 3 = .ok (.iload_n 1, 1) := by decide +kernel
theorem d_M_node_4 : decode (xC k_M_node) 4 = .ok (.imul, 1) := by decide +kernel
theorem d_M_node_5 : decode (xC k_M_node) 5 = .ok (.aload_n 0, 1) := by decide +kernel
theorem d_M_node_6 : decode (xC k_M_node) 6 = .ok (.getfield 19, 3) := by decide +kernel
theorem d_M_node_9 : decode (xC k_M_node) 9 = .ok (.iload_n 1, 1) := by decide +kernel
theorem d_M_node_10 : decode (xC k_M_node) 10 = .ok (.iaload, 1) := by decide +kernel
theorem d_M_node_11 : decode (xC k_M_node) 11 = .ok (.iadd, 1) := by decide +kernel
theorem d_M_node_12 : decode (xC k_M_node) 12 = .ok (.istore 4, 2) := by decide +kernel
theorem d_M_node_14 : decode (xC k_M_node) 14 = .ok (.aload_n 0, 1) := by decide +kernel
theorem d_M_node_15 : decode (xC k_M_node) 15 = .ok (.getfield 22, 3) := by decide +kernel
theorem d_M_node_18 : decode (xC k_M_node) 18 = .ok (.iload 4, 2) := by decide +kernel
theorem d_M_node_20 : decode (xC k_M_node) 20 = .ok (.iload_n 2, 1) := by decide +kernel
theorem d_M_node_21 : decode (xC k_M_node) 21 = .ok (.iastore, 1) := by decide +kernel
theorem d_M_node_22 : decode (xC k_M_node) 22 = .ok (.aload_n 0, 1) := by decide +kernel
theorem d_M_node_23 : decode (xC k_M_node) 23 = .ok (.getfield 25, 3) := by decide +kernel
theorem d_M_node_26 : decode (xC k_M_node) 26 = .ok (.iload 4, 2) := by decide +kernel
theorem d_M_node_28 : decode (xC k_M_node) 28 = .ok (.iload_n 3, 1) := by decide +kernel
theorem d_M_node_29 : decode (xC k_M_node) 29 = .ok (.iastore, 1) := by decide +kernel
theorem d_M_node_30 : decode (xC k_M_node) 30 = .ok (.aload_n 0, 1) := by decide +kernel
theorem d_M_node_31 : decode (xC k_M_node) 31 = .ok (.getfield 28, 3) := by decide +kernel
theorem d_M_node_34 : decode (xC k_M_node) 34 = .ok (.iload 4, 2) := by decide +kernel
theorem d_M_node_36 : decode (xC k_M_node) 36 = .ok (.iconst 0, 1) := by decide +kernel
theorem d_M_node_37 : decode (xC k_M_node) 37 = .ok (.iastore, 1) := by decide +kernel
theorem d_M_node_38 : decode (xC k_M_node) 38 = .ok (.aload_n 0, 1) := by decide +kernel
theorem d_M_node_39 : decode (xC k_M_node) 39 = .ok (.getfield 31, 3) := by decide +kernel
theorem d_M_node_42 : decode (xC k_M_node) 42 = .ok (.iload 4, 2) := by decide +kernel
theorem d_M_node_44 : decode (xC k_M_node) 44 = .ok (.iconst 0, 1) := by decide +kernel
theorem d_M_node_45 : decode (xC k_M_node) 45 = .ok (.iastore, 1) := by decide +kernel
theorem d_M_node_46 : decode (xC k_M_node) 46 = .ok (.aload_n 0, 1) := by decide +kernel
theorem d_M_node_47 : decode (xC k_M_node) 47 = .ok (.getfield 34, 3) := by decide +kernel
theorem d_M_node_50 : decode (xC k_M_node) 50 = .ok (.iload 4, 2) := by decide +kernel
theorem d_M_node_52 : decode (xC k_M_node) 52 = .ok (.iconst 0, 1) := by decide +kernel
theorem d_M_node_53 : decode (xC k_M_node) 53 = .ok (.iastore, 1) := by decide +kernel
theorem d_M_node_54 : decode (xC k_M_node) 54 = .ok (.aload_n 0, 1) := by decide +kernel
theorem d_M_node_55 : decode (xC k_M_node) 55 = .ok (.getfield 37, 3) := by decide +kernel
theorem d_M_node_58 : decode (xC k_M_node) 58 = .ok (.iload 4, 2) := by decide +kernel
theorem d_M_node_60 : decode (xC k_M_node) 60 = .ok (.iconst 0, 1) := by decide +kernel
theorem d_M_node_61 : decode (xC k_M_node) 61 = .ok (.iastore, 1) := by decide +kernel
theorem d_M_node_62 : decode (xC k_M_node) 62 = .ok (.aload_n 0, 1) := by decide +kernel
theorem d_M_node_63 : decode (xC k_M_node) 63 = .ok (.getfield 19, 3) := by decide +kernel
theorem d_M_node_66 : decode (xC k_M_node) 66 = .ok (.iload_n 1, 1) := by decide +kernel
theorem d_M_node_67 : decode (xC k_M_node) 67 = .ok (.dup2, 1) := by decide +kernel
theorem d_M_node_68 : decode (xC k_M_node) 68 = .ok (.iaload, 1) := by decide +kernel
theorem d_M_node_69 : decode (xC k_M_node) 69 = .ok (.iconst 1, 1) := by decide +kernel
theorem d_M_node_70 : decode (xC k_M_node) 70 = .ok (.iadd, 1) := by decide +kernel
theorem d_M_node_71 : decode (xC k_M_node) 71 = .ok (.iastore, 1) := by decide +kernel
theorem d_M_node_72 : decode (xC k_M_node) 72 = .ok (.aload_n 0, 1) := by decide +kernel
theorem d_M_node_73 : decode (xC k_M_node) 73 = .ok (.getfield 19, 3) := by decide +kernel
theorem d_M_node_76 : decode (xC k_M_node) 76 = .ok (.iload_n 1, 1) := by decide +kernel
theorem d_M_node_77 : decode (xC k_M_node) 77 = .ok (.iaload, 1) := by decide +kernel
theorem d_M_node_78 : decode (xC k_M_node) 78 = .ok (.iconst 1, 1) := by decide +kernel
theorem d_M_node_79 : decode (xC k_M_node) 79 = .ok (.isub, 1) := by decide +kernel
theorem d_M_node_80 : decode (xC k_M_node) 80 = .ok (.ireturn, 1) := by decide +kernel
theorem d_M_begin_0 : decode (xC k_M_begin) 0 = .ok (.aload_n 0, 1) := by decide +kernel
theorem d_M_begin_1 : decode (xC k_M_begin) 1 = .ok (.iload_n 1, 1) := by decide +kernel
theorem d_M_begin_2 : decode (xC k_M_begin) 2 = .ok (.iconst 2, 1) := by decide +kernel
theorem d_M_begin_3 : decode (xC k_M_begin) 3 = .ok (.iload_n 2, 1) := by decide +kernel
theorem d_M_begin_4 : decode (xC k_M_begin) 4 = .ok (.invokevirtual 127, 3) := by decide +kernel
theorem d_M_begin_7 : decode (xC k_M_begin) 7 = .ok (.istore_n 3, 1) := by decide +kernel
theorem d_M_begin_8 : decode (xC k_M_begin) 8 = .ok (.aload_n 0, 1) := by decide +kernel
theorem d_M_begin_9 : decode (xC k_M_begin) 9 = .ok (.iload_n 1, 1) := by decide +kernel
theorem d_M_begin_10 : decode (xC k_M_begin) 10 = .ok (.iconst 1, 1) := by decide +kernel
theorem d_M_begin_11 : decode (xC k_M_begin) 11 = .ok (.iload_n 3, 1) := by decide +kernel
theorem d_M_begin_12 : decode (xC k_M_begin) 12 = .ok (.invokevirtual 127, 3) := by decide +kernel
theorem d_M_begin_15 : decode (xC k_M_begin) 15 = .ok (.ireturn, 1) := by decide +kernel
theorem d_M_build_0 : decode (xC k_M_build) 0 = .ok (.aload_n 0, 1) := by decide +kernel
theorem d_M_build_1 : decode (xC k_M_build) 1 = .ok (.getfield 19, 3) := by decide +kernel
theorem d_M_build_4 : decode (xC k_M_build) 4 = .ok (.iload_n 1, 1) := by decide +kernel
theorem d_M_build_5 : decode (xC k_M_build) 5 = .ok (.iconst 0, 1) := by decide +kernel
theorem d_M_build_6 : decode (xC k_M_build) 6 = .ok (.iastore, 1) := by decide +kernel
theorem d_M_build_7 : decode (xC k_M_build) 7 = .ok (.aload_n 0, 1) := by decide +kernel
theorem d_M_build_8 : decode (xC k_M_build) 8 = .ok (.getfield 13, 3) := by decide +kernel
theorem d_M_build_11 : decode (xC k_M_build) 11 = .ok (.iload_n 1, 1) := by decide +kernel
theorem d_M_build_12 : decode (xC k_M_build) 12 = .ok (.iconst 1, 1) := by decide +kernel
theorem d_M_build_13 : decode (xC k_M_build) 13 = .ok (.iastore, 1) := by decide +kernel
theorem d_M_build_14 : decode (xC k_M_build) 14 = .ok (.aload_n 0, 1) := by decide +kernel
theorem d_M_build_15 : decode (xC k_M_build) 15 = .ok (.iload_n 1, 1) := by decide +kernel
theorem d_M_build_16 : decode (xC k_M_build) 16 = .ok (.iconst (-1), 1) := by decide +kernel
theorem d_M_build_17 : decode (xC k_M_build) 17 = .ok (.invokevirtual 131, 3) := by decide +kernel
theorem d_M_build_20 : decode (xC k_M_build) 20 = .ok (.istore_n 2, 1) := by decide +kernel
theorem d_M_build_21 : decode (xC k_M_build) 21 = .ok (.aload_n 0, 1) := by decide +kernel
theorem d_M_build_22 : decode (xC k_M_build) 22 = .ok (.getfield 16, 3) := by decide +kernel
theorem d_M_build_25 : decode (xC k_M_build) 25 = .ok (.bipush 6, 2) := by decide +kernel
theorem d_M_build_27 : decode (xC k_M_build) 27 = .ok (.iload_n 1, 1) := by decide +kernel
theorem d_M_build_28 : decode (xC k_M_build) 28 = .ok (.imul, 1) := by decide +kernel
theorem d_M_build_29 : decode (xC k_M_build) 29 = .ok (.iconst 0, 1) := by decide +kernel
theorem d_M_build_30 : decode (xC k_M_build) 30 = .ok (.iastore, 1) := by decide +kernel
theorem d_M_build_31 : decode (xC k_M_build) 31 = .ok (.iconst 0, 1) := by decide +kernel
theorem d_M_build_32 : decode (xC k_M_build) 32 = .ok (.istore_n 3, 1) := by decide +kernel
theorem d_M_build_33 : decode (xC k_M_build) 33 = .ok (.iconst (-1), 1) := by decide +kernel
theorem d_M_build_34 : decode (xC k_M_build) 34 = .ok (.istore 4, 2) := by decide +kernel
theorem d_M_build_36 : decode (xC k_M_build) 36 = .ok (.iconst 0, 1) := by decide +kernel
theorem d_M_build_37 : decode (xC k_M_build) 37 = .ok (.istore 5, 2) := by decide +kernel
theorem d_M_build_39 : decode (xC k_M_build) 39 = .ok (.iload 5, 2) := by decide +kernel
theorem d_M_build_41 : decode (xC k_M_build) 41 = .ok (.aload_n 0, 1) := by decide +kernel
theorem d_M_build_42 : decode (xC k_M_build) 42 = .ok (.getfield 109, 3) := by decide +kernel
theorem d_M_build_45 : decode (xC k_M_build) 45 = .ok (.if_icmp .ge 297, 3) := by decide +kernel
theorem d_M_build_48 : decode (xC k_M_build) 48 = .ok (.aload_n 0, 1) := by decide +kernel
theorem d_M_build_49 : decode (xC k_M_build) 49 = .ok (.getfield 7, 3) := by decide +kernel
theorem d_M_build_52 : decode (xC k_M_build) 52 = .ok (.iload 5, 2) := by decide +kernel
theorem d_M_build_54 : decode (xC k_M_build) 54 = .ok (.iaload, 1) := by decide +kernel
theorem d_M_build_55 : decode (xC k_M_build) 55 = .ok (.istore 6, 2) := by decide +kernel
theorem d_M_build_57 : decode (xC k_M_build) 57 = .ok (.sipush 160, 3) := by decide +kernel
theorem d_M_build_60 : decode (xC k_M_build) 60 = .ok (.iload_n 1, 1) := by decide +kernel
theorem d_M_build_61 : decode (xC k_M_build) 61 = .ok (.imul, 1) := by decide +kernel
theorem d_M_build_62 : decode (xC k_M_build) 62 = .ok (.istore 7, 2) := by decide +kernel
theorem d_M_build_64 : decode (xC k_M_build) 64 = .ok (.iload 6, 2) := by decide +kernel
theorem d_M_build_66 : decode (xC k_M_build) 66 = .ok (.bipush 33, 2) := by decide +kernel
theorem d_M_build_68 : decode (xC k_M_build) 68 = .ok (.if_icmp .ne 9, 3) := by decide +kernel
theorem d_M_build_71 : decode (xC k_M_build) 71 = .ok (.iinc 3 1, 3) := by decide +kernel
theorem d_M_build_74 : decode (xC k_M_build) 74 = .ok (.goto 262, 3) := by decide +kernel
theorem d_M_build_77 : decode (xC k_M_build) 77 = .ok (.iload 6, 2) := by decide +kernel
theorem d_M_build_79 : decode (xC k_M_build) 79 = .ok (.bipush 40, 2) := by decide +kernel
theorem d_M_build_81 : decode (xC k_M_build) 81 = .ok (.if_icmp .ne 34, 3) := by decide +kernel
theorem d_M_build_84 : decode (xC k_M_build) 84 = .ok (.aload_n 0, 1) := by decide +kernel
theorem d_M_build_85 : decode (xC k_M_build) 85 = .ok (.getfield 19, 3) := by decide +kernel
theorem d_M_build_88 : decode (xC k_M_build) 88 = .ok (.iload_n 1, 1) := by decide +kernel
theorem d_M_build_89 : decode (xC k_M_build) 89 = .ok (.iaload, 1) := by decide +kernel
theorem d_M_build_90 : decode (xC k_M_build) 90 = .ok (.istore 8, 2) := by decide +kernel
theorem d_M_build_92 : decode (xC k_M_build) 92 = .ok (.aload_n 0, 1) := by decide +kernel
theorem d_M_build_93 : decode (xC k_M_build) 93 = .ok (.iload_n 1, 1) := by decide +kernel
theorem d_M_build_94 : decode (xC k_M_build) 94 = .ok (.iload_n 2, 1) := by decide +kernel
theorem d_M_build_95 : decode (xC k_M_build) 95 = .ok (.invokevirtual 131, 3) := by decide +kernel
theorem d_M_build_98 : decode (xC k_M_build) 98 = .ok (.istore_n 2, 1) := by decide +kernel
theorem d_M_build_99 : decode (xC k_M_build) 99 = .ok (.aload_n 0, 1) := by decide +kernel
theorem d_M_build_100 : decode (xC k_M_build) 100 = .ok (.getfield 28, 3) := by decide +kernel
theorem d_M_build_103 : decode (xC k_M_build) 103 = .ok (.iload 7, 2) := by decide +kernel
theorem d_M_build_105 : decode (xC k_M_build) 105 = .ok (.iload 8, 2) := by decide +kernel
theorem d_M_build_107 : decode (xC k_M_build) 107 = .ok (.iadd, 1) := by decide +kernel
theorem d_M_build_108 : decode (xC k_M_build) 108 = .ok (.iload_n 3, 1) := by decide +kernel
theorem d_M_build_109 : decode (xC k_M_build) 109 = .ok (.iastore, 1) := by decide +kernel
theorem d_M_build_110 : decode (xC k_M_build) 110 = .ok (.iconst 0, 1) := by decide +kernel
theorem d_M_build_111 : decode (xC k_M_build) 111 = .ok (.istore_n 3, 1) := by decide +kernel
theorem d_M_build_112 : decode (xC k_M_build) 112 = .ok (.goto 224, 3) := by decide +kernel
theorem d_M_build_115 : decode (xC k_M_build) 115 = .ok (.iload 6, 2) := by decide +kernel
theorem d_M_build_117 : decode (xC k_M_build) 117 = .ok (.invokestatic 120, 3) := by decide +kernel
theorem d_M_build_120 : decode (xC k_M_build) 120 = .ok (.ifCond .eq 40, 3) := by decide +kernel
theorem d_M_build_123 : decode (xC k_M_build) 123 = .ok (.aload_n 0, 1) := by decide +kernel
theorem d_M_build_124 : decode (xC k_M_build) 124 = .ok (.iload_n 1, 1) := by decide +kernel
theorem d_M_build_125 : decode (xC k_M_build) 125 = .ok (.iconst 0, 1) := by decide +kernel
theorem d_M_build_126 : decode (xC k_M_build) 126 = .ok (.iload_n 2, 1) := by decide +kernel
theorem d_M_build_127 : decode (xC k_M_build) 127 = .ok (.invokevirtual 127, 3) := by decide +kernel
theorem d_M_build_130 : decode (xC k_M_build) 130 = .ok (.istore 4, 2) := by decide +kernel
theorem d_M_build_132 : decode (xC k_M_build) 132 = .ok (.aload_n 0, 1) := by decide +kernel
theorem d_M_build_133 : decode (xC k_M_build) 133 = .ok (.getfield 31, 3) := by decide +kernel
theorem d_M_build_136 : decode (xC k_M_build) 136 = .ok (.iload 7, 2) := by decide +kernel
theorem d_M_build_138 : decode (xC k_M_build) 138 = .ok (.iload 4, 2) := by decide +kernel
theorem d_M_build_140 : decode (xC k_M_build) 140 = .ok (.iadd, 1) := by decide +kernel
theorem d_M_build_141 : decode (xC k_M_build) 141 = .ok (.iload 6, 2) := by decide +kernel
theorem d_M_build_143 : decode (xC k_M_build) 143 = .ok (.iastore, 1) := by decide +kernel
theorem d_M_build_144 : decode (xC k_M_build) 144 = .ok (.aload_n 0, 1) := by decide +kernel
theorem d_M_build_145 : decode (xC k_M_build) 145 = .ok (.getfield 28, 3) := by decide +kernel
theorem d_M_build_148 : decode (xC k_M_build) 148 = .ok (.iload 7, 2) := by decide +kernel
theorem d_M_build_150 : decode (xC k_M_build) 150 = .ok (.iload 4, 2) := by decide +kernel
theorem d_M_build_152 : decode (xC k_M_build) 152 = .ok (.iadd, 1) := by decide +kernel
theorem d_M_build_153 : decode (xC k_M_build) 153 = .ok (.iload_n 3, 1) := by decide +kernel
theorem d_M_build_154 : decode (xC k_M_build) 154 = .ok (.iastore, 1) := by decide +kernel
theorem d_M_build_155 : decode (xC k_M_build) 155 = .ok (.iconst 0, 1) := by decide +kernel
theorem d_M_build_156 : decode (xC k_M_build) 156 = .ok (.istore_n 3, 1) := by decide +kernel
theorem d_M_build_157 : decode (xC k_M_build) 157 = .ok (.goto 179, 3) := by decide +kernel
theorem d_M_build_160 : decode (xC k_M_build) 160 = .ok (.iload 6, 2) := by decide +kernel
theorem d_M_build_162 : decode (xC k_M_build) 162 = .ok (.bipush 60, 2) := by decide +kernel
theorem d_M_build_164 : decode (xC k_M_build) 164 = .ok (.if_icmp .eq 17, 3) := by decide +kernel
theorem d_M_build_167 : decode (xC k_M_build) 167 = .ok (.iload 6, 2) := by decide +kernel
theorem d_M_build_169 : decode (xC k_M_build) 169 = .ok (.bipush 61, 2) := by decide +kernel
theorem d_M_build_171 : decode (xC k_M_build) 171 = .ok (.if_icmp .eq 10, 3) := by decide +kernel
theorem d_M_build_174 : decode (xC k_M_build) 174 = .ok (.iload 6, 2) := by decide +kernel
theorem d_M_build_176 : decode (xC k_M_build) 176 = .ok (.bipush 62, 2) := by decide +kernel
theorem d_M_build_178 : decode (xC k_M_build) 178 = .ok (.if_icmp .ne 18, 3) := by decide +kernel
theorem d_M_build_181 : decode (xC k_M_build) 181 = .ok (.aload_n 0, 1) := by decide +kernel
theorem d_M_build_182 : decode (xC k_M_build) 182 = .ok (.getfield 34, 3) := by decide +kernel
theorem d_M_build_185 : decode (xC k_M_build) 185 = .ok (.iload 7, 2) := by decide +kernel
theorem d_M_build_187 : decode (xC k_M_build) 187 = .ok (.iload 4, 2) := by decide +kernel
theorem d_M_build_189 : decode (xC k_M_build) 189 = .ok (.iadd, 1) := by decide +kernel
theorem d_M_build_190 : decode (xC k_M_build) 190 = .ok (.iload 6, 2) := by decide +kernel
theorem d_M_build_192 : decode (xC k_M_build) 192 = .ok (.iastore, 1) := by decide +kernel
theorem d_M_build_193 : decode (xC k_M_build) 193 = .ok (.goto 143, 3) := by decide +kernel
theorem d_M_build_196 : decode (xC k_M_build) 196 = .ok (.iload 6, 2) := by decide +kernel
theorem d_M_build_198 : decode (xC k_M_build) 198 = .ok (.invokestatic 124, 3) := by decide +kernel
theorem d_M_build_201 : decode (xC k_M_build) 201 = .ok (.ifCond .eq 35, 3) := by decide +kernel
theorem d_M_build_204 : decode (xC k_M_build) 204 = .ok (.aload_n 0, 1) := by decide +kernel
theorem d_M_build_205 : decode (xC k_M_build) 205 = .ok (.getfield 37, 3) := by decide +kernel
theorem d_M_build_208 : decode (xC k_M_build) 208 = .ok (.iload 7, 2) := by decide +kernel
theorem d_M_build_210 : decode (xC k_M_build) 210 = .ok (.iload 4, 2) := by decide +kernel
theorem d_M_build_212 : decode (xC k_M_build) 212 = .ok (.iadd, 1) := by decide +kernel
theorem d_M_build_213 : decode (xC k_M_build) 213 = .ok (.bipush 10, 2) := by decide +kernel
theorem d_M_build_215 : decode (xC k_M_build) 215 = .ok (.aload_n 0, 1) := by decide +kernel
theorem d_M_build_216 : decode (xC k_M_build) 216 = .ok (.getfield 37, 3) := by decide +kernel
theorem d_M_build_219 : decode (xC k_M_build) 219 = .ok (.iload 7, 2) := by decide +kernel
theorem d_M_build_221 : decode (xC k_M_build) 221 = .ok (.iload 4, 2) := by decide +kernel
theorem d_M_build_223 : decode (xC k_M_build) 223 = .ok (.iadd, 1) := by decide +kernel
theorem d_M_build_224 : decode (xC k_M_build) 224 = .ok (.iaload, 1) := by decide +kernel
theorem d_M_build_225 : decode (xC k_M_build) 225 = .ok (.imul, 1) := by decide +kernel
theorem d_M_build_226 : decode (xC k_M_build) 226 = .ok (.iload 6, 2) := by decide +kernel
theorem d_M_build_228 : decode (xC k_M_build) 228 = .ok (.iadd, 1) := by decide +kernel
theorem d_M_build_229 : decode (xC k_M_build) 229 = .ok (.bipush 48, 2) := by decide +kernel
theorem d_M_build_231 : decode (xC k_M_build) 231 = .ok (.isub, 1) := by decide +kernel
theorem d_M_build_232 : decode (xC k_M_build) 232 = .ok (.iastore, 1) := by decide +kernel
theorem d_M_build_233 : decode (xC k_M_build) 233 = .ok (.goto 103, 3) := by decide +kernel
theorem d_M_build_236 : decode (xC k_M_build) 236 = .ok (.iload 6, 2) := by decide +kernel
theorem d_M_build_238 : decode (xC k_M_build) 238 = .ok (.bipush 124, 2) := by decide +kernel
theorem d_M_build_240 : decode (xC k_M_build) 240 = .ok (.if_icmp .ne 22, 3) := by decide +kernel
theorem d_M_build_243 : decode (xC k_M_build) 243 = .ok (.aload_n 0, 1) := by decide +kernel
theorem d_M_build_244 : decode (xC k_M_build) 244 = .ok (.iload_n 1, 1) := by decide +kernel
theorem d_M_build_245 : decode (xC k_M_build) 245 = .ok (.iconst 1, 1) := by decide +kernel
theorem d_M_build_246 : decode (xC k_M_build) 246 = .ok (.aload_n 0, 1) := by decide +kernel
theorem d_M_build_247 : decode (xC k_M_build) 247 = .ok (.getfield 25, 3) := by decide +kernel
theorem d_M_build_250 : decode (xC k_M_build) 250 = .ok (.iload 7, 2) := by decide +kernel
theorem d_M_build_252 : decode (xC k_M_build) 252 = .ok (.iload_n 2, 1) := by decide +kernel
theorem d_M_build_253 : decode (xC k_M_build) 253 = .ok (.iadd, 1) := by decide +kernel
theorem d_M_build_254 : decode (xC k_M_build) 254 = .ok (.iaload, 1) := by decide +kernel
theorem d_M_build_255 : decode (xC k_M_build) 255 = .ok (.invokevirtual 127, 3) := by decide +kernel
theorem d_M_build_258 : decode (xC k_M_build) 258 = .ok (.istore_n 2, 1) := by decide +kernel
theorem d_M_build_259 : decode (xC k_M_build) 259 = .ok (.goto 77, 3) := by decide +kernel
theorem d_M_build_262 : decode (xC k_M_build) 262 = .ok (.iload 6, 2) := by decide +kernel
theorem d_M_build_264 : decode (xC k_M_build) 264 = .ok (.bipush 41, 2) := by decide +kernel
theorem d_M_build_266 : decode (xC k_M_build) 266 = .ok (.if_icmp .ne 24, 3) := by decide +kernel
theorem d_M_build_269 : decode (xC k_M_build) 269 = .ok (.aload_n 0, 1) := by decide +kernel
theorem d_M_build_270 : decode (xC k_M_build) 270 = .ok (.getfield 25, 3) := by decide +kernel
theorem d_M_build_273 : decode (xC k_M_build) 273 = .ok (.iload 7, 2) := by decide +kernel
theorem d_M_build_275 : decode (xC k_M_build) 275 = .ok (.aload_n 0, 1) := by decide +kernel
theorem d_M_build_276 : decode (xC k_M_build) 276 = .ok (.getfield 25, 3) := by decide +kernel
theorem d_M_build_279 : decode (xC k_M_build) 279 = .ok (.iload 7, 2) := by decide +kernel
theorem d_M_build_281 : decode (xC k_M_build) 281 = .ok (.iload_n 2, 1) := by decide +kernel
theorem d_M_build_282 : decode (xC k_M_build) 282 = .ok (.iadd, 1) := by decide +kernel
theorem d_M_build_283 : decode (xC k_M_build) 283 = .ok (.iaload, 1) := by decide +kernel
theorem d_M_build_284 : decode (xC k_M_build) 284 = .ok (.iadd, 1) := by decide +kernel
theorem d_M_build_285 : decode (xC k_M_build) 285 = .ok (.iaload, 1) := by decide +kernel
theorem d_M_build_286 : decode (xC k_M_build) 286 = .ok (.istore_n 2, 1) := by decide +kernel
theorem d_M_build_287 : decode (xC k_M_build) 287 = .ok (.goto 49, 3) := by decide +kernel
theorem d_M_build_290 : decode (xC k_M_build) 290 = .ok (.iload 6, 2) := by decide +kernel
theorem d_M_build_292 : decode (xC k_M_build) 292 = .ok (.bipush 59, 2) := by decide +kernel
theorem d_M_build_294 : decode (xC k_M_build) 294 = .ok (.if_icmp .ne 42, 3) := by decide +kernel
theorem d_M_build_297 : decode (xC k_M_build) 297 = .ok (.aload_n 0, 1) := by decide +kernel
theorem d_M_build_298 : decode (xC k_M_build) 298 = .ok (.getfield 16, 3) := by decide +kernel
theorem d_M_build_301 : decode (xC k_M_build) 301 = .ok (.bipush 6, 2) := by decide +kernel
theorem d_M_build_303 : decode (xC k_M_build) 303 = .ok (.iload_n 1, 1) := by decide +kernel
theorem d_M_build_304 : decode (xC k_M_build) 304 = .ok (.imul, 1) := by decide +kernel
theorem d_M_build_305 : decode (xC k_M_build) 305 = .ok (.aload_n 0, 1) := by decide +kernel
theorem d_M_build_306 : decode (xC k_M_build) 306 = .ok (.getfield 13, 3) := by decide +kernel
theorem d_M_build_309 : decode (xC k_M_build) 309 = .ok (.iload_n 1, 1) := by decide +kernel
theorem d_M_build_310 : decode (xC k_M_build) 310 = .ok (.iaload, 1) := by decide +kernel
theorem d_M_build_311 : decode (xC k_M_build) 311 = .ok (.iadd, 1) := by decide +kernel
theorem d_M_build_312 : decode (xC k_M_build) 312 = .ok (.aload_n 0, 1) := by decide +kernel
theorem d_M_build_313 : decode (xC k_M_build) 313 = .ok (.getfield 19, 3) := by decide +kernel
theorem d_M_build_316 : decode (xC k_M_build) 316 = .ok (.iload_n 1, 1) := by decide +kernel
theorem d_M_build_317 : decode (xC k_M_build) 317 = .ok (.iaload, 1) := by decide +kernel
theorem d_M_build_318 : decode (xC k_M_build) 318 = .ok (.iastore, 1) := by decide +kernel
theorem d_M_build_319 : decode (xC k_M_build) 319 = .ok (.aload_n 0, 1) := by decide +kernel
theorem d_M_build_320 : decode (xC k_M_build) 320 = .ok (.getfield 13, 3) := by decide +kernel
theorem d_M_build_323 : decode (xC k_M_build) 323 = .ok (.iload_n 1, 1) := by decide +kernel
theorem d_M_build_324 : decode (xC k_M_build) 324 = .ok (.dup2, 1) := by decide +kernel
theorem d_M_build_325 : decode (xC k_M_build) 325 = .ok (.iaload, 1) := by decide +kernel
theorem d_M_build_326 : decode (xC k_M_build) 326 = .ok (.iconst 1, 1) := by decide +kernel
theorem d_M_build_327 : decode (xC k_M_build) 327 = .ok (.iadd, 1) := by decide +kernel
theorem d_M_build_328 : decode (xC k_M_build) 328 = .ok (.iastore, 1) := by decide +kernel
theorem d_M_build_329 : decode (xC k_M_build) 329 = .ok (.aload_n 0, 1) := by decide +kernel
theorem d_M_build_330 : decode (xC k_M_build) 330 = .ok (.iload_n 1, 1) := by decide +kernel
theorem d_M_build_331 : decode (xC k_M_build) 331 = .ok (.iconst (-1), 1) := by decide +kernel
theorem d_M_build_332 : decode (xC k_M_build) 332 = .ok (.invokevirtual 131, 3) := by decide +kernel
theorem d_M_build_335 : decode (xC k_M_build) 335 = .ok (.istore_n 2, 1) := by decide +kernel
theorem d_M_build_336 : decode (xC k_M_build) 336 = .ok (.iinc 5 1, 3) := by decide +kernel
theorem d_M_build_339 : decode (xC k_M_build) 339 = .ok (.goto (-300), 3) := by decide +kernel
theorem d_M_build_342 : decode (xC k_M_build) 342 = .ok (.return_, 1) := by decide +kernel
theorem d_M_read_0 : decode (xC k_M_read) 0 = .ok (.aload_n 0, 1) := by decide +kernel
theorem d_M_read_1 : decode (xC k_M_read) 1 = .ok (.aload_n 0, 1) := by decide +kernel
theorem d_M_read_2 : decode (xC k_M_read) 2 = .ok (.getfield 135, 3) := by decide +kernel
theorem d_M_read_5 : decode (xC k_M_read) 5 = .ok (.bipush 8, 2) := by decide +kernel
theorem d_M_read_7 : decode (xC k_M_read) 7 = .ok (.if_icmp .ge 7, 3) := by decide +kernel
theorem d_M_read_10 : decode (xC k_M_read) 10 = .ok (.iconst 1, 1) := by decide +kernel
theorem d_M_read_11 : decode (xC k_M_read) 11 = .ok (.goto 4, 3) := by decide +kernel
theorem d_M_read_14 : decode (xC k_M_read) 14 = .ok (.iconst 0, 1) := by decide +kernel
theorem d_M_read_15 : decode (xC k_M_read) 15 = .ok (.iconst 1, 1) := by decide +kernel
theorem d_M_read_16 : decode (xC k_M_read) 16 = .ok (.iconst 1, 1) := by decide +kernel
theorem d_M_read_17 : decode (xC k_M_read) 17 = .ok (.invokevirtual 116, 3) := by decide +kernel
theorem d_M_read_20 : decode (xC k_M_read) 20 = .ok (.ifCond .ne 5, 3) := by decide +kernel
theorem d_M_read_23 : decode (xC k_M_read) 23 = .ok (.iconst 0, 1) := by decide +kernel
theorem d_M_read_24 : decode (xC k_M_read) 24 = .ok (.ireturn, 1) := by decide +kernel
theorem d_M_read_25 : decode (xC k_M_read) 25 = .ok (.aload_n 0, 1) := by decide +kernel
theorem d_M_read_26 : decode (xC k_M_read) 26 = .ok (.invokevirtual 138, 3) := by decide +kernel
theorem d_M_read_29 : decode (xC k_M_read) 29 = .ok (.istore_n 1, 1) := by decide +kernel
theorem d_M_read_30 : decode (xC k_M_read) 30 = .ok (.iload_n 1, 1) := by decide +kernel
theorem d_M_read_31 : decode (xC k_M_read) 31 = .ok (.iconst (-1), 1) := by decide +kernel
theorem d_M_read_32 : decode (xC k_M_read) 32 = .ok (.if_icmp .ne 21, 3) := by decide +kernel
theorem d_M_read_35 : decode (xC k_M_read) 35 = .ok (.aload_n 0, 1) := by decide +kernel
theorem d_M_read_36 : decode (xC k_M_read) 36 = .ok (.aload_n 0, 1) := by decide +kernel
theorem d_M_read_37 : decode (xC k_M_read) 37 = .ok (.getfield 135, 3) := by decide +kernel
theorem d_M_read_40 : decode (xC k_M_read) 40 = .ok (.invokevirtual 142, 3) := by decide +kernel
theorem d_M_read_43 : decode (xC k_M_read) 43 = .ok (.aload_n 0, 1) := by decide +kernel
theorem d_M_read_44 : decode (xC k_M_read) 44 = .ok (.dup, 1) := by decide +kernel
theorem d_M_read_45 : decode (xC k_M_read) 45 = .ok (.getfield 135, 3) := by decide +kernel
theorem d_M_read_48 : decode (xC k_M_read) 48 = .ok (.iconst 1, 1) := by decide +kernel
theorem d_M_read_49 : decode (xC k_M_read) 49 = .ok (.iadd, 1) := by decide +kernel
theorem d_M_read_50 : decode (xC k_M_read) 50 = .ok (.putfield 135, 3) := by decide +kernel
theorem d_M_read_53 : decode (xC k_M_read) 53 = .ok (.aload_n 0, 1) := by decide +kernel
theorem d_M_read_54 : decode (xC k_M_read) 54 = .ok (.iconst 0, 1) := by decide +kernel
theorem d_M_read_55 : decode (xC k_M_read) 55 = .ok (.putfield 109, 3) := by decide +kernel
theorem d_M_read_58 : decode (xC k_M_read) 58 = .ok (.iload_n 1, 1) := by decide +kernel
theorem d_M_read_59 : decode (xC k_M_read) 59 = .ok (.iconst (-1), 1) := by decide +kernel
theorem d_M_read_60 : decode (xC k_M_read) 60 = .ok (.if_icmp .ne 12, 3) := by decide +kernel
theorem d_M_read_63 : decode (xC k_M_read) 63 = .ok (.aload_n 0, 1) := by decide +kernel
theorem d_M_read_64 : decode (xC k_M_read) 64 = .ok (.getfield 135, 3) := by decide +kernel
theorem d_M_read_67 : decode (xC k_M_read) 67 = .ok (.iconst 1, 1) := by decide +kernel
theorem d_M_read_68 : decode (xC k_M_read) 68 = .ok (.isub, 1) := by decide +kernel
theorem d_M_read_69 : decode (xC k_M_read) 69 = .ok (.goto 6, 3) := by decide +kernel
theorem d_M_read_72 : decode (xC k_M_read) 72 = .ok (.iconst (-1), 1) := by decide +kernel
theorem d_M_read_73 : decode (xC k_M_read) 73 = .ok (.iload_n 1, 1) := by decide +kernel
theorem d_M_read_74 : decode (xC k_M_read) 74 = .ok (.isub, 1) := by decide +kernel
theorem d_M_read_75 : decode (xC k_M_read) 75 = .ok (.ireturn, 1) := by decide +kernel
theorem d_M_isContract_0 : decode (xC k_M_isContract) 0 = .ok (.iload_n 1, 1) := by decide +kernel
theorem d_M_isContract_1 : decode (xC k_M_isContract) 1 = .ok (.ifCond .lt 15, 3) := by decide +kernel
theorem d_M_isContract_4 : decode (xC k_M_isContract) 4 = .ok (.iload_n 1, 1) := by decide +kernel
theorem d_M_isContract_5 : decode (xC k_M_isContract) 5 = .ok (.aload_n 0, 1) := by decide +kernel
theorem d_M_isContract_6 : decode (xC k_M_isContract) 6 = .ok (.getfield 135, 3) := by decide +kernel
theorem d_M_isContract_9 : decode (xC k_M_isContract) 9 = .ok (.if_icmp .ge 7, 3) := by decide +kernel
theorem d_M_isContract_12 : decode (xC k_M_isContract) 12 = .ok (.iconst 1, 1) := by decide +kernel
theorem d_M_isContract_13 : decode (xC k_M_isContract) 13 = .ok (.goto 4, 3) := by decide +kernel
theorem d_M_isContract_16 : decode (xC k_M_isContract) 16 = .ok (.iconst 0, 1) := by decide +kernel
theorem d_M_isContract_17 : decode (xC k_M_isContract) 17 = .ok (.ireturn, 1) := by decide +kernel
theorem d_M_terms_0 : decode (xC k_M_terms) 0 = .ok (.aload_n 0, 1) := by decide +kernel
theorem d_M_terms_1 : decode (xC k_M_terms) 1 = .ok (.aload_n 0, 1) := by decide +kernel
theorem d_M_terms_2 : decode (xC k_M_terms) 2 = .ok (.iload_n 1, 1) := by decide +kernel
theorem d_M_terms_3 : decode (xC k_M_terms) 3 = .ok (.invokevirtual 146, 3) := by decide +kernel
theorem d_M_terms_6 : decode (xC k_M_terms) 6 = .ok (.iconst 1, 1) := by decide +kernel
theorem d_M_terms_7 : decode (xC k_M_terms) 7 = .ok (.iconst 1, 1) := by decide +kernel
theorem d_M_terms_8 : decode (xC k_M_terms) 8 = .ok (.invokevirtual 116, 3) := by decide +kernel
theorem d_M_terms_11 : decode (xC k_M_terms) 11 = .ok (.ifCond .eq 12, 3) := by decide +kernel
theorem d_M_terms_14 : decode (xC k_M_terms) 14 = .ok (.aload_n 0, 1) := by decide +kernel
theorem d_M_terms_15 : decode (xC k_M_terms) 15 = .ok (.getfield 13, 3) := by decide +kernel
theorem d_M_terms_18 : decode (xC k_M_terms) 18 = .ok (.iload_n 1, 1) := by decide +kernel
theorem d_M_terms_19 : decode (xC k_M_terms) 19 = .ok (.iaload, 1) := by decide +kernel
theorem d_M_terms_20 : decode (xC k_M_terms) 20 = .ok (.goto 4, 3) := by decide +kernel
theorem d_M_terms_23 : decode (xC k_M_terms) 23 = .ok (.iconst 0, 1) := by decide +kernel
theorem d_M_terms_24 : decode (xC k_M_terms) 24 = .ok (.ireturn, 1) := by decide +kernel
theorem d_M_put_0 : decode (xC k_M_put) 0 = .ok (.aload_n 0, 1) := by decide +kernel
theorem d_M_put_1 : decode (xC k_M_put) 1 = .ok (.getfield 46, 3) := by decide +kernel
theorem d_M_put_4 : decode (xC k_M_put) 4 = .ok (.aload_n 0, 1) := by decide +kernel
theorem d_M_put_5 : decode (xC k_M_put) 5 = .ok (.getfield 149, 3) := by decide +kernel
theorem d_M_put_8 : decode (xC k_M_put) 8 = .ok (.iload_n 1, 1) := by decide +kernel
theorem d_M_put_9 : decode (xC k_M_put) 9 = .ok (.iastore, 1) := by decide +kernel
theorem d_M_put_10 : decode (xC k_M_put) 10 = .ok (.aload_n 0, 1) := by decide +kernel
theorem d_M_put_11 : decode (xC k_M_put) 11 = .ok (.dup, 1) := by decide +kernel
theorem d_M_put_12 : decode (xC k_M_put) 12 = .ok (.getfield 149, 3) := by decide +kernel
theorem d_M_put_15 : decode (xC k_M_put) 15 = .ok (.iconst 1, 1) := by decide +kernel
theorem d_M_put_16 : decode (xC k_M_put) 16 = .ok (.iadd, 1) := by decide +kernel
theorem d_M_put_17 : decode (xC k_M_put) 17 = .ok (.putfield 149, 3) := by decide +kernel
theorem d_M_put_20 : decode (xC k_M_put) 20 = .ok (.return_, 1) := by decide +kernel
end
section
theorem d_M_putNumber_0 : decode (xC k_M_putNumber) 0 = .ok (.iconst 1, 1) := by decide +kernel
theorem d_M_putNumber_1 : decode (xC k_M_putNumber) 1 = .ok (.istore_n 2, 1) := by decide +kernel
theorem d_M_putNumber_2 : decode (xC k_M_putNumber) 2 = .ok (.iload_n 1, 1) := by decide +kernel
theorem d_M_putNumber_3 : decode (xC k_M_putNumber) 3 = .ok (.iload_n 2, 1) := by decide +kernel
theorem d_M_putNumber_4 : decode (xC k_M_putNumber) 4 = .ok (.idiv, 1) := by decide +kernel
theorem d_M_putNumber_5 : decode (xC k_M_putNumber) 5 = .ok (.bipush 9, 2) := by decide +kernel
theorem d_M_putNumber_7 : decode (xC k_M_putNumber) 7 = .ok (.if_icmp .le 11, 3) := by decide +kernel
theorem d_M_putNumber_10 : decode (xC k_M_putNumber) 10 = .ok (.iload_n 2, 1) := by decide +kernel
theorem d_M_putNumber_11 : decode (xC k_M_putNumber) 11 = .ok (.bipush 10, 2) := by decide +kernel
theorem d_M_putNumber_13 : decode (xC k_M_putNumber) 13 = .ok (.imul, 1) := by decide +kernel
theorem d_M_putNumber_14 : decode (xC k_M_putNumber) 14 = .ok (.istore_n 2, 1) := by decide +kernel
theorem d_M_putNumber_15 : decode (xC k_M_putNumber) 15 = .ok (.goto (-13), 3) := by decide +kernel
theorem d_M_putNumber_18 : decode (xC k_M_putNumber) 18 = .ok (.iload_n 2, 1) := by decide +kernel
theorem d_M_putNumber_19 : decode (xC k_M_putNumber) 19 = .ok (.ifCond .le 24, 3) := by decide +kernel
theorem d_M_putNumber_22 : decode (xC k_M_putNumber) 22 = .ok (.aload_n 0, 1) := by decide +kernel
theorem d_M_putNumber_23 : decode (xC k_M_putNumber) 23 = .ok (.bipush 48, 2) := by decide +kernel
theorem d_M_putNumber_25 : decode (xC k_M_putNumber) 25 = .ok (.iload_n 1, 1) := by decide +kernel
theorem d_M_putNumber_26 : decode (xC k_M_putNumber) 26 = .ok (.iload_n 2, 1) := by decide +kernel
theorem d_M_putNumber_27 : decode (xC k_M_putNumber) 27 = .ok (.idiv, 1) := by decide +kernel
theorem d_M_putNumber_28 : decode (xC k_M_putNumber) 28 = .ok (.bipush 10, 2) := by decide +kernel
theorem d_M_putNumber_30 : decode (xC k_M_putNumber) 30 = .ok (.irem, 1) := by decide +kernel
theorem d_M_putNumber_31 : decode (xC k_M_putNumber) 31 = .ok (.iadd, 1) := by decide +kernel
theorem d_M_putNumber_32 : decode (xC k_M_putNumber) 32 = .ok (.invokevirtual 152, 3) := by decide +kernel
theorem d_M_putNumber_35 : decode (xC k_M_putNumber) 35 = .ok (.iload_n 2, 1) := by decide +kernel
theorem d_M_putNumber_36 : decode (xC k_M_putNumber) 36 = .ok (.bipush 10, 2) := by decide +kernel
theorem d_M_putNumber_38 : decode (xC k_M_putNumber) 38 = .ok (.idiv, 1) := by decide +kernel
theorem d_M_putNumber_39 : decode (xC k_M_putNumber) 39 = .ok (.istore_n 2, 1) := by decide +kernel
theorem d_M_putNumber_40 : decode (xC k_M_putNumber) 40 = .ok (.goto (-22), 3) := by decide +kernel
theorem d_M_putNumber_43 : decode (xC k_M_putNumber) 43 = .ok (.return_, 1) := by decide +kernel
theorem d_M_children_0 : decode (xC k_M_children) 0 = .ok (.iconst 0, 1) := by decide +kernel
theorem d_M_children_1 : decode (xC k_M_children) 1 = .ok (.istore_n 3, 1) := by decide +kernel
theorem d_M_children_2 : decode (xC k_M_children) 2 = .ok (.iload_n 2, 1) := by decide +kernel
theorem d_M_children_3 : decode (xC k_M_children) 3 = .ok (.iconst 1, 1) := by decide +kernel
theorem d_M_children_4 : decode (xC k_M_children) 4 = .ok (.iadd, 1) := by decide +kernel
theorem d_M_children_5 : decode (xC k_M_children) 5 = .ok (.istore 4, 2) := by decide +kernel
theorem d_M_children_7 : decode (xC k_M_children) 7 = .ok (.iload 4, 2) := by decide +kernel
theorem d_M_children_9 : decode (xC k_M_children) 9 = .ok (.aload_n 0, 1) := by decide +kernel
theorem d_M_children_10 : decode (xC k_M_children) 10 = .ok (.getfield 19, 3) := by decide +kernel
theorem d_M_children_13 : decode (xC k_M_children) 13 = .ok (.iload_n 1, 1) := by decide +kernel
theorem d_M_children_14 : decode (xC k_M_children) 14 = .ok (.iaload, 1) := by decide +kernel
theorem d_M_children_15 : decode (xC k_M_children) 15 = .ok (.if_icmp .ge 34, 3) := by decide +kernel
theorem d_M_children_18 : decode (xC k_M_children) 18 = .ok (.aload_n 0, 1) := by decide +kernel
theorem d_M_children_19 : decode (xC k_M_children) 19 = .ok (.getfield 25, 3) := by decide +kernel
theorem d_M_children_22 : decode (xC k_M_children) 22 = .ok (.sipush 160, 3) := by decide +kernel
theorem d_M_children_25 : decode (xC k_M_children) 25 = .ok (.iload_n 1, 1) := by decide +kernel
theorem d_M_children_26 : decode (xC k_M_children) 26 = .ok (.imul, 1) := by decide +kernel
theorem d_M_children_27 : decode (xC k_M_children) 27 = .ok (.iload 4, 2) := by decide +kernel
theorem d_M_children_29 : decode (xC k_M_children) 29 = .ok (.iadd, 1) := by decide +kernel
theorem d_M_children_30 : decode (xC k_M_children) 30 = .ok (.iaload, 1) := by decide +kernel
theorem d_M_children_31 : decode (xC k_M_children) 31 = .ok (.iload_n 2, 1) := by decide +kernel
theorem d_M_children_32 : decode (xC k_M_children) 32 = .ok (.if_icmp .ne 9, 3) := by decide +kernel
theorem d_M_children_35 : decode (xC k_M_children) 35 = .ok (.iload_n 3, 1) := by decide +kernel
theorem d_M_children_36 : decode (xC k_M_children) 36 = .ok (.iconst 1, 1) := by decide +kernel
theorem d_M_children_37 : decode (xC k_M_children) 37 = .ok (.iadd, 1) := by decide +kernel
theorem d_M_children_38 : decode (xC k_M_children) 38 = .ok (.goto 4, 3) := by decide +kernel
theorem d_M_children_41 : decode (xC k_M_children) 41 = .ok (.iload_n 3, 1) := by decide +kernel
theorem d_M_children_42 : decode (xC k_M_children) 42 = .ok (.istore_n 3, 1) := by decide +kernel
theorem d_M_children_43 : decode (xC k_M_children) 43 = .ok (.iinc 4 1, 3) := by decide +kernel
theorem d_M_children_46 : decode (xC k_M_children) 46 = .ok (.goto (-39), 3) := by decide +kernel
theorem d_M_children_49 : decode (xC k_M_children) 49 = .ok (.iload_n 3, 1) := by decide +kernel
theorem d_M_children_50 : decode (xC k_M_children) 50 = .ok (.ireturn, 1) := by decide +kernel
theorem d_M_unfold_0 : decode (xC k_M_unfold) 0 = .ok (.aload_n 0, 1) := by decide +kernel
theorem d_M_unfold_1 : decode (xC k_M_unfold) 1 = .ok (.iload_n 1, 1) := by decide +kernel
theorem d_M_unfold_2 : decode (xC k_M_unfold) 2 = .ok (.iload_n 2, 1) := by decide +kernel
theorem d_M_unfold_3 : decode (xC k_M_unfold) 3 = .ok (.invokevirtual 155, 3) := by decide +kernel
theorem d_M_unfold_6 : decode (xC k_M_unfold) 6 = .ok (.istore_n 3, 1) := by decide +kernel
theorem d_M_unfold_7 : decode (xC k_M_unfold) 7 = .ok (.iload_n 3, 1) := by decide +kernel
theorem d_M_unfold_8 : decode (xC k_M_unfold) 8 = .ok (.istore 4, 2) := by decide +kernel
theorem d_M_unfold_10 : decode (xC k_M_unfold) 10 = .ok (.iload_n 3, 1) := by decide +kernel
theorem d_M_unfold_11 : decode (xC k_M_unfold) 11 = .ok (.iconst 1, 1) := by decide +kernel
theorem d_M_unfold_12 : decode (xC k_M_unfold) 12 = .ok (.if_icmp .le 24, 3) := by decide +kernel
theorem d_M_unfold_15 : decode (xC k_M_unfold) 15 = .ok (.aload_n 0, 1) := by decide +kernel
theorem d_M_unfold_16 : decode (xC k_M_unfold) 16 = .ok (.getfield 43, 3) := by decide +kernel
theorem d_M_unfold_19 : decode (xC k_M_unfold) 19 = .ok (.aload_n 0, 1) := by decide +kernel
theorem d_M_unfold_20 : decode (xC k_M_unfold) 20 = .ok (.getfield 158, 3) := by decide +kernel
theorem d_M_unfold_23 : decode (xC k_M_unfold) 23 = .ok (.bipush (-41), 2) := by decide +kernel
theorem d_M_unfold_25 : decode (xC k_M_unfold) 25 = .ok (.iastore, 1) := by decide +kernel
theorem d_M_unfold_26 : decode (xC k_M_unfold) 26 = .ok (.aload_n 0, 1) := by decide +kernel
theorem d_M_unfold_27 : decode (xC k_M_unfold) 27 = .ok (.dup, 1) := by decide +kernel
theorem d_M_unfold_28 : decode (xC k_M_unfold) 28 = .ok (.getfield 158, 3) := by decide +kernel
theorem d_M_unfold_31 : decode (xC k_M_unfold) 31 = .ok (.iconst 1, 1) := by decide +kernel
theorem d_M_unfold_32 : decode (xC k_M_unfold) 32 = .ok (.iadd, 1) := by decide +kernel
theorem d_M_unfold_33 : decode (xC k_M_unfold) 33 = .ok (.putfield 158, 3) := by decide +kernel
theorem d_M_unfold_36 : decode (xC k_M_unfold) 36 = .ok (.aload_n 0, 1) := by decide +kernel
theorem d_M_unfold_37 : decode (xC k_M_unfold) 37 = .ok (.getfield 19, 3) := by decide +kernel
theorem d_M_unfold_40 : decode (xC k_M_unfold) 40 = .ok (.iload_n 1, 1) := by decide +kernel
theorem d_M_unfold_41 : decode (xC k_M_unfold) 41 = .ok (.iaload, 1) := by decide +kernel
theorem d_M_unfold_42 : decode (xC k_M_unfold) 42 = .ok (.iconst 1, 1) := by decide +kernel
theorem d_M_unfold_43 : decode (xC k_M_unfold) 43 = .ok (.isub, 1) := by decide +kernel
theorem d_M_unfold_44 : decode (xC k_M_unfold) 44 = .ok (.istore 5, 2) := by decide +kernel
theorem d_M_unfold_46 : decode (xC k_M_unfold) 46 = .ok (.iload 5, 2) := by decide +kernel
theorem d_M_unfold_48 : decode (xC k_M_unfold) 48 = .ok (.iload_n 2, 1) := by decide +kernel
theorem d_M_unfold_49 : decode (xC k_M_unfold) 49 = .ok (.if_icmp .le 97, 3) := by decide +kernel
theorem d_M_unfold_52 : decode (xC k_M_unfold) 52 = .ok (.aload_n 0, 1) := by decide +kernel
theorem d_M_unfold_53 : decode (xC k_M_unfold) 53 = .ok (.getfield 25, 3) := by decide +kernel
theorem d_M_unfold_56 : decode (xC k_M_unfold) 56 = .ok (.sipush 160, 3) := by decide +kernel
theorem d_M_unfold_59 : decode (xC k_M_unfold) 59 = .ok (.iload_n 1, 1) := by decide +kernel
theorem d_M_unfold_60 : decode (xC k_M_unfold) 60 = .ok (.imul, 1) := by decide +kernel
theorem d_M_unfold_61 : decode (xC k_M_unfold) 61 = .ok (.iload 5, 2) := by decide +kernel
theorem d_M_unfold_63 : decode (xC k_M_unfold) 63 = .ok (.iadd, 1) := by decide +kernel
theorem d_M_unfold_64 : decode (xC k_M_unfold) 64 = .ok (.iaload, 1) := by decide +kernel
theorem d_M_unfold_65 : decode (xC k_M_unfold) 65 = .ok (.iload_n 2, 1) := by decide +kernel
theorem d_M_unfold_66 : decode (xC k_M_unfold) 66 = .ok (.if_icmp .ne 74, 3) := by decide +kernel
theorem d_M_unfold_69 : decode (xC k_M_unfold) 69 = .ok (.aload_n 0, 1) := by decide +kernel
theorem d_M_unfold_70 : decode (xC k_M_unfold) 70 = .ok (.getfield 43, 3) := by decide +kernel
theorem d_M_unfold_73 : decode (xC k_M_unfold) 73 = .ok (.aload_n 0, 1) := by decide +kernel
theorem d_M_unfold_74 : decode (xC k_M_unfold) 74 = .ok (.getfield 158, 3) := by decide +kernel
theorem d_M_unfold_77 : decode (xC k_M_unfold) 77 = .ok (.iload 5, 2) := by decide +kernel
theorem d_M_unfold_79 : decode (xC k_M_unfold) 79 = .ok (.iastore, 1) := by decide +kernel
theorem d_M_unfold_80 : decode (xC k_M_unfold) 80 = .ok (.aload_n 0, 1) := by decide +kernel
theorem d_M_unfold_81 : decode (xC k_M_unfold) 81 = .ok (.dup, 1) := by decide +kernel
theorem d_M_unfold_82 : decode (xC k_M_unfold) 82 = .ok (.getfield 158, 3) := by decide +kernel
theorem d_M_unfold_85 : decode (xC k_M_unfold) 85 = .ok (.iconst 1, 1) := by decide +kernel
theorem d_M_unfold_86 : decode (xC k_M_unfold) 86 = .ok (.iadd, 1) := by decide +kernel
theorem d_M_unfold_87 : decode (xC k_M_unfold) 87 = .ok (.putfield 158, 3) := by decide +kernel
theorem d_M_unfold_90 : decode (xC k_M_unfold) 90 = .ok (.iinc 4 (-1), 3) := by decide +kernel
theorem d_M_unfold_93 : decode (xC k_M_unfold) 93 = .ok (.iload 4, 2) := by decide +kernel
theorem d_M_unfold_95 : decode (xC k_M_unfold) 95 = .ok (.ifCond .le 45, 3) := by decide +kernel
theorem d_M_unfold_98 : decode (xC k_M_unfold) 98 = .ok (.aload_n 0, 1) := by decide +kernel
theorem d_M_unfold_99 : decode (xC k_M_unfold) 99 = .ok (.getfield 43, 3) := by decide +kernel
theorem d_M_unfold_102 : decode (xC k_M_unfold) 102 = .ok (.aload_n 0, 1) := by decide +kernel
theorem d_M_unfold_103 : decode (xC k_M_unfold) 103 = .ok (.getfield 158, 3) := by decide +kernel
theorem d_M_unfold_106 : decode (xC k_M_unfold) 106 = .ok (.aload_n 0, 1) := by decide +kernel
theorem d_M_unfold_107 : decode (xC k_M_unfold) 107 = .ok (.getfield 22, 3) := by decide +kernel
theorem d_M_unfold_110 : decode (xC k_M_unfold) 110 = .ok (.sipush 160, 3) := by decide +kernel
theorem d_M_unfold_113 : decode (xC k_M_unfold) 113 = .ok (.iload_n 1, 1) := by decide +kernel
theorem d_M_unfold_114 : decode (xC k_M_unfold) 114 = .ok (.imul, 1) := by decide +kernel
theorem d_M_unfold_115 : decode (xC k_M_unfold) 115 = .ok (.iload_n 2, 1) := by decide +kernel
theorem d_M_unfold_116 : decode (xC k_M_unfold) 116 = .ok (.iadd, 1) := by decide +kernel
theorem d_M_unfold_117 : decode (xC k_M_unfold) 117 = .ok (.iaload, 1) := by decide +kernel
theorem d_M_unfold_118 : decode (xC k_M_unfold) 118 = .ok (.iconst 2, 1) := by decide +kernel
theorem d_M_unfold_119 : decode (xC k_M_unfold) 119 = .ok (.if_icmp .ne 8, 3) := by decide +kernel
theorem d_M_unfold_122 : decode (xC k_M_unfold) 122 = .ok (.bipush (-124), 2) := by decide +kernel
theorem d_M_unfold_124 : decode (xC k_M_unfold) 124 = .ok (.goto 5, 3) := by decide +kernel
theorem d_M_unfold_127 : decode (xC k_M_unfold) 127 = .ok (.bipush (-38), 2) := by decide +kernel
theorem d_M_unfold_129 : decode (xC k_M_unfold) 129 = .ok (.iastore, 1) := by decide +kernel
theorem d_M_unfold_130 : decode (xC k_M_unfold) 130 = .ok (.aload_n 0, 1) := by decide +kernel
theorem d_M_unfold_131 : decode (xC k_M_unfold) 131 = .ok (.dup, 1) := by decide +kernel
theorem d_M_unfold_132 : decode (xC k_M_unfold) 132 = .ok (.getfield 158, 3) := by decide +kernel
theorem d_M_unfold_135 : decode (xC k_M_unfold) 135 = .ok (.iconst 1, 1) := by decide +kernel
theorem d_M_unfold_136 : decode (xC k_M_unfold) 136 = .ok (.iadd, 1) := by decide +kernel
theorem d_M_unfold_137 : decode (xC k_M_unfold) 137 = .ok (.putfield 158, 3) := by decide +kernel
theorem d_M_unfold_140 : decode (xC k_M_unfold) 140 = .ok (.iinc 5 (-1), 3) := by decide +kernel
theorem d_M_unfold_143 : decode (xC k_M_unfold) 143 = .ok (.goto (-97), 3) := by decide +kernel
theorem d_M_unfold_146 : decode (xC k_M_unfold) 146 = .ok (.iload_n 3, 1) := by decide +kernel
theorem d_M_unfold_147 : decode (xC k_M_unfold) 147 = .ok (.iconst 1, 1) := by decide +kernel
theorem d_M_unfold_148 : decode (xC k_M_unfold) 148 = .ok (.if_icmp .le 9, 3) := by decide +kernel
theorem d_M_unfold_151 : decode (xC k_M_unfold) 151 = .ok (.aload_n 0, 1) := by decide +kernel
theorem d_M_unfold_152 : decode (xC k_M_unfold) 152 = .ok (.bipush 40, 2) := by decide +kernel
theorem d_M_unfold_154 : decode (xC k_M_unfold) 154 = .ok (.invokevirtual 152, 3) := by decide +kernel
theorem d_M_unfold_157 : decode (xC k_M_unfold) 157 = .ok (.return_, 1) := by decide +kernel
theorem d_M_write_0 : decode (xC k_M_write) 0 = .ok (.aload_n 0, 1) := by decide +kernel
theorem d_M_write_1 : decode (xC k_M_write) 1 = .ok (.iconst 0, 1) := by decide +kernel
theorem d_M_write_2 : decode (xC k_M_write) 2 = .ok (.putfield 149, 3) := by decide +kernel
theorem d_M_write_5 : decode (xC k_M_write) 5 = .ok (.iconst 0, 1) := by decide +kernel
theorem d_M_write_6 : decode (xC k_M_write) 6 = .ok (.istore_n 2, 1) := by decide +kernel
theorem d_M_write_7 : decode (xC k_M_write) 7 = .ok (.iload_n 2, 1) := by decide +kernel
theorem d_M_write_8 : decode (xC k_M_write) 8 = .ok (.aload_n 0, 1) := by decide +kernel
theorem d_M_write_9 : decode (xC k_M_write) 9 = .ok (.getfield 13, 3) := by decide +kernel
theorem d_M_write_12 : decode (xC k_M_write) 12 = .ok (.iload_n 1, 1) := by decide +kernel
theorem d_M_write_13 : decode (xC k_M_write) 13 = .ok (.iaload, 1) := by decide +kernel
theorem d_M_write_14 : decode (xC k_M_write) 14 = .ok (.if_icmp .ge 181, 3) := by decide +kernel
theorem d_M_write_17 : decode (xC k_M_write) 17 = .ok (.aload_n 0, 1) := by decide +kernel
theorem d_M_write_18 : decode (xC k_M_write) 18 = .ok (.iconst 1, 1) := by decide +kernel
theorem d_M_write_19 : decode (xC k_M_write) 19 = .ok (.putfield 158, 3) := by decide +kernel
theorem d_M_write_22 : decode (xC k_M_write) 22 = .ok (.aload_n 0, 1) := by decide +kernel
theorem d_M_write_23 : decode (xC k_M_write) 23 = .ok (.getfield 43, 3) := by decide +kernel
theorem d_M_write_26 : decode (xC k_M_write) 26 = .ok (.iconst 0, 1) := by decide +kernel
theorem d_M_write_27 : decode (xC k_M_write) 27 = .ok (.aload_n 0, 1) := by decide +kernel
theorem d_M_write_28 : decode (xC k_M_write) 28 = .ok (.getfield 16, 3) := by decide +kernel
theorem d_M_write_31 : decode (xC k_M_write) 31 = .ok (.bipush 6, 2) := by decide +kernel
theorem d_M_write_33 : decode (xC k_M_write) 33 = .ok (.iload_n 1, 1) := by decide +kernel
theorem d_M_write_34 : decode (xC k_M_write) 34 = .ok (.imul, 1) := by decide +kernel
theorem d_M_write_35 : decode (xC k_M_write) 35 = .ok (.iload_n 2, 1) := by decide +kernel
theorem d_M_write_36 : decode (xC k_M_write) 36 = .ok (.iadd, 1) := by decide +kernel
theorem d_M_write_37 : decode (xC k_M_write) 37 = .ok (.iaload, 1) := by decide +kernel
theorem d_M_write_38 : decode (xC k_M_write) 38 = .ok (.iastore, 1) := by decide +kernel
theorem d_M_write_39 : decode (xC k_M_write) 39 = .ok (.aload_n 0, 1) := by decide +kernel
theorem d_M_write_40 : decode (xC k_M_write) 40 = .ok (.getfield 158, 3) := by decide +kernel
theorem d_M_write_43 : decode (xC k_M_write) 43 = .ok (.ifCond .le 140, 3) := by decide +kernel
theorem d_M_write_46 : decode (xC k_M_write) 46 = .ok (.aload_n 0, 1) := by decide +kernel
theorem d_M_write_47 : decode (xC k_M_write) 47 = .ok (.dup, 1) := by decide +kernel
theorem d_M_write_48 : decode (xC k_M_write) 48 = .ok (.getfield 158, 3) := by decide +kernel
theorem d_M_write_51 : decode (xC k_M_write) 51 = .ok (.iconst 1, 1) := by decide +kernel
theorem d_M_write_52 : decode (xC k_M_write) 52 = .ok (.isub, 1) := by decide +kernel
theorem d_M_write_53 : decode (xC k_M_write) 53 = .ok (.putfield 158, 3) := by decide +kernel
theorem d_M_write_56 : decode (xC k_M_write) 56 = .ok (.aload_n 0, 1) := by decide +kernel
theorem d_M_write_57 : decode (xC k_M_write) 57 = .ok (.getfield 43, 3) := by decide +kernel
theorem d_M_write_60 : decode (xC k_M_write) 60 = .ok (.aload_n 0, 1) := by decide +kernel
theorem d_M_write_61 : decode (xC k_M_write) 61 = .ok (.getfield 158, 3) := by decide +kernel
theorem d_M_write_64 : decode (xC k_M_write) 64 = .ok (.iaload, 1) := by decide +kernel
theorem d_M_write_65 : decode (xC k_M_write) 65 = .ok (.istore_n 3, 1) := by decide +kernel
theorem d_M_write_66 : decode (xC k_M_write) 66 = .ok (.sipush 160, 3) := by decide +kernel
theorem d_M_write_69 : decode (xC k_M_write) 69 = .ok (.iload_n 1, 1) := by decide +kernel
theorem d_M_write_70 : decode (xC k_M_write) 70 = .ok (.imul, 1) := by decide +kernel
theorem d_M_write_71 : decode (xC k_M_write) 71 = .ok (.iload_n 3, 1) := by decide +kernel
theorem d_M_write_72 : decode (xC k_M_write) 72 = .ok (.ifCond .ge 7, 3) := by decide +kernel
theorem d_M_write_75 : decode (xC k_M_write) 75 = .ok (.iconst 0, 1) := by decide +kernel
theorem d_M_write_76 : decode (xC k_M_write) 76 = .ok (.goto 4, 3) := by decide +kernel
theorem d_M_write_79 : decode (xC k_M_write) 79 = .ok (.iload_n 3, 1) := by decide +kernel
theorem d_M_write_80 : decode (xC k_M_write) 80 = .ok (.iadd, 1) := by decide +kernel
theorem d_M_write_81 : decode (xC k_M_write) 81 = .ok (.istore 4, 2) := by decide +kernel
theorem d_M_write_83 : decode (xC k_M_write) 83 = .ok (.iconst 0, 1) := by decide +kernel
theorem d_M_write_84 : decode (xC k_M_write) 84 = .ok (.istore 5, 2) := by decide +kernel
theorem d_M_write_86 : decode (xC k_M_write) 86 = .ok (.iload_n 3, 1) := by decide +kernel
theorem d_M_write_87 : decode (xC k_M_write) 87 = .ok (.ifCond .lt 27, 3) := by decide +kernel
theorem d_M_write_90 : decode (xC k_M_write) 90 = .ok (.iload 5, 2) := by decide +kernel
theorem d_M_write_92 : decode (xC k_M_write) 92 = .ok (.aload_n 0, 1) := by decide +kernel
theorem d_M_write_93 : decode (xC k_M_write) 93 = .ok (.getfield 28, 3) := by decide +kernel
theorem d_M_write_96 : decode (xC k_M_write) 96 = .ok (.iload 4, 2) := by decide +kernel
theorem d_M_write_98 : decode (xC k_M_write) 98 = .ok (.iaload, 1) := by decide +kernel
theorem d_M_write_99 : decode (xC k_M_write) 99 = .ok (.if_icmp .ge 15, 3) := by decide +kernel
theorem d_M_write_102 : decode (xC k_M_write) 102 = .ok (.aload_n 0, 1) := by decide +kernel
theorem d_M_write_103 : decode (xC k_M_write) 103 = .ok (.bipush 33, 2) := by decide +kernel
theorem d_M_write_105 : decode (xC k_M_write) 105 = .ok (.invokevirtual 152, 3) := by decide +kernel
theorem d_M_write_108 : decode (xC k_M_write) 108 = .ok (.iinc 5 1, 3) := by decide +kernel
theorem d_M_write_111 : decode (xC k_M_write) 111 = .ok (.goto (-25), 3) := by decide +kernel
theorem d_M_write_114 : decode (xC k_M_write) 114 = .ok (.iload_n 3, 1) := by decide +kernel
theorem d_M_write_115 : decode (xC k_M_write) 115 = .ok (.ifCond .ge 13, 3) := by decide +kernel
theorem d_M_write_118 : decode (xC k_M_write) 118 = .ok (.aload_n 0, 1) := by decide +kernel
theorem d_M_write_119 : decode (xC k_M_write) 119 = .ok (.iconst 0, 1) := by decide +kernel
theorem d_M_write_120 : decode (xC k_M_write) 120 = .ok (.iload_n 3, 1) := by decide +kernel
theorem d_M_write_121 : decode (xC k_M_write) 121 = .ok (.isub, 1) := by decide +kernel
theorem d_M_write_122 : decode (xC k_M_write) 122 = .ok (.invokevirtual 152, 3) := by decide +kernel
theorem d_M_write_125 : decode (xC k_M_write) 125 = .ok (.goto 55, 3) := by decide +kernel
theorem d_M_write_128 : decode (xC k_M_write) 128 = .ok (.aload_n 0, 1) := by decide +kernel
theorem d_M_write_129 : decode (xC k_M_write) 129 = .ok (.getfield 22, 3) := by decide +kernel
theorem d_M_write_132 : decode (xC k_M_write) 132 = .ok (.iload 4, 2) := by decide +kernel
theorem d_M_write_134 : decode (xC k_M_write) 134 = .ok (.iaload, 1) := by decide +kernel
theorem d_M_write_135 : decode (xC k_M_write) 135 = .ok (.ifCond .le 12, 3) := by decide +kernel
theorem d_M_write_138 : decode (xC k_M_write) 138 = .ok (.aload_n 0, 1) := by decide +kernel
theorem d_M_write_139 : decode (xC k_M_write) 139 = .ok (.iload_n 1, 1) := by decide +kernel
theorem d_M_write_140 : decode (xC k_M_write) 140 = .ok (.iload_n 3, 1) := by decide +kernel
theorem d_M_write_141 : decode (xC k_M_write) 141 = .ok (.invokevirtual 161, 3) := by decide +kernel
theorem d_M_write_144 : decode (xC k_M_write) 144 = .ok (.goto 36, 3) := by decide +kernel
theorem d_M_write_147 : decode (xC k_M_write) 147 = .ok (.aload_n 0, 1) := by decide +kernel
theorem d_M_write_148 : decode (xC k_M_write) 148 = .ok (.aload_n 0, 1) := by decide +kernel
theorem d_M_write_149 : decode (xC k_M_write) 149 = .ok (.getfield 31, 3) := by decide +kernel
theorem d_M_write_152 : decode (xC k_M_write) 152 = .ok (.iload 4, 2) := by decide +kernel
theorem d_M_write_154 : decode (xC k_M_write) 154 = .ok (.iaload, 1) := by decide +kernel
theorem d_M_write_155 : decode (xC k_M_write) 155 = .ok (.invokevirtual 152, 3) := by decide +kernel
theorem d_M_write_158 : decode (xC k_M_write) 158 = .ok (.aload_n 0, 1) := by decide +kernel
theorem d_M_write_159 : decode (xC k_M_write) 159 = .ok (.aload_n 0, 1) := by decide +kernel
theorem d_M_write_160 : decode (xC k_M_write) 160 = .ok (.getfield 34, 3) := by decide +kernel
theorem d_M_write_163 : decode (xC k_M_write) 163 = .ok (.iload 4, 2) := by decide +kernel
theorem d_M_write_165 : decode (xC k_M_write) 165 = .ok (.iaload, 1) := by decide +kernel
theorem d_M_write_166 : decode (xC k_M_write) 166 = .ok (.invokevirtual 152, 3) := by decide +kernel
theorem d_M_write_169 : decode (xC k_M_write) 169 = .ok (.aload_n 0, 1) := by decide +kernel
theorem d_M_write_170 : decode (xC k_M_write) 170 = .ok (.aload_n 0, 1) := by decide +kernel
theorem d_M_write_171 : decode (xC k_M_write) 171 = .ok (.getfield 37, 3) := by decide +kernel
theorem d_M_write_174 : decode (xC k_M_write) 174 = .ok (.iload 4, 2) := by decide +kernel
theorem d_M_write_176 : decode (xC k_M_write) 176 = .ok (.iaload, 1) := by decide +kernel
theorem d_M_write_177 : decode (xC k_M_write) 177 = .ok (.invokevirtual 165, 3) := by decide +kernel
theorem d_M_write_180 : decode (xC k_M_write) 180 = .ok (.goto (-141), 3) := by decide +kernel
theorem d_M_write_183 : decode (xC k_M_write) 183 = .ok (.aload_n 0, 1) := by decide +kernel
theorem d_M_write_184 : decode (xC k_M_write) 184 = .ok (.bipush 59, 2) := by decide +kernel
theorem d_M_write_186 : decode (xC k_M_write) 186 = .ok (.invokevirtual 152, 3) := by decide +kernel
theorem d_M_write_189 : decode (xC k_M_write) 189 = .ok (.iinc 2 1, 3) := by decide +kernel
theorem d_M_write_192 : decode (xC k_M_write) 192 = .ok (.goto (-185), 3) := by decide +kernel
theorem d_M_write_195 : decode (xC k_M_write) 195 = .ok (.return_, 1) := by decide +kernel
theorem d_M_written_0 : decode (xC k_M_written) 0 = .ok (.aload_n 0, 1) := by decide +kernel
theorem d_M_written_1 : decode (xC k_M_written) 1 = .ok (.iload_n 1, 1) := by decide +kernel
theorem d_M_written_2 : decode (xC k_M_written) 2 = .ok (.invokevirtual 146, 3) := by decide +kernel
theorem d_M_written_5 : decode (xC k_M_written) 5 = .ok (.ifCond .eq 12, 3) := by decide +kernel
theorem d_M_written_8 : decode (xC k_M_written) 8 = .ok (.iload_n 2, 1) := by decide +kernel
theorem d_M_written_9 : decode (xC k_M_written) 9 = .ok (.iconst (-1), 1) := by decide +kernel
theorem d_M_written_10 : decode (xC k_M_written) 10 = .ok (.if_icmp .lt 7, 3) := by decide +kernel
theorem d_M_written_13 : decode (xC k_M_written) 13 = .ok (.iconst 1, 1) := by decide +kernel
theorem d_M_written_14 : decode (xC k_M_written) 14 = .ok (.goto 4, 3) := by decide +kernel
theorem d_M_written_17 : decode (xC k_M_written) 17 = .ok (.iconst 0, 1) := by decide +kernel
theorem d_M_written_18 : decode (xC k_M_written) 18 = .ok (.istore_n 3, 1) := by decide +kernel
theorem d_M_written_19 : decode (xC k_M_written) 19 = .ok (.iload_n 3, 1) := by decide +kernel
theorem d_M_written_20 : decode (xC k_M_written) 20 = .ok (.ifCond .eq 8, 3) := by decide +kernel
theorem d_M_written_23 : decode (xC k_M_written) 23 = .ok (.aload_n 0, 1) := by decide +kernel
theorem d_M_written_24 : decode (xC k_M_written) 24 = .ok (.iload_n 1, 1) := by decide +kernel
theorem d_M_written_25 : decode (xC k_M_written) 25 = .ok (.invokevirtual 168, 3) := by decide +kernel
theorem d_M_written_28 : decode (xC k_M_written) 28 = .ok (.aload_n 0, 1) := by decide +kernel
theorem d_M_written_29 : decode (xC k_M_written) 29 = .ok (.iload_n 3, 1) := by decide +kernel
theorem d_M_written_30 : decode (xC k_M_written) 30 = .ok (.ifCond .eq 15, 3) := by decide +kernel
theorem d_M_written_33 : decode (xC k_M_written) 33 = .ok (.iload_n 2, 1) := by decide +kernel
theorem d_M_written_34 : decode (xC k_M_written) 34 = .ok (.aload_n 0, 1) := by decide +kernel
theorem d_M_written_35 : decode (xC k_M_written) 35 = .ok (.getfield 149, 3) := by decide +kernel
theorem d_M_written_38 : decode (xC k_M_written) 38 = .ok (.if_icmp .ge 7, 3) := by decide +kernel
theorem d_M_written_41 : decode (xC k_M_written) 41 = .ok (.iconst 1, 1) := by decide +kernel
theorem d_M_written_42 : decode (xC k_M_written) 42 = .ok (.goto 4, 3) := by decide +kernel
theorem d_M_written_45 : decode (xC k_M_written) 45 = .ok (.iconst 0, 1) := by decide +kernel
theorem d_M_written_46 : decode (xC k_M_written) 46 = .ok (.iconst 1, 1) := by decide +kernel
theorem d_M_written_47 : decode (xC k_M_written) 47 = .ok (.iconst 1, 1) := by decide +kernel
theorem d_M_written_48 : decode (xC k_M_written) 48 = .ok (.invokevirtual 116, 3) := by decide +kernel
theorem d_M_written_51 : decode (xC k_M_written) 51 = .ok (.ifCond .ne 5, 3) := by decide +kernel
theorem d_M_written_54 : decode (xC k_M_written) 54 = .ok (.iconst 0, 1) := by decide +kernel
theorem d_M_written_55 : decode (xC k_M_written) 55 = .ok (.ireturn, 1) := by decide +kernel
theorem d_M_written_56 : decode (xC k_M_written) 56 = .ok (.iload_n 2, 1) := by decide +kernel
theorem d_M_written_57 : decode (xC k_M_written) 57 = .ok (.iconst (-1), 1) := by decide +kernel
theorem d_M_written_58 : decode (xC k_M_written) 58 = .ok (.if_icmp .ne 10, 3) := by decide +kernel
theorem d_M_written_61 : decode (xC k_M_written) 61 = .ok (.aload_n 0, 1) := by decide +kernel
theorem d_M_written_62 : decode (xC k_M_written) 62 = .ok (.getfield 149, 3) := by decide +kernel
theorem d_M_written_65 : decode (xC k_M_written) 65 = .ok (.goto 9, 3) := by decide +kernel
theorem d_M_written_68 : decode (xC k_M_written) 68 = .ok (.aload_n 0, 1) := by decide +kernel
theorem d_M_written_69 : decode (xC k_M_written) 69 = .ok (.getfield 46, 3) := by decide +kernel
theorem d_M_written_72 : decode (xC k_M_written) 72 = .ok (.iload_n 2, 1) := by decide +kernel
theorem d_M_written_73 : decode (xC k_M_written) 73 = .ok (.iaload, 1) := by decide +kernel
theorem d_M_written_74 : decode (xC k_M_written) 74 = .ok (.ireturn, 1) := by decide +kernel
theorem d_M_input_0 : decode (xC k_M_input) 0 = .ok (.iload_n 1, 1) := by decide +kernel
theorem d_M_input_1 : decode (xC k_M_input) 1 = .ok (.ifCond .lt 13, 3) := by decide +kernel
theorem d_M_input_4 : decode (xC k_M_input) 4 = .ok (.iload_n 1, 1) := by decide +kernel
theorem d_M_input_5 : decode (xC k_M_input) 5 = .ok (.bipush 8, 2) := by decide +kernel
theorem d_M_input_7 : decode (xC k_M_input) 7 = .ok (.if_icmp .ge 7, 3) := by decide +kernel
theorem d_M_input_10 : decode (xC k_M_input) 10 = .ok (.iconst 1, 1) := by decide +kernel
theorem d_M_input_11 : decode (xC k_M_input) 11 = .ok (.goto 4, 3) := by decide +kernel
theorem d_M_input_14 : decode (xC k_M_input) 14 = .ok (.iconst 0, 1) := by decide +kernel
theorem d_M_input_15 : decode (xC k_M_input) 15 = .ok (.istore 4, 2) := by decide +kernel
theorem d_M_input_17 : decode (xC k_M_input) 17 = .ok (.iload 4, 2) := by decide +kernel
theorem d_M_input_19 : decode (xC k_M_input) 19 = .ok (.ifCond .eq 12, 3) := by decide +kernel
theorem d_M_input_22 : decode (xC k_M_input) 22 = .ok (.aload_n 0, 1) := by decide +kernel
theorem d_M_input_23 : decode (xC k_M_input) 23 = .ok (.getfield 49, 3) := by decide +kernel
theorem d_M_input_26 : decode (xC k_M_input) 26 = .ok (.iload_n 1, 1) := by decide +kernel
theorem d_M_input_27 : decode (xC k_M_input) 27 = .ok (.iaload, 1) := by decide +kernel
theorem d_M_input_28 : decode (xC k_M_input) 28 = .ok (.goto 4, 3) := by decide +kernel
theorem d_M_input_31 : decode (xC k_M_input) 31 = .ok (.iconst 0, 1) := by decide +kernel
theorem d_M_input_32 : decode (xC k_M_input) 32 = .ok (.istore 5, 2) := by decide +kernel
theorem d_M_input_34 : decode (xC k_M_input) 34 = .ok (.iload 4, 2) := by decide +kernel
theorem d_M_input_36 : decode (xC k_M_input) 36 = .ok (.ifCond .eq 40, 3) := by decide +kernel
theorem d_M_input_39 : decode (xC k_M_input) 39 = .ok (.iload_n 2, 1) := by decide +kernel
theorem d_M_input_40 : decode (xC k_M_input) 40 = .ok (.iconst 0, 1) := by decide +kernel
theorem d_M_input_41 : decode (xC k_M_input) 41 = .ok (.ldc 171, 2) := by decide +kernel
theorem d_M_input_43 : decode (xC k_M_input) 43 = .ok (.invokestatic 112, 3) := by decide +kernel
theorem d_M_input_46 : decode (xC k_M_input) 46 = .ok (.ifCond .eq 30, 3) := by decide +kernel
theorem d_M_input_49 : decode (xC k_M_input) 49 = .ok (.iload 5, 2) := by decide +kernel
theorem d_M_input_51 : decode (xC k_M_input) 51 = .ok (.ifCond .eq 21, 3) := by decide +kernel
theorem d_M_input_54 : decode (xC k_M_input) 54 = .ok (.iload_n 2, 1) := by decide +kernel
theorem d_M_input_55 : decode (xC k_M_input) 55 = .ok (.aload_n 0, 1) := by decide +kernel
theorem d_M_input_56 : decode (xC k_M_input) 56 = .ok (.getfield 52, 3) := by decide +kernel
theorem d_M_input_59 : decode (xC k_M_input) 59 = .ok (.bipush 60, 2) := by decide +kernel
theorem d_M_input_61 : decode (xC k_M_input) 61 = .ok (.iload_n 1, 1) := by decide +kernel
theorem d_M_input_62 : decode (xC k_M_input) 62 = .ok (.imul, 1) := by decide +kernel
theorem d_M_input_63 : decode (xC k_M_input) 63 = .ok (.iload 5, 2) := by decide +kernel
theorem d_M_input_65 : decode (xC k_M_input) 65 = .ok (.iadd, 1) := by decide +kernel
theorem d_M_input_66 : decode (xC k_M_input) 66 = .ok (.iconst 1, 1) := by decide +kernel
theorem d_M_input_67 : decode (xC k_M_input) 67 = .ok (.isub, 1) := by decide +kernel
theorem d_M_input_68 : decode (xC k_M_input) 68 = .ok (.iaload, 1) := by decide +kernel
theorem d_M_input_69 : decode (xC k_M_input) 69 = .ok (.if_icmp .le 7, 3) := by decide +kernel
theorem d_M_input_72 : decode (xC k_M_input) 72 = .ok (.iconst 1, 1) := by decide +kernel
theorem d_M_input_73 : decode (xC k_M_input) 73 = .ok (.goto 4, 3) := by decide +kernel
theorem d_M_input_76 : decode (xC k_M_input) 76 = .ok (.iconst 0, 1) := by decide +kernel
theorem d_M_input_77 : decode (xC k_M_input) 77 = .ok (.istore 6, 2) := by decide +kernel
theorem d_M_input_79 : decode (xC k_M_input) 79 = .ok (.aload_n 0, 1) := by decide +kernel
theorem d_M_input_80 : decode (xC k_M_input) 80 = .ok (.iload 4, 2) := by decide +kernel
theorem d_M_input_82 : decode (xC k_M_input) 82 = .ok (.iload 5, 2) := by decide +kernel
theorem d_M_input_84 : decode (xC k_M_input) 84 = .ok (.bipush 60, 2) := by decide +kernel
theorem d_M_input_86 : decode (xC k_M_input) 86 = .ok (.if_icmp .ge 7, 3) := by decide +kernel
theorem d_M_input_89 : decode (xC k_M_input) 89 = .ok (.iconst 1, 1) := by decide +kernel
theorem d_M_input_90 : decode (xC k_M_input) 90 = .ok (.goto 4, 3) := by decide +kernel
theorem d_M_input_93 : decode (xC k_M_input) 93 = .ok (.iconst 0, 1) := by decide +kernel
theorem d_M_input_94 : decode (xC k_M_input) 94 = .ok (.iload 6, 2) := by decide +kernel
theorem d_M_input_96 : decode (xC k_M_input) 96 = .ok (.ifCond .eq 17, 3) := by decide +kernel
theorem d_M_input_99 : decode (xC k_M_input) 99 = .ok (.iload_n 3, 1) := by decide +kernel
theorem d_M_input_100 : decode (xC k_M_input) 100 = .ok (.iconst 0, 1) := by decide +kernel
theorem d_M_input_101 : decode (xC k_M_input) 101 = .ok (.ldc 172, 2) := by decide +kernel
theorem d_M_input_103 : decode (xC k_M_input) 103 = .ok (.invokestatic 112, 3) := by decide +kernel
theorem d_M_input_106 : decode (xC k_M_input) 106 = .ok (.ifCond .eq 7, 3) := by decide +kernel
theorem d_M_input_109 : decode (xC k_M_input) 109 = .ok (.iconst 1, 1) := by decide +kernel
theorem d_M_input_110 : decode (xC k_M_input) 110 = .ok (.goto 4, 3) := by decide +kernel
theorem d_M_input_113 : decode (xC k_M_input) 113 = .ok (.iconst 0, 1) := by decide +kernel
theorem d_M_input_114 : decode (xC k_M_input) 114 = .ok (.invokevirtual 116, 3) := by decide +kernel
theorem d_M_input_117 : decode (xC k_M_input) 117 = .ok (.ifCond .ne 5, 3) := by decide +kernel
theorem d_M_input_120 : decode (xC k_M_input) 120 = .ok (.iconst 0, 1) := by decide +kernel
theorem d_M_input_121 : decode (xC k_M_input) 121 = .ok (.ireturn, 1) := by decide +kernel
theorem d_M_input_122 : decode (xC k_M_input) 122 = .ok (.aload_n 0, 1) := by decide +kernel
theorem d_M_input_123 : decode (xC k_M_input) 123 = .ok (.getfield 52, 3) := by decide +kernel
theorem d_M_input_126 : decode (xC k_M_input) 126 = .ok (.bipush 60, 2) := by decide +kernel
theorem d_M_input_128 : decode (xC k_M_input) 128 = .ok (.iload_n 1, 1) := by decide +kernel
theorem d_M_input_129 : decode (xC k_M_input) 129 = .ok (.imul, 1) := by decide +kernel
theorem d_M_input_130 : decode (xC k_M_input) 130 = .ok (.iload 5, 2) := by decide +kernel
theorem d_M_input_132 : decode (xC k_M_input) 132 = .ok (.iadd, 1) := by decide +kernel
theorem d_M_input_133 : decode (xC k_M_input) 133 = .ok (.iload_n 2, 1) := by decide +kernel
theorem d_M_input_134 : decode (xC k_M_input) 134 = .ok (.iastore, 1) := by decide +kernel
theorem d_M_input_135 : decode (xC k_M_input) 135 = .ok (.aload_n 0, 1) := by decide +kernel
theorem d_M_input_136 : decode (xC k_M_input) 136 = .ok (.getfield 55, 3) := by decide +kernel
theorem d_M_input_139 : decode (xC k_M_input) 139 = .ok (.bipush 60, 2) := by decide +kernel
theorem d_M_input_141 : decode (xC k_M_input) 141 = .ok (.iload_n 1, 1) := by decide +kernel
theorem d_M_input_142 : decode (xC k_M_input) 142 = .ok (.imul, 1) := by decide +kernel
theorem d_M_input_143 : decode (xC k_M_input) 143 = .ok (.iload 5, 2) := by decide +kernel
theorem d_M_input_145 : decode (xC k_M_input) 145 = .ok (.iadd, 1) := by decide +kernel
theorem d_M_input_146 : decode (xC k_M_input) 146 = .ok (.iload_n 3, 1) := by decide +kernel
theorem d_M_input_147 : decode (xC k_M_input) 147 = .ok (.iastore, 1) := by decide +kernel
theorem d_M_input_148 : decode (xC k_M_input) 148 = .ok (.aload_n 0, 1) := by decide +kernel
theorem d_M_input_149 : decode (xC k_M_input) 149 = .ok (.getfield 49, 3) := by decide +kernel
theorem d_M_input_152 : decode (xC k_M_input) 152 = .ok (.iload_n 1, 1) := by decide +kernel
theorem d_M_input_153 : decode (xC k_M_input) 153 = .ok (.dup2, 1) := by decide +kernel
theorem d_M_input_154 : decode (xC k_M_input) 154 = .ok (.iaload, 1) := by decide +kernel
theorem d_M_input_155 : decode (xC k_M_input) 155 = .ok (.iconst 1, 1) := by decide +kernel
theorem d_M_input_156 : decode (xC k_M_input) 156 = .ok (.iadd, 1) := by decide +kernel
theorem d_M_input_157 : decode (xC k_M_input) 157 = .ok (.iastore, 1) := by decide +kernel
theorem d_M_input_158 : decode (xC k_M_input) 158 = .ok (.aload_n 0, 1) := by decide +kernel
theorem d_M_input_159 : decode (xC k_M_input) 159 = .ok (.getfield 49, 3) := by decide +kernel
theorem d_M_input_162 : decode (xC k_M_input) 162 = .ok (.iload_n 1, 1) := by decide +kernel
theorem d_M_input_163 : decode (xC k_M_input) 163 = .ok (.iaload, 1) := by decide +kernel
theorem d_M_input_164 : decode (xC k_M_input) 164 = .ok (.ireturn, 1) := by decide +kernel
theorem d_M_fails_0 : decode (xC k_M_fails) 0 = .ok (.aload_n 0, 1) := by decide +kernel
theorem d_M_fails_1 : decode (xC k_M_fails) 1 = .ok (.iload_n 1, 1) := by decide +kernel
theorem d_M_fails_2 : decode (xC k_M_fails) 2 = .ok (.ifCond .lt 13, 3) := by decide +kernel
theorem d_M_fails_5 : decode (xC k_M_fails) 5 = .ok (.iload_n 1, 1) := by decide +kernel
theorem d_M_fails_6 : decode (xC k_M_fails) 6 = .ok (.bipush 8, 2) := by decide +kernel
theorem d_M_fails_8 : decode (xC k_M_fails) 8 = .ok (.if_icmp .ge 7, 3) := by decide +kernel
theorem d_M_fails_11 : decode (xC k_M_fails) 11 = .ok (.iconst 1, 1) := by decide +kernel
theorem d_M_fails_12 : decode (xC k_M_fails) 12 = .ok (.goto 4, 3) := by decide +kernel
theorem d_M_fails_15 : decode (xC k_M_fails) 15 = .ok (.iconst 0, 1) := by decide +kernel
theorem d_M_fails_16 : decode (xC k_M_fails) 16 = .ok (.iload_n 2, 1) := by decide +kernel
theorem d_M_fails_17 : decode (xC k_M_fails) 17 = .ok (.ifCond .lt 18, 3) := by decide +kernel
theorem d_M_fails_20 : decode (xC k_M_fails) 20 = .ok (.iload_n 2, 1) := by decide +kernel
theorem d_M_fails_21 : decode (xC k_M_fails) 21 = .ok (.iload_n 3, 1) := by decide +kernel
theorem d_M_fails_22 : decode (xC k_M_fails) 22 = .ok (.if_icmp .gt 13, 3) := by decide +kernel
theorem d_M_fails_25 : decode (xC k_M_fails) 25 = .ok (.iload_n 3, 1) := by decide +kernel
theorem d_M_fails_26 : decode (xC k_M_fails) 26 = .ok (.ldc 171, 2) := by decide +kernel
theorem d_M_fails_28 : decode (xC k_M_fails) 28 = .ok (.if_icmp .gt 7, 3) := by decide +kernel
theorem d_M_fails_31 : decode (xC k_M_fails) 31 = .ok (.iconst 1, 1) := by decide +kernel
theorem d_M_fails_32 : decode (xC k_M_fails) 32 = .ok (.goto 4, 3) := by decide +kernel
theorem d_M_fails_35 : decode (xC k_M_fails) 35 = .ok (.iconst 0, 1) := by decide +kernel
theorem d_M_fails_36 : decode (xC k_M_fails) 36 = .ok (.iconst 1, 1) := by decide +kernel
theorem d_M_fails_37 : decode (xC k_M_fails) 37 = .ok (.invokevirtual 116, 3) := by decide +kernel
theorem d_M_fails_40 : decode (xC k_M_fails) 40 = .ok (.ifCond .eq 17, 3) := by decide +kernel
theorem d_M_fails_43 : decode (xC k_M_fails) 43 = .ok (.aload_n 0, 1) := by decide +kernel
theorem d_M_fails_44 : decode (xC k_M_fails) 44 = .ok (.getfield 58, 3) := by decide +kernel
theorem d_M_fails_47 : decode (xC k_M_fails) 47 = .ok (.iload_n 1, 1) := by decide +kernel
theorem d_M_fails_48 : decode (xC k_M_fails) 48 = .ok (.iload_n 2, 1) := by decide +kernel
theorem d_M_fails_49 : decode (xC k_M_fails) 49 = .ok (.iastore, 1) := by decide +kernel
theorem d_M_fails_50 : decode (xC k_M_fails) 50 = .ok (.aload_n 0, 1) := by decide +kernel
theorem d_M_fails_51 : decode (xC k_M_fails) 51 = .ok (.getfield 61, 3) := by decide +kernel
theorem d_M_fails_54 : decode (xC k_M_fails) 54 = .ok (.iload_n 1, 1) := by decide +kernel
theorem d_M_fails_55 : decode (xC k_M_fails) 55 = .ok (.iload_n 3, 1) := by decide +kernel
theorem d_M_fails_56 : decode (xC k_M_fails) 56 = .ok (.iastore, 1) := by decide +kernel
theorem d_M_fails_57 : decode (xC k_M_fails) 57 = .ok (.return_, 1) := by decide +kernel
theorem d_M_valueAt_0 : decode (xC k_M_valueAt) 0 = .ok (.iconst (-1), 1) := by decide +kernel
theorem d_M_valueAt_1 : decode (xC k_M_valueAt) 1 = .ok (.istore_n 3, 1) := by decide +kernel
theorem d_M_valueAt_2 : decode (xC k_M_valueAt) 2 = .ok (.bipush 60, 2) := by decide +kernel
theorem d_M_valueAt_4 : decode (xC k_M_valueAt) 4 = .ok (.iload_n 1, 1) := by decide +kernel
theorem d_M_valueAt_5 : decode (xC k_M_valueAt) 5 = .ok (.imul, 1) := by decide +kernel
theorem d_M_valueAt_6 : decode (xC k_M_valueAt) 6 = .ok (.istore 4, 2) := by decide +kernel
theorem d_M_valueAt_8 : decode (xC k_M_valueAt) 8 = .ok (.iload 4, 2) := by decide +kernel
theorem d_M_valueAt_10 : decode (xC k_M_valueAt) 10 = .ok (.bipush 60, 2) := by decide +kernel
theorem d_M_valueAt_12 : decode (xC k_M_valueAt) 12 = .ok (.iload_n 1, 1) := by decide +kernel
theorem d_M_valueAt_13 : decode (xC k_M_valueAt) 13 = .ok (.imul, 1) := by decide +kernel
theorem d_M_valueAt_14 : decode (xC k_M_valueAt) 14 = .ok (.aload_n 0, 1) := by decide +kernel
theorem d_M_valueAt_15 : decode (xC k_M_valueAt) 15 = .ok (.getfield 49, 3) := by decide +kernel
theorem d_M_valueAt_18 : decode (xC k_M_valueAt) 18 = .ok (.iload_n 1, 1) := by decide +kernel
theorem d_M_valueAt_19 : decode (xC k_M_valueAt) 19 = .ok (.iaload, 1) := by decide +kernel
theorem d_M_valueAt_20 : decode (xC k_M_valueAt) 20 = .ok (.iadd, 1) := by decide +kernel
theorem d_M_valueAt_21 : decode (xC k_M_valueAt) 21 = .ok (.if_icmp .ge 32, 3) := by decide +kernel
theorem d_M_valueAt_24 : decode (xC k_M_valueAt) 24 = .ok (.aload_n 0, 1) := by decide +kernel
theorem d_M_valueAt_25 : decode (xC k_M_valueAt) 25 = .ok (.getfield 52, 3) := by decide +kernel
theorem d_M_valueAt_28 : decode (xC k_M_valueAt) 28 = .ok (.iload 4, 2) := by decide +kernel
theorem d_M_valueAt_30 : decode (xC k_M_valueAt) 30 = .ok (.iaload, 1) := by decide +kernel
theorem d_M_valueAt_31 : decode (xC k_M_valueAt) 31 = .ok (.iload_n 2, 1) := by decide +kernel
theorem d_M_valueAt_32 : decode (xC k_M_valueAt) 32 = .ok (.if_icmp .gt 13, 3) := by decide +kernel
theorem d_M_valueAt_35 : decode (xC k_M_valueAt) 35 = .ok (.aload_n 0, 1) := by decide +kernel
theorem d_M_valueAt_36 : decode (xC k_M_valueAt) 36 = .ok (.getfield 55, 3) := by decide +kernel
theorem d_M_valueAt_39 : decode (xC k_M_valueAt) 39 = .ok (.iload 4, 2) := by decide +kernel
theorem d_M_valueAt_41 : decode (xC k_M_valueAt) 41 = .ok (.iaload, 1) := by decide +kernel
theorem d_M_valueAt_42 : decode (xC k_M_valueAt) 42 = .ok (.goto 4, 3) := by decide +kernel
theorem d_M_valueAt_45 : decode (xC k_M_valueAt) 45 = .ok (.iload_n 3, 1) := by decide +kernel
theorem d_M_valueAt_46 : decode (xC k_M_valueAt) 46 = .ok (.istore_n 3, 1) := by decide +kernel
theorem d_M_valueAt_47 : decode (xC k_M_valueAt) 47 = .ok (.iinc 4 1, 3) := by decide +kernel
theorem d_M_valueAt_50 : decode (xC k_M_valueAt) 50 = .ok (.goto (-42), 3) := by decide +kernel
theorem d_M_valueAt_53 : decode (xC k_M_valueAt) 53 = .ok (.aload_n 0, 1) := by decide +kernel
theorem d_M_valueAt_54 : decode (xC k_M_valueAt) 54 = .ok (.getfield 61, 3) := by decide +kernel
theorem d_M_valueAt_57 : decode (xC k_M_valueAt) 57 = .ok (.iload_n 1, 1) := by decide +kernel
theorem d_M_valueAt_58 : decode (xC k_M_valueAt) 58 = .ok (.iaload, 1) := by decide +kernel
theorem d_M_valueAt_59 : decode (xC k_M_valueAt) 59 = .ok (.iconst (-1), 1) := by decide +kernel
theorem d_M_valueAt_60 : decode (xC k_M_valueAt) 60 = .ok (.if_icmp .eq 26, 3) := by decide +kernel
theorem d_M_valueAt_63 : decode (xC k_M_valueAt) 63 = .ok (.iload_n 2, 1) := by decide +kernel
theorem d_M_valueAt_64 : decode (xC k_M_valueAt) 64 = .ok (.aload_n 0, 1) := by decide +kernel
theorem d_M_valueAt_65 : decode (xC k_M_valueAt) 65 = .ok (.getfield 58, 3) := by decide +kernel
theorem d_M_valueAt_68 : decode (xC k_M_valueAt) 68 = .ok (.iload_n 1, 1) := by decide +kernel
theorem d_M_valueAt_69 : decode (xC k_M_valueAt) 69 = .ok (.iaload, 1) := by decide +kernel
theorem d_M_valueAt_70 : decode (xC k_M_valueAt) 70 = .ok (.aload_n 0, 1) := by decide +kernel
theorem d_M_valueAt_71 : decode (xC k_M_valueAt) 71 = .ok (.getfield 61, 3) := by decide +kernel
theorem d_M_valueAt_74 : decode (xC k_M_valueAt) 74 = .ok (.iload_n 1, 1) := by decide +kernel
theorem d_M_valueAt_75 : decode (xC k_M_valueAt) 75 = .ok (.iaload, 1) := by decide +kernel
theorem d_M_valueAt_76 : decode (xC k_M_valueAt) 76 = .ok (.invokestatic 112, 3) := by decide +kernel
theorem d_M_valueAt_79 : decode (xC k_M_valueAt) 79 = .ok (.ifCond .eq 7, 3) := by decide +kernel
theorem d_M_valueAt_82 : decode (xC k_M_valueAt) 82 = .ok (.iconst (-1), 1) := by decide +kernel
theorem d_M_valueAt_83 : decode (xC k_M_valueAt) 83 = .ok (.goto 4, 3) := by decide +kernel
theorem d_M_valueAt_86 : decode (xC k_M_valueAt) 86 = .ok (.iload_n 3, 1) := by decide +kernel
theorem d_M_valueAt_87 : decode (xC k_M_valueAt) 87 = .ok (.ireturn, 1) := by decide +kernel
theorem d_M_isOut_0 : decode (xC k_M_isOut) 0 = .ok (.iconst 0, 1) := by decide +kernel
theorem d_M_isOut_1 : decode (xC k_M_isOut) 1 = .ok (.istore 5, 2) := by decide +kernel
theorem d_M_isOut_3 : decode (xC k_M_isOut) 3 = .ok (.iload 5, 2) := by decide +kernel
theorem d_M_isOut_5 : decode (xC k_M_isOut) 5 = .ok (.aload_n 0, 1) := by decide +kernel
theorem d_M_isOut_6 : decode (xC k_M_isOut) 6 = .ok (.getfield 105, 3) := by decide +kernel
theorem d_M_isOut_9 : decode (xC k_M_isOut) 9 = .ok (.if_icmp .ge 51, 3) := by decide +kernel
theorem d_M_isOut_12 : decode (xC k_M_isOut) 12 = .ok (.iload 5, 2) := by decide +kernel
theorem d_M_isOut_14 : decode (xC k_M_isOut) 14 = .ok (.iload 4, 2) := by decide +kernel
theorem d_M_isOut_16 : decode (xC k_M_isOut) 16 = .ok (.if_icmp .eq 38, 3) := by decide +kernel
theorem d_M_isOut_19 : decode (xC k_M_isOut) 19 = .ok (.aload_n 0, 1) := by decide +kernel
theorem d_M_isOut_20 : decode (xC k_M_isOut) 20 = .ok (.getfield 67, 3) := by decide +kernel
theorem d_M_isOut_23 : decode (xC k_M_isOut) 23 = .ok (.iload 5, 2) := by decide +kernel
theorem d_M_isOut_25 : decode (xC k_M_isOut) 25 = .ok (.iaload, 1) := by decide +kernel
theorem d_M_isOut_26 : decode (xC k_M_isOut) 26 = .ok (.iload_n 1, 1) := by decide +kernel
theorem d_M_isOut_27 : decode (xC k_M_isOut) 27 = .ok (.if_icmp .ne 27, 3) := by decide +kernel
theorem d_M_isOut_30 : decode (xC k_M_isOut) 30 = .ok (.aload_n 0, 1) := by decide +kernel
theorem d_M_isOut_31 : decode (xC k_M_isOut) 31 = .ok (.getfield 70, 3) := by decide +kernel
theorem d_M_isOut_34 : decode (xC k_M_isOut) 34 = .ok (.iload 5, 2) := by decide +kernel
theorem d_M_isOut_36 : decode (xC k_M_isOut) 36 = .ok (.iaload, 1) := by decide +kernel
theorem d_M_isOut_37 : decode (xC k_M_isOut) 37 = .ok (.iload_n 3, 1) := by decide +kernel
theorem d_M_isOut_38 : decode (xC k_M_isOut) 38 = .ok (.if_icmp .gt 16, 3) := by decide +kernel
theorem d_M_isOut_41 : decode (xC k_M_isOut) 41 = .ok (.iload_n 2, 1) := by decide +kernel
theorem d_M_isOut_42 : decode (xC k_M_isOut) 42 = .ok (.aload_n 0, 1) := by decide +kernel
theorem d_M_isOut_43 : decode (xC k_M_isOut) 43 = .ok (.getfield 73, 3) := by decide +kernel
theorem d_M_isOut_46 : decode (xC k_M_isOut) 46 = .ok (.iload 5, 2) := by decide +kernel
theorem d_M_isOut_48 : decode (xC k_M_isOut) 48 = .ok (.iaload, 1) := by decide +kernel
theorem d_M_isOut_49 : decode (xC k_M_isOut) 49 = .ok (.if_icmp .gt 5, 3) := by decide +kernel
theorem d_M_isOut_52 : decode (xC k_M_isOut) 52 = .ok (.iconst 1, 1) := by decide +kernel
theorem d_M_isOut_53 : decode (xC k_M_isOut) 53 = .ok (.ireturn, 1) := by decide +kernel
theorem d_M_isOut_54 : decode (xC k_M_isOut) 54 = .ok (.iinc 5 1, 3) := by decide +kernel
theorem d_M_isOut_57 : decode (xC k_M_isOut) 57 = .ok (.goto (-54), 3) := by decide +kernel
theorem d_M_isOut_60 : decode (xC k_M_isOut) 60 = .ok (.iconst 0, 1) := by decide +kernel
theorem d_M_isOut_61 : decode (xC k_M_isOut) 61 = .ok (.ireturn, 1) := by decide +kernel
theorem d_M_loan_0 : decode (xC k_M_loan) 0 = .ok (.aload_n 0, 1) := by decide +kernel
theorem d_M_loan_1 : decode (xC k_M_loan) 1 = .ok (.aload_n 0, 1) := by decide +kernel
theorem d_M_loan_2 : decode (xC k_M_loan) 2 = .ok (.iload_n 1, 1) := by decide +kernel
theorem d_M_loan_3 : decode (xC k_M_loan) 3 = .ok (.invokevirtual 146, 3) := by decide +kernel
theorem d_M_loan_6 : decode (xC k_M_loan) 6 = .ok (.ifCond .eq 14, 3) := by decide +kernel
theorem d_M_loan_9 : decode (xC k_M_loan) 9 = .ok (.iload_n 2, 1) := by decide +kernel
theorem d_M_loan_10 : decode (xC k_M_loan) 10 = .ok (.invokestatic 173, 3) := by decide +kernel
theorem d_M_loan_13 : decode (xC k_M_loan) 13 = .ok (.ifCond .eq 7, 3) := by decide +kernel
theorem d_M_loan_16 : decode (xC k_M_loan) 16 = .ok (.iconst 1, 1) := by decide +kernel
theorem d_M_loan_17 : decode (xC k_M_loan) 17 = .ok (.goto 4, 3) := by decide +kernel
theorem d_M_loan_20 : decode (xC k_M_loan) 20 = .ok (.iconst 0, 1) := by decide +kernel
theorem d_M_loan_21 : decode (xC k_M_loan) 21 = .ok (.aload_n 0, 1) := by decide +kernel
theorem d_M_loan_22 : decode (xC k_M_loan) 22 = .ok (.getfield 105, 3) := by decide +kernel
theorem d_M_loan_25 : decode (xC k_M_loan) 25 = .ok (.bipush 20, 2) := by decide +kernel
theorem d_M_loan_27 : decode (xC k_M_loan) 27 = .ok (.if_icmp .ge 7, 3) := by decide +kernel
theorem d_M_loan_30 : decode (xC k_M_loan) 30 = .ok (.iconst 1, 1) := by decide +kernel
theorem d_M_loan_31 : decode (xC k_M_loan) 31 = .ok (.goto 4, 3) := by decide +kernel
theorem d_M_loan_34 : decode (xC k_M_loan) 34 = .ok (.iconst 0, 1) := by decide +kernel
theorem d_M_loan_35 : decode (xC k_M_loan) 35 = .ok (.iload_n 3, 1) := by decide +kernel
theorem d_M_loan_36 : decode (xC k_M_loan) 36 = .ok (.iload 4, 2) := by decide +kernel
theorem d_M_loan_38 : decode (xC k_M_loan) 38 = .ok (.invokestatic 176, 3) := by decide +kernel
theorem d_M_loan_41 : decode (xC k_M_loan) 41 = .ok (.invokevirtual 116, 3) := by decide +kernel
theorem d_M_loan_44 : decode (xC k_M_loan) 44 = .ok (.ifCond .ne 5, 3) := by decide +kernel
theorem d_M_loan_47 : decode (xC k_M_loan) 47 = .ok (.iconst 0, 1) := by decide +kernel
theorem d_M_loan_48 : decode (xC k_M_loan) 48 = .ok (.ireturn, 1) := by decide +kernel
theorem d_M_loan_49 : decode (xC k_M_loan) 49 = .ok (.aload_n 0, 1) := by decide +kernel
theorem d_M_loan_50 : decode (xC k_M_loan) 50 = .ok (.iload_n 2, 1) := by decide +kernel
theorem d_M_loan_51 : decode (xC k_M_loan) 51 = .ok (.iload_n 3, 1) := by decide +kernel
theorem d_M_loan_52 : decode (xC k_M_loan) 52 = .ok (.iload 4, 2) := by decide +kernel
theorem d_M_loan_54 : decode (xC k_M_loan) 54 = .ok (.iconst (-1), 1) := by decide +kernel
theorem d_M_loan_55 : decode (xC k_M_loan) 55 = .ok (.invokevirtual 180, 3) := by decide +kernel
theorem d_M_loan_58 : decode (xC k_M_loan) 58 = .ok (.ifCond .eq 5, 3) := by decide +kernel
theorem d_M_loan_61 : decode (xC k_M_loan) 61 = .ok (.iconst (-1), 1) := by decide +kernel
theorem d_M_loan_62 : decode (xC k_M_loan) 62 = .ok (.ireturn, 1) := by decide +kernel
theorem d_M_loan_63 : decode (xC k_M_loan) 63 = .ok (.aload_n 0, 1) := by decide +kernel
theorem d_M_loan_64 : decode (xC k_M_loan) 64 = .ok (.getfield 64, 3) := by decide +kernel
theorem d_M_loan_67 : decode (xC k_M_loan) 67 = .ok (.aload_n 0, 1) := by decide +kernel
theorem d_M_loan_68 : decode (xC k_M_loan) 68 = .ok (.getfield 105, 3) := by decide +kernel
theorem d_M_loan_71 : decode (xC k_M_loan) 71 = .ok (.iload_n 1, 1) := by decide +kernel
theorem d_M_loan_72 : decode (xC k_M_loan) 72 = .ok (.iastore, 1) := by decide +kernel
theorem d_M_loan_73 : decode (xC k_M_loan) 73 = .ok (.aload_n 0, 1) := by decide +kernel
theorem d_M_loan_74 : decode (xC k_M_loan) 74 = .ok (.getfield 67, 3) := by decide +kernel
theorem d_M_loan_77 : decode (xC k_M_loan) 77 = .ok (.aload_n 0, 1) := by decide +kernel
theorem d_M_loan_78 : decode (xC k_M_loan) 78 = .ok (.getfield 105, 3) := by decide +kernel
theorem d_M_loan_81 : decode (xC k_M_loan) 81 = .ok (.iload_n 2, 1) := by decide +kernel
theorem d_M_loan_82 : decode (xC k_M_loan) 82 = .ok (.iastore, 1) := by decide +kernel
theorem d_M_loan_83 : decode (xC k_M_loan) 83 = .ok (.aload_n 0, 1) := by decide +kernel
theorem d_M_loan_84 : decode (xC k_M_loan) 84 = .ok (.getfield 70, 3) := by decide +kernel
theorem d_M_loan_87 : decode (xC k_M_loan) 87 = .ok (.aload_n 0, 1) := by decide +kernel
theorem d_M_loan_88 : decode (xC k_M_loan) 88 = .ok (.getfield 105, 3) := by decide +kernel
theorem d_M_loan_91 : decode (xC k_M_loan) 91 = .ok (.iload_n 3, 1) := by decide +kernel
theorem d_M_loan_92 : decode (xC k_M_loan) 92 = .ok (.iastore, 1) := by decide +kernel
theorem d_M_loan_93 : decode (xC k_M_loan) 93 = .ok (.aload_n 0, 1) := by decide +kernel
theorem d_M_loan_94 : decode (xC k_M_loan) 94 = .ok (.getfield 73, 3) := by decide +kernel
theorem d_M_loan_97 : decode (xC k_M_loan) 97 = .ok (.aload_n 0, 1) := by decide +kernel
theorem d_M_loan_98 : decode (xC k_M_loan) 98 = .ok (.getfield 105, 3) := by decide +kernel
theorem d_M_loan_101 : decode (xC k_M_loan) 101 = .ok (.iload 4, 2) := by decide +kernel
theorem d_M_loan_103 : decode (xC k_M_loan) 103 = .ok (.iastore, 1) := by decide +kernel
theorem d_M_loan_104 : decode (xC k_M_loan) 104 = .ok (.aload_n 0, 1) := by decide +kernel
theorem d_M_loan_105 : decode (xC k_M_loan) 105 = .ok (.dup, 1) := by decide +kernel
theorem d_M_loan_106 : decode (xC k_M_loan) 106 = .ok (.getfield 105, 3) := by decide +kernel
theorem d_M_loan_109 : decode (xC k_M_loan) 109 = .ok (.iconst 1, 1) := by decide +kernel
theorem d_M_loan_110 : decode (xC k_M_loan) 110 = .ok (.iadd, 1) := by decide +kernel
theorem d_M_loan_111 : decode (xC k_M_loan) 111 = .ok (.putfield 105, 3) := by decide +kernel
theorem d_M_loan_114 : decode (xC k_M_loan) 114 = .ok (.aload_n 0, 1) := by decide +kernel
theorem d_M_loan_115 : decode (xC k_M_loan) 115 = .ok (.getfield 105, 3) := by decide +kernel
theorem d_M_loan_118 : decode (xC k_M_loan) 118 = .ok (.iconst 1, 1) := by decide +kernel
theorem d_M_loan_119 : decode (xC k_M_loan) 119 = .ok (.isub, 1) := by decide +kernel
theorem d_M_loan_120 : decode (xC k_M_loan) 120 = .ok (.ireturn, 1) := by decide +kernel
theorem d_M_shield_0 : decode (xC k_M_shield) 0 = .ok (.aload_n 0, 1) := by decide +kernel
theorem d_M_shield_1 : decode (xC k_M_shield) 1 = .ok (.aload_n 0, 1) := by decide +kernel
theorem d_M_shield_2 : decode (xC k_M_shield) 2 = .ok (.iload_n 1, 1) := by decide +kernel
theorem d_M_shield_3 : decode (xC k_M_shield) 3 = .ok (.invokevirtual 184, 3) := by decide +kernel
theorem d_M_shield_6 : decode (xC k_M_shield) 6 = .ok (.iconst 1, 1) := by decide +kernel
theorem d_M_shield_7 : decode (xC k_M_shield) 7 = .ok (.iconst 1, 1) := by decide +kernel
theorem d_M_shield_8 : decode (xC k_M_shield) 8 = .ok (.invokevirtual 116, 3) := by decide +kernel
theorem d_M_shield_11 : decode (xC k_M_shield) 11 = .ok (.ifCond .ne 5, 3) := by decide +kernel
theorem d_M_shield_14 : decode (xC k_M_shield) 14 = .ok (.iconst 0, 1) := by decide +kernel
theorem d_M_shield_15 : decode (xC k_M_shield) 15 = .ok (.ireturn, 1) := by decide +kernel
theorem d_M_shield_16 : decode (xC k_M_shield) 16 = .ok (.aload_n 0, 1) := by decide +kernel
theorem d_M_shield_17 : decode (xC k_M_shield) 17 = .ok (.getfield 76, 3) := by decide +kernel
theorem d_M_shield_20 : decode (xC k_M_shield) 20 = .ok (.iload_n 1, 1) := by decide +kernel
theorem d_M_shield_21 : decode (xC k_M_shield) 21 = .ok (.baload, 1) := by decide +kernel
theorem d_M_shield_22 : decode (xC k_M_shield) 22 = .ok (.istore_n 3, 1) := by decide +kernel
theorem d_M_shield_23 : decode (xC k_M_shield) 23 = .ok (.aload_n 0, 1) := by decide +kernel
theorem d_M_shield_24 : decode (xC k_M_shield) 24 = .ok (.getfield 76, 3) := by decide +kernel
theorem d_M_shield_27 : decode (xC k_M_shield) 27 = .ok (.iload_n 1, 1) := by decide +kernel
theorem d_M_shield_28 : decode (xC k_M_shield) 28 = .ok (.iload_n 2, 1) := by decide +kernel
theorem d_M_shield_29 : decode (xC k_M_shield) 29 = .ok (.bastore, 1) := by decide +kernel
theorem d_M_shield_30 : decode (xC k_M_shield) 30 = .ok (.iload_n 3, 1) := by decide +kernel
theorem d_M_shield_31 : decode (xC k_M_shield) 31 = .ok (.iload_n 2, 1) := by decide +kernel
theorem d_M_shield_32 : decode (xC k_M_shield) 32 = .ok (.if_icmp .eq 7, 3) := by decide +kernel
theorem d_M_shield_35 : decode (xC k_M_shield) 35 = .ok (.iconst 1, 1) := by decide +kernel
theorem d_M_shield_36 : decode (xC k_M_shield) 36 = .ok (.goto 4, 3) := by decide +kernel
theorem d_M_shield_39 : decode (xC k_M_shield) 39 = .ok (.iconst 0, 1) := by decide +kernel
theorem d_M_shield_40 : decode (xC k_M_shield) 40 = .ok (.ireturn, 1) := by decide +kernel
theorem d_M_leaf_0 : decode (xC k_M_leaf) 0 = .ok (.aload_n 0, 1) := by decide +kernel
theorem d_M_leaf_1 : decode (xC k_M_leaf) 1 = .ok (.getfield 31, 3) := by decide +kernel
theorem d_M_leaf_4 : decode (xC k_M_leaf) 4 = .ok (.iload_n 2, 1) := by decide +kernel
theorem d_M_leaf_5 : decode (xC k_M_leaf) 5 = .ok (.iaload, 1) := by decide +kernel
theorem d_M_leaf_6 : decode (xC k_M_leaf) 6 = .ok (.istore 4, 2) := by decide +kernel
theorem d_M_leaf_8 : decode (xC k_M_leaf) 8 = .ok (.iload 4, 2) := by decide +kernel
theorem d_M_leaf_10 : decode (xC k_M_leaf) 10 = .ok (.bipush 121, 2) := by decide +kernel
theorem d_M_leaf_12 : decode (xC k_M_leaf) 12 = .ok (.if_icmp .eq 10, 3) := by decide +kernel
theorem d_M_leaf_15 : decode (xC k_M_leaf) 15 = .ok (.iload 4, 2) := by decide +kernel
theorem d_M_leaf_17 : decode (xC k_M_leaf) 17 = .ok (.bipush 122, 2) := by decide +kernel
theorem d_M_leaf_19 : decode (xC k_M_leaf) 19 = .ok (.if_icmp .ne 7, 3) := by decide +kernel
theorem d_M_leaf_22 : decode (xC k_M_leaf) 22 = .ok (.iconst 1, 1) := by decide +kernel
theorem d_M_leaf_23 : decode (xC k_M_leaf) 23 = .ok (.goto 4, 3) := by decide +kernel
theorem d_M_leaf_26 : decode (xC k_M_leaf) 26 = .ok (.iconst 0, 1) := by decide +kernel
theorem d_M_leaf_27 : decode (xC k_M_leaf) 27 = .ok (.istore 5, 2) := by decide +kernel
theorem d_M_leaf_29 : decode (xC k_M_leaf) 29 = .ok (.iload 4, 2) := by decide +kernel
theorem d_M_leaf_31 : decode (xC k_M_leaf) 31 = .ok (.bipush 121, 2) := by decide +kernel
theorem d_M_leaf_33 : decode (xC k_M_leaf) 33 = .ok (.if_icmp .ne 17, 3) := by decide +kernel
theorem d_M_leaf_36 : decode (xC k_M_leaf) 36 = .ok (.iload_n 3, 1) := by decide +kernel
theorem d_M_leaf_37 : decode (xC k_M_leaf) 37 = .ok (.bipush 24, 2) := by decide +kernel
theorem d_M_leaf_39 : decode (xC k_M_leaf) 39 = .ok (.idiv, 1) := by decide +kernel
theorem d_M_leaf_40 : decode (xC k_M_leaf) 40 = .ok (.aload_n 0, 1) := by decide +kernel
theorem d_M_leaf_41 : decode (xC k_M_leaf) 41 = .ok (.getfield 70, 3) := by decide +kernel
theorem d_M_leaf_44 : decode (xC k_M_leaf) 44 = .ok (.iload_n 1, 1) := by decide +kernel
theorem d_M_leaf_45 : decode (xC k_M_leaf) 45 = .ok (.iaload, 1) := by decide +kernel
theorem d_M_leaf_46 : decode (xC k_M_leaf) 46 = .ok (.isub, 1) := by decide +kernel
theorem d_M_leaf_47 : decode (xC k_M_leaf) 47 = .ok (.goto 37, 3) := by decide +kernel
theorem d_M_leaf_50 : decode (xC k_M_leaf) 50 = .ok (.iload 4, 2) := by decide +kernel
theorem d_M_leaf_52 : decode (xC k_M_leaf) 52 = .ok (.bipush 122, 2) := by decide +kernel
theorem d_M_leaf_54 : decode (xC k_M_leaf) 54 = .ok (.if_icmp .ne 20, 3) := by decide +kernel
theorem d_M_leaf_57 : decode (xC k_M_leaf) 57 = .ok (.aload_n 0, 1) := by decide +kernel
theorem d_M_leaf_58 : decode (xC k_M_leaf) 58 = .ok (.getfield 76, 3) := by decide +kernel
theorem d_M_leaf_61 : decode (xC k_M_leaf) 61 = .ok (.iload_n 1, 1) := by decide +kernel
theorem d_M_leaf_62 : decode (xC k_M_leaf) 62 = .ok (.baload, 1) := by decide +kernel
theorem d_M_leaf_63 : decode (xC k_M_leaf) 63 = .ok (.ifCond .eq 7, 3) := by decide +kernel
theorem d_M_leaf_66 : decode (xC k_M_leaf) 66 = .ok (.iconst 1, 1) := by decide +kernel
theorem d_M_leaf_67 : decode (xC k_M_leaf) 67 = .ok (.goto 17, 3) := by decide +kernel
theorem d_M_leaf_70 : decode (xC k_M_leaf) 70 = .ok (.iconst 0, 1) := by decide +kernel
theorem d_M_leaf_71 : decode (xC k_M_leaf) 71 = .ok (.goto 13, 3) := by decide +kernel
theorem d_M_leaf_74 : decode (xC k_M_leaf) 74 = .ok (.aload_n 0, 1) := by decide +kernel
theorem d_M_leaf_75 : decode (xC k_M_leaf) 75 = .ok (.iload 4, 2) := by decide +kernel
theorem d_M_leaf_77 : decode (xC k_M_leaf) 77 = .ok (.bipush 97, 2) := by decide +kernel
theorem d_M_leaf_79 : decode (xC k_M_leaf) 79 = .ok (.isub, 1) := by decide +kernel
theorem d_M_leaf_80 : decode (xC k_M_leaf) 80 = .ok (.iload_n 3, 1) := by decide +kernel
theorem d_M_leaf_81 : decode (xC k_M_leaf) 81 = .ok (.invokevirtual 187, 3) := by decide +kernel
theorem d_M_leaf_84 : decode (xC k_M_leaf) 84 = .ok (.istore 6, 2) := by decide +kernel
theorem d_M_leaf_86 : decode (xC k_M_leaf) 86 = .ok (.iload 5, 2) := by decide +kernel
theorem d_M_leaf_88 : decode (xC k_M_leaf) 88 = .ok (.ifCond .ne 11, 3) := by decide +kernel
theorem d_M_leaf_91 : decode (xC k_M_leaf) 91 = .ok (.iload 6, 2) := by decide +kernel
theorem d_M_leaf_93 : decode (xC k_M_leaf) 93 = .ok (.iconst (-1), 1) := by decide +kernel
theorem d_M_leaf_94 : decode (xC k_M_leaf) 94 = .ok (.if_icmp .ne 5, 3) := by decide +kernel
theorem d_M_leaf_97 : decode (xC k_M_leaf) 97 = .ok (.iconst 2, 1) := by decide +kernel
theorem d_M_leaf_98 : decode (xC k_M_leaf) 98 = .ok (.ireturn, 1) := by decide +kernel
theorem d_M_leaf_99 : decode (xC k_M_leaf) 99 = .ok (.aload_n 0, 1) := by decide +kernel
theorem d_M_leaf_100 : decode (xC k_M_leaf) 100 = .ok (.getfield 37, 3) := by decide +kernel
theorem d_M_leaf_103 : decode (xC k_M_leaf) 103 = .ok (.iload_n 2, 1) := by decide +kernel
theorem d_M_leaf_104 : decode (xC k_M_leaf) 104 = .ok (.iaload, 1) := by decide +kernel
theorem d_M_leaf_105 : decode (xC k_M_leaf) 105 = .ok (.istore 7, 2) := by decide +kernel
theorem d_M_leaf_107 : decode (xC k_M_leaf) 107 = .ok (.aload_n 0, 1) := by decide +kernel
theorem d_M_leaf_108 : decode (xC k_M_leaf) 108 = .ok (.getfield 34, 3) := by decide +kernel
theorem d_M_leaf_111 : decode (xC k_M_leaf) 111 = .ok (.iload_n 2, 1) := by decide +kernel
theorem d_M_leaf_112 : decode (xC k_M_leaf) 112 = .ok (.iaload, 1) := by decide +kernel
theorem d_M_leaf_113 : decode (xC k_M_leaf) 113 = .ok (.bipush 60, 2) := by decide +kernel
theorem d_M_leaf_115 : decode (xC k_M_leaf) 115 = .ok (.if_icmp .ne 18, 3) := by decide +kernel
theorem d_M_leaf_118 : decode (xC k_M_leaf) 118 = .ok (.iload 6, 2) := by decide +kernel
theorem d_M_leaf_120 : decode (xC k_M_leaf) 120 = .ok (.iload 7, 2) := by decide +kernel
theorem d_M_leaf_122 : decode (xC k_M_leaf) 122 = .ok (.if_icmp .ge 7, 3) := by decide +kernel
theorem d_M_leaf_125 : decode (xC k_M_leaf) 125 = .ok (.iconst 1, 1) := by decide +kernel
theorem d_M_leaf_126 : decode (xC k_M_leaf) 126 = .ok (.goto 45, 3) := by decide +kernel
theorem d_M_leaf_129 : decode (xC k_M_leaf) 129 = .ok (.iconst 0, 1) := by decide +kernel
theorem d_M_leaf_130 : decode (xC k_M_leaf) 130 = .ok (.goto 41, 3) := by decide +kernel
theorem d_M_leaf_133 : decode (xC k_M_leaf) 133 = .ok (.aload_n 0, 1) := by decide +kernel
theorem d_M_leaf_134 : decode (xC k_M_leaf) 134 = .ok (.getfield 34, 3) := by decide +kernel
theorem d_M_leaf_137 : decode (xC k_M_leaf) 137 = .ok (.iload_n 2, 1) := by decide +kernel
theorem d_M_leaf_138 : decode (xC k_M_leaf) 138 = .ok (.iaload, 1) := by decide +kernel
theorem d_M_leaf_139 : decode (xC k_M_leaf) 139 = .ok (.bipush 61, 2) := by decide +kernel
theorem d_M_leaf_141 : decode (xC k_M_leaf) 141 = .ok (.if_icmp .ne 18, 3) := by decide +kernel
theorem d_M_leaf_144 : decode (xC k_M_leaf) 144 = .ok (.iload 6, 2) := by decide +kernel
theorem d_M_leaf_146 : decode (xC k_M_leaf) 146 = .ok (.iload 7, 2) := by decide +kernel
theorem d_M_leaf_148 : decode (xC k_M_leaf) 148 = .ok (.if_icmp .ne 7, 3) := by decide +kernel
theorem d_M_leaf_151 : decode (xC k_M_leaf) 151 = .ok (.iconst 1, 1) := by decide +kernel
theorem d_M_leaf_152 : decode (xC k_M_leaf) 152 = .ok (.goto 19, 3) := by decide +kernel
theorem d_M_leaf_155 : decode (xC k_M_leaf) 155 = .ok (.iconst 0, 1) := by decide +kernel
theorem d_M_leaf_156 : decode (xC k_M_leaf) 156 = .ok (.goto 15, 3) := by decide +kernel
theorem d_M_leaf_159 : decode (xC k_M_leaf) 159 = .ok (.iload 6, 2) := by decide +kernel
theorem d_M_leaf_161 : decode (xC k_M_leaf) 161 = .ok (.iload 7, 2) := by decide +kernel
theorem d_M_leaf_163 : decode (xC k_M_leaf) 163 = .ok (.if_icmp .le 7, 3) := by decide +kernel
theorem d_M_leaf_166 : decode (xC k_M_leaf) 166 = .ok (.iconst 1, 1) := by decide +kernel
theorem d_M_leaf_167 : decode (xC k_M_leaf) 167 = .ok (.goto 4, 3) := by decide +kernel
theorem d_M_leaf_170 : decode (xC k_M_leaf) 170 = .ok (.iconst 0, 1) := by decide +kernel
theorem d_M_leaf_171 : decode (xC k_M_leaf) 171 = .ok (.istore 8, 2) := by decide +kernel
theorem d_M_leaf_173 : decode (xC k_M_leaf) 173 = .ok (.iload 8, 2) := by decide +kernel
theorem d_M_leaf_175 : decode (xC k_M_leaf) 175 = .ok (.ifCond .eq 7, 3) := by decide +kernel
theorem d_M_leaf_178 : decode (xC k_M_leaf) 178 = .ok (.iconst 1, 1) := by decide +kernel
theorem d_M_leaf_179 : decode (xC k_M_leaf) 179 = .ok (.goto 4, 3) := by decide +kernel
theorem d_M_leaf_182 : decode (xC k_M_leaf) 182 = .ok (.iconst 0, 1) := by decide +kernel
theorem d_M_leaf_183 : decode (xC k_M_leaf) 183 = .ok (.ireturn, 1) := by decide +kernel
theorem d_M_work_0 : decode (xC k_M_work) 0 = .ok (.aload_n 0, 1) := by decide +kernel
theorem d_M_work_1 : decode (xC k_M_work) 1 = .ok (.getfield 64, 3) := by decide +kernel
theorem d_M_work_4 : decode (xC k_M_work) 4 = .ok (.iload_n 1, 1) := by decide +kernel
theorem d_M_work_5 : decode (xC k_M_work) 5 = .ok (.iaload, 1) := by decide +kernel
theorem d_M_work_6 : decode (xC k_M_work) 6 = .ok (.istore_n 3, 1) := by decide +kernel
theorem d_M_work_7 : decode (xC k_M_work) 7 = .ok (.aload_n 0, 1) := by decide +kernel
theorem d_M_work_8 : decode (xC k_M_work) 8 = .ok (.getfield 19, 3) := by decide +kernel
theorem d_M_work_11 : decode (xC k_M_work) 11 = .ok (.iload_n 3, 1) := by decide +kernel
theorem d_M_work_12 : decode (xC k_M_work) 12 = .ok (.iaload, 1) := by decide +kernel
theorem d_M_work_13 : decode (xC k_M_work) 13 = .ok (.iconst 1, 1) := by decide +kernel
theorem d_M_work_14 : decode (xC k_M_work) 14 = .ok (.isub, 1) := by decide +kernel
theorem d_M_work_15 : decode (xC k_M_work) 15 = .ok (.istore 4, 2) := by decide +kernel
theorem d_M_work_17 : decode (xC k_M_work) 17 = .ok (.iload 4, 2) := by decide +kernel
theorem d_M_work_19 : decode (xC k_M_work) 19 = .ok (.ifCond .lt 179, 3) := by decide +kernel
theorem d_M_work_22 : decode (xC k_M_work) 22 = .ok (.sipush 160, 3) := by decide +kernel
theorem d_M_work_25 : decode (xC k_M_work) 25 = .ok (.iload_n 3, 1) := by decide +kernel
theorem d_M_work_26 : decode (xC k_M_work) 26 = .ok (.imul, 1) := by decide +kernel
theorem d_M_work_27 : decode (xC k_M_work) 27 = .ok (.iload 4, 2) := by decide +kernel
theorem d_M_work_29 : decode (xC k_M_work) 29 = .ok (.iadd, 1) := by decide +kernel
theorem d_M_work_30 : decode (xC k_M_work) 30 = .ok (.istore 5, 2) := by decide +kernel
theorem d_M_work_32 : decode (xC k_M_work) 32 = .ok (.aload_n 0, 1) := by decide +kernel
theorem d_M_work_33 : decode (xC k_M_work) 33 = .ok (.getfield 22, 3) := by decide +kernel
theorem d_M_work_36 : decode (xC k_M_work) 36 = .ok (.iload 5, 2) := by decide +kernel
theorem d_M_work_38 : decode (xC k_M_work) 38 = .ok (.iaload, 1) := by decide +kernel
theorem d_M_work_39 : decode (xC k_M_work) 39 = .ok (.iconst 1, 1) := by decide +kernel
theorem d_M_work_40 : decode (xC k_M_work) 40 = .ok (.if_icmp .ne 7, 3) := by decide +kernel
theorem d_M_work_43 : decode (xC k_M_work) 43 = .ok (.iconst 1, 1) := by decide +kernel
theorem d_M_work_44 : decode (xC k_M_work) 44 = .ok (.goto 4, 3) := by decide +kernel
theorem d_M_work_47 : decode (xC k_M_work) 47 = .ok (.iconst 0, 1) := by decide +kernel
theorem d_M_work_48 : decode (xC k_M_work) 48 = .ok (.istore 6, 2) := by decide +kernel
theorem d_M_work_50 : decode (xC k_M_work) 50 = .ok (.aload_n 0, 1) := by decide +kernel
theorem d_M_work_51 : decode (xC k_M_work) 51 = .ok (.getfield 22, 3) := by decide +kernel
theorem d_M_work_54 : decode (xC k_M_work) 54 = .ok (.iload 5, 2) := by decide +kernel
theorem d_M_work_56 : decode (xC k_M_work) 56 = .ok (.iaload, 1) := by decide +kernel
theorem d_M_work_57 : decode (xC k_M_work) 57 = .ok (.ifCond .ne 13, 3) := by decide +kernel
theorem d_M_work_60 : decode (xC k_M_work) 60 = .ok (.aload_n 0, 1) := by decide +kernel
theorem d_M_work_61 : decode (xC k_M_work) 61 = .ok (.iload_n 1, 1) := by decide +kernel
theorem d_M_work_62 : decode (xC k_M_work) 62 = .ok (.iload 5, 2) := by decide +kernel
theorem d_M_work_64 : decode (xC k_M_work) 64 = .ok (.iload_n 2, 1) := by decide +kernel
theorem d_M_work_65 : decode (xC k_M_work) 65 = .ok (.invokevirtual 190, 3) := by decide +kernel
theorem d_M_work_68 : decode (xC k_M_work) 68 = .ok (.istore 6, 2) := by decide +kernel
theorem d_M_work_70 : decode (xC k_M_work) 70 = .ok (.aload_n 0, 1) := by decide +kernel
theorem d_M_work_71 : decode (xC k_M_work) 71 = .ok (.getfield 22, 3) := by decide +kernel
theorem d_M_work_74 : decode (xC k_M_work) 74 = .ok (.iload 5, 2) := by decide +kernel
theorem d_M_work_76 : decode (xC k_M_work) 76 = .ok (.iaload, 1) := by decide +kernel
theorem d_M_work_77 : decode (xC k_M_work) 77 = .ok (.ifCond .ne 7, 3) := by decide +kernel
theorem d_M_work_80 : decode (xC k_M_work) 80 = .ok (.iconst 1, 1) := by decide +kernel
theorem d_M_work_81 : decode (xC k_M_work) 81 = .ok (.goto 4, 3) := by decide +kernel
theorem d_M_work_84 : decode (xC k_M_work) 84 = .ok (.iconst 0, 1) := by decide +kernel
theorem d_M_work_85 : decode (xC k_M_work) 85 = .ok (.istore 7, 2) := by decide +kernel
theorem d_M_work_87 : decode (xC k_M_work) 87 = .ok (.iload 4, 2) := by decide +kernel
theorem d_M_work_89 : decode (xC k_M_work) 89 = .ok (.iconst 1, 1) := by decide +kernel
theorem d_M_work_90 : decode (xC k_M_work) 90 = .ok (.iadd, 1) := by decide +kernel
theorem d_M_work_91 : decode (xC k_M_work) 91 = .ok (.istore 8, 2) := by decide +kernel
theorem d_M_work_93 : decode (xC k_M_work) 93 = .ok (.iload 8, 2) := by decide +kernel
theorem d_M_work_95 : decode (xC k_M_work) 95 = .ok (.aload_n 0, 1) := by decide +kernel
theorem d_M_work_96 : decode (xC k_M_work) 96 = .ok (.getfield 19, 3) := by decide +kernel
theorem d_M_work_99 : decode (xC k_M_work) 99 = .ok (.iload_n 3, 1) := by decide +kernel
theorem d_M_work_100 : decode (xC k_M_work) 100 = .ok (.iaload, 1) := by decide +kernel
theorem d_M_work_101 : decode (xC k_M_work) 101 = .ok (.if_icmp .ge 56, 3) := by decide +kernel
theorem d_M_work_104 : decode (xC k_M_work) 104 = .ok (.iload 7, 2) := by decide +kernel
theorem d_M_work_106 : decode (xC k_M_work) 106 = .ok (.ifCond .ne 51, 3) := by decide +kernel
theorem d_M_work_109 : decode (xC k_M_work) 109 = .ok (.aload_n 0, 1) := by decide +kernel
theorem d_M_work_110 : decode (xC k_M_work) 110 = .ok (.getfield 25, 3) := by decide +kernel
theorem d_M_work_113 : decode (xC k_M_work) 113 = .ok (.sipush 160, 3) := by decide +kernel
theorem d_M_work_116 : decode (xC k_M_work) 116 = .ok (.iload_n 3, 1) := by decide +kernel
theorem d_M_work_117 : decode (xC k_M_work) 117 = .ok (.imul, 1) := by decide +kernel
theorem d_M_work_118 : decode (xC k_M_work) 118 = .ok (.iload 8, 2) := by decide +kernel
theorem d_M_work_120 : decode (xC k_M_work) 120 = .ok (.iadd, 1) := by decide +kernel
theorem d_M_work_121 : decode (xC k_M_work) 121 = .ok (.iaload, 1) := by decide +kernel
theorem d_M_work_122 : decode (xC k_M_work) 122 = .ok (.iload 4, 2) := by decide +kernel
theorem d_M_work_124 : decode (xC k_M_work) 124 = .ok (.if_icmp .ne 27, 3) := by decide +kernel
theorem d_M_work_127 : decode (xC k_M_work) 127 = .ok (.aload_n 0, 1) := by decide +kernel
theorem d_M_work_128 : decode (xC k_M_work) 128 = .ok (.getfield 40, 3) := by decide +kernel
theorem d_M_work_131 : decode (xC k_M_work) 131 = .ok (.iload 8, 2) := by decide +kernel
theorem d_M_work_133 : decode (xC k_M_work) 133 = .ok (.iaload, 1) := by decide +kernel
theorem d_M_work_134 : decode (xC k_M_work) 134 = .ok (.iload 6, 2) := by decide +kernel
theorem d_M_work_136 : decode (xC k_M_work) 136 = .ok (.if_icmp .eq 15, 3) := by decide +kernel
theorem d_M_work_139 : decode (xC k_M_work) 139 = .ok (.aload_n 0, 1) := by decide +kernel
theorem d_M_work_140 : decode (xC k_M_work) 140 = .ok (.getfield 40, 3) := by decide +kernel
theorem d_M_work_143 : decode (xC k_M_work) 143 = .ok (.iload 8, 2) := by decide +kernel
theorem d_M_work_145 : decode (xC k_M_work) 145 = .ok (.iaload, 1) := by decide +kernel
theorem d_M_work_146 : decode (xC k_M_work) 146 = .ok (.istore 6, 2) := by decide +kernel
theorem d_M_work_148 : decode (xC k_M_work) 148 = .ok (.iconst 1, 1) := by decide +kernel
theorem d_M_work_149 : decode (xC k_M_work) 149 = .ok (.istore 7, 2) := by decide +kernel
theorem d_M_work_151 : decode (xC k_M_work) 151 = .ok (.iinc 8 1, 3) := by decide +kernel
theorem d_M_work_154 : decode (xC k_M_work) 154 = .ok (.goto (-61), 3) := by decide +kernel
theorem d_M_work_157 : decode (xC k_M_work) 157 = .ok (.aload_n 0, 1) := by decide +kernel
theorem d_M_work_158 : decode (xC k_M_work) 158 = .ok (.getfield 40, 3) := by decide +kernel
theorem d_M_work_161 : decode (xC k_M_work) 161 = .ok (.iload 4, 2) := by decide +kernel
theorem d_M_work_163 : decode (xC k_M_work) 163 = .ok (.iload 6, 2) := by decide +kernel
theorem d_M_work_165 : decode (xC k_M_work) 165 = .ok (.iconst 2, 1) := by decide +kernel
theorem d_M_work_166 : decode (xC k_M_work) 166 = .ok (.if_icmp .eq 23, 3) := by decide +kernel
theorem d_M_work_169 : decode (xC k_M_work) 169 = .ok (.aload_n 0, 1) := by decide +kernel
theorem d_M_work_170 : decode (xC k_M_work) 170 = .ok (.getfield 28, 3) := by decide +kernel
theorem d_M_work_173 : decode (xC k_M_work) 173 = .ok (.iload 5, 2) := by decide +kernel
theorem d_M_work_175 : decode (xC k_M_work) 175 = .ok (.iaload, 1) := by decide +kernel
theorem d_M_work_176 : decode (xC k_M_work) 176 = .ok (.iconst 2, 1) := by decide +kernel
theorem d_M_work_177 : decode (xC k_M_work) 177 = .ok (.irem, 1) := by decide +kernel
theorem d_M_work_178 : decode (xC k_M_work) 178 = .ok (.iconst 1, 1) := by decide +kernel
theorem d_M_work_179 : decode (xC k_M_work) 179 = .ok (.if_icmp .ne 10, 3) := by decide +kernel
theorem d_M_work_182 : decode (xC k_M_work) 182 = .ok (.iconst 1, 1) := by decide +kernel
theorem d_M_work_183 : decode (xC k_M_work) 183 = .ok (.iload 6, 2) := by decide +kernel
theorem d_M_work_185 : decode (xC k_M_work) 185 = .ok (.isub, 1) := by decide +kernel
theorem d_M_work_186 : decode (xC k_M_work) 186 = .ok (.goto 5, 3) := by decide +kernel
theorem d_M_work_189 : decode (xC k_M_work) 189 = .ok (.iload 6, 2) := by decide +kernel
theorem d_M_work_191 : decode (xC k_M_work) 191 = .ok (.iastore, 1) := by decide +kernel
theorem d_M_work_192 : decode (xC k_M_work) 192 = .ok (.iinc 4 (-1), 3) := by decide +kernel
theorem d_M_work_195 : decode (xC k_M_work) 195 = .ok (.goto (-178), 3) := by decide +kernel
theorem d_M_work_198 : decode (xC k_M_work) 198 = .ok (.return_, 1) := by decide +kernel
end
section
theorem d_M_ask_0 : decode (xC k_M_ask) 0 = .ok (.aload_n 0, 1) := by decide +kernel
theorem d_M_ask_1 : decode (xC k_M_ask) 1 = .ok (.aload_n 0, 1) := by decide +kernel
theorem d_M_ask_2 : decode (xC k_M_ask) 2 = .ok (.iload_n 1, 1) := by decide +kernel
theorem d_M_ask_3 : decode (xC k_M_ask) 3 = .ok (.invokevirtual 184, 3) := by decide +kernel
theorem d_M_ask_6 : decode (xC k_M_ask) 6 = .ok (.iload_n 2, 1) := by decide +kernel
theorem d_M_ask_7 : decode (xC k_M_ask) 7 = .ok (.iconst 0, 1) := by decide +kernel
theorem d_M_ask_8 : decode (xC k_M_ask) 8 = .ok (.ldc 171, 2) := by decide +kernel
theorem d_M_ask_10 : decode (xC k_M_ask) 10 = .ok (.invokestatic 112, 3) := by decide +kernel
theorem d_M_ask_13 : decode (xC k_M_ask) 13 = .ok (.iconst 1, 1) := by decide +kernel
theorem d_M_ask_14 : decode (xC k_M_ask) 14 = .ok (.invokevirtual 116, 3) := by decide +kernel
theorem d_M_ask_17 : decode (xC k_M_ask) 17 = .ok (.ifCond .ne 5, 3) := by decide +kernel
theorem d_M_ask_20 : decode (xC k_M_ask) 20 = .ok (.iconst 0, 1) := by decide +kernel
theorem d_M_ask_21 : decode (xC k_M_ask) 21 = .ok (.ireturn, 1) := by decide +kernel
theorem d_M_ask_22 : decode (xC k_M_ask) 22 = .ok (.iload_n 2, 1) := by decide +kernel
theorem d_M_ask_23 : decode (xC k_M_ask) 23 = .ok (.bipush 24, 2) := by decide +kernel
theorem d_M_ask_25 : decode (xC k_M_ask) 25 = .ok (.idiv, 1) := by decide +kernel
theorem d_M_ask_26 : decode (xC k_M_ask) 26 = .ok (.aload_n 0, 1) := by decide +kernel
theorem d_M_ask_27 : decode (xC k_M_ask) 27 = .ok (.getfield 70, 3) := by decide +kernel
theorem d_M_ask_30 : decode (xC k_M_ask) 30 = .ok (.iload_n 1, 1) := by decide +kernel
theorem d_M_ask_31 : decode (xC k_M_ask) 31 = .ok (.iaload, 1) := by decide +kernel
theorem d_M_ask_32 : decode (xC k_M_ask) 32 = .ok (.aload_n 0, 1) := by decide +kernel
theorem d_M_ask_33 : decode (xC k_M_ask) 33 = .ok (.getfield 73, 3) := by decide +kernel
theorem d_M_ask_36 : decode (xC k_M_ask) 36 = .ok (.iload_n 1, 1) := by decide +kernel
theorem d_M_ask_37 : decode (xC k_M_ask) 37 = .ok (.iaload, 1) := by decide +kernel
theorem d_M_ask_38 : decode (xC k_M_ask) 38 = .ok (.invokestatic 112, 3) := by decide +kernel
theorem d_M_ask_41 : decode (xC k_M_ask) 41 = .ok (.ifCond .ne 5, 3) := by decide +kernel
theorem d_M_ask_44 : decode (xC k_M_ask) 44 = .ok (.iconst (-1), 1) := by decide +kernel
theorem d_M_ask_45 : decode (xC k_M_ask) 45 = .ok (.ireturn, 1) := by decide +kernel
theorem d_M_ask_46 : decode (xC k_M_ask) 46 = .ok (.aload_n 0, 1) := by decide +kernel
theorem d_M_ask_47 : decode (xC k_M_ask) 47 = .ok (.iload_n 1, 1) := by decide +kernel
theorem d_M_ask_48 : decode (xC k_M_ask) 48 = .ok (.iload_n 2, 1) := by decide +kernel
theorem d_M_ask_49 : decode (xC k_M_ask) 49 = .ok (.invokevirtual 193, 3) := by decide +kernel
theorem d_M_ask_52 : decode (xC k_M_ask) 52 = .ok (.aload_n 0, 1) := by decide +kernel
theorem d_M_ask_53 : decode (xC k_M_ask) 53 = .ok (.getfield 64, 3) := by decide +kernel
theorem d_M_ask_56 : decode (xC k_M_ask) 56 = .ok (.iload_n 1, 1) := by decide +kernel
theorem d_M_ask_57 : decode (xC k_M_ask) 57 = .ok (.iaload, 1) := by decide +kernel
theorem d_M_ask_58 : decode (xC k_M_ask) 58 = .ok (.istore_n 3, 1) := by decide +kernel
theorem d_M_ask_59 : decode (xC k_M_ask) 59 = .ok (.iconst 0, 1) := by decide +kernel
theorem d_M_ask_60 : decode (xC k_M_ask) 60 = .ok (.istore 4, 2) := by decide +kernel
theorem d_M_ask_62 : decode (xC k_M_ask) 62 = .ok (.iconst 0, 1) := by decide +kernel
theorem d_M_ask_63 : decode (xC k_M_ask) 63 = .ok (.istore 5, 2) := by decide +kernel
theorem d_M_ask_65 : decode (xC k_M_ask) 65 = .ok (.iload 5, 2) := by decide +kernel
theorem d_M_ask_67 : decode (xC k_M_ask) 67 = .ok (.aload_n 0, 1) := by decide +kernel
theorem d_M_ask_68 : decode (xC k_M_ask) 68 = .ok (.getfield 13, 3) := by decide +kernel
theorem d_M_ask_71 : decode (xC k_M_ask) 71 = .ok (.iload_n 3, 1) := by decide +kernel
theorem d_M_ask_72 : decode (xC k_M_ask) 72 = .ok (.iaload, 1) := by decide +kernel
theorem d_M_ask_73 : decode (xC k_M_ask) 73 = .ok (.if_icmp .ge 155, 3) := by decide +kernel
theorem d_M_ask_76 : decode (xC k_M_ask) 76 = .ok (.aload_n 0, 1) := by decide +kernel
theorem d_M_ask_77 : decode (xC k_M_ask) 77 = .ok (.getfield 40, 3) := by decide +kernel
theorem d_M_ask_80 : decode (xC k_M_ask) 80 = .ok (.aload_n 0, 1) := by decide +kernel
theorem d_M_ask_81 : decode (xC k_M_ask) 81 = .ok (.getfield 16, 3) := by decide +kernel
theorem d_M_ask_84 : decode (xC k_M_ask) 84 = .ok (.bipush 6, 2) := by decide +kernel
theorem d_M_ask_86 : decode (xC k_M_ask) 86 = .ok (.iload_n 3, 1) := by decide +kernel
theorem d_M_ask_87 : decode (xC k_M_ask) 87 = .ok (.imul, 1) := by decide +kernel
theorem d_M_ask_88 : decode (xC k_M_ask) 88 = .ok (.iload 5, 2) := by decide +kernel
theorem d_M_ask_90 : decode (xC k_M_ask) 90 = .ok (.iadd, 1) := by decide +kernel
theorem d_M_ask_91 : decode (xC k_M_ask) 91 = .ok (.iaload, 1) := by decide +kernel
theorem d_M_ask_92 : decode (xC k_M_ask) 92 = .ok (.iaload, 1) := by decide +kernel
theorem d_M_ask_93 : decode (xC k_M_ask) 93 = .ok (.istore 6, 2) := by decide +kernel
theorem d_M_ask_95 : decode (xC k_M_ask) 95 = .ok (.iload 6, 2) := by decide +kernel
theorem d_M_ask_97 : decode (xC k_M_ask) 97 = .ok (.ifCond .ne 106, 3) := by decide +kernel
theorem d_M_ask_100 : decode (xC k_M_ask) 100 = .ok (.iload 4, 2) := by decide +kernel
theorem d_M_ask_102 : decode (xC k_M_ask) 102 = .ok (.ifCond .ne 10, 3) := by decide +kernel
theorem d_M_ask_105 : decode (xC k_M_ask) 105 = .ok (.iload 5, 2) := by decide +kernel
theorem d_M_ask_107 : decode (xC k_M_ask) 107 = .ok (.iconst 1, 1) := by decide +kernel
theorem d_M_ask_108 : decode (xC k_M_ask) 108 = .ok (.iadd, 1) := by decide +kernel
theorem d_M_ask_109 : decode (xC k_M_ask) 109 = .ok (.goto 5, 3) := by decide +kernel
theorem d_M_ask_112 : decode (xC k_M_ask) 112 = .ok (.iload 4, 2) := by decide +kernel
theorem d_M_ask_114 : decode (xC k_M_ask) 114 = .ok (.istore 4, 2) := by decide +kernel
theorem d_M_ask_116 : decode (xC k_M_ask) 116 = .ok (.aload_n 0, 1) := by decide +kernel
theorem d_M_ask_117 : decode (xC k_M_ask) 117 = .ok (.getfield 80, 3) := by decide +kernel
theorem d_M_ask_120 : decode (xC k_M_ask) 120 = .ok (.bipush 6, 2) := by decide +kernel
theorem d_M_ask_122 : decode (xC k_M_ask) 122 = .ok (.iload_n 1, 1) := by decide +kernel
theorem d_M_ask_123 : decode (xC k_M_ask) 123 = .ok (.imul, 1) := by decide +kernel
theorem d_M_ask_124 : decode (xC k_M_ask) 124 = .ok (.iload 5, 2) := by decide +kernel
theorem d_M_ask_126 : decode (xC k_M_ask) 126 = .ok (.iadd, 1) := by decide +kernel
theorem d_M_ask_127 : decode (xC k_M_ask) 127 = .ok (.baload, 1) := by decide +kernel
theorem d_M_ask_128 : decode (xC k_M_ask) 128 = .ok (.ifCond .ne 94, 3) := by decide +kernel
theorem d_M_ask_131 : decode (xC k_M_ask) 131 = .ok (.aload_n 0, 1) := by decide +kernel
theorem d_M_ask_132 : decode (xC k_M_ask) 132 = .ok (.getfield 83, 3) := by decide +kernel
theorem d_M_ask_135 : decode (xC k_M_ask) 135 = .ok (.iload_n 1, 1) := by decide +kernel
theorem d_M_ask_136 : decode (xC k_M_ask) 136 = .ok (.iaload, 1) := by decide +kernel
theorem d_M_ask_137 : decode (xC k_M_ask) 137 = .ok (.bipush 100, 2) := by decide +kernel
theorem d_M_ask_139 : decode (xC k_M_ask) 139 = .ok (.if_icmp .ge 83, 3) := by decide +kernel
theorem d_M_ask_142 : decode (xC k_M_ask) 142 = .ok (.aload_n 0, 1) := by decide +kernel
theorem d_M_ask_143 : decode (xC k_M_ask) 143 = .ok (.getfield 86, 3) := by decide +kernel
theorem d_M_ask_146 : decode (xC k_M_ask) 146 = .ok (.bipush 100, 2) := by decide +kernel
theorem d_M_ask_148 : decode (xC k_M_ask) 148 = .ok (.iload_n 1, 1) := by decide +kernel
theorem d_M_ask_149 : decode (xC k_M_ask) 149 = .ok (.imul, 1) := by decide +kernel
theorem d_M_ask_150 : decode (xC k_M_ask) 150 = .ok (.aload_n 0, 1) := by decide +kernel
theorem d_M_ask_151 : decode (xC k_M_ask) 151 = .ok (.getfield 83, 3) := by decide +kernel
theorem d_M_ask_154 : decode (xC k_M_ask) 154 = .ok (.iload_n 1, 1) := by decide +kernel
theorem d_M_ask_155 : decode (xC k_M_ask) 155 = .ok (.iaload, 1) := by decide +kernel
theorem d_M_ask_156 : decode (xC k_M_ask) 156 = .ok (.iadd, 1) := by decide +kernel
theorem d_M_ask_157 : decode (xC k_M_ask) 157 = .ok (.iload_n 2, 1) := by decide +kernel
theorem d_M_ask_158 : decode (xC k_M_ask) 158 = .ok (.iastore, 1) := by decide +kernel
theorem d_M_ask_159 : decode (xC k_M_ask) 159 = .ok (.aload_n 0, 1) := by decide +kernel
theorem d_M_ask_160 : decode (xC k_M_ask) 160 = .ok (.getfield 89, 3) := by decide +kernel
theorem d_M_ask_163 : decode (xC k_M_ask) 163 = .ok (.bipush 100, 2) := by decide +kernel
theorem d_M_ask_165 : decode (xC k_M_ask) 165 = .ok (.iload_n 1, 1) := by decide +kernel
theorem d_M_ask_166 : decode (xC k_M_ask) 166 = .ok (.imul, 1) := by decide +kernel
theorem d_M_ask_167 : decode (xC k_M_ask) 167 = .ok (.aload_n 0, 1) := by decide +kernel
theorem d_M_ask_168 : decode (xC k_M_ask) 168 = .ok (.getfield 83, 3) := by decide +kernel
theorem d_M_ask_171 : decode (xC k_M_ask) 171 = .ok (.iload_n 1, 1) := by decide +kernel
theorem d_M_ask_172 : decode (xC k_M_ask) 172 = .ok (.iaload, 1) := by decide +kernel
theorem d_M_ask_173 : decode (xC k_M_ask) 173 = .ok (.iadd, 1) := by decide +kernel
theorem d_M_ask_174 : decode (xC k_M_ask) 174 = .ok (.iload 5, 2) := by decide +kernel
theorem d_M_ask_176 : decode (xC k_M_ask) 176 = .ok (.iastore, 1) := by decide +kernel
theorem d_M_ask_177 : decode (xC k_M_ask) 177 = .ok (.aload_n 0, 1) := by decide +kernel
theorem d_M_ask_178 : decode (xC k_M_ask) 178 = .ok (.getfield 83, 3) := by decide +kernel
theorem d_M_ask_181 : decode (xC k_M_ask) 181 = .ok (.iload_n 1, 1) := by decide +kernel
theorem d_M_ask_182 : decode (xC k_M_ask) 182 = .ok (.dup2, 1) := by decide +kernel
theorem d_M_ask_183 : decode (xC k_M_ask) 183 = .ok (.iaload, 1) := by decide +kernel
theorem d_M_ask_184 : decode (xC k_M_ask) 184 = .ok (.iconst 1, 1) := by decide +kernel
theorem d_M_ask_185 : decode (xC k_M_ask) 185 = .ok (.iadd, 1) := by decide +kernel
theorem d_M_ask_186 : decode (xC k_M_ask) 186 = .ok (.iastore, 1) := by decide +kernel
theorem d_M_ask_187 : decode (xC k_M_ask) 187 = .ok (.aload_n 0, 1) := by decide +kernel
theorem d_M_ask_188 : decode (xC k_M_ask) 188 = .ok (.getfield 80, 3) := by decide +kernel
theorem d_M_ask_191 : decode (xC k_M_ask) 191 = .ok (.bipush 6, 2) := by decide +kernel
theorem d_M_ask_193 : decode (xC k_M_ask) 193 = .ok (.iload_n 1, 1) := by decide +kernel
theorem d_M_ask_194 : decode (xC k_M_ask) 194 = .ok (.imul, 1) := by decide +kernel
theorem d_M_ask_195 : decode (xC k_M_ask) 195 = .ok (.iload 5, 2) := by decide +kernel
theorem d_M_ask_197 : decode (xC k_M_ask) 197 = .ok (.iadd, 1) := by decide +kernel
theorem d_M_ask_198 : decode (xC k_M_ask) 198 = .ok (.iconst 1, 1) := by decide +kernel
theorem d_M_ask_199 : decode (xC k_M_ask) 199 = .ok (.bastore, 1) := by decide +kernel
theorem d_M_ask_200 : decode (xC k_M_ask) 200 = .ok (.goto 22, 3) := by decide +kernel
theorem d_M_ask_203 : decode (xC k_M_ask) 203 = .ok (.iload 6, 2) := by decide +kernel
theorem d_M_ask_205 : decode (xC k_M_ask) 205 = .ok (.iconst 1, 1) := by decide +kernel
theorem d_M_ask_206 : decode (xC k_M_ask) 206 = .ok (.if_icmp .ne 16, 3) := by decide +kernel
theorem d_M_ask_209 : decode (xC k_M_ask) 209 = .ok (.aload_n 0, 1) := by decide +kernel
theorem d_M_ask_210 : decode (xC k_M_ask) 210 = .ok (.getfield 80, 3) := by decide +kernel
theorem d_M_ask_213 : decode (xC k_M_ask) 213 = .ok (.bipush 6, 2) := by decide +kernel
theorem d_M_ask_215 : decode (xC k_M_ask) 215 = .ok (.iload_n 1, 1) := by decide +kernel
theorem d_M_ask_216 : decode (xC k_M_ask) 216 = .ok (.imul, 1) := by decide +kernel
theorem d_M_ask_217 : decode (xC k_M_ask) 217 = .ok (.iload 5, 2) := by decide +kernel
theorem d_M_ask_219 : decode (xC k_M_ask) 219 = .ok (.iadd, 1) := by decide +kernel
theorem d_M_ask_220 : decode (xC k_M_ask) 220 = .ok (.iconst 0, 1) := by decide +kernel
theorem d_M_ask_221 : decode (xC k_M_ask) 221 = .ok (.bastore, 1) := by decide +kernel
theorem d_M_ask_222 : decode (xC k_M_ask) 222 = .ok (.iinc 5 1, 3) := by decide +kernel
theorem d_M_ask_225 : decode (xC k_M_ask) 225 = .ok (.goto (-160), 3) := by decide +kernel
theorem d_M_ask_228 : decode (xC k_M_ask) 228 = .ok (.iload 4, 2) := by decide +kernel
theorem d_M_ask_230 : decode (xC k_M_ask) 230 = .ok (.ireturn, 1) := by decide +kernel
theorem d_M_open_0 : decode (xC k_M_open) 0 = .ok (.aload_n 0, 1) := by decide +kernel
theorem d_M_open_1 : decode (xC k_M_open) 1 = .ok (.aload_n 0, 1) := by decide +kernel
theorem d_M_open_2 : decode (xC k_M_open) 2 = .ok (.iload_n 1, 1) := by decide +kernel
theorem d_M_open_3 : decode (xC k_M_open) 3 = .ok (.invokevirtual 184, 3) := by decide +kernel
theorem d_M_open_6 : decode (xC k_M_open) 6 = .ok (.ifCond .eq 11, 3) := by decide +kernel
theorem d_M_open_9 : decode (xC k_M_open) 9 = .ok (.iload_n 3, 1) := by decide +kernel
theorem d_M_open_10 : decode (xC k_M_open) 10 = .ok (.ifCond .lt 7, 3) := by decide +kernel
theorem d_M_open_13 : decode (xC k_M_open) 13 = .ok (.iconst 1, 1) := by decide +kernel
theorem d_M_open_14 : decode (xC k_M_open) 14 = .ok (.goto 4, 3) := by decide +kernel
theorem d_M_open_17 : decode (xC k_M_open) 17 = .ok (.iconst 0, 1) := by decide +kernel
theorem d_M_open_18 : decode (xC k_M_open) 18 = .ok (.iload_n 2, 1) := by decide +kernel
theorem d_M_open_19 : decode (xC k_M_open) 19 = .ok (.iconst 0, 1) := by decide +kernel
theorem d_M_open_20 : decode (xC k_M_open) 20 = .ok (.ldc 171, 2) := by decide +kernel
theorem d_M_open_22 : decode (xC k_M_open) 22 = .ok (.invokestatic 112, 3) := by decide +kernel
theorem d_M_open_25 : decode (xC k_M_open) 25 = .ok (.iconst 1, 1) := by decide +kernel
theorem d_M_open_26 : decode (xC k_M_open) 26 = .ok (.invokevirtual 116, 3) := by decide +kernel
theorem d_M_open_29 : decode (xC k_M_open) 29 = .ok (.ifCond .ne 5, 3) := by decide +kernel
theorem d_M_open_32 : decode (xC k_M_open) 32 = .ok (.iconst 0, 1) := by decide +kernel
theorem d_M_open_33 : decode (xC k_M_open) 33 = .ok (.ireturn, 1) := by decide +kernel
theorem d_M_open_34 : decode (xC k_M_open) 34 = .ok (.aload_n 0, 1) := by decide +kernel
theorem d_M_open_35 : decode (xC k_M_open) 35 = .ok (.iload_n 1, 1) := by decide +kernel
theorem d_M_open_36 : decode (xC k_M_open) 36 = .ok (.iload_n 2, 1) := by decide +kernel
theorem d_M_open_37 : decode (xC k_M_open) 37 = .ok (.invokevirtual 193, 3) := by decide +kernel
theorem d_M_open_40 : decode (xC k_M_open) 40 = .ok (.aload_n 0, 1) := by decide +kernel
theorem d_M_open_41 : decode (xC k_M_open) 41 = .ok (.getfield 64, 3) := by decide +kernel
theorem d_M_open_44 : decode (xC k_M_open) 44 = .ok (.iload_n 1, 1) := by decide +kernel
theorem d_M_open_45 : decode (xC k_M_open) 45 = .ok (.iaload, 1) := by decide +kernel
theorem d_M_open_46 : decode (xC k_M_open) 46 = .ok (.istore 4, 2) := by decide +kernel
theorem d_M_open_48 : decode (xC k_M_open) 48 = .ok (.iconst 0, 1) := by decide +kernel
theorem d_M_open_49 : decode (xC k_M_open) 49 = .ok (.istore 5, 2) := by decide +kernel
theorem d_M_open_51 : decode (xC k_M_open) 51 = .ok (.iconst 0, 1) := by decide +kernel
theorem d_M_open_52 : decode (xC k_M_open) 52 = .ok (.istore 6, 2) := by decide +kernel
theorem d_M_open_54 : decode (xC k_M_open) 54 = .ok (.iload 6, 2) := by decide +kernel
theorem d_M_open_56 : decode (xC k_M_open) 56 = .ok (.aload_n 0, 1) := by decide +kernel
theorem d_M_open_57 : decode (xC k_M_open) 57 = .ok (.getfield 13, 3) := by decide +kernel
theorem d_M_open_60 : decode (xC k_M_open) 60 = .ok (.iload 4, 2) := by decide +kernel
theorem d_M_open_62 : decode (xC k_M_open) 62 = .ok (.iaload, 1) := by decide +kernel
theorem d_M_open_63 : decode (xC k_M_open) 63 = .ok (.if_icmp .ge 43, 3) := by decide +kernel
theorem d_M_open_66 : decode (xC k_M_open) 66 = .ok (.aload_n 0, 1) := by decide +kernel
theorem d_M_open_67 : decode (xC k_M_open) 67 = .ok (.getfield 40, 3) := by decide +kernel
theorem d_M_open_70 : decode (xC k_M_open) 70 = .ok (.aload_n 0, 1) := by decide +kernel
theorem d_M_open_71 : decode (xC k_M_open) 71 = .ok (.getfield 16, 3) := by decide +kernel
theorem d_M_open_74 : decode (xC k_M_open) 74 = .ok (.bipush 6, 2) := by decide +kernel
theorem d_M_open_76 : decode (xC k_M_open) 76 = .ok (.iload 4, 2) := by decide +kernel
theorem d_M_open_78 : decode (xC k_M_open) 78 = .ok (.imul, 1) := by decide +kernel
theorem d_M_open_79 : decode (xC k_M_open) 79 = .ok (.iload 6, 2) := by decide +kernel
theorem d_M_open_81 : decode (xC k_M_open) 81 = .ok (.iadd, 1) := by decide +kernel
theorem d_M_open_82 : decode (xC k_M_open) 82 = .ok (.iaload, 1) := by decide +kernel
theorem d_M_open_83 : decode (xC k_M_open) 83 = .ok (.iaload, 1) := by decide +kernel
theorem d_M_open_84 : decode (xC k_M_open) 84 = .ok (.iconst 2, 1) := by decide +kernel
theorem d_M_open_85 : decode (xC k_M_open) 85 = .ok (.if_icmp .ne 15, 3) := by decide +kernel
theorem d_M_open_88 : decode (xC k_M_open) 88 = .ok (.iload 5, 2) := by decide +kernel
theorem d_M_open_90 : decode (xC k_M_open) 90 = .ok (.iload_n 3, 1) := by decide +kernel
theorem d_M_open_91 : decode (xC k_M_open) 91 = .ok (.if_icmp .ne 6, 3) := by decide +kernel
theorem d_M_open_94 : decode (xC k_M_open) 94 = .ok (.iload 6, 2) := by decide +kernel
theorem d_M_open_96 : decode (xC k_M_open) 96 = .ok (.ireturn, 1) := by decide +kernel
theorem d_M_open_97 : decode (xC k_M_open) 97 = .ok (.iinc 5 1, 3) := by decide +kernel
theorem d_M_open_100 : decode (xC k_M_open) 100 = .ok (.iinc 6 1, 3) := by decide +kernel
theorem d_M_open_103 : decode (xC k_M_open) 103 = .ok (.goto (-49), 3) := by decide +kernel
theorem d_M_open_106 : decode (xC k_M_open) 106 = .ok (.iconst (-1), 1) := by decide +kernel
theorem d_M_open_107 : decode (xC k_M_open) 107 = .ok (.ireturn, 1) := by decide +kernel
theorem d_M_told_0 : decode (xC k_M_told) 0 = .ok (.aload_n 0, 1) := by decide +kernel
theorem d_M_told_1 : decode (xC k_M_told) 1 = .ok (.iload_n 1, 1) := by decide +kernel
theorem d_M_told_2 : decode (xC k_M_told) 2 = .ok (.invokevirtual 184, 3) := by decide +kernel
theorem d_M_told_5 : decode (xC k_M_told) 5 = .ok (.ifCond .eq 21, 3) := by decide +kernel
theorem d_M_told_8 : decode (xC k_M_told) 8 = .ok (.iload_n 3, 1) := by decide +kernel
theorem d_M_told_9 : decode (xC k_M_told) 9 = .ok (.ifCond .eq 8, 3) := by decide +kernel
theorem d_M_told_12 : decode (xC k_M_told) 12 = .ok (.iload_n 3, 1) := by decide +kernel
theorem d_M_told_13 : decode (xC k_M_told) 13 = .ok (.iconst 1, 1) := by decide +kernel
theorem d_M_told_14 : decode (xC k_M_told) 14 = .ok (.if_icmp .ne 12, 3) := by decide +kernel
theorem d_M_told_17 : decode (xC k_M_told) 17 = .ok (.iload_n 2, 1) := by decide +kernel
theorem d_M_told_18 : decode (xC k_M_told) 18 = .ok (.iconst (-1), 1) := by decide +kernel
theorem d_M_told_19 : decode (xC k_M_told) 19 = .ok (.if_icmp .lt 7, 3) := by decide +kernel
theorem d_M_told_22 : decode (xC k_M_told) 22 = .ok (.iconst 1, 1) := by decide +kernel
theorem d_M_told_23 : decode (xC k_M_told) 23 = .ok (.goto 4, 3) := by decide +kernel
theorem d_M_told_26 : decode (xC k_M_told) 26 = .ok (.iconst 0, 1) := by decide +kernel
theorem d_M_told_27 : decode (xC k_M_told) 27 = .ok (.istore 4, 2) := by decide +kernel
theorem d_M_told_29 : decode (xC k_M_told) 29 = .ok (.aload_n 0, 1) := by decide +kernel
theorem d_M_told_30 : decode (xC k_M_told) 30 = .ok (.iload 4, 2) := by decide +kernel
theorem d_M_told_32 : decode (xC k_M_told) 32 = .ok (.ifCond .eq 17, 3) := by decide +kernel
theorem d_M_told_35 : decode (xC k_M_told) 35 = .ok (.iload_n 2, 1) := by decide +kernel
theorem d_M_told_36 : decode (xC k_M_told) 36 = .ok (.aload_n 0, 1) := by decide +kernel
theorem d_M_told_37 : decode (xC k_M_told) 37 = .ok (.getfield 83, 3) := by decide +kernel
theorem d_M_told_40 : decode (xC k_M_told) 40 = .ok (.iload_n 1, 1) := by decide +kernel
theorem d_M_told_41 : decode (xC k_M_told) 41 = .ok (.iaload, 1) := by decide +kernel
theorem d_M_told_42 : decode (xC k_M_told) 42 = .ok (.if_icmp .ge 7, 3) := by decide +kernel
theorem d_M_told_45 : decode (xC k_M_told) 45 = .ok (.iconst 1, 1) := by decide +kernel
theorem d_M_told_46 : decode (xC k_M_told) 46 = .ok (.goto 4, 3) := by decide +kernel
theorem d_M_told_49 : decode (xC k_M_told) 49 = .ok (.iconst 0, 1) := by decide +kernel
theorem d_M_told_50 : decode (xC k_M_told) 50 = .ok (.iconst 1, 1) := by decide +kernel
theorem d_M_told_51 : decode (xC k_M_told) 51 = .ok (.iconst 1, 1) := by decide +kernel
theorem d_M_told_52 : decode (xC k_M_told) 52 = .ok (.invokevirtual 116, 3) := by decide +kernel
theorem d_M_told_55 : decode (xC k_M_told) 55 = .ok (.ifCond .ne 5, 3) := by decide +kernel
theorem d_M_told_58 : decode (xC k_M_told) 58 = .ok (.iconst 0, 1) := by decide +kernel
theorem d_M_told_59 : decode (xC k_M_told) 59 = .ok (.ireturn, 1) := by decide +kernel
theorem d_M_told_60 : decode (xC k_M_told) 60 = .ok (.iload_n 2, 1) := by decide +kernel
theorem d_M_told_61 : decode (xC k_M_told) 61 = .ok (.iconst (-1), 1) := by decide +kernel
theorem d_M_told_62 : decode (xC k_M_told) 62 = .ok (.if_icmp .ne 12, 3) := by decide +kernel
theorem d_M_told_65 : decode (xC k_M_told) 65 = .ok (.aload_n 0, 1) := by decide +kernel
theorem d_M_told_66 : decode (xC k_M_told) 66 = .ok (.getfield 83, 3) := by decide +kernel
theorem d_M_told_69 : decode (xC k_M_told) 69 = .ok (.iload_n 1, 1) := by decide +kernel
theorem d_M_told_70 : decode (xC k_M_told) 70 = .ok (.iaload, 1) := by decide +kernel
theorem d_M_told_71 : decode (xC k_M_told) 71 = .ok (.goto 32, 3) := by decide +kernel
theorem d_M_told_74 : decode (xC k_M_told) 74 = .ok (.iload_n 3, 1) := by decide +kernel
theorem d_M_told_75 : decode (xC k_M_told) 75 = .ok (.ifCond .ne 17, 3) := by decide +kernel
theorem d_M_told_78 : decode (xC k_M_told) 78 = .ok (.aload_n 0, 1) := by decide +kernel
theorem d_M_told_79 : decode (xC k_M_told) 79 = .ok (.getfield 86, 3) := by decide +kernel
theorem d_M_told_82 : decode (xC k_M_told) 82 = .ok (.bipush 100, 2) := by decide +kernel
theorem d_M_told_84 : decode (xC k_M_told) 84 = .ok (.iload_n 1, 1) := by decide +kernel
theorem d_M_told_85 : decode (xC k_M_told) 85 = .ok (.imul, 1) := by decide +kernel
theorem d_M_told_86 : decode (xC k_M_told) 86 = .ok (.iload_n 2, 1) := by decide +kernel
theorem d_M_told_87 : decode (xC k_M_told) 87 = .ok (.iadd, 1) := by decide +kernel
theorem d_M_told_88 : decode (xC k_M_told) 88 = .ok (.iaload, 1) := by decide +kernel
theorem d_M_told_89 : decode (xC k_M_told) 89 = .ok (.goto 14, 3) := by decide +kernel
theorem d_M_told_92 : decode (xC k_M_told) 92 = .ok (.aload_n 0, 1) := by decide +kernel
theorem d_M_told_93 : decode (xC k_M_told) 93 = .ok (.getfield 89, 3) := by decide +kernel
theorem d_M_told_96 : decode (xC k_M_told) 96 = .ok (.bipush 100, 2) := by decide +kernel
theorem d_M_told_98 : decode (xC k_M_told) 98 = .ok (.iload_n 1, 1) := by decide +kernel
theorem d_M_told_99 : decode (xC k_M_told) 99 = .ok (.imul, 1) := by decide +kernel
theorem d_M_told_100 : decode (xC k_M_told) 100 = .ok (.iload_n 2, 1) := by decide +kernel
theorem d_M_told_101 : decode (xC k_M_told) 101 = .ok (.iadd, 1) := by decide +kernel
theorem d_M_told_102 : decode (xC k_M_told) 102 = .ok (.iaload, 1) := by decide +kernel
theorem d_M_told_103 : decode (xC k_M_told) 103 = .ok (.ireturn, 1) := by decide +kernel
theorem d_M_extend_0 : decode (xC k_M_extend) 0 = .ok (.aload_n 0, 1) := by decide +kernel
theorem d_M_extend_1 : decode (xC k_M_extend) 1 = .ok (.aload_n 0, 1) := by decide +kernel
theorem d_M_extend_2 : decode (xC k_M_extend) 2 = .ok (.iload_n 1, 1) := by decide +kernel
theorem d_M_extend_3 : decode (xC k_M_extend) 3 = .ok (.invokevirtual 184, 3) := by decide +kernel
theorem d_M_extend_6 : decode (xC k_M_extend) 6 = .ok (.iload_n 2, 1) := by decide +kernel
theorem d_M_extend_7 : decode (xC k_M_extend) 7 = .ok (.iconst 0, 1) := by decide +kernel
theorem d_M_extend_8 : decode (xC k_M_extend) 8 = .ok (.ldc 108, 2) := by decide +kernel
theorem d_M_extend_10 : decode (xC k_M_extend) 10 = .ok (.invokestatic 112, 3) := by decide +kernel
theorem d_M_extend_13 : decode (xC k_M_extend) 13 = .ok (.ifCond .eq 17, 3) := by decide +kernel
theorem d_M_extend_16 : decode (xC k_M_extend) 16 = .ok (.iload_n 3, 1) := by decide +kernel
theorem d_M_extend_17 : decode (xC k_M_extend) 17 = .ok (.iconst 0, 1) := by decide +kernel
theorem d_M_extend_18 : decode (xC k_M_extend) 18 = .ok (.ldc 108, 2) := by decide +kernel
theorem d_M_extend_20 : decode (xC k_M_extend) 20 = .ok (.invokestatic 112, 3) := by decide +kernel
theorem d_M_extend_23 : decode (xC k_M_extend) 23 = .ok (.ifCond .eq 7, 3) := by decide +kernel
theorem d_M_extend_26 : decode (xC k_M_extend) 26 = .ok (.iconst 1, 1) := by decide +kernel
theorem d_M_extend_27 : decode (xC k_M_extend) 27 = .ok (.goto 4, 3) := by decide +kernel
theorem d_M_extend_30 : decode (xC k_M_extend) 30 = .ok (.iconst 0, 1) := by decide +kernel
theorem d_M_extend_31 : decode (xC k_M_extend) 31 = .ok (.iconst 1, 1) := by decide +kernel
theorem d_M_extend_32 : decode (xC k_M_extend) 32 = .ok (.invokevirtual 116, 3) := by decide +kernel
theorem d_M_extend_35 : decode (xC k_M_extend) 35 = .ok (.ifCond .ne 5, 3) := by decide +kernel
theorem d_M_extend_38 : decode (xC k_M_extend) 38 = .ok (.iconst 0, 1) := by decide +kernel
theorem d_M_extend_39 : decode (xC k_M_extend) 39 = .ok (.ireturn, 1) := by decide +kernel
theorem d_M_extend_40 : decode (xC k_M_extend) 40 = .ok (.iload_n 3, 1) := by decide +kernel
theorem d_M_extend_41 : decode (xC k_M_extend) 41 = .ok (.aload_n 0, 1) := by decide +kernel
theorem d_M_extend_42 : decode (xC k_M_extend) 42 = .ok (.getfield 73, 3) := by decide +kernel
theorem d_M_extend_45 : decode (xC k_M_extend) 45 = .ok (.iload_n 1, 1) := by decide +kernel
theorem d_M_extend_46 : decode (xC k_M_extend) 46 = .ok (.iaload, 1) := by decide +kernel
theorem d_M_extend_47 : decode (xC k_M_extend) 47 = .ok (.if_icmp .le 5, 3) := by decide +kernel
theorem d_M_extend_50 : decode (xC k_M_extend) 50 = .ok (.iconst 1, 1) := by decide +kernel
theorem d_M_extend_51 : decode (xC k_M_extend) 51 = .ok (.ireturn, 1) := by decide +kernel
theorem d_M_extend_52 : decode (xC k_M_extend) 52 = .ok (.iload_n 2, 1) := by decide +kernel
theorem d_M_extend_53 : decode (xC k_M_extend) 53 = .ok (.aload_n 0, 1) := by decide +kernel
theorem d_M_extend_54 : decode (xC k_M_extend) 54 = .ok (.getfield 73, 3) := by decide +kernel
theorem d_M_extend_57 : decode (xC k_M_extend) 57 = .ok (.iload_n 1, 1) := by decide +kernel
theorem d_M_extend_58 : decode (xC k_M_extend) 58 = .ok (.iaload, 1) := by decide +kernel
theorem d_M_extend_59 : decode (xC k_M_extend) 59 = .ok (.if_icmp .gt 5, 3) := by decide +kernel
theorem d_M_extend_62 : decode (xC k_M_extend) 62 = .ok (.iconst 2, 1) := by decide +kernel
theorem d_M_extend_63 : decode (xC k_M_extend) 63 = .ok (.ireturn, 1) := by decide +kernel
theorem d_M_extend_64 : decode (xC k_M_extend) 64 = .ok (.aload_n 0, 1) := by decide +kernel
theorem d_M_extend_65 : decode (xC k_M_extend) 65 = .ok (.aload_n 0, 1) := by decide +kernel
theorem d_M_extend_66 : decode (xC k_M_extend) 66 = .ok (.getfield 67, 3) := by decide +kernel
theorem d_M_extend_69 : decode (xC k_M_extend) 69 = .ok (.iload_n 1, 1) := by decide +kernel
theorem d_M_extend_70 : decode (xC k_M_extend) 70 = .ok (.iaload, 1) := by decide +kernel
theorem d_M_extend_71 : decode (xC k_M_extend) 71 = .ok (.aload_n 0, 1) := by decide +kernel
theorem d_M_extend_72 : decode (xC k_M_extend) 72 = .ok (.getfield 70, 3) := by decide +kernel
theorem d_M_extend_75 : decode (xC k_M_extend) 75 = .ok (.iload_n 1, 1) := by decide +kernel
theorem d_M_extend_76 : decode (xC k_M_extend) 76 = .ok (.iaload, 1) := by decide +kernel
theorem d_M_extend_77 : decode (xC k_M_extend) 77 = .ok (.iload_n 2, 1) := by decide +kernel
theorem d_M_extend_78 : decode (xC k_M_extend) 78 = .ok (.iload_n 1, 1) := by decide +kernel
theorem d_M_extend_79 : decode (xC k_M_extend) 79 = .ok (.invokevirtual 180, 3) := by decide +kernel
theorem d_M_extend_82 : decode (xC k_M_extend) 82 = .ok (.ifCond .eq 5, 3) := by decide +kernel
theorem d_M_extend_85 : decode (xC k_M_extend) 85 = .ok (.iconst 3, 1) := by decide +kernel
theorem d_M_extend_86 : decode (xC k_M_extend) 86 = .ok (.ireturn, 1) := by decide +kernel
theorem d_M_extend_87 : decode (xC k_M_extend) 87 = .ok (.aload_n 0, 1) := by decide +kernel
theorem d_M_extend_88 : decode (xC k_M_extend) 88 = .ok (.getfield 73, 3) := by decide +kernel
theorem d_M_extend_91 : decode (xC k_M_extend) 91 = .ok (.iload_n 1, 1) := by decide +kernel
theorem d_M_extend_92 : decode (xC k_M_extend) 92 = .ok (.iload_n 2, 1) := by decide +kernel
theorem d_M_extend_93 : decode (xC k_M_extend) 93 = .ok (.iastore, 1) := by decide +kernel
theorem d_M_extend_94 : decode (xC k_M_extend) 94 = .ok (.iconst 0, 1) := by decide +kernel
theorem d_M_extend_95 : decode (xC k_M_extend) 95 = .ok (.ireturn, 1) := by decide +kernel
theorem d_M_request_0 : decode (xC k_M_request) 0 = .ok (.aload_n 0, 1) := by decide +kernel
theorem d_M_request_1 : decode (xC k_M_request) 1 = .ok (.iload_n 1, 1) := by decide +kernel
theorem d_M_request_2 : decode (xC k_M_request) 2 = .ok (.invokestatic 173, 3) := by decide +kernel
theorem d_M_request_5 : decode (xC k_M_request) 5 = .ok (.aload_n 0, 1) := by decide +kernel
theorem d_M_request_6 : decode (xC k_M_request) 6 = .ok (.getfield 196, 3) := by decide +kernel
theorem d_M_request_9 : decode (xC k_M_request) 9 = .ok (.bipush 30, 2) := by decide +kernel
theorem d_M_request_11 : decode (xC k_M_request) 11 = .ok (.if_icmp .ge 7, 3) := by decide +kernel
theorem d_M_request_14 : decode (xC k_M_request) 14 = .ok (.iconst 1, 1) := by decide +kernel
theorem d_M_request_15 : decode (xC k_M_request) 15 = .ok (.goto 4, 3) := by decide +kernel
theorem d_M_request_18 : decode (xC k_M_request) 18 = .ok (.iconst 0, 1) := by decide +kernel
theorem d_M_request_19 : decode (xC k_M_request) 19 = .ok (.iload_n 2, 1) := by decide +kernel
theorem d_M_request_20 : decode (xC k_M_request) 20 = .ok (.iload_n 3, 1) := by decide +kernel
theorem d_M_request_21 : decode (xC k_M_request) 21 = .ok (.invokestatic 176, 3) := by decide +kernel
theorem d_M_request_24 : decode (xC k_M_request) 24 = .ok (.invokevirtual 116, 3) := by decide +kernel
theorem d_M_request_27 : decode (xC k_M_request) 27 = .ok (.ifCond .ne 5, 3) := by decide +kernel
theorem d_M_request_30 : decode (xC k_M_request) 30 = .ok (.iconst 0, 1) := by decide +kernel
theorem d_M_request_31 : decode (xC k_M_request) 31 = .ok (.ireturn, 1) := by decide +kernel
theorem d_M_request_32 : decode (xC k_M_request) 32 = .ok (.aload_n 0, 1) := by decide +kernel
theorem d_M_request_33 : decode (xC k_M_request) 33 = .ok (.getfield 92, 3) := by decide +kernel
theorem d_M_request_36 : decode (xC k_M_request) 36 = .ok (.aload_n 0, 1) := by decide +kernel
theorem d_M_request_37 : decode (xC k_M_request) 37 = .ok (.getfield 196, 3) := by decide +kernel
theorem d_M_request_40 : decode (xC k_M_request) 40 = .ok (.iload_n 1, 1) := by decide +kernel
theorem d_M_request_41 : decode (xC k_M_request) 41 = .ok (.iastore, 1) := by decide +kernel
theorem d_M_request_42 : decode (xC k_M_request) 42 = .ok (.aload_n 0, 1) := by decide +kernel
theorem d_M_request_43 : decode (xC k_M_request) 43 = .ok (.getfield 95, 3) := by decide +kernel
theorem d_M_request_46 : decode (xC k_M_request) 46 = .ok (.aload_n 0, 1) := by decide +kernel
theorem d_M_request_47 : decode (xC k_M_request) 47 = .ok (.getfield 196, 3) := by decide +kernel
theorem d_M_request_50 : decode (xC k_M_request) 50 = .ok (.iload_n 2, 1) := by decide +kernel
theorem d_M_request_51 : decode (xC k_M_request) 51 = .ok (.iastore, 1) := by decide +kernel
theorem d_M_request_52 : decode (xC k_M_request) 52 = .ok (.aload_n 0, 1) := by decide +kernel
theorem d_M_request_53 : decode (xC k_M_request) 53 = .ok (.getfield 98, 3) := by decide +kernel
theorem d_M_request_56 : decode (xC k_M_request) 56 = .ok (.aload_n 0, 1) := by decide +kernel
theorem d_M_request_57 : decode (xC k_M_request) 57 = .ok (.getfield 196, 3) := by decide +kernel
theorem d_M_request_60 : decode (xC k_M_request) 60 = .ok (.iload_n 3, 1) := by decide +kernel
theorem d_M_request_61 : decode (xC k_M_request) 61 = .ok (.iastore, 1) := by decide +kernel
theorem d_M_request_62 : decode (xC k_M_request) 62 = .ok (.aload_n 0, 1) := by decide +kernel
theorem d_M_request_63 : decode (xC k_M_request) 63 = .ok (.dup, 1) := by decide +kernel
theorem d_M_request_64 : decode (xC k_M_request) 64 = .ok (.getfield 196, 3) := by decide +kernel
theorem d_M_request_67 : decode (xC k_M_request) 67 = .ok (.iconst 1, 1) := by decide +kernel
theorem d_M_request_68 : decode (xC k_M_request) 68 = .ok (.iadd, 1) := by decide +kernel
theorem d_M_request_69 : decode (xC k_M_request) 69 = .ok (.putfield 196, 3) := by decide +kernel
theorem d_M_request_72 : decode (xC k_M_request) 72 = .ok (.aload_n 0, 1) := by decide +kernel
theorem d_M_request_73 : decode (xC k_M_request) 73 = .ok (.getfield 196, 3) := by decide +kernel
theorem d_M_request_76 : decode (xC k_M_request) 76 = .ok (.iconst 1, 1) := by decide +kernel
theorem d_M_request_77 : decode (xC k_M_request) 77 = .ok (.isub, 1) := by decide +kernel
theorem d_M_request_78 : decode (xC k_M_request) 78 = .ok (.ireturn, 1) := by decide +kernel
theorem d_M_isPair_0 : decode (xC k_M_isPair) 0 = .ok (.iload_n 2, 1) := by decide +kernel
theorem d_M_isPair_1 : decode (xC k_M_isPair) 1 = .ok (.aload_n 0, 1) := by decide +kernel
theorem d_M_isPair_2 : decode (xC k_M_isPair) 2 = .ok (.getfield 196, 3) := by decide +kernel
theorem d_M_isPair_5 : decode (xC k_M_isPair) 5 = .ok (.if_icmp .ge 7, 3) := by decide +kernel
theorem d_M_isPair_8 : decode (xC k_M_isPair) 8 = .ok (.iconst 1, 1) := by decide +kernel
theorem d_M_isPair_9 : decode (xC k_M_isPair) 9 = .ok (.goto 4, 3) := by decide +kernel
theorem d_M_isPair_12 : decode (xC k_M_isPair) 12 = .ok (.iconst 0, 1) := by decide +kernel
theorem d_M_isPair_13 : decode (xC k_M_isPair) 13 = .ok (.istore_n 3, 1) := by decide +kernel
theorem d_M_isPair_14 : decode (xC k_M_isPair) 14 = .ok (.iload_n 3, 1) := by decide +kernel
theorem d_M_isPair_15 : decode (xC k_M_isPair) 15 = .ok (.ifCond .ne 20, 3) := by decide +kernel
theorem d_M_isPair_18 : decode (xC k_M_isPair) 18 = .ok (.iload_n 2, 1) := by decide +kernel
theorem d_M_isPair_19 : decode (xC k_M_isPair) 19 = .ok (.bipush 100, 2) := by decide +kernel
theorem d_M_isPair_21 : decode (xC k_M_isPair) 21 = .ok (.if_icmp .lt 18, 3) := by decide +kernel
theorem d_M_isPair_24 : decode (xC k_M_isPair) 24 = .ok (.iload_n 2, 1) := by decide +kernel
theorem d_M_isPair_25 : decode (xC k_M_isPair) 25 = .ok (.bipush 100, 2) := by decide +kernel
theorem d_M_isPair_27 : decode (xC k_M_isPair) 27 = .ok (.aload_n 0, 1) := by decide +kernel
theorem d_M_isPair_28 : decode (xC k_M_isPair) 28 = .ok (.getfield 105, 3) := by decide +kernel
theorem d_M_isPair_31 : decode (xC k_M_isPair) 31 = .ok (.iadd, 1) := by decide +kernel
theorem d_M_isPair_32 : decode (xC k_M_isPair) 32 = .ok (.if_icmp .ge 7, 3) := by decide +kernel
theorem d_M_isPair_35 : decode (xC k_M_isPair) 35 = .ok (.iconst 1, 1) := by decide +kernel
theorem d_M_isPair_36 : decode (xC k_M_isPair) 36 = .ok (.goto 4, 3) := by decide +kernel
theorem d_M_isPair_39 : decode (xC k_M_isPair) 39 = .ok (.iconst 0, 1) := by decide +kernel
theorem d_M_isPair_40 : decode (xC k_M_isPair) 40 = .ok (.istore 4, 2) := by decide +kernel
theorem d_M_isPair_42 : decode (xC k_M_isPair) 42 = .ok (.iload 4, 2) := by decide +kernel
theorem d_M_isPair_44 : decode (xC k_M_isPair) 44 = .ok (.ifCond .ne 7, 3) := by decide +kernel
theorem d_M_isPair_47 : decode (xC k_M_isPair) 47 = .ok (.iconst 0, 1) := by decide +kernel
theorem d_M_isPair_48 : decode (xC k_M_isPair) 48 = .ok (.goto 15, 3) := by decide +kernel
theorem d_M_isPair_51 : decode (xC k_M_isPair) 51 = .ok (.iload_n 3, 1) := by decide +kernel
theorem d_M_isPair_52 : decode (xC k_M_isPair) 52 = .ok (.ifCond .eq 7, 3) := by decide +kernel
theorem d_M_isPair_55 : decode (xC k_M_isPair) 55 = .ok (.iload_n 2, 1) := by decide +kernel
theorem d_M_isPair_56 : decode (xC k_M_isPair) 56 = .ok (.goto 7, 3) := by decide +kernel
theorem d_M_isPair_59 : decode (xC k_M_isPair) 59 = .ok (.iload_n 2, 1) := by decide +kernel
theorem d_M_isPair_60 : decode (xC k_M_isPair) 60 = .ok (.bipush 100, 2) := by decide +kernel
theorem d_M_isPair_62 : decode (xC k_M_isPair) 62 = .ok (.isub, 1) := by decide +kernel
theorem d_M_isPair_63 : decode (xC k_M_isPair) 63 = .ok (.istore 5, 2) := by decide +kernel
theorem d_M_isPair_65 : decode (xC k_M_isPair) 65 = .ok (.iload_n 3, 1) := by decide +kernel
theorem d_M_isPair_66 : decode (xC k_M_isPair) 66 = .ok (.ifCond .eq 13, 3) := by decide +kernel
theorem d_M_isPair_69 : decode (xC k_M_isPair) 69 = .ok (.aload_n 0, 1) := by decide +kernel
theorem d_M_isPair_70 : decode (xC k_M_isPair) 70 = .ok (.getfield 92, 3) := by decide +kernel
theorem d_M_isPair_73 : decode (xC k_M_isPair) 73 = .ok (.iload 5, 2) := by decide +kernel
theorem d_M_isPair_75 : decode (xC k_M_isPair) 75 = .ok (.iaload, 1) := by decide +kernel
theorem d_M_isPair_76 : decode (xC k_M_isPair) 76 = .ok (.goto 10, 3) := by decide +kernel
theorem d_M_isPair_79 : decode (xC k_M_isPair) 79 = .ok (.aload_n 0, 1) := by decide +kernel
theorem d_M_isPair_80 : decode (xC k_M_isPair) 80 = .ok (.getfield 67, 3) := by decide +kernel
theorem d_M_isPair_83 : decode (xC k_M_isPair) 83 = .ok (.iload 5, 2) := by decide +kernel
theorem d_M_isPair_85 : decode (xC k_M_isPair) 85 = .ok (.iaload, 1) := by decide +kernel
theorem d_M_isPair_86 : decode (xC k_M_isPair) 86 = .ok (.istore 6, 2) := by decide +kernel
theorem d_M_isPair_88 : decode (xC k_M_isPair) 88 = .ok (.iload_n 3, 1) := by decide +kernel
theorem d_M_isPair_89 : decode (xC k_M_isPair) 89 = .ok (.ifCond .eq 13, 3) := by decide +kernel
theorem d_M_isPair_92 : decode (xC k_M_isPair) 92 = .ok (.aload_n 0, 1) := by decide +kernel
theorem d_M_isPair_93 : decode (xC k_M_isPair) 93 = .ok (.getfield 95, 3) := by decide +kernel
theorem d_M_isPair_96 : decode (xC k_M_isPair) 96 = .ok (.iload 5, 2) := by decide +kernel
theorem d_M_isPair_98 : decode (xC k_M_isPair) 98 = .ok (.iaload, 1) := by decide +kernel
theorem d_M_isPair_99 : decode (xC k_M_isPair) 99 = .ok (.goto 10, 3) := by decide +kernel
theorem d_M_isPair_102 : decode (xC k_M_isPair) 102 = .ok (.aload_n 0, 1) := by decide +kernel
theorem d_M_isPair_103 : decode (xC k_M_isPair) 103 = .ok (.getfield 70, 3) := by decide +kernel
theorem d_M_isPair_106 : decode (xC k_M_isPair) 106 = .ok (.iload 5, 2) := by decide +kernel
theorem d_M_isPair_108 : decode (xC k_M_isPair) 108 = .ok (.iaload, 1) := by decide +kernel
theorem d_M_isPair_109 : decode (xC k_M_isPair) 109 = .ok (.istore 7, 2) := by decide +kernel
theorem d_M_isPair_111 : decode (xC k_M_isPair) 111 = .ok (.iload_n 3, 1) := by decide +kernel
theorem d_M_isPair_112 : decode (xC k_M_isPair) 112 = .ok (.ifCond .eq 13, 3) := by decide +kernel
theorem d_M_isPair_115 : decode (xC k_M_isPair) 115 = .ok (.aload_n 0, 1) := by decide +kernel
theorem d_M_isPair_116 : decode (xC k_M_isPair) 116 = .ok (.getfield 98, 3) := by decide +kernel
theorem d_M_isPair_119 : decode (xC k_M_isPair) 119 = .ok (.iload 5, 2) := by decide +kernel
theorem d_M_isPair_121 : decode (xC k_M_isPair) 121 = .ok (.iaload, 1) := by decide +kernel
theorem d_M_isPair_122 : decode (xC k_M_isPair) 122 = .ok (.goto 10, 3) := by decide +kernel
theorem d_M_isPair_125 : decode (xC k_M_isPair) 125 = .ok (.aload_n 0, 1) := by decide +kernel
theorem d_M_isPair_126 : decode (xC k_M_isPair) 126 = .ok (.getfield 73, 3) := by decide +kernel
theorem d_M_isPair_129 : decode (xC k_M_isPair) 129 = .ok (.iload 5, 2) := by decide +kernel
theorem d_M_isPair_131 : decode (xC k_M_isPair) 131 = .ok (.iaload, 1) := by decide +kernel
theorem d_M_isPair_132 : decode (xC k_M_isPair) 132 = .ok (.istore 8, 2) := by decide +kernel
theorem d_M_isPair_134 : decode (xC k_M_isPair) 134 = .ok (.iload 4, 2) := by decide +kernel
theorem d_M_isPair_136 : decode (xC k_M_isPair) 136 = .ok (.ifCond .eq 40, 3) := by decide +kernel
theorem d_M_isPair_139 : decode (xC k_M_isPair) 139 = .ok (.iload 6, 2) := by decide +kernel
theorem d_M_isPair_141 : decode (xC k_M_isPair) 141 = .ok (.aload_n 0, 1) := by decide +kernel
theorem d_M_isPair_142 : decode (xC k_M_isPair) 142 = .ok (.getfield 92, 3) := by decide +kernel
theorem d_M_isPair_145 : decode (xC k_M_isPair) 145 = .ok (.iload_n 1, 1) := by decide +kernel
theorem d_M_isPair_146 : decode (xC k_M_isPair) 146 = .ok (.iaload, 1) := by decide +kernel
theorem d_M_isPair_147 : decode (xC k_M_isPair) 147 = .ok (.if_icmp .ne 29, 3) := by decide +kernel
theorem d_M_isPair_150 : decode (xC k_M_isPair) 150 = .ok (.iload 7, 2) := by decide +kernel
theorem d_M_isPair_152 : decode (xC k_M_isPair) 152 = .ok (.aload_n 0, 1) := by decide +kernel
theorem d_M_isPair_153 : decode (xC k_M_isPair) 153 = .ok (.getfield 98, 3) := by decide +kernel
theorem d_M_isPair_156 : decode (xC k_M_isPair) 156 = .ok (.iload_n 1, 1) := by decide +kernel
theorem d_M_isPair_157 : decode (xC k_M_isPair) 157 = .ok (.iaload, 1) := by decide +kernel
theorem d_M_isPair_158 : decode (xC k_M_isPair) 158 = .ok (.if_icmp .gt 18, 3) := by decide +kernel
theorem d_M_isPair_161 : decode (xC k_M_isPair) 161 = .ok (.aload_n 0, 1) := by decide +kernel
theorem d_M_isPair_162 : decode (xC k_M_isPair) 162 = .ok (.getfield 95, 3) := by decide +kernel
theorem d_M_isPair_165 : decode (xC k_M_isPair) 165 = .ok (.iload_n 1, 1) := by decide +kernel
theorem d_M_isPair_166 : decode (xC k_M_isPair) 166 = .ok (.iaload, 1) := by decide +kernel
theorem d_M_isPair_167 : decode (xC k_M_isPair) 167 = .ok (.iload 8, 2) := by decide +kernel
theorem d_M_isPair_169 : decode (xC k_M_isPair) 169 = .ok (.if_icmp .gt 7, 3) := by decide +kernel
theorem d_M_isPair_172 : decode (xC k_M_isPair) 172 = .ok (.iconst 1, 1) := by decide +kernel
theorem d_M_isPair_173 : decode (xC k_M_isPair) 173 = .ok (.goto 4, 3) := by decide +kernel
theorem d_M_isPair_176 : decode (xC k_M_isPair) 176 = .ok (.iconst 0, 1) := by decide +kernel
theorem d_M_isPair_177 : decode (xC k_M_isPair) 177 = .ok (.ireturn, 1) := by decide +kernel
theorem d_M_clash_0 : decode (xC k_M_clash) 0 = .ok (.aload_n 0, 1) := by decide +kernel
theorem d_M_clash_1 : decode (xC k_M_clash) 1 = .ok (.iload_n 1, 1) := by decide +kernel
theorem d_M_clash_2 : decode (xC k_M_clash) 2 = .ok (.ifCond .lt 16, 3) := by decide +kernel
theorem d_M_clash_5 : decode (xC k_M_clash) 5 = .ok (.iload_n 2, 1) := by decide +kernel
theorem d_M_clash_6 : decode (xC k_M_clash) 6 = .ok (.ifCond .eq 8, 3) := by decide +kernel
theorem d_M_clash_9 : decode (xC k_M_clash) 9 = .ok (.iload_n 2, 1) := by decide +kernel
theorem d_M_clash_10 : decode (xC k_M_clash) 10 = .ok (.iconst 1, 1) := by decide +kernel
theorem d_M_clash_11 : decode (xC k_M_clash) 11 = .ok (.if_icmp .ne 7, 3) := by decide +kernel
theorem d_M_clash_14 : decode (xC k_M_clash) 14 = .ok (.iconst 1, 1) := by decide +kernel
theorem d_M_clash_15 : decode (xC k_M_clash) 15 = .ok (.goto 4, 3) := by decide +kernel
theorem d_M_clash_18 : decode (xC k_M_clash) 18 = .ok (.iconst 0, 1) := by decide +kernel
theorem d_M_clash_19 : decode (xC k_M_clash) 19 = .ok (.iconst 1, 1) := by decide +kernel
theorem d_M_clash_20 : decode (xC k_M_clash) 20 = .ok (.iconst 1, 1) := by decide +kernel
theorem d_M_clash_21 : decode (xC k_M_clash) 21 = .ok (.invokevirtual 116, 3) := by decide +kernel
theorem d_M_clash_24 : decode (xC k_M_clash) 24 = .ok (.ifCond .ne 5, 3) := by decide +kernel
theorem d_M_clash_27 : decode (xC k_M_clash) 27 = .ok (.iconst 0, 1) := by decide +kernel
theorem d_M_clash_28 : decode (xC k_M_clash) 28 = .ok (.ireturn, 1) := by decide +kernel
theorem d_M_clash_29 : decode (xC k_M_clash) 29 = .ok (.iconst 0, 1) := by decide +kernel
theorem d_M_clash_30 : decode (xC k_M_clash) 30 = .ok (.istore_n 3, 1) := by decide +kernel
theorem d_M_clash_31 : decode (xC k_M_clash) 31 = .ok (.iconst 0, 1) := by decide +kernel
theorem d_M_clash_32 : decode (xC k_M_clash) 32 = .ok (.istore 4, 2) := by decide +kernel
theorem d_M_clash_34 : decode (xC k_M_clash) 34 = .ok (.iload 4, 2) := by decide +kernel
theorem d_M_clash_36 : decode (xC k_M_clash) 36 = .ok (.aload_n 0, 1) := by decide +kernel
theorem d_M_clash_37 : decode (xC k_M_clash) 37 = .ok (.getfield 196, 3) := by decide +kernel
theorem d_M_clash_40 : decode (xC k_M_clash) 40 = .ok (.if_icmp .ge 59, 3) := by decide +kernel
theorem d_M_clash_43 : decode (xC k_M_clash) 43 = .ok (.iload 4, 2) := by decide +kernel
theorem d_M_clash_45 : decode (xC k_M_clash) 45 = .ok (.iconst 1, 1) := by decide +kernel
theorem d_M_clash_46 : decode (xC k_M_clash) 46 = .ok (.iadd, 1) := by decide +kernel
theorem d_M_clash_47 : decode (xC k_M_clash) 47 = .ok (.istore 5, 2) := by decide +kernel
theorem d_M_clash_49 : decode (xC k_M_clash) 49 = .ok (.iload 5, 2) := by decide +kernel
theorem d_M_clash_51 : decode (xC k_M_clash) 51 = .ok (.bipush 120, 2) := by decide +kernel
theorem d_M_clash_53 : decode (xC k_M_clash) 53 = .ok (.if_icmp .ge 40, 3) := by decide +kernel
theorem d_M_clash_56 : decode (xC k_M_clash) 56 = .ok (.aload_n 0, 1) := by decide +kernel
theorem d_M_clash_57 : decode (xC k_M_clash) 57 = .ok (.iload 4, 2) := by decide +kernel
theorem d_M_clash_59 : decode (xC k_M_clash) 59 = .ok (.iload 5, 2) := by decide +kernel
theorem d_M_clash_61 : decode (xC k_M_clash) 61 = .ok (.invokevirtual 199, 3) := by decide +kernel
theorem d_M_clash_64 : decode (xC k_M_clash) 64 = .ok (.ifCond .eq 23, 3) := by decide +kernel
theorem d_M_clash_67 : decode (xC k_M_clash) 67 = .ok (.iload_n 3, 1) := by decide +kernel
theorem d_M_clash_68 : decode (xC k_M_clash) 68 = .ok (.iload_n 1, 1) := by decide +kernel
theorem d_M_clash_69 : decode (xC k_M_clash) 69 = .ok (.if_icmp .ne 15, 3) := by decide +kernel
theorem d_M_clash_72 : decode (xC k_M_clash) 72 = .ok (.iload_n 2, 1) := by decide +kernel
theorem d_M_clash_73 : decode (xC k_M_clash) 73 = .ok (.ifCond .ne 8, 3) := by decide +kernel
theorem d_M_clash_76 : decode (xC k_M_clash) 76 = .ok (.iload 4, 2) := by decide +kernel
theorem d_M_clash_78 : decode (xC k_M_clash) 78 = .ok (.goto 5, 3) := by decide +kernel
theorem d_M_clash_81 : decode (xC k_M_clash) 81 = .ok (.iload 5, 2) := by decide +kernel
theorem d_M_clash_83 : decode (xC k_M_clash) 83 = .ok (.ireturn, 1) := by decide +kernel
theorem d_M_clash_84 : decode (xC k_M_clash) 84 = .ok (.iinc 3 1, 3) := by decide +kernel
theorem d_M_clash_87 : decode (xC k_M_clash) 87 = .ok (.iinc 5 1, 3) := by decide +kernel
theorem d_M_clash_90 : decode (xC k_M_clash) 90 = .ok (.goto (-41), 3) := by decide +kernel
theorem d_M_clash_93 : decode (xC k_M_clash) 93 = .ok (.iinc 4 1, 3) := by decide +kernel
theorem d_M_clash_96 : decode (xC k_M_clash) 96 = .ok (.goto (-62), 3) := by decide +kernel
theorem d_M_clash_99 : decode (xC k_M_clash) 99 = .ok (.iconst (-1), 1) := by decide +kernel
theorem d_M_clash_100 : decode (xC k_M_clash) 100 = .ok (.ireturn, 1) := by decide +kernel
theorem d_M_allDays_0 : decode (xC k_M_allDays) 0 = .ok (.aload_n 0, 1) := by decide +kernel
theorem d_M_allDays_1 : decode (xC k_M_allDays) 1 = .ok (.getfield 73, 3) := by decide +kernel
theorem d_M_allDays_4 : decode (xC k_M_allDays) 4 = .ok (.iload_n 1, 1) := by decide +kernel
theorem d_M_allDays_5 : decode (xC k_M_allDays) 5 = .ok (.iaload, 1) := by decide +kernel
theorem d_M_allDays_6 : decode (xC k_M_allDays) 6 = .ok (.aload_n 0, 1) := by decide +kernel
theorem d_M_allDays_7 : decode (xC k_M_allDays) 7 = .ok (.getfield 70, 3) := by decide +kernel
theorem d_M_allDays_10 : decode (xC k_M_allDays) 10 = .ok (.iload_n 1, 1) := by decide +kernel
theorem d_M_allDays_11 : decode (xC k_M_allDays) 11 = .ok (.iaload, 1) := by decide +kernel
theorem d_M_allDays_12 : decode (xC k_M_allDays) 12 = .ok (.isub, 1) := by decide +kernel
theorem d_M_allDays_13 : decode (xC k_M_allDays) 13 = .ok (.iconst 1, 1) := by decide +kernel
theorem d_M_allDays_14 : decode (xC k_M_allDays) 14 = .ok (.iadd, 1) := by decide +kernel
theorem d_M_allDays_15 : decode (xC k_M_allDays) 15 = .ok (.ireturn, 1) := by decide +kernel
theorem d_M_days_0 : decode (xC k_M_days) 0 = .ok (.aload_n 0, 1) := by decide +kernel
theorem d_M_days_1 : decode (xC k_M_days) 1 = .ok (.aload_n 0, 1) := by decide +kernel
theorem d_M_days_2 : decode (xC k_M_days) 2 = .ok (.iload_n 1, 1) := by decide +kernel
theorem d_M_days_3 : decode (xC k_M_days) 3 = .ok (.invokevirtual 184, 3) := by decide +kernel
theorem d_M_days_6 : decode (xC k_M_days) 6 = .ok (.iconst 1, 1) := by decide +kernel
theorem d_M_days_7 : decode (xC k_M_days) 7 = .ok (.iconst 1, 1) := by decide +kernel
theorem d_M_days_8 : decode (xC k_M_days) 8 = .ok (.invokevirtual 116, 3) := by decide +kernel
theorem d_M_days_11 : decode (xC k_M_days) 11 = .ok (.ifCond .eq 11, 3) := by decide +kernel
theorem d_M_days_14 : decode (xC k_M_days) 14 = .ok (.aload_n 0, 1) := by decide +kernel
theorem d_M_days_15 : decode (xC k_M_days) 15 = .ok (.iload_n 1, 1) := by decide +kernel
theorem d_M_days_16 : decode (xC k_M_days) 16 = .ok (.invokevirtual 202, 3) := by decide +kernel
theorem d_M_days_19 : decode (xC k_M_days) 19 = .ok (.goto 4, 3) := by decide +kernel
theorem d_M_days_22 : decode (xC k_M_days) 22 = .ok (.iconst 0, 1) := by decide +kernel
theorem d_M_days_23 : decode (xC k_M_days) 23 = .ok (.ireturn, 1) := by decide +kernel
theorem d_M_allFee_0 : decode (xC k_M_allFee) 0 = .ok (.iconst 5, 1) := by decide +kernel
theorem d_M_allFee_1 : decode (xC k_M_allFee) 1 = .ok (.aload_n 0, 1) := by decide +kernel
theorem d_M_allFee_2 : decode (xC k_M_allFee) 2 = .ok (.iload_n 1, 1) := by decide +kernel
theorem d_M_allFee_3 : decode (xC k_M_allFee) 3 = .ok (.invokevirtual 202, 3) := by decide +kernel
theorem d_M_allFee_6 : decode (xC k_M_allFee) 6 = .ok (.imul, 1) := by decide +kernel
theorem d_M_allFee_7 : decode (xC k_M_allFee) 7 = .ok (.bipush 20, 2) := by decide +kernel
theorem d_M_allFee_9 : decode (xC k_M_allFee) 9 = .ok (.aload_n 0, 1) := by decide +kernel
theorem d_M_allFee_10 : decode (xC k_M_allFee) 10 = .ok (.getfield 13, 3) := by decide +kernel
theorem d_M_allFee_13 : decode (xC k_M_allFee) 13 = .ok (.aload_n 0, 1) := by decide +kernel
theorem d_M_allFee_14 : decode (xC k_M_allFee) 14 = .ok (.getfield 64, 3) := by decide +kernel
theorem d_M_allFee_17 : decode (xC k_M_allFee) 17 = .ok (.iload_n 1, 1) := by decide +kernel
theorem d_M_allFee_18 : decode (xC k_M_allFee) 18 = .ok (.iaload, 1) := by decide +kernel
theorem d_M_allFee_19 : decode (xC k_M_allFee) 19 = .ok (.iaload, 1) := by decide +kernel
theorem d_M_allFee_20 : decode (xC k_M_allFee) 20 = .ok (.imul, 1) := by decide +kernel
theorem d_M_allFee_21 : decode (xC k_M_allFee) 21 = .ok (.iadd, 1) := by decide +kernel
theorem d_M_allFee_22 : decode (xC k_M_allFee) 22 = .ok (.aload_n 0, 1) := by decide +kernel
theorem d_M_allFee_23 : decode (xC k_M_allFee) 23 = .ok (.getfield 76, 3) := by decide +kernel
theorem d_M_allFee_26 : decode (xC k_M_allFee) 26 = .ok (.iload_n 1, 1) := by decide +kernel
theorem d_M_allFee_27 : decode (xC k_M_allFee) 27 = .ok (.baload, 1) := by decide +kernel
theorem d_M_allFee_28 : decode (xC k_M_allFee) 28 = .ok (.ifCond .eq 7, 3) := by decide +kernel
theorem d_M_allFee_31 : decode (xC k_M_allFee) 31 = .ok (.iconst 0, 1) := by decide +kernel
theorem d_M_allFee_32 : decode (xC k_M_allFee) 32 = .ok (.goto 6, 3) := by decide +kernel
theorem d_M_allFee_35 : decode (xC k_M_allFee) 35 = .ok (.sipush 300, 3) := by decide +kernel
theorem d_M_allFee_38 : decode (xC k_M_allFee) 38 = .ok (.iadd, 1) := by decide +kernel
theorem d_M_allFee_39 : decode (xC k_M_allFee) 39 = .ok (.bipush 50, 2) := by decide +kernel
theorem d_M_allFee_41 : decode (xC k_M_allFee) 41 = .ok (.aload_n 0, 1) := by decide +kernel
theorem d_M_allFee_42 : decode (xC k_M_allFee) 42 = .ok (.getfield 83, 3) := by decide +kernel
theorem d_M_allFee_45 : decode (xC k_M_allFee) 45 = .ok (.iload_n 1, 1) := by decide +kernel
theorem d_M_allFee_46 : decode (xC k_M_allFee) 46 = .ok (.iaload, 1) := by decide +kernel
theorem d_M_allFee_47 : decode (xC k_M_allFee) 47 = .ok (.imul, 1) := by decide +kernel
theorem d_M_allFee_48 : decode (xC k_M_allFee) 48 = .ok (.iadd, 1) := by decide +kernel
theorem d_M_allFee_49 : decode (xC k_M_allFee) 49 = .ok (.ireturn, 1) := by decide +kernel
theorem d_M_fee_0 : decode (xC k_M_fee) 0 = .ok (.aload_n 0, 1) := by decide +kernel
theorem d_M_fee_1 : decode (xC k_M_fee) 1 = .ok (.aload_n 0, 1) := by decide +kernel
theorem d_M_fee_2 : decode (xC k_M_fee) 2 = .ok (.iload_n 1, 1) := by decide +kernel
theorem d_M_fee_3 : decode (xC k_M_fee) 3 = .ok (.invokevirtual 184, 3) := by decide +kernel
theorem d_M_fee_6 : decode (xC k_M_fee) 6 = .ok (.iconst 1, 1) := by decide +kernel
theorem d_M_fee_7 : decode (xC k_M_fee) 7 = .ok (.iconst 1, 1) := by decide +kernel
theorem d_M_fee_8 : decode (xC k_M_fee) 8 = .ok (.invokevirtual 116, 3) := by decide +kernel
theorem d_M_fee_11 : decode (xC k_M_fee) 11 = .ok (.ifCond .eq 11, 3) := by decide +kernel
theorem d_M_fee_14 : decode (xC k_M_fee) 14 = .ok (.aload_n 0, 1) := by decide +kernel
theorem d_M_fee_15 : decode (xC k_M_fee) 15 = .ok (.iload_n 1, 1) := by decide +kernel
theorem d_M_fee_16 : decode (xC k_M_fee) 16 = .ok (.invokevirtual 206, 3) := by decide +kernel
theorem d_M_fee_19 : decode (xC k_M_fee) 19 = .ok (.goto 4, 3) := by decide +kernel
theorem d_M_fee_22 : decode (xC k_M_fee) 22 = .ok (.iconst 0, 1) := by decide +kernel
theorem d_M_fee_23 : decode (xC k_M_fee) 23 = .ok (.ireturn, 1) := by decide +kernel
theorem d_M_writeLetter_0 : decode (xC k_M_writeLetter) 0 = .ok (.aload_n 0, 1) := by decide +kernel
theorem d_M_writeLetter_1 : decode (xC k_M_writeLetter) 1 = .ok (.iconst 0, 1) := by decide +kernel
theorem d_M_writeLetter_2 : decode (xC k_M_writeLetter) 2 = .ok (.putfield 149, 3) := by decide +kernel
theorem d_M_writeLetter_5 : decode (xC k_M_writeLetter) 5 = .ok (.aload_n 0, 1) := by decide +kernel
theorem d_M_writeLetter_6 : decode (xC k_M_writeLetter) 6 = .ok (.bipush 35, 2) := by decide +kernel
theorem d_M_writeLetter_8 : decode (xC k_M_writeLetter) 8 = .ok (.invokevirtual 152, 3) := by decide +kernel
theorem d_M_writeLetter_11 : decode (xC k_M_writeLetter) 11 = .ok (.aload_n 0, 1) := by decide +kernel
theorem d_M_writeLetter_12 : decode (xC k_M_writeLetter) 12 = .ok (.iload_n 1, 1) := by decide +kernel
theorem d_M_writeLetter_13 : decode (xC k_M_writeLetter) 13 = .ok (.invokevirtual 165, 3) := by decide +kernel
theorem d_M_writeLetter_16 : decode (xC k_M_writeLetter) 16 = .ok (.aload_n 0, 1) := by decide +kernel
theorem d_M_writeLetter_17 : decode (xC k_M_writeLetter) 17 = .ok (.bipush 64, 2) := by decide +kernel
theorem d_M_writeLetter_19 : decode (xC k_M_writeLetter) 19 = .ok (.invokevirtual 152, 3) := by decide +kernel
theorem d_M_writeLetter_22 : decode (xC k_M_writeLetter) 22 = .ok (.aload_n 0, 1) := by decide +kernel
theorem d_M_writeLetter_23 : decode (xC k_M_writeLetter) 23 = .ok (.aload_n 0, 1) := by decide +kernel
theorem d_M_writeLetter_24 : decode (xC k_M_writeLetter) 24 = .ok (.getfield 67, 3) := by decide +kernel
theorem d_M_writeLetter_27 : decode (xC k_M_writeLetter) 27 = .ok (.iload_n 1, 1) := by decide +kernel
theorem d_M_writeLetter_28 : decode (xC k_M_writeLetter) 28 = .ok (.iaload, 1) := by decide +kernel
theorem d_M_writeLetter_29 : decode (xC k_M_writeLetter) 29 = .ok (.invokevirtual 165, 3) := by decide +kernel
theorem d_M_writeLetter_32 : decode (xC k_M_writeLetter) 32 = .ok (.aload_n 0, 1) := by decide +kernel
theorem d_M_writeLetter_33 : decode (xC k_M_writeLetter) 33 = .ok (.bipush 58, 2) := by decide +kernel
theorem d_M_writeLetter_35 : decode (xC k_M_writeLetter) 35 = .ok (.invokevirtual 152, 3) := by decide +kernel
theorem d_M_writeLetter_38 : decode (xC k_M_writeLetter) 38 = .ok (.aload_n 0, 1) := by decide +kernel
theorem d_M_writeLetter_39 : decode (xC k_M_writeLetter) 39 = .ok (.aload_n 0, 1) := by decide +kernel
theorem d_M_writeLetter_40 : decode (xC k_M_writeLetter) 40 = .ok (.getfield 70, 3) := by decide +kernel
theorem d_M_writeLetter_43 : decode (xC k_M_writeLetter) 43 = .ok (.iload_n 1, 1) := by decide +kernel
theorem d_M_writeLetter_44 : decode (xC k_M_writeLetter) 44 = .ok (.iaload, 1) := by decide +kernel
theorem d_M_writeLetter_45 : decode (xC k_M_writeLetter) 45 = .ok (.invokevirtual 165, 3) := by decide +kernel
theorem d_M_writeLetter_48 : decode (xC k_M_writeLetter) 48 = .ok (.aload_n 0, 1) := by decide +kernel
theorem d_M_writeLetter_49 : decode (xC k_M_writeLetter) 49 = .ok (.bipush 45, 2) := by decide +kernel
theorem d_M_writeLetter_51 : decode (xC k_M_writeLetter) 51 = .ok (.invokevirtual 152, 3) := by decide +kernel
theorem d_M_writeLetter_54 : decode (xC k_M_writeLetter) 54 = .ok (.aload_n 0, 1) := by decide +kernel
theorem d_M_writeLetter_55 : decode (xC k_M_writeLetter) 55 = .ok (.aload_n 0, 1) := by decide +kernel
theorem d_M_writeLetter_56 : decode (xC k_M_writeLetter) 56 = .ok (.getfield 73, 3) := by decide +kernel
theorem d_M_writeLetter_59 : decode (xC k_M_writeLetter) 59 = .ok (.iload_n 1, 1) := by decide +kernel
theorem d_M_writeLetter_60 : decode (xC k_M_writeLetter) 60 = .ok (.iaload, 1) := by decide +kernel
theorem d_M_writeLetter_61 : decode (xC k_M_writeLetter) 61 = .ok (.invokevirtual 165, 3) := by decide +kernel
theorem d_M_writeLetter_64 : decode (xC k_M_writeLetter) 64 = .ok (.aload_n 0, 1) := by decide +kernel
theorem d_M_writeLetter_65 : decode (xC k_M_writeLetter) 65 = .ok (.bipush 61, 2) := by decide +kernel
theorem d_M_writeLetter_67 : decode (xC k_M_writeLetter) 67 = .ok (.invokevirtual 152, 3) := by decide +kernel
theorem d_M_writeLetter_70 : decode (xC k_M_writeLetter) 70 = .ok (.aload_n 0, 1) := by decide +kernel
theorem d_M_writeLetter_71 : decode (xC k_M_writeLetter) 71 = .ok (.aload_n 0, 1) := by decide +kernel
theorem d_M_writeLetter_72 : decode (xC k_M_writeLetter) 72 = .ok (.iload_n 1, 1) := by decide +kernel
theorem d_M_writeLetter_73 : decode (xC k_M_writeLetter) 73 = .ok (.invokevirtual 206, 3) := by decide +kernel
theorem d_M_writeLetter_76 : decode (xC k_M_writeLetter) 76 = .ok (.invokevirtual 165, 3) := by decide +kernel
theorem d_M_writeLetter_79 : decode (xC k_M_writeLetter) 79 = .ok (.iconst 0, 1) := by decide +kernel
theorem d_M_writeLetter_80 : decode (xC k_M_writeLetter) 80 = .ok (.istore_n 2, 1) := by decide +kernel
theorem d_M_writeLetter_81 : decode (xC k_M_writeLetter) 81 = .ok (.iload_n 2, 1) := by decide +kernel
theorem d_M_writeLetter_82 : decode (xC k_M_writeLetter) 82 = .ok (.aload_n 0, 1) := by decide +kernel
theorem d_M_writeLetter_83 : decode (xC k_M_writeLetter) 83 = .ok (.getfield 83, 3) := by decide +kernel
theorem d_M_writeLetter_86 : decode (xC k_M_writeLetter) 86 = .ok (.iload_n 1, 1) := by decide +kernel
theorem d_M_writeLetter_87 : decode (xC k_M_writeLetter) 87 = .ok (.iaload, 1) := by decide +kernel
theorem d_M_writeLetter_88 : decode (xC k_M_writeLetter) 88 = .ok (.if_icmp .ge 30, 3) := by decide +kernel
theorem d_M_writeLetter_91 : decode (xC k_M_writeLetter) 91 = .ok (.aload_n 0, 1) := by decide +kernel
theorem d_M_writeLetter_92 : decode (xC k_M_writeLetter) 92 = .ok (.bipush 33, 2) := by decide +kernel
theorem d_M_writeLetter_94 : decode (xC k_M_writeLetter) 94 = .ok (.invokevirtual 152, 3) := by decide +kernel
theorem d_M_writeLetter_97 : decode (xC k_M_writeLetter) 97 = .ok (.aload_n 0, 1) := by decide +kernel
theorem d_M_writeLetter_98 : decode (xC k_M_writeLetter) 98 = .ok (.aload_n 0, 1) := by decide +kernel
theorem d_M_writeLetter_99 : decode (xC k_M_writeLetter) 99 = .ok (.getfield 89, 3) := by decide +kernel
theorem d_M_writeLetter_102 : decode (xC k_M_writeLetter) 102 = .ok (.bipush 100, 2) := by decide +kernel
theorem d_M_writeLetter_104 : decode (xC k_M_writeLetter) 104 = .ok (.iload_n 1, 1) := by decide +kernel
theorem d_M_writeLetter_105 : decode (xC k_M_writeLetter) 105 = .ok (.imul, 1) := by decide +kernel
theorem d_M_writeLetter_106 : decode (xC k_M_writeLetter) 106 = .ok (.iload_n 2, 1) := by decide +kernel
theorem d_M_writeLetter_107 : decode (xC k_M_writeLetter) 107 = .ok (.iadd, 1) := by decide +kernel
theorem d_M_writeLetter_108 : decode (xC k_M_writeLetter) 108 = .ok (.iaload, 1) := by decide +kernel
theorem d_M_writeLetter_109 : decode (xC k_M_writeLetter) 109 = .ok (.invokevirtual 165, 3) := by decide +kernel
theorem d_M_writeLetter_112 : decode (xC k_M_writeLetter) 112 = .ok (.iinc 2 1, 3) := by decide +kernel
theorem d_M_writeLetter_115 : decode (xC k_M_writeLetter) 115 = .ok (.goto (-34), 3) := by decide +kernel
theorem d_M_writeLetter_118 : decode (xC k_M_writeLetter) 118 = .ok (.return_, 1) := by decide +kernel
theorem d_M_letter_0 : decode (xC k_M_letter) 0 = .ok (.aload_n 0, 1) := by decide +kernel
theorem d_M_letter_1 : decode (xC k_M_letter) 1 = .ok (.iload_n 1, 1) := by decide +kernel
theorem d_M_letter_2 : decode (xC k_M_letter) 2 = .ok (.invokevirtual 184, 3) := by decide +kernel
theorem d_M_letter_5 : decode (xC k_M_letter) 5 = .ok (.ifCond .eq 12, 3) := by decide +kernel
theorem d_M_letter_8 : decode (xC k_M_letter) 8 = .ok (.iload_n 2, 1) := by decide +kernel
theorem d_M_letter_9 : decode (xC k_M_letter) 9 = .ok (.iconst (-1), 1) := by decide +kernel
theorem d_M_letter_10 : decode (xC k_M_letter) 10 = .ok (.if_icmp .lt 7, 3) := by decide +kernel
theorem d_M_letter_13 : decode (xC k_M_letter) 13 = .ok (.iconst 1, 1) := by decide +kernel
theorem d_M_letter_14 : decode (xC k_M_letter) 14 = .ok (.goto 4, 3) := by decide +kernel
theorem d_M_letter_17 : decode (xC k_M_letter) 17 = .ok (.iconst 0, 1) := by decide +kernel
theorem d_M_letter_18 : decode (xC k_M_letter) 18 = .ok (.istore_n 3, 1) := by decide +kernel
theorem d_M_letter_19 : decode (xC k_M_letter) 19 = .ok (.iload_n 3, 1) := by decide +kernel
theorem d_M_letter_20 : decode (xC k_M_letter) 20 = .ok (.ifCond .eq 8, 3) := by decide +kernel
theorem d_M_letter_23 : decode (xC k_M_letter) 23 = .ok (.aload_n 0, 1) := by decide +kernel
theorem d_M_letter_24 : decode (xC k_M_letter) 24 = .ok (.iload_n 1, 1) := by decide +kernel
theorem d_M_letter_25 : decode (xC k_M_letter) 25 = .ok (.invokevirtual 209, 3) := by decide +kernel
theorem d_M_letter_28 : decode (xC k_M_letter) 28 = .ok (.aload_n 0, 1) := by decide +kernel
theorem d_M_letter_29 : decode (xC k_M_letter) 29 = .ok (.iload_n 3, 1) := by decide +kernel
theorem d_M_letter_30 : decode (xC k_M_letter) 30 = .ok (.ifCond .eq 15, 3) := by decide +kernel
theorem d_M_letter_33 : decode (xC k_M_letter) 33 = .ok (.iload_n 2, 1) := by decide +kernel
theorem d_M_letter_34 : decode (xC k_M_letter) 34 = .ok (.aload_n 0, 1) := by decide +kernel
theorem d_M_letter_35 : decode (xC k_M_letter) 35 = .ok (.getfield 149, 3) := by decide +kernel
theorem d_M_letter_38 : decode (xC k_M_letter) 38 = .ok (.if_icmp .ge 7, 3) := by decide +kernel
theorem d_M_letter_41 : decode (xC k_M_letter) 41 = .ok (.iconst 1, 1) := by decide +kernel
theorem d_M_letter_42 : decode (xC k_M_letter) 42 = .ok (.goto 4, 3) := by decide +kernel
theorem d_M_letter_45 : decode (xC k_M_letter) 45 = .ok (.iconst 0, 1) := by decide +kernel
theorem d_M_letter_46 : decode (xC k_M_letter) 46 = .ok (.iconst 1, 1) := by decide +kernel
theorem d_M_letter_47 : decode (xC k_M_letter) 47 = .ok (.iconst 1, 1) := by decide +kernel
theorem d_M_letter_48 : decode (xC k_M_letter) 48 = .ok (.invokevirtual 116, 3) := by decide +kernel
theorem d_M_letter_51 : decode (xC k_M_letter) 51 = .ok (.ifCond .ne 5, 3) := by decide +kernel
theorem d_M_letter_54 : decode (xC k_M_letter) 54 = .ok (.iconst 0, 1) := by decide +kernel
theorem d_M_letter_55 : decode (xC k_M_letter) 55 = .ok (.ireturn, 1) := by decide +kernel
theorem d_M_letter_56 : decode (xC k_M_letter) 56 = .ok (.iload_n 2, 1) := by decide +kernel
theorem d_M_letter_57 : decode (xC k_M_letter) 57 = .ok (.iconst (-1), 1) := by decide +kernel
theorem d_M_letter_58 : decode (xC k_M_letter) 58 = .ok (.if_icmp .ne 10, 3) := by decide +kernel
theorem d_M_letter_61 : decode (xC k_M_letter) 61 = .ok (.aload_n 0, 1) := by decide +kernel
theorem d_M_letter_62 : decode (xC k_M_letter) 62 = .ok (.getfield 149, 3) := by decide +kernel
theorem d_M_letter_65 : decode (xC k_M_letter) 65 = .ok (.goto 9, 3) := by decide +kernel
theorem d_M_letter_68 : decode (xC k_M_letter) 68 = .ok (.aload_n 0, 1) := by decide +kernel
theorem d_M_letter_69 : decode (xC k_M_letter) 69 = .ok (.getfield 46, 3) := by decide +kernel
theorem d_M_letter_72 : decode (xC k_M_letter) 72 = .ok (.iload_n 2, 1) := by decide +kernel
theorem d_M_letter_73 : decode (xC k_M_letter) 73 = .ok (.iaload, 1) := by decide +kernel
theorem d_M_letter_74 : decode (xC k_M_letter) 74 = .ok (.ireturn, 1) := by decide +kernel
theorem d_M_count_0 : decode (xC k_M_count) 0 = .ok (.aload_n 0, 1) := by decide +kernel
theorem d_M_count_1 : decode (xC k_M_count) 1 = .ok (.iload_n 1, 1) := by decide +kernel
theorem d_M_count_2 : decode (xC k_M_count) 2 = .ok (.iconst 0, 1) := by decide +kernel
theorem d_M_count_3 : decode (xC k_M_count) 3 = .ok (.iconst 4, 1) := by decide +kernel
theorem d_M_count_4 : decode (xC k_M_count) 4 = .ok (.invokestatic 112, 3) := by decide +kernel
theorem d_M_count_7 : decode (xC k_M_count) 7 = .ok (.iconst 1, 1) := by decide +kernel
theorem d_M_count_8 : decode (xC k_M_count) 8 = .ok (.iconst 1, 1) := by decide +kernel
theorem d_M_count_9 : decode (xC k_M_count) 9 = .ok (.invokevirtual 116, 3) := by decide +kernel
theorem d_M_count_12 : decode (xC k_M_count) 12 = .ok (.ifCond .ne 5, 3) := by decide +kernel
theorem d_M_count_15 : decode (xC k_M_count) 15 = .ok (.iconst 0, 1) := by decide +kernel
theorem d_M_count_16 : decode (xC k_M_count) 16 = .ok (.ireturn, 1) := by decide +kernel
theorem d_M_count_17 : decode (xC k_M_count) 17 = .ok (.iconst 0, 1) := by decide +kernel
theorem d_M_count_18 : decode (xC k_M_count) 18 = .ok (.istore_n 2, 1) := by decide +kernel
theorem d_M_count_19 : decode (xC k_M_count) 19 = .ok (.iconst 0, 1) := by decide +kernel
theorem d_M_count_20 : decode (xC k_M_count) 20 = .ok (.istore_n 3, 1) := by decide +kernel
theorem d_M_count_21 : decode (xC k_M_count) 21 = .ok (.iload_n 3, 1) := by decide +kernel
theorem d_M_count_22 : decode (xC k_M_count) 22 = .ok (.bipush 8, 2) := by decide +kernel
theorem d_M_count_24 : decode (xC k_M_count) 24 = .ok (.if_icmp .ge 18, 3) := by decide +kernel
theorem d_M_count_27 : decode (xC k_M_count) 27 = .ok (.iload_n 2, 1) := by decide +kernel
theorem d_M_count_28 : decode (xC k_M_count) 28 = .ok (.aload_n 0, 1) := by decide +kernel
theorem d_M_count_29 : decode (xC k_M_count) 29 = .ok (.getfield 49, 3) := by decide +kernel
theorem d_M_count_32 : decode (xC k_M_count) 32 = .ok (.iload_n 3, 1) := by decide +kernel
theorem d_M_count_33 : decode (xC k_M_count) 33 = .ok (.iaload, 1) := by decide +kernel
theorem d_M_count_34 : decode (xC k_M_count) 34 = .ok (.iadd, 1) := by decide +kernel
theorem d_M_count_35 : decode (xC k_M_count) 35 = .ok (.istore_n 2, 1) := by decide +kernel
theorem d_M_count_36 : decode (xC k_M_count) 36 = .ok (.iinc 3 1, 3) := by decide +kernel
theorem d_M_count_39 : decode (xC k_M_count) 39 = .ok (.goto (-18), 3) := by decide +kernel
theorem d_M_count_42 : decode (xC k_M_count) 42 = .ok (.iload_n 1, 1) := by decide +kernel
theorem d_M_count_43 : decode (xC k_M_count) 43 = .ok (.ifCond .ne 10, 3) := by decide +kernel
theorem d_M_count_46 : decode (xC k_M_count) 46 = .ok (.aload_n 0, 1) := by decide +kernel
theorem d_M_count_47 : decode (xC k_M_count) 47 = .ok (.getfield 109, 3) := by decide +kernel
theorem d_M_count_50 : decode (xC k_M_count) 50 = .ok (.goto 40, 3) := by decide +kernel
theorem d_M_count_53 : decode (xC k_M_count) 53 = .ok (.iload_n 1, 1) := by decide +kernel
theorem d_M_count_54 : decode (xC k_M_count) 54 = .ok (.iconst 1, 1) := by decide +kernel
theorem d_M_count_55 : decode (xC k_M_count) 55 = .ok (.if_icmp .ne 10, 3) := by decide +kernel
theorem d_M_count_58 : decode (xC k_M_count) 58 = .ok (.aload_n 0, 1) := by decide +kernel
theorem d_M_count_59 : decode (xC k_M_count) 59 = .ok (.getfield 135, 3) := by decide +kernel
theorem d_M_count_62 : decode (xC k_M_count) 62 = .ok (.goto 28, 3) := by decide +kernel
theorem d_M_count_65 : decode (xC k_M_count) 65 = .ok (.iload_n 1, 1) := by decide +kernel
theorem d_M_count_66 : decode (xC k_M_count) 66 = .ok (.iconst 2, 1) := by decide +kernel
theorem d_M_count_67 : decode (xC k_M_count) 67 = .ok (.if_icmp .ne 10, 3) := by decide +kernel
theorem d_M_count_70 : decode (xC k_M_count) 70 = .ok (.aload_n 0, 1) := by decide +kernel
theorem d_M_count_71 : decode (xC k_M_count) 71 = .ok (.getfield 105, 3) := by decide +kernel
theorem d_M_count_74 : decode (xC k_M_count) 74 = .ok (.goto 16, 3) := by decide +kernel
theorem d_M_count_77 : decode (xC k_M_count) 77 = .ok (.iload_n 1, 1) := by decide +kernel
theorem d_M_count_78 : decode (xC k_M_count) 78 = .ok (.iconst 3, 1) := by decide +kernel
theorem d_M_count_79 : decode (xC k_M_count) 79 = .ok (.if_icmp .ne 10, 3) := by decide +kernel
theorem d_M_count_82 : decode (xC k_M_count) 82 = .ok (.aload_n 0, 1) := by decide +kernel
theorem d_M_count_83 : decode (xC k_M_count) 83 = .ok (.getfield 196, 3) := by decide +kernel
theorem d_M_count_86 : decode (xC k_M_count) 86 = .ok (.goto 4, 3) := by decide +kernel
theorem d_M_count_89 : decode (xC k_M_count) 89 = .ok (.iload_n 2, 1) := by decide +kernel
theorem d_M_count_90 : decode (xC k_M_count) 90 = .ok (.ireturn, 1) := by decide +kernel
end
section
theorem f_0_10 : xfl 0 10 = some (0, 0) := by decide +kernel
theorem f_0_16 : xfl 0 16 = some (0, 1) := by decide +kernel
theorem f_0_21 : xfl 0 21 = some (0, 2) := by decide +kernel
theorem f_0_27 : xfl 0 27 = some (0, 3) := by decide +kernel
theorem f_0_33 : xfl 0 33 = some (0, 4) := by decide +kernel
theorem f_0_39 : xfl 0 39 = some (0, 5) := by decide +kernel
theorem f_0_43 : xfl 0 43 = some (0, 6) := by decide +kernel
theorem f_0_47 : xfl 0 47 = some (0, 7) := by decide +kernel
theorem f_0_50 : xfl 0 50 = some (0, 8) := by decide +kernel
theorem f_0_54 : xfl 0 54 = some (6, 1) := by decide +kernel
theorem f_0_87 : xfl 0 87 = some (5, 1) := by decide +kernel
theorem f_0_94 : xfl 0 94 = some (1, 2) := by decide +kernel
theorem f_0_95 : xfl 0 95 = some (1, 1) := by decide +kernel
theorem f_0_106 : xfl 0 106 = some (2, 2) := by decide +kernel
theorem f_0_125 : xfl 0 125 = some (2, 3) := by decide +kernel
theorem f_0_128 : xfl 0 128 = some (2, 4) := by decide +kernel
theorem f_0_153 : xfl 0 153 = some (3, 5) := by decide +kernel
theorem f_0_160 : xfl 0 160 = some (3, 4) := by decide +kernel
theorem f_0_167 : xfl 0 167 = some (3, 0) := by decide +kernel
theorem f_0_190 : xfl 0 190 = some (3, 6) := by decide +kernel
theorem f_0_195 : xfl 0 195 = some (3, 1) := by decide +kernel
theorem f_0_199 : xfl 0 199 = some (3, 2) := by decide +kernel
theorem f_0_207 : xfl 0 207 = some (7, 2) := by decide +kernel
theorem f_0_210 : xfl 0 210 = some (7, 0) := by decide +kernel
theorem f_0_213 : xfl 0 213 = some (7, 1) := by decide +kernel
theorem f_0_261 : xfl 0 261 = some (4, 0) := by decide +kernel
theorem f_0_266 : xfl 0 266 = some (4, 3) := by decide +kernel
theorem f_0_280 : xfl 0 280 = some (4, 4) := by decide +kernel
theorem f_0_283 : xfl 0 283 = some (4, 1) := by decide +kernel
theorem f_1_11 : xfl 1 11 = some (1, 0) := by decide +kernel
theorem f_1_20 : xfl 1 20 = some (1, 1) := by decide +kernel
theorem f_1_24 : xfl 1 24 = some (1, 2) := by decide +kernel
theorem f_1_36 : xfl 1 36 = some (4, 0) := by decide +kernel
theorem f_1_39 : xfl 1 39 = some (4, 3) := by decide +kernel
theorem f_1_46 : xfl 1 46 = some (4, 1) := by decide +kernel
theorem f_1_49 : xfl 1 49 = some (4, 2) := by decide +kernel
theorem f_1_55 : xfl 1 55 = some (4, 4) := by decide +kernel
theorem f_2_9 : xfl 2 9 = some (2, 0) := by decide +kernel
theorem f_2_15 : xfl 2 15 = some (2, 1) := by decide +kernel
theorem f_2_18 : xfl 2 18 = some (2, 2) := by decide +kernel
theorem f_2_22 : xfl 2 22 = some (2, 3) := by decide +kernel
theorem f_2_25 : xfl 2 25 = some (2, 4) := by decide +kernel
theorem f_3_9 : xfl 3 9 = some (3, 1) := by decide +kernel
theorem f_3_15 : xfl 3 15 = some (3, 2) := by decide +kernel
theorem f_3_18 : xfl 3 18 = some (3, 3) := by decide +kernel
theorem f_3_22 : xfl 3 22 = some (3, 5) := by decide +kernel
theorem f_3_26 : xfl 3 26 = some (3, 6) := by decide +kernel
theorem f_3_30 : xfl 3 30 = some (3, 0) := by decide +kernel
theorem f_3_34 : xfl 3 34 = some (3, 4) := by decide +kernel
theorem f_3_44 : xfl 3 44 = some (1, 2) := by decide +kernel
theorem f_4_9 : xfl 4 9 = some (4, 4) := by decide +kernel
theorem f_4_15 : xfl 4 15 = some (4, 0) := by decide +kernel
theorem f_4_19 : xfl 4 19 = some (4, 1) := by decide +kernel
theorem f_4_22 : xfl 4 22 = some (4, 2) := by decide +kernel
theorem f_4_25 : xfl 4 25 = some (4, 3) := by decide +kernel
theorem f_5_9 : xfl 5 9 = some (5, 1) := by decide +kernel
theorem f_5_15 : xfl 5 15 = some (5, 0) := by decide +kernel
theorem f_5_30 : xfl 5 30 = some (6, 1) := by decide +kernel
theorem f_5_42 : xfl 5 42 = some (4, 4) := by decide +kernel
theorem f_6_9 : xfl 6 9 = some (6, 0) := by decide +kernel
theorem f_6_15 : xfl 6 15 = some (6, 1) := by decide +kernel
theorem f_7_7 : xfl 7 7 = some (7, 0) := by decide +kernel
theorem f_7_13 : xfl 7 13 = some (7, 1) := by decide +kernel
theorem f_7_16 : xfl 7 16 = some (7, 2) := by decide +kernel
theorem f_8_7 : xfl 8 7 = some (8, 2) := by decide +kernel
theorem f_8_13 : xfl 8 13 = some (8, 4) := by decide +kernel
theorem f_8_16 : xfl 8 16 = some (8, 5) := by decide +kernel
theorem f_8_19 : xfl 8 19 = some (8, 6) := by decide +kernel
theorem f_8_22 : xfl 8 22 = some (8, 7) := by decide +kernel
theorem f_8_25 : xfl 8 25 = some (8, 8) := by decide +kernel
theorem f_8_28 : xfl 8 28 = some (8, 9) := by decide +kernel
theorem f_8_31 : xfl 8 31 = some (8, 10) := by decide +kernel
theorem f_8_34 : xfl 8 34 = some (8, 11) := by decide +kernel
theorem f_8_37 : xfl 8 37 = some (8, 12) := by decide +kernel
theorem f_8_40 : xfl 8 40 = some (8, 13) := by decide +kernel
theorem f_8_43 : xfl 8 43 = some (8, 14) := by decide +kernel
theorem f_8_46 : xfl 8 46 = some (8, 16) := by decide +kernel
theorem f_8_49 : xfl 8 49 = some (8, 18) := by decide +kernel
theorem f_8_52 : xfl 8 52 = some (8, 19) := by decide +kernel
theorem f_8_55 : xfl 8 55 = some (8, 20) := by decide +kernel
theorem f_8_58 : xfl 8 58 = some (8, 21) := by decide +kernel
theorem f_8_61 : xfl 8 61 = some (8, 22) := by decide +kernel
theorem f_8_64 : xfl 8 64 = some (8, 24) := by decide +kernel
theorem f_8_67 : xfl 8 67 = some (8, 25) := by decide +kernel
theorem f_8_70 : xfl 8 70 = some (8, 26) := by decide +kernel
theorem f_8_73 : xfl 8 73 = some (8, 27) := by decide +kernel
theorem f_8_76 : xfl 8 76 = some (8, 28) := by decide +kernel
theorem f_8_80 : xfl 8 80 = some (8, 29) := by decide +kernel
theorem f_8_83 : xfl 8 83 = some (8, 30) := by decide +kernel
theorem f_8_86 : xfl 8 86 = some (8, 31) := by decide +kernel
theorem f_8_89 : xfl 8 89 = some (8, 32) := by decide +kernel
theorem f_8_92 : xfl 8 92 = some (8, 34) := by decide +kernel
theorem f_8_95 : xfl 8 95 = some (8, 35) := by decide +kernel
theorem f_8_98 : xfl 8 98 = some (8, 36) := by decide +kernel
theorem f_8_101 : xfl 8 101 = some (8, 0) := by decide +kernel
theorem f_8_105 : xfl 8 105 = some (8, 23) := by decide +kernel
theorem f_8_109 : xfl 8 109 = some (8, 1) := by decide +kernel
theorem f_8_135 : xfl 8 135 = some (8, 3) := by decide +kernel
theorem f_8_149 : xfl 8 149 = some (8, 17) := by decide +kernel
theorem f_8_158 : xfl 8 158 = some (8, 15) := by decide +kernel
theorem f_8_196 : xfl 8 196 = some (8, 33) := by decide +kernel
theorem n_0_7 : xnw 0 7 = some 6 := by decide +kernel
theorem n_0_25 : xnw 0 25 = some 2 := by decide +kernel
theorem n_0_31 : xnw 0 31 = some 3 := by decide +kernel
theorem n_0_37 : xnw 0 37 = some 7 := by decide +kernel
theorem n_0_75 : xnw 0 75 = some 5 := by decide +kernel
theorem n_1_17 : xnw 1 17 = some 6 := by decide +kernel
theorem n_5_19 : xnw 5 19 = some 1 := by decide +kernel
theorem n_5_43 : xnw 5 43 = some 4 := by decide +kernel
theorem a_0_19 : xac 0 19 = some 2 := by decide +kernel
theorem a_0_25 : xac 0 25 = some 3 := by decide +kernel
theorem a_0_31 : xac 0 31 = some 4 := by decide +kernel
theorem a_0_37 : xac 0 37 = some 5 := by decide +kernel
theorem a_1_9 : xac 1 9 = some 6 := by decide +kernel
theorem l_0_117 : xldc 0 117 = some 999999 := by decide +kernel
theorem l_0_255 : xldc 0 255 = some 2400000 := by decide +kernel
theorem l_0_256 : xldc 0 256 = some 100000 := by decide +kernel
theorem l_8_108 : xldc 8 108 = some 100000 := by decide +kernel
theorem l_8_171 : xldc 8 171 = some 2400000 := by decide +kernel
theorem l_8_172 : xldc 8 172 = some 999999 := by decide +kernel
theorem q_0_1 : xca 0 1 = some (3, k_L_init) := rfl
theorem q_0_9 : xca 0 9 = some (4, k_W_init) := rfl
theorem q_0_53 : xca 0 53 = some (4, k_I_init) := rfl
theorem q_0_69 : xca 0 69 = some (1, k_W_add) := rfl
theorem q_0_77 : xca 0 77 = some (2, k_R_init) := rfl
theorem q_0_80 : xca 0 80 = some (1, k_R_readContract) := rfl
theorem q_0_84 : xca 0 84 = some (1, k_W_clear) := rfl
theorem q_0_90 : xca 0 90 = some (1, k_L_contractOf) := rfl
theorem q_0_98 : xca 0 98 = some (0, k_L_signOrSize) := rfl
theorem q_0_102 : xca 0 102 = some (1, k_L_inputOf) := rfl
theorem q_0_109 : xca 0 109 = some (0, k_L_isHour) := rfl
theorem q_0_113 : xca 0 113 = some (1, k_I_lastHour) := rfl
theorem q_0_120 : xca 0 120 = some (1, k_I_add) := rfl
theorem q_0_131 : xca 0 131 = some (0, k_L_refuseNoThing) := rfl
theorem q_0_136 : xca 0 136 = some (0, k_L_refuseNoDays) := rfl
theorem q_0_139 : xca 0 139 = some (2, k_P_init) := rfl
theorem q_0_142 : xca 0 142 = some (1, k_L_clashesWithLoan) := rfl
theorem q_0_146 : xca 0 146 = some (2, k_O_init) := rfl
theorem q_0_149 : xca 0 149 = some (1, k_L_loanOf) := rfl
theorem q_0_157 : xca 0 157 = some (0, k_L_refuseNoHour) := rfl
theorem q_0_164 : xca 0 164 = some (1, k_P_hasDay) := rfl
theorem q_0_171 : xca 0 171 = some (1, k_C_termAt) := rfl
theorem q_0_175 : xca 0 175 = some (1, k_L_stateOf) := rfl
theorem q_0_179 : xca 0 179 = some (1, k_O_forget) := rfl
theorem q_0_182 : xca 0 182 = some (1, k_O_tell) := rfl
theorem q_0_202 : xca 0 202 = some (0, k_L_isDay) := rfl
theorem q_0_218 : xca 0 218 = some (1, k_L_spanAt) := rfl
theorem q_0_222 : xca 0 222 = some (0, k_L_areClashing) := rfl
theorem q_0_226 : xca 0 226 = some (1, k_L_numberAt) := rfl
theorem q_0_230 : xca 0 230 = some (1, k_P_length) := rfl
theorem q_0_233 : xca 0 233 = some (1, k_O_price) := rfl
theorem q_0_236 : xca 0 236 = some (1, k_W_addNumber) := rfl
theorem q_0_239 : xca 0 239 = some (1, k_L_inputRows) := rfl
theorem q_0_252 : xca 0 252 = some (1, k_W_signAt) := rfl
theorem q_0_270 : xca 0 270 = some (0, k_L_turnedRound) := rfl
theorem q_0_273 : xca 0 273 = some (1, k_L_stateOfGroup) := rfl
theorem q_0_276 : xca 0 276 = some (1, k_L_stateOfName) := rfl
theorem q_0_286 : xca 0 286 = some (1, k_N_compared) := rfl
theorem q_0_289 : xca 0 289 = some (1, k_I_valueAt) := rfl
theorem q_1_3 : xca 1 3 = some (3, k_L_init) := rfl
theorem q_1_19 : xca 1 19 = some (4, k_W_init) := rfl
theorem q_1_28 : xca 1 28 = some (1, k_C_write) := rfl
theorem q_1_32 : xca 1 32 = some (1, k_W_add) := rfl
theorem q_1_43 : xca 1 43 = some (1, k_C_writeGroup) := rfl
theorem q_1_52 : xca 1 52 = some (1, k_W_addNumber) := rfl
theorem q_2_3 : xca 2 3 = some (3, k_L_init) := rfl
theorem q_3_3 : xca 3 3 = some (3, k_L_init) := rfl
theorem q_3_38 : xca 3 38 = some (1, k_P_length) := rfl
theorem q_4_3 : xca 4 3 = some (3, k_L_init) := rfl
theorem q_5_3 : xca 5 3 = some (3, k_L_init) := rfl
theorem q_5_21 : xca 5 21 = some (4, k_C_init) := rfl
theorem q_5_22 : xca 5 22 = some (1, k_R_readGroup) := rfl
theorem q_5_26 : xca 5 26 = some (1, k_C_add) := rfl
theorem q_5_35 : xca 5 35 = some (1, k_R_sign) := rfl
theorem q_5_39 : xca 5 39 = some (1, k_R_readItem) := rfl
theorem q_5_48 : xca 5 48 = some (2, k_N_init) := rfl
theorem q_5_51 : xca 5 51 = some (1, k_R_readBit) := rfl
theorem q_5_54 : xca 5 54 = some (1, k_R_readName) := rfl
theorem q_5_58 : xca 5 58 = some (0, k_R_isName) := rfl
theorem q_5_62 : xca 5 62 = some (0, k_R_isDigit) := rfl
theorem q_5_65 : xca 5 65 = some (1, k_R_readNumber) := rfl
theorem q_5_68 : xca 5 68 = some (2, k_N_init2) := rfl
theorem q_5_71 : xca 5 71 = some (1, k_W_signAt) := rfl
theorem q_6_3 : xca 6 3 = some (3, k_L_init) := rfl
theorem q_7_1 : xca 7 1 = some (3, k_L_init) := rfl
theorem q_8_1 : xca 8 1 = some (3, k_L_init) := rfl
theorem q_8_112 : xca 8 112 = some (0, k_M_within) := rfl
theorem q_8_116 : xca 8 116 = some (1, k_M_goes) := rfl
theorem q_8_120 : xca 8 120 = some (0, k_M_isName) := rfl
theorem q_8_124 : xca 8 124 = some (0, k_M_isDigit) := rfl
theorem q_8_127 : xca 8 127 = some (1, k_M_node) := rfl
theorem q_8_131 : xca 8 131 = some (1, k_M_begin) := rfl
theorem q_8_138 : xca 8 138 = some (1, k_M_fault) := rfl
theorem q_8_142 : xca 8 142 = some (1, k_M_build) := rfl
theorem q_8_146 : xca 8 146 = some (1, k_M_isContract) := rfl
theorem q_8_152 : xca 8 152 = some (1, k_M_put) := rfl
theorem q_8_155 : xca 8 155 = some (1, k_M_children) := rfl
theorem q_8_161 : xca 8 161 = some (1, k_M_unfold) := rfl
theorem q_8_165 : xca 8 165 = some (1, k_M_putNumber) := rfl
theorem q_8_168 : xca 8 168 = some (1, k_M_write) := rfl
theorem q_8_173 : xca 8 173 = some (0, k_M_isThing) := rfl
theorem q_8_176 : xca 8 176 = some (0, k_M_areDays) := rfl
theorem q_8_180 : xca 8 180 = some (1, k_M_isOut) := rfl
theorem q_8_184 : xca 8 184 = some (1, k_M_isLoan) := rfl
theorem q_8_187 : xca 8 187 = some (1, k_M_valueAt) := rfl
theorem q_8_190 : xca 8 190 = some (1, k_M_leaf) := rfl
theorem q_8_193 : xca 8 193 = some (1, k_M_work) := rfl
theorem q_8_199 : xca 8 199 = some (1, k_M_isPair) := rfl
theorem q_8_202 : xca 8 202 = some (1, k_M_allDays) := rfl
theorem q_8_206 : xca 8 206 = some (1, k_M_allFee) := rfl
theorem q_8_209 : xca 8 209 = some (1, k_M_writeLetter) := rfl
end
section
/-! The reference's picture: one object m, its arrays at ad k, ints iv k, contents av k; B elsewhere. -/
def mty (k : Nat) : Nat := if k = 28 ∨ k = 29 then 1 else 0
def mlen (k : Nat) : Nat := match k with
  | 2 => 80 | 4 => 8 | 5 => 48 | 6 => 8 | 7 => 1280 | 8 => 1280 | 9 => 1280 | 10 => 1280 | 11 => 1280 | 12 => 1280 | 13 => 160 | 14 => 400 | 16 => 400 | 18 => 8 | 19 => 480 | 20 => 480 | 21 => 8 | 22 => 8 | 24 => 20 | 25 => 20 | 26 => 20 | 27 => 20 | 28 => 20 | 29 => 120 | 30 => 20 | 31 => 2000 | 32 => 2000 | 34 => 30 | 35 => 30 | 36 => 30
  | _ => 0
/-- a field that holds an array -/
def mar (k : Nat) : Bool := decide (0 < mlen k)
def mF (iv : Nat → Int32) (ad : Nat → Nat) : List Value := [.int (iv 0), .int (iv 1), .ref (ad 2), .int (iv 3), .ref (ad 4), .ref (ad 5), .ref (ad 6), .ref (ad 7), .ref (ad 8), .ref (ad 9), .ref (ad 10), .ref (ad 11), .ref (ad 12), .ref (ad 13), .ref (ad 14), .int (iv 15), .ref (ad 16), .int (iv 17), .ref (ad 18), .ref (ad 19), .ref (ad 20), .ref (ad 21), .ref (ad 22), .int (iv 23), .ref (ad 24), .ref (ad 25), .ref (ad 26), .ref (ad 27), .ref (ad 28), .ref (ad 29), .ref (ad 30), .ref (ad 31), .ref (ad 32), .int (iv 33), .ref (ad 34), .ref (ad 35), .ref (ad 36)]
def mM (B : xMm) (ad : Nat → Nat) (ix : Nat → Option Nat) (iv : Nat → Int32) (av : Nat → Nat → Int32) : xMm := fun q => match ix q with
  | some k => if k = 0 then some (.inr (8, mF iv ad)) else some (.inl (mty k, mlen k, .inl (av k)))
  | none => B q
/-- the places are told apart by ix; the object's own place is ad 0 -/
def mOk (ad : Nat → Nat) (ix : Nat → Option Nat) : Prop := ix (ad 0) = some 0 ∧ (∀ k, mar k = true → ix (ad k) = some k) ∧ ∀ q k, ix q = some k → q = ad k ∧ (k = 0 ∨ mar k = true)
section MM
variable {B : xMm} {ad : Nat → Nat} {ix : Nat → Option Nat} {iv : Nat → Int32} {av : Nat → Nat → Int32}
theorem mM_obj (ok : mOk ad ix) : mM B ad ix iv av (ad 0) = some (.inr (8, mF iv ad)) := by
  unfold mM
  rw [ok.1]
  rfl
theorem mM_arr (ok : mOk ad ix) (k : Nat) (hk : mar k = true) : mM B ad ix iv av (ad k) = some (.inl (mty k, mlen k, .inl (av k))) := by
  unfold mM
  rw [ok.2.1 k hk]
  have h0 : k ≠ 0 := fun e => by subst e; exact absurd hk (by decide)
  exact if_neg h0
theorem mM_put (ok : mOk ad ix) {j : Nat} {x : Int32} (hj : (mF iv ad).set j (.int x) = mF (upd iv j x) ad) : xset (mM B ad ix iv av) (ad 0) (.inr (8, (mF iv ad).set j (.int x))) = mM B ad ix (upd iv j x) av := by
  funext q
  by_cases hq : q = ad 0
  · subst hq
    rw [xset_self, mM_obj ok, hj]
  · rw [xset_ne _ _ hq]
    unfold mM
    cases hi : ix q with
    | none => rfl
    | some k =>
      have h0 : k ≠ 0 := fun e => hq (by rw [(ok.2.2 q k hi).1, e])
      simp only [if_neg h0]
theorem mM_ast (ok : mOk ad ix) (k : Nat) (hk : mar k = true) {f : Nat → Int32} : xset (mM B ad ix iv av) (ad k) (.inl (mty k, mlen k, .inl f)) = mM B ad ix iv (va_up av k f) := by
  have h0 : k ≠ 0 := fun e => by subst e; exact absurd hk (by decide)
  funext q
  by_cases hq : q = ad k
  · subst hq
    rw [xset_self]
    unfold mM
    rw [ok.2.1 k hk]
    simp only [if_neg h0, va_up_self]
  · rw [xset_ne _ _ hq]
    unfold mM
    cases hi : ix q with
    | none => rfl
    | some j =>
      by_cases hj : j = 0
      · simp only [if_pos hj]
      · have hjk : j ≠ k := fun e => hq (by rw [(ok.2.2 q j hi).1, e])
        simp only [if_neg hj, va_up_ne _ _ hjk]
theorem mM_out (ok : mOk ad ix) {q : Nat} (h : ix q = none) : mM B ad ix iv av q = B q := by
  unfold mM
  rw [h]
end MM
theorem ev_top {d : Nat} {y : xMt} {pc : Nat} {lo : xL} {st : List Value} {σ : xS} {r : xO × xS} {v : Int32} (h : ∀ x : Int32, x = v → xEv d y pc lo (.int x :: st) σ r) : xEv d y pc lo (.int v :: st) σ r := h v rfl
theorem xEv.to {d : Nat} {y : xMt} {pc : Nat} {lo : xL} {st : List Value} {σ : xS} {r r1 : xO × xS} (h : xEv d y pc lo st σ r1) (e : r1 = r) : xEv d y pc lo st σ r := e ▸ h
theorem xCl.to {d : Nat} {y : xMt} {as : List Value} {σ : xS} {r r1 : xO × xS} (h : xCl d y as σ r1) (e : r1 = r) : xCl d y as σ r := e ▸ h
/-- a truth as an int -/
def xbi (p : Prop) [Decidable p] : Int32 := if p then 1 else 0
theorem xbi_t {p : Prop} {i : Decidable p} (h : p) : @xbi p i = 1 := if_pos h
theorem xbi_f {p : Prop} {i : Decidable p} (h : ¬ p) : @xbi p i = 0 := if_neg h
theorem xbi_01 (p : Prop) [Decidable p] : xbi p = 0 ∨ xbi p = 1 := by
  by_cases h : p
  · exact Or.inr (xbi_t h)
  · exact Or.inl (xbi_f h)
theorem xbi_z (p : Prop) [Decidable p] : xbi p = 0 ↔ ¬ p := by
  by_cases h : p
  · rw [xbi_t h]; exact ⟨fun e => absurd e (by decide), fun e => absurd h e⟩
  · rw [xbi_f h]; exact ⟨fun _ => h, fun _ => rfl⟩
end
section
/-! the reference's small methods -/
theorem xfit_i {c k : Nat} {x : Int32} (h : xft c k = .int) : xfitb c k (.int x) = true := by
  unfold xfitb
  rw [h]
  simp [narrow, fits]
theorem ev_s0r {d : Nat} {y : xMt} {pc : Nat} {lo : xL} {st : List Value} {σ σ1 : xS} {r : xO × xS} {k : Nat} {z : xMt} {v : Value} (hd : decode (xC y) pc = .ok (.invokestatic k, 3)) (hq : xca (xo y) k = some (0, z)) (hn : xnp z = 0) (hc : (([] : List Value).all fun v => v.category == 1) = true ∧ 0 ≤ xm z ∧ xwt st ≤ 8) (h1 : xCl d z [] σ (.inl (some v), σ1)) (h2 : xEv (d + 1) y (pc + 3) lo (v :: st) σ1 r) : xEv (d + 1) y pc lo (st) σ r := ev_s0 hd hq hn hc h1 h2
theorem ev_s0o {d : Nat} {y : xMt} {pc : Nat} {lo : xL} {st : List Value} {σ σ1 : xS} {r : xO × xS} {k : Nat} {z : xMt} (hd : decode (xC y) pc = .ok (.invokestatic k, 3)) (hq : xca (xo y) k = some (0, z)) (hn : xnp z = 0) (hc : (([] : List Value).all fun v => v.category == 1) = true ∧ 0 ≤ xm z ∧ xwt st ≤ 8) (h1 : xCl d z [] σ (.inl none, σ1)) (h2 : xEv (d + 1) y (pc + 3) lo st σ1 r) : xEv (d + 1) y pc lo (st) σ r := ev_s0 hd hq hn hc h1 h2
theorem ev_s0t {d : Nat} {y : xMt} {pc : Nat} {lo : xL} {st : List Value} {σ σ1 : xS} {k : Nat} {z : xMt} {E : String} (hd : decode (xC y) pc = .ok (.invokestatic k, 3)) (hq : xca (xo y) k = some (0, z)) (hn : xnp z = 0) (hc : (([] : List Value).all fun v => v.category == 1) = true ∧ 0 ≤ xm z ∧ xwt st ≤ 8) (h1 : xCl d z [] σ (.inr E, σ1)) : xEv (d + 1) y pc lo (st) σ (.inr E, σ1) := ev_s0 hd hq hn hc h1 rfl
theorem ev_v0r {d : Nat} {y : xMt} {pc : Nat} {lo : xL} {st : List Value} {σ σ1 : xS} {r : xO × xS} {k b : Nat} {z : xMt} {fs : List Value} {v : Value} (hd : decode (xC y) pc = .ok (.invokevirtual k, 3)) (hq : xca (xo y) k = some (1, z)) (hn : xnp z = 0) (hb : σ.1 b = some (.inr (xo z, fs))) (hc : (((.ref b : Value) :: []).all fun v => v.category == 1) = true ∧ 1 ≤ xm z ∧ xwt st ≤ 8) (h1 : xCl d z (.ref b :: []) σ (.inl (some v), σ1)) (h2 : xEv (d + 1) y (pc + 3) lo (v :: st) σ1 r) : xEv (d + 1) y pc lo (.ref b :: st) σ r := ev_v0 hd hq hn hb hc h1 h2
theorem ev_v0o {d : Nat} {y : xMt} {pc : Nat} {lo : xL} {st : List Value} {σ σ1 : xS} {r : xO × xS} {k b : Nat} {z : xMt} {fs : List Value} (hd : decode (xC y) pc = .ok (.invokevirtual k, 3)) (hq : xca (xo y) k = some (1, z)) (hn : xnp z = 0) (hb : σ.1 b = some (.inr (xo z, fs))) (hc : (((.ref b : Value) :: []).all fun v => v.category == 1) = true ∧ 1 ≤ xm z ∧ xwt st ≤ 8) (h1 : xCl d z (.ref b :: []) σ (.inl none, σ1)) (h2 : xEv (d + 1) y (pc + 3) lo st σ1 r) : xEv (d + 1) y pc lo (.ref b :: st) σ r := ev_v0 hd hq hn hb hc h1 h2
theorem ev_v0t {d : Nat} {y : xMt} {pc : Nat} {lo : xL} {st : List Value} {σ σ1 : xS} {k b : Nat} {z : xMt} {fs : List Value} {E : String} (hd : decode (xC y) pc = .ok (.invokevirtual k, 3)) (hq : xca (xo y) k = some (1, z)) (hn : xnp z = 0) (hb : σ.1 b = some (.inr (xo z, fs))) (hc : (((.ref b : Value) :: []).all fun v => v.category == 1) = true ∧ 1 ≤ xm z ∧ xwt st ≤ 8) (h1 : xCl d z (.ref b :: []) σ (.inr E, σ1)) : xEv (d + 1) y pc lo (.ref b :: st) σ (.inr E, σ1) := ev_v0 hd hq hn hb hc h1 rfl
theorem ev_s1r {d : Nat} {y : xMt} {pc : Nat} {lo : xL} {st : List Value} {σ σ1 : xS} {r : xO × xS} {k : Nat} {z : xMt} {v1 : Value} {v : Value} (hd : decode (xC y) pc = .ok (.invokestatic k, 3)) (hq : xca (xo y) k = some (0, z)) (hn : xnp z = 1) (hc : (([v1] : List Value).all fun v => v.category == 1) = true ∧ 1 ≤ xm z ∧ xwt st ≤ 8) (h1 : xCl d z [v1] σ (.inl (some v), σ1)) (h2 : xEv (d + 1) y (pc + 3) lo (v :: st) σ1 r) : xEv (d + 1) y pc lo (v1 :: st) σ r := ev_s1 hd hq hn hc h1 h2
theorem ev_s1o {d : Nat} {y : xMt} {pc : Nat} {lo : xL} {st : List Value} {σ σ1 : xS} {r : xO × xS} {k : Nat} {z : xMt} {v1 : Value} (hd : decode (xC y) pc = .ok (.invokestatic k, 3)) (hq : xca (xo y) k = some (0, z)) (hn : xnp z = 1) (hc : (([v1] : List Value).all fun v => v.category == 1) = true ∧ 1 ≤ xm z ∧ xwt st ≤ 8) (h1 : xCl d z [v1] σ (.inl none, σ1)) (h2 : xEv (d + 1) y (pc + 3) lo st σ1 r) : xEv (d + 1) y pc lo (v1 :: st) σ r := ev_s1 hd hq hn hc h1 h2
theorem ev_s1t {d : Nat} {y : xMt} {pc : Nat} {lo : xL} {st : List Value} {σ σ1 : xS} {k : Nat} {z : xMt} {v1 : Value} {E : String} (hd : decode (xC y) pc = .ok (.invokestatic k, 3)) (hq : xca (xo y) k = some (0, z)) (hn : xnp z = 1) (hc : (([v1] : List Value).all fun v => v.category == 1) = true ∧ 1 ≤ xm z ∧ xwt st ≤ 8) (h1 : xCl d z [v1] σ (.inr E, σ1)) : xEv (d + 1) y pc lo (v1 :: st) σ (.inr E, σ1) := ev_s1 hd hq hn hc h1 rfl
theorem ev_v1r {d : Nat} {y : xMt} {pc : Nat} {lo : xL} {st : List Value} {σ σ1 : xS} {r : xO × xS} {k b : Nat} {z : xMt} {fs : List Value} {v1 : Value} {v : Value} (hd : decode (xC y) pc = .ok (.invokevirtual k, 3)) (hq : xca (xo y) k = some (1, z)) (hn : xnp z = 1) (hb : σ.1 b = some (.inr (xo z, fs))) (hc : (((.ref b : Value) :: [v1]).all fun v => v.category == 1) = true ∧ 2 ≤ xm z ∧ xwt st ≤ 8) (h1 : xCl d z (.ref b :: [v1]) σ (.inl (some v), σ1)) (h2 : xEv (d + 1) y (pc + 3) lo (v :: st) σ1 r) : xEv (d + 1) y pc lo (v1 :: .ref b :: st) σ r := ev_v1 hd hq hn hb hc h1 h2
theorem ev_v1o {d : Nat} {y : xMt} {pc : Nat} {lo : xL} {st : List Value} {σ σ1 : xS} {r : xO × xS} {k b : Nat} {z : xMt} {fs : List Value} {v1 : Value} (hd : decode (xC y) pc = .ok (.invokevirtual k, 3)) (hq : xca (xo y) k = some (1, z)) (hn : xnp z = 1) (hb : σ.1 b = some (.inr (xo z, fs))) (hc : (((.ref b : Value) :: [v1]).all fun v => v.category == 1) = true ∧ 2 ≤ xm z ∧ xwt st ≤ 8) (h1 : xCl d z (.ref b :: [v1]) σ (.inl none, σ1)) (h2 : xEv (d + 1) y (pc + 3) lo st σ1 r) : xEv (d + 1) y pc lo (v1 :: .ref b :: st) σ r := ev_v1 hd hq hn hb hc h1 h2
theorem ev_v1t {d : Nat} {y : xMt} {pc : Nat} {lo : xL} {st : List Value} {σ σ1 : xS} {k b : Nat} {z : xMt} {fs : List Value} {v1 : Value} {E : String} (hd : decode (xC y) pc = .ok (.invokevirtual k, 3)) (hq : xca (xo y) k = some (1, z)) (hn : xnp z = 1) (hb : σ.1 b = some (.inr (xo z, fs))) (hc : (((.ref b : Value) :: [v1]).all fun v => v.category == 1) = true ∧ 2 ≤ xm z ∧ xwt st ≤ 8) (h1 : xCl d z (.ref b :: [v1]) σ (.inr E, σ1)) : xEv (d + 1) y pc lo (v1 :: .ref b :: st) σ (.inr E, σ1) := ev_v1 hd hq hn hb hc h1 rfl
theorem ev_s2r {d : Nat} {y : xMt} {pc : Nat} {lo : xL} {st : List Value} {σ σ1 : xS} {r : xO × xS} {k : Nat} {z : xMt} {v1 v2 : Value} {v : Value} (hd : decode (xC y) pc = .ok (.invokestatic k, 3)) (hq : xca (xo y) k = some (0, z)) (hn : xnp z = 2) (hc : (([v1, v2] : List Value).all fun v => v.category == 1) = true ∧ 2 ≤ xm z ∧ xwt st ≤ 8) (h1 : xCl d z [v1, v2] σ (.inl (some v), σ1)) (h2 : xEv (d + 1) y (pc + 3) lo (v :: st) σ1 r) : xEv (d + 1) y pc lo (v2 :: v1 :: st) σ r := ev_s2 hd hq hn hc h1 h2
theorem ev_s2o {d : Nat} {y : xMt} {pc : Nat} {lo : xL} {st : List Value} {σ σ1 : xS} {r : xO × xS} {k : Nat} {z : xMt} {v1 v2 : Value} (hd : decode (xC y) pc = .ok (.invokestatic k, 3)) (hq : xca (xo y) k = some (0, z)) (hn : xnp z = 2) (hc : (([v1, v2] : List Value).all fun v => v.category == 1) = true ∧ 2 ≤ xm z ∧ xwt st ≤ 8) (h1 : xCl d z [v1, v2] σ (.inl none, σ1)) (h2 : xEv (d + 1) y (pc + 3) lo st σ1 r) : xEv (d + 1) y pc lo (v2 :: v1 :: st) σ r := ev_s2 hd hq hn hc h1 h2
theorem ev_s2t {d : Nat} {y : xMt} {pc : Nat} {lo : xL} {st : List Value} {σ σ1 : xS} {k : Nat} {z : xMt} {v1 v2 : Value} {E : String} (hd : decode (xC y) pc = .ok (.invokestatic k, 3)) (hq : xca (xo y) k = some (0, z)) (hn : xnp z = 2) (hc : (([v1, v2] : List Value).all fun v => v.category == 1) = true ∧ 2 ≤ xm z ∧ xwt st ≤ 8) (h1 : xCl d z [v1, v2] σ (.inr E, σ1)) : xEv (d + 1) y pc lo (v2 :: v1 :: st) σ (.inr E, σ1) := ev_s2 hd hq hn hc h1 rfl
theorem ev_v2r {d : Nat} {y : xMt} {pc : Nat} {lo : xL} {st : List Value} {σ σ1 : xS} {r : xO × xS} {k b : Nat} {z : xMt} {fs : List Value} {v1 v2 : Value} {v : Value} (hd : decode (xC y) pc = .ok (.invokevirtual k, 3)) (hq : xca (xo y) k = some (1, z)) (hn : xnp z = 2) (hb : σ.1 b = some (.inr (xo z, fs))) (hc : (((.ref b : Value) :: [v1, v2]).all fun v => v.category == 1) = true ∧ 3 ≤ xm z ∧ xwt st ≤ 8) (h1 : xCl d z (.ref b :: [v1, v2]) σ (.inl (some v), σ1)) (h2 : xEv (d + 1) y (pc + 3) lo (v :: st) σ1 r) : xEv (d + 1) y pc lo (v2 :: v1 :: .ref b :: st) σ r := ev_v2 hd hq hn hb hc h1 h2
theorem ev_v2o {d : Nat} {y : xMt} {pc : Nat} {lo : xL} {st : List Value} {σ σ1 : xS} {r : xO × xS} {k b : Nat} {z : xMt} {fs : List Value} {v1 v2 : Value} (hd : decode (xC y) pc = .ok (.invokevirtual k, 3)) (hq : xca (xo y) k = some (1, z)) (hn : xnp z = 2) (hb : σ.1 b = some (.inr (xo z, fs))) (hc : (((.ref b : Value) :: [v1, v2]).all fun v => v.category == 1) = true ∧ 3 ≤ xm z ∧ xwt st ≤ 8) (h1 : xCl d z (.ref b :: [v1, v2]) σ (.inl none, σ1)) (h2 : xEv (d + 1) y (pc + 3) lo st σ1 r) : xEv (d + 1) y pc lo (v2 :: v1 :: .ref b :: st) σ r := ev_v2 hd hq hn hb hc h1 h2
theorem ev_v2t {d : Nat} {y : xMt} {pc : Nat} {lo : xL} {st : List Value} {σ σ1 : xS} {k b : Nat} {z : xMt} {fs : List Value} {v1 v2 : Value} {E : String} (hd : decode (xC y) pc = .ok (.invokevirtual k, 3)) (hq : xca (xo y) k = some (1, z)) (hn : xnp z = 2) (hb : σ.1 b = some (.inr (xo z, fs))) (hc : (((.ref b : Value) :: [v1, v2]).all fun v => v.category == 1) = true ∧ 3 ≤ xm z ∧ xwt st ≤ 8) (h1 : xCl d z (.ref b :: [v1, v2]) σ (.inr E, σ1)) : xEv (d + 1) y pc lo (v2 :: v1 :: .ref b :: st) σ (.inr E, σ1) := ev_v2 hd hq hn hb hc h1 rfl
theorem ev_s3r {d : Nat} {y : xMt} {pc : Nat} {lo : xL} {st : List Value} {σ σ1 : xS} {r : xO × xS} {k : Nat} {z : xMt} {v1 v2 v3 : Value} {v : Value} (hd : decode (xC y) pc = .ok (.invokestatic k, 3)) (hq : xca (xo y) k = some (0, z)) (hn : xnp z = 3) (hc : (([v1, v2, v3] : List Value).all fun v => v.category == 1) = true ∧ 3 ≤ xm z ∧ xwt st ≤ 8) (h1 : xCl d z [v1, v2, v3] σ (.inl (some v), σ1)) (h2 : xEv (d + 1) y (pc + 3) lo (v :: st) σ1 r) : xEv (d + 1) y pc lo (v3 :: v2 :: v1 :: st) σ r := ev_s3 hd hq hn hc h1 h2
theorem ev_s3o {d : Nat} {y : xMt} {pc : Nat} {lo : xL} {st : List Value} {σ σ1 : xS} {r : xO × xS} {k : Nat} {z : xMt} {v1 v2 v3 : Value} (hd : decode (xC y) pc = .ok (.invokestatic k, 3)) (hq : xca (xo y) k = some (0, z)) (hn : xnp z = 3) (hc : (([v1, v2, v3] : List Value).all fun v => v.category == 1) = true ∧ 3 ≤ xm z ∧ xwt st ≤ 8) (h1 : xCl d z [v1, v2, v3] σ (.inl none, σ1)) (h2 : xEv (d + 1) y (pc + 3) lo st σ1 r) : xEv (d + 1) y pc lo (v3 :: v2 :: v1 :: st) σ r := ev_s3 hd hq hn hc h1 h2
theorem ev_s3t {d : Nat} {y : xMt} {pc : Nat} {lo : xL} {st : List Value} {σ σ1 : xS} {k : Nat} {z : xMt} {v1 v2 v3 : Value} {E : String} (hd : decode (xC y) pc = .ok (.invokestatic k, 3)) (hq : xca (xo y) k = some (0, z)) (hn : xnp z = 3) (hc : (([v1, v2, v3] : List Value).all fun v => v.category == 1) = true ∧ 3 ≤ xm z ∧ xwt st ≤ 8) (h1 : xCl d z [v1, v2, v3] σ (.inr E, σ1)) : xEv (d + 1) y pc lo (v3 :: v2 :: v1 :: st) σ (.inr E, σ1) := ev_s3 hd hq hn hc h1 rfl
theorem ev_v3r {d : Nat} {y : xMt} {pc : Nat} {lo : xL} {st : List Value} {σ σ1 : xS} {r : xO × xS} {k b : Nat} {z : xMt} {fs : List Value} {v1 v2 v3 : Value} {v : Value} (hd : decode (xC y) pc = .ok (.invokevirtual k, 3)) (hq : xca (xo y) k = some (1, z)) (hn : xnp z = 3) (hb : σ.1 b = some (.inr (xo z, fs))) (hc : (((.ref b : Value) :: [v1, v2, v3]).all fun v => v.category == 1) = true ∧ 4 ≤ xm z ∧ xwt st ≤ 8) (h1 : xCl d z (.ref b :: [v1, v2, v3]) σ (.inl (some v), σ1)) (h2 : xEv (d + 1) y (pc + 3) lo (v :: st) σ1 r) : xEv (d + 1) y pc lo (v3 :: v2 :: v1 :: .ref b :: st) σ r := ev_v3 hd hq hn hb hc h1 h2
theorem ev_v3o {d : Nat} {y : xMt} {pc : Nat} {lo : xL} {st : List Value} {σ σ1 : xS} {r : xO × xS} {k b : Nat} {z : xMt} {fs : List Value} {v1 v2 v3 : Value} (hd : decode (xC y) pc = .ok (.invokevirtual k, 3)) (hq : xca (xo y) k = some (1, z)) (hn : xnp z = 3) (hb : σ.1 b = some (.inr (xo z, fs))) (hc : (((.ref b : Value) :: [v1, v2, v3]).all fun v => v.category == 1) = true ∧ 4 ≤ xm z ∧ xwt st ≤ 8) (h1 : xCl d z (.ref b :: [v1, v2, v3]) σ (.inl none, σ1)) (h2 : xEv (d + 1) y (pc + 3) lo st σ1 r) : xEv (d + 1) y pc lo (v3 :: v2 :: v1 :: .ref b :: st) σ r := ev_v3 hd hq hn hb hc h1 h2
theorem ev_v3t {d : Nat} {y : xMt} {pc : Nat} {lo : xL} {st : List Value} {σ σ1 : xS} {k b : Nat} {z : xMt} {fs : List Value} {v1 v2 v3 : Value} {E : String} (hd : decode (xC y) pc = .ok (.invokevirtual k, 3)) (hq : xca (xo y) k = some (1, z)) (hn : xnp z = 3) (hb : σ.1 b = some (.inr (xo z, fs))) (hc : (((.ref b : Value) :: [v1, v2, v3]).all fun v => v.category == 1) = true ∧ 4 ≤ xm z ∧ xwt st ≤ 8) (h1 : xCl d z (.ref b :: [v1, v2, v3]) σ (.inr E, σ1)) : xEv (d + 1) y pc lo (v3 :: v2 :: v1 :: .ref b :: st) σ (.inr E, σ1) := ev_v3 hd hq hn hb hc h1 rfl
theorem ev_s4r {d : Nat} {y : xMt} {pc : Nat} {lo : xL} {st : List Value} {σ σ1 : xS} {r : xO × xS} {k : Nat} {z : xMt} {v1 v2 v3 v4 : Value} {v : Value} (hd : decode (xC y) pc = .ok (.invokestatic k, 3)) (hq : xca (xo y) k = some (0, z)) (hn : xnp z = 4) (hc : (([v1, v2, v3, v4] : List Value).all fun v => v.category == 1) = true ∧ 4 ≤ xm z ∧ xwt st ≤ 8) (h1 : xCl d z [v1, v2, v3, v4] σ (.inl (some v), σ1)) (h2 : xEv (d + 1) y (pc + 3) lo (v :: st) σ1 r) : xEv (d + 1) y pc lo (v4 :: v3 :: v2 :: v1 :: st) σ r := ev_s4 hd hq hn hc h1 h2
theorem ev_s4o {d : Nat} {y : xMt} {pc : Nat} {lo : xL} {st : List Value} {σ σ1 : xS} {r : xO × xS} {k : Nat} {z : xMt} {v1 v2 v3 v4 : Value} (hd : decode (xC y) pc = .ok (.invokestatic k, 3)) (hq : xca (xo y) k = some (0, z)) (hn : xnp z = 4) (hc : (([v1, v2, v3, v4] : List Value).all fun v => v.category == 1) = true ∧ 4 ≤ xm z ∧ xwt st ≤ 8) (h1 : xCl d z [v1, v2, v3, v4] σ (.inl none, σ1)) (h2 : xEv (d + 1) y (pc + 3) lo st σ1 r) : xEv (d + 1) y pc lo (v4 :: v3 :: v2 :: v1 :: st) σ r := ev_s4 hd hq hn hc h1 h2
theorem ev_s4t {d : Nat} {y : xMt} {pc : Nat} {lo : xL} {st : List Value} {σ σ1 : xS} {k : Nat} {z : xMt} {v1 v2 v3 v4 : Value} {E : String} (hd : decode (xC y) pc = .ok (.invokestatic k, 3)) (hq : xca (xo y) k = some (0, z)) (hn : xnp z = 4) (hc : (([v1, v2, v3, v4] : List Value).all fun v => v.category == 1) = true ∧ 4 ≤ xm z ∧ xwt st ≤ 8) (h1 : xCl d z [v1, v2, v3, v4] σ (.inr E, σ1)) : xEv (d + 1) y pc lo (v4 :: v3 :: v2 :: v1 :: st) σ (.inr E, σ1) := ev_s4 hd hq hn hc h1 rfl
theorem ev_v4r {d : Nat} {y : xMt} {pc : Nat} {lo : xL} {st : List Value} {σ σ1 : xS} {r : xO × xS} {k b : Nat} {z : xMt} {fs : List Value} {v1 v2 v3 v4 : Value} {v : Value} (hd : decode (xC y) pc = .ok (.invokevirtual k, 3)) (hq : xca (xo y) k = some (1, z)) (hn : xnp z = 4) (hb : σ.1 b = some (.inr (xo z, fs))) (hc : (((.ref b : Value) :: [v1, v2, v3, v4]).all fun v => v.category == 1) = true ∧ 5 ≤ xm z ∧ xwt st ≤ 8) (h1 : xCl d z (.ref b :: [v1, v2, v3, v4]) σ (.inl (some v), σ1)) (h2 : xEv (d + 1) y (pc + 3) lo (v :: st) σ1 r) : xEv (d + 1) y pc lo (v4 :: v3 :: v2 :: v1 :: .ref b :: st) σ r := ev_v4 hd hq hn hb hc h1 h2
theorem ev_v4o {d : Nat} {y : xMt} {pc : Nat} {lo : xL} {st : List Value} {σ σ1 : xS} {r : xO × xS} {k b : Nat} {z : xMt} {fs : List Value} {v1 v2 v3 v4 : Value} (hd : decode (xC y) pc = .ok (.invokevirtual k, 3)) (hq : xca (xo y) k = some (1, z)) (hn : xnp z = 4) (hb : σ.1 b = some (.inr (xo z, fs))) (hc : (((.ref b : Value) :: [v1, v2, v3, v4]).all fun v => v.category == 1) = true ∧ 5 ≤ xm z ∧ xwt st ≤ 8) (h1 : xCl d z (.ref b :: [v1, v2, v3, v4]) σ (.inl none, σ1)) (h2 : xEv (d + 1) y (pc + 3) lo st σ1 r) : xEv (d + 1) y pc lo (v4 :: v3 :: v2 :: v1 :: .ref b :: st) σ r := ev_v4 hd hq hn hb hc h1 h2
theorem ev_v4t {d : Nat} {y : xMt} {pc : Nat} {lo : xL} {st : List Value} {σ σ1 : xS} {k b : Nat} {z : xMt} {fs : List Value} {v1 v2 v3 v4 : Value} {E : String} (hd : decode (xC y) pc = .ok (.invokevirtual k, 3)) (hq : xca (xo y) k = some (1, z)) (hn : xnp z = 4) (hb : σ.1 b = some (.inr (xo z, fs))) (hc : (((.ref b : Value) :: [v1, v2, v3, v4]).all fun v => v.category == 1) = true ∧ 5 ≤ xm z ∧ xwt st ≤ 8) (h1 : xCl d z (.ref b :: [v1, v2, v3, v4]) σ (.inr E, σ1)) : xEv (d + 1) y pc lo (v4 :: v3 :: v2 :: v1 :: .ref b :: st) σ (.inr E, σ1) := ev_v4 hd hq hn hb hc h1 rfl
theorem ev_s5r {d : Nat} {y : xMt} {pc : Nat} {lo : xL} {st : List Value} {σ σ1 : xS} {r : xO × xS} {k : Nat} {z : xMt} {v1 v2 v3 v4 v5 : Value} {v : Value} (hd : decode (xC y) pc = .ok (.invokestatic k, 3)) (hq : xca (xo y) k = some (0, z)) (hn : xnp z = 5) (hc : (([v1, v2, v3, v4, v5] : List Value).all fun v => v.category == 1) = true ∧ 5 ≤ xm z ∧ xwt st ≤ 8) (h1 : xCl d z [v1, v2, v3, v4, v5] σ (.inl (some v), σ1)) (h2 : xEv (d + 1) y (pc + 3) lo (v :: st) σ1 r) : xEv (d + 1) y pc lo (v5 :: v4 :: v3 :: v2 :: v1 :: st) σ r := ev_s5 hd hq hn hc h1 h2
theorem ev_s5o {d : Nat} {y : xMt} {pc : Nat} {lo : xL} {st : List Value} {σ σ1 : xS} {r : xO × xS} {k : Nat} {z : xMt} {v1 v2 v3 v4 v5 : Value} (hd : decode (xC y) pc = .ok (.invokestatic k, 3)) (hq : xca (xo y) k = some (0, z)) (hn : xnp z = 5) (hc : (([v1, v2, v3, v4, v5] : List Value).all fun v => v.category == 1) = true ∧ 5 ≤ xm z ∧ xwt st ≤ 8) (h1 : xCl d z [v1, v2, v3, v4, v5] σ (.inl none, σ1)) (h2 : xEv (d + 1) y (pc + 3) lo st σ1 r) : xEv (d + 1) y pc lo (v5 :: v4 :: v3 :: v2 :: v1 :: st) σ r := ev_s5 hd hq hn hc h1 h2
theorem ev_s5t {d : Nat} {y : xMt} {pc : Nat} {lo : xL} {st : List Value} {σ σ1 : xS} {k : Nat} {z : xMt} {v1 v2 v3 v4 v5 : Value} {E : String} (hd : decode (xC y) pc = .ok (.invokestatic k, 3)) (hq : xca (xo y) k = some (0, z)) (hn : xnp z = 5) (hc : (([v1, v2, v3, v4, v5] : List Value).all fun v => v.category == 1) = true ∧ 5 ≤ xm z ∧ xwt st ≤ 8) (h1 : xCl d z [v1, v2, v3, v4, v5] σ (.inr E, σ1)) : xEv (d + 1) y pc lo (v5 :: v4 :: v3 :: v2 :: v1 :: st) σ (.inr E, σ1) := ev_s5 hd hq hn hc h1 rfl
theorem ev_v5r {d : Nat} {y : xMt} {pc : Nat} {lo : xL} {st : List Value} {σ σ1 : xS} {r : xO × xS} {k b : Nat} {z : xMt} {fs : List Value} {v1 v2 v3 v4 v5 : Value} {v : Value} (hd : decode (xC y) pc = .ok (.invokevirtual k, 3)) (hq : xca (xo y) k = some (1, z)) (hn : xnp z = 5) (hb : σ.1 b = some (.inr (xo z, fs))) (hc : (((.ref b : Value) :: [v1, v2, v3, v4, v5]).all fun v => v.category == 1) = true ∧ 6 ≤ xm z ∧ xwt st ≤ 8) (h1 : xCl d z (.ref b :: [v1, v2, v3, v4, v5]) σ (.inl (some v), σ1)) (h2 : xEv (d + 1) y (pc + 3) lo (v :: st) σ1 r) : xEv (d + 1) y pc lo (v5 :: v4 :: v3 :: v2 :: v1 :: .ref b :: st) σ r := ev_v5 hd hq hn hb hc h1 h2
theorem ev_v5o {d : Nat} {y : xMt} {pc : Nat} {lo : xL} {st : List Value} {σ σ1 : xS} {r : xO × xS} {k b : Nat} {z : xMt} {fs : List Value} {v1 v2 v3 v4 v5 : Value} (hd : decode (xC y) pc = .ok (.invokevirtual k, 3)) (hq : xca (xo y) k = some (1, z)) (hn : xnp z = 5) (hb : σ.1 b = some (.inr (xo z, fs))) (hc : (((.ref b : Value) :: [v1, v2, v3, v4, v5]).all fun v => v.category == 1) = true ∧ 6 ≤ xm z ∧ xwt st ≤ 8) (h1 : xCl d z (.ref b :: [v1, v2, v3, v4, v5]) σ (.inl none, σ1)) (h2 : xEv (d + 1) y (pc + 3) lo st σ1 r) : xEv (d + 1) y pc lo (v5 :: v4 :: v3 :: v2 :: v1 :: .ref b :: st) σ r := ev_v5 hd hq hn hb hc h1 h2
theorem ev_v5t {d : Nat} {y : xMt} {pc : Nat} {lo : xL} {st : List Value} {σ σ1 : xS} {k b : Nat} {z : xMt} {fs : List Value} {v1 v2 v3 v4 v5 : Value} {E : String} (hd : decode (xC y) pc = .ok (.invokevirtual k, 3)) (hq : xca (xo y) k = some (1, z)) (hn : xnp z = 5) (hb : σ.1 b = some (.inr (xo z, fs))) (hc : (((.ref b : Value) :: [v1, v2, v3, v4, v5]).all fun v => v.category == 1) = true ∧ 6 ≤ xm z ∧ xwt st ≤ 8) (h1 : xCl d z (.ref b :: [v1, v2, v3, v4, v5]) σ (.inr E, σ1)) : xEv (d + 1) y pc lo (v5 :: v4 :: v3 :: v2 :: v1 :: .ref b :: st) σ (.inr E, σ1) := ev_v5 hd hq hn hb hc h1 rfl
set_option maxRecDepth 20000 in
theorem c_M_within {d : Nat} {σ : xS} (v lo hi : Int32) : xCl d k_M_within [.int v, .int lo, .int hi] σ (.inl (some (.int (xbi (lo ≤ v ∧ v ≤ hi)))), σ) := by
  show xEv _ k_M_within 0 [some (.int v), some (.int lo), some (.int hi)] [] _ _
  refine ev_iload_n d_M_within_0 rfl ?_
  refine ev_iload_n d_M_within_1 rfl ?_
  refine ev_icmp_lt (t := 14) d_M_within_2 (by decide) (fun c_2_1 => ?_) (fun c_2_1 => ?_)
  · refine ev_iconst (v := 0) d_M_within_14 rfl ?_
    exact xEv.to (ev_zret d_M_within_15 rfl (Or.inl rfl)) (by rw [xbi_f (by grind)])
  · refine ev_iload_n d_M_within_5 rfl ?_
    refine ev_iload_n d_M_within_6 rfl ?_
    refine ev_icmp_gt (t := 14) d_M_within_7 (by decide) (fun c_7_2 => ?_) (fun c_7_2 => ?_)
    · refine ev_iconst (v := 0) d_M_within_14 rfl ?_
      exact xEv.to (ev_zret d_M_within_15 rfl (Or.inl rfl)) (by rw [xbi_f (by grind)])
    · refine ev_iconst (v := 1) d_M_within_10 rfl ?_
      refine ev_goto (t := 15) d_M_within_11 (by decide) ?_
      exact xEv.to (ev_zret d_M_within_15 rfl (Or.inr rfl)) (by rw [xbi_t (by grind)])
set_option maxRecDepth 20000 in
theorem c_M_isThing {d : Nat} {σ : xS} (t : Int32) : xCl d k_M_isThing [.int t] σ (.inl (some (.int (xbi (0 ≤ t ∧ t < 16)))), σ) := by
  show xEv _ k_M_isThing 0 [some (.int t)] [] _ _
  refine ev_iload_n d_M_isThing_0 rfl ?_
  refine ev_if_lt (t := 14) d_M_isThing_1 (by decide) (fun c_1_1 => ?_) (fun c_1_1 => ?_)
  · refine ev_iconst (v := 0) d_M_isThing_14 rfl ?_
    exact xEv.to (ev_zret d_M_isThing_15 rfl (Or.inl rfl)) (by rw [xbi_f (by grind)])
  · refine ev_iload_n d_M_isThing_4 rfl ?_
    refine ev_bipush (v := 16) d_M_isThing_5 rfl ?_
    refine ev_icmp_ge (t := 14) d_M_isThing_7 (by decide) (fun c_7_2 => ?_) (fun c_7_2 => ?_)
    · refine ev_iconst (v := 0) d_M_isThing_14 rfl ?_
      exact xEv.to (ev_zret d_M_isThing_15 rfl (Or.inl rfl)) (by rw [xbi_f (by grind)])
    · refine ev_iconst (v := 1) d_M_isThing_10 rfl ?_
      refine ev_goto (t := 15) d_M_isThing_11 (by decide) ?_
      exact xEv.to (ev_zret d_M_isThing_15 rfl (Or.inr rfl)) (by rw [xbi_t (by grind)])
set_option maxRecDepth 20000 in
theorem c_M_areDays {d : Nat} {σ : xS} (f t : Int32) : xCl d k_M_areDays [.int f, .int t] σ (.inl (some (.int (xbi (0 ≤ f ∧ f ≤ t ∧ t ≤ 100000)))), σ) := by
  show xEv _ k_M_areDays 0 [some (.int f), some (.int t)] [] _ _
  refine ev_iload_n d_M_areDays_0 rfl ?_
  refine ev_if_lt (t := 19) d_M_areDays_1 (by decide) (fun c_1_1 => ?_) (fun c_1_1 => ?_)
  · refine ev_iconst (v := 0) d_M_areDays_19 rfl ?_
    exact xEv.to (ev_zret d_M_areDays_20 rfl (Or.inl rfl)) (by rw [xbi_f (by grind)])
  · refine ev_iload_n d_M_areDays_4 rfl ?_
    refine ev_iload_n d_M_areDays_5 rfl ?_
    refine ev_icmp_gt (t := 19) d_M_areDays_6 (by decide) (fun c_6_2 => ?_) (fun c_6_2 => ?_)
    · refine ev_iconst (v := 0) d_M_areDays_19 rfl ?_
      exact xEv.to (ev_zret d_M_areDays_20 rfl (Or.inl rfl)) (by rw [xbi_f (by grind)])
    · refine ev_iload_n d_M_areDays_9 rfl ?_
      refine ev_ldc d_M_areDays_10 l_8_108 ?_
      refine ev_icmp_gt (t := 19) d_M_areDays_12 (by decide) (fun c_12_3 => ?_) (fun c_12_3 => ?_)
      · refine ev_iconst (v := 0) d_M_areDays_19 rfl ?_
        exact xEv.to (ev_zret d_M_areDays_20 rfl (Or.inl rfl)) (by rw [xbi_f (by grind)])
      · refine ev_iconst (v := 1) d_M_areDays_15 rfl ?_
        refine ev_goto (t := 20) d_M_areDays_16 (by decide) ?_
        exact xEv.to (ev_zret d_M_areDays_20 rfl (Or.inr rfl)) (by rw [xbi_t (by grind)])
set_option maxRecDepth 20000 in
theorem c_M_isDigit {d : Nat} {σ : xS} (s : Int32) : xCl d k_M_isDigit [.int s] σ (.inl (some (.int (xbi (48 ≤ s ∧ s ≤ 57)))), σ) := by
  show xEv _ k_M_isDigit 0 [some (.int s)] [] _ _
  refine ev_iload_n d_M_isDigit_0 rfl ?_
  refine ev_bipush (v := 48) d_M_isDigit_1 rfl ?_
  refine ev_icmp_lt (t := 16) d_M_isDigit_3 (by decide) (fun c_3_1 => ?_) (fun c_3_1 => ?_)
  · refine ev_iconst (v := 0) d_M_isDigit_16 rfl ?_
    exact xEv.to (ev_zret d_M_isDigit_17 rfl (Or.inl rfl)) (by rw [xbi_f (by grind)])
  · refine ev_iload_n d_M_isDigit_6 rfl ?_
    refine ev_bipush (v := 57) d_M_isDigit_7 rfl ?_
    refine ev_icmp_gt (t := 16) d_M_isDigit_9 (by decide) (fun c_9_2 => ?_) (fun c_9_2 => ?_)
    · refine ev_iconst (v := 0) d_M_isDigit_16 rfl ?_
      exact xEv.to (ev_zret d_M_isDigit_17 rfl (Or.inl rfl)) (by rw [xbi_f (by grind)])
    · refine ev_iconst (v := 1) d_M_isDigit_12 rfl ?_
      refine ev_goto (t := 17) d_M_isDigit_13 (by decide) ?_
      exact xEv.to (ev_zret d_M_isDigit_17 rfl (Or.inr rfl)) (by rw [xbi_t (by grind)])
set_option maxRecDepth 20000 in
theorem c_M_isName {d : Nat} {σ : xS} (s : Int32) : xCl d k_M_isName [.int s] σ (.inl (some (.int (xbi ((97 ≤ s ∧ s ≤ 104) ∨ s = 121 ∨ s = 122)))), σ) := by
  show xEv _ k_M_isName 0 [some (.int s)] [] _ _
  refine ev_iload_n d_M_isName_0 rfl ?_
  refine ev_bipush (v := 97) d_M_isName_1 rfl ?_
  refine ev_icmp_lt (t := 12) d_M_isName_3 (by decide) (fun c_3_1 => ?_) (fun c_3_1 => ?_)
  · refine ev_iload_n d_M_isName_12 rfl ?_
    refine ev_bipush (v := 121) d_M_isName_13 rfl ?_
    refine ev_icmp_eq (t := 24) d_M_isName_15 (by decide) (fun c_15_2 => ?_) (fun c_15_2 => ?_)
    · refine ev_iconst (v := 1) d_M_isName_24 rfl ?_
      refine ev_goto (t := 29) d_M_isName_25 (by decide) ?_
      exact xEv.to (ev_zret d_M_isName_29 rfl (Or.inr rfl)) (by rw [xbi_t (by grind)])
    · refine ev_iload_n d_M_isName_18 rfl ?_
      refine ev_bipush (v := 122) d_M_isName_19 rfl ?_
      refine ev_icmp_ne (t := 28) d_M_isName_21 (by decide) (fun c_21_3 => ?_) (fun c_21_3 => ?_)
      · refine ev_iconst (v := 0) d_M_isName_28 rfl ?_
        exact xEv.to (ev_zret d_M_isName_29 rfl (Or.inl rfl)) (by rw [xbi_f (by grind)])
      · refine ev_iconst (v := 1) d_M_isName_24 rfl ?_
        refine ev_goto (t := 29) d_M_isName_25 (by decide) ?_
        exact xEv.to (ev_zret d_M_isName_29 rfl (Or.inr rfl)) (by rw [xbi_t (by grind)])
  · refine ev_iload_n d_M_isName_6 rfl ?_
    refine ev_bipush (v := 104) d_M_isName_7 rfl ?_
    refine ev_icmp_le (t := 24) d_M_isName_9 (by decide) (fun c_9_4 => ?_) (fun c_9_4 => ?_)
    · refine ev_iconst (v := 1) d_M_isName_24 rfl ?_
      refine ev_goto (t := 29) d_M_isName_25 (by decide) ?_
      exact xEv.to (ev_zret d_M_isName_29 rfl (Or.inr rfl)) (by rw [xbi_t (by grind)])
    · refine ev_iload_n d_M_isName_12 rfl ?_
      refine ev_bipush (v := 121) d_M_isName_13 rfl ?_
      refine ev_icmp_eq (t := 24) d_M_isName_15 (by decide) (fun c_15_5 => ?_) (fun c_15_5 => ?_)
      · refine ev_iconst (v := 1) d_M_isName_24 rfl ?_
        refine ev_goto (t := 29) d_M_isName_25 (by decide) ?_
        exact xEv.to (ev_zret d_M_isName_29 rfl (Or.inr rfl)) (by rw [xbi_t (by grind)])
      · refine ev_iload_n d_M_isName_18 rfl ?_
        refine ev_bipush (v := 122) d_M_isName_19 rfl ?_
        refine ev_icmp_ne (t := 28) d_M_isName_21 (by decide) (fun c_21_6 => ?_) (fun c_21_6 => ?_)
        · refine ev_iconst (v := 0) d_M_isName_28 rfl ?_
          exact xEv.to (ev_zret d_M_isName_29 rfl (Or.inl rfl)) (by rw [xbi_f (by grind)])
        · refine ev_iconst (v := 1) d_M_isName_24 rfl ?_
          refine ev_goto (t := 29) d_M_isName_25 (by decide) ?_
          exact xEv.to (ev_zret d_M_isName_29 rfl (Or.inr rfl)) (by rw [xbi_t (by grind)])
set_option maxRecDepth 20000 in
theorem c_M_thrown {d : Nat} {B : xMm} {ad : Nat → Nat} {ix : Nat → Option Nat} {iv : Nat → Int32} {av : Nat → Nat → Int32} {ns : Nat × Nat} (ok : mOk ad ix)  : xCl d k_M_thrown [.ref (ad 0)] (mM B ad ix iv av, ns) (.inl (some (.int (iv 0))), (mM B ad ix iv av, ns)) := by
  show xEv _ k_M_thrown 0 [some (.ref (ad 0))] [] _ _
  refine ev_aload_n d_M_thrown_0 rfl ?_
  refine ev_get d_M_thrown_1 f_8_101 (mM_obj ok) rfl ?_
  exact xEv.to (ev_iret d_M_thrown_4 rfl) (by simp [])
def mgo (a b c : Int32) : Int32 := if a = 0 then 1 else if b = 0 then 2 else if c = 0 then 3 else 0
set_option maxRecDepth 20000 in
theorem c_M_goes {d : Nat} {B : xMm} {ad : Nat → Nat} {ix : Nat → Option Nat} {iv : Nat → Int32} {av : Nat → Nat → Int32} {ns : Nat × Nat} (ok : mOk ad ix) (a b c : Int32) : xCl d k_M_goes [.ref (ad 0), .int a, .int b, .int c] (mM B ad ix iv av, ns) (.inl (some (.int (xbi (mgo a b c = 0)))), (mM B ad ix (upd iv 0 (mgo a b c)) av, ns)) := by
  show xEv _ k_M_goes 0 [some (.ref (ad 0)), some (.int a), some (.int b), some (.int c)] [] _ _
  refine ev_aload_n d_M_goes_0 rfl ?_
  refine ev_iload_n d_M_goes_1 rfl ?_
  refine ev_if_ne (t := 9) d_M_goes_2 (by decide) (fun c_2_1 => ?_) (fun c_2_1 => ?_)
  · refine ev_iload_n d_M_goes_9 rfl ?_
    refine ev_if_ne (t := 17) d_M_goes_10 (by decide) (fun c_10_2 => ?_) (fun c_10_2 => ?_)
    · refine ev_iload_n d_M_goes_17 rfl ?_
      refine ev_if_ne (t := 25) d_M_goes_18 (by decide) (fun c_18_3 => ?_) (fun c_18_3 => ?_)
      · refine ev_iconst (v := 0) d_M_goes_25 rfl ?_
        refine ev_put d_M_goes_26 f_8_101 (mM_obj ok) ⟨Nat.le_of_ble_eq_true rfl, xfit_i rfl, Or.inl rfl⟩ (mM_put ok rfl) ?_
        refine ev_aload_n d_M_goes_29 rfl ?_
        refine ev_get d_M_goes_30 f_8_101 (mM_obj ok) rfl ?_
        refine ev_if_ne (t := 40) d_M_goes_33 (by decide) (fun c_33_4 => ?_) (fun c_33_4 => ?_)
        · refine ev_iconst (v := 0) d_M_goes_40 rfl ?_
          exact xEv.to (ev_zret d_M_goes_41 rfl (Or.inl rfl)) (by grind [mgo, xbi, upd])
        · refine ev_iconst (v := 1) d_M_goes_36 rfl ?_
          refine ev_goto (t := 41) d_M_goes_37 (by decide) ?_
          exact xEv.to (ev_zret d_M_goes_41 rfl (Or.inr rfl)) (by grind [mgo, xbi, upd])
      · refine ev_iconst (v := 3) d_M_goes_21 rfl ?_
        refine ev_goto (t := 26) d_M_goes_22 (by decide) ?_
        refine ev_put d_M_goes_26 f_8_101 (mM_obj ok) ⟨Nat.le_of_ble_eq_true rfl, xfit_i rfl, Or.inl rfl⟩ (mM_put ok rfl) ?_
        refine ev_aload_n d_M_goes_29 rfl ?_
        refine ev_get d_M_goes_30 f_8_101 (mM_obj ok) rfl ?_
        refine ev_if_ne (t := 40) d_M_goes_33 (by decide) (fun c_33_5 => ?_) (fun c_33_5 => ?_)
        · refine ev_iconst (v := 0) d_M_goes_40 rfl ?_
          exact xEv.to (ev_zret d_M_goes_41 rfl (Or.inl rfl)) (by grind [mgo, xbi, upd])
        · refine ev_iconst (v := 1) d_M_goes_36 rfl ?_
          refine ev_goto (t := 41) d_M_goes_37 (by decide) ?_
          exact xEv.to (ev_zret d_M_goes_41 rfl (Or.inr rfl)) (by grind [mgo, xbi, upd])
    · refine ev_iconst (v := 2) d_M_goes_13 rfl ?_
      refine ev_goto (t := 26) d_M_goes_14 (by decide) ?_
      refine ev_put d_M_goes_26 f_8_101 (mM_obj ok) ⟨Nat.le_of_ble_eq_true rfl, xfit_i rfl, Or.inl rfl⟩ (mM_put ok rfl) ?_
      refine ev_aload_n d_M_goes_29 rfl ?_
      refine ev_get d_M_goes_30 f_8_101 (mM_obj ok) rfl ?_
      refine ev_if_ne (t := 40) d_M_goes_33 (by decide) (fun c_33_6 => ?_) (fun c_33_6 => ?_)
      · refine ev_iconst (v := 0) d_M_goes_40 rfl ?_
        exact xEv.to (ev_zret d_M_goes_41 rfl (Or.inl rfl)) (by grind [mgo, xbi, upd])
      · refine ev_iconst (v := 1) d_M_goes_36 rfl ?_
        refine ev_goto (t := 41) d_M_goes_37 (by decide) ?_
        exact xEv.to (ev_zret d_M_goes_41 rfl (Or.inr rfl)) (by grind [mgo, xbi, upd])
  · refine ev_iconst (v := 1) d_M_goes_5 rfl ?_
    refine ev_goto (t := 26) d_M_goes_6 (by decide) ?_
    refine ev_put d_M_goes_26 f_8_101 (mM_obj ok) ⟨Nat.le_of_ble_eq_true rfl, xfit_i rfl, Or.inl rfl⟩ (mM_put ok rfl) ?_
    refine ev_aload_n d_M_goes_29 rfl ?_
    refine ev_get d_M_goes_30 f_8_101 (mM_obj ok) rfl ?_
    refine ev_if_ne (t := 40) d_M_goes_33 (by decide) (fun c_33_7 => ?_) (fun c_33_7 => ?_)
    · refine ev_iconst (v := 0) d_M_goes_40 rfl ?_
      exact xEv.to (ev_zret d_M_goes_41 rfl (Or.inl rfl)) (by grind [mgo, xbi, upd])
    · refine ev_iconst (v := 1) d_M_goes_36 rfl ?_
      refine ev_goto (t := 41) d_M_goes_37 (by decide) ?_
      exact xEv.to (ev_zret d_M_goes_41 rfl (Or.inr rfl)) (by grind [mgo, xbi, upd])
set_option maxRecDepth 20000 in
theorem c_M_isLoan {d : Nat} {B : xMm} {ad : Nat → Nat} {ix : Nat → Option Nat} {iv : Nat → Int32} {av : Nat → Nat → Int32} {ns : Nat × Nat} (ok : mOk ad ix) (v : Int32) : xCl d k_M_isLoan [.ref (ad 0), .int v] (mM B ad ix iv av, ns) (.inl (some (.int (xbi (0 ≤ v ∧ v < iv 23)))), (mM B ad ix iv av, ns)) := by
  show xEv _ k_M_isLoan 0 [some (.ref (ad 0)), some (.int v)] [] _ _
  refine ev_iload_n d_M_isLoan_0 rfl ?_
  refine ev_if_lt (t := 16) d_M_isLoan_1 (by decide) (fun c_1_1 => ?_) (fun c_1_1 => ?_)
  · refine ev_iconst (v := 0) d_M_isLoan_16 rfl ?_
    exact xEv.to (ev_zret d_M_isLoan_17 rfl (Or.inl rfl)) (by rw [xbi_f (by grind)])
  · refine ev_iload_n d_M_isLoan_4 rfl ?_
    refine ev_aload_n d_M_isLoan_5 rfl ?_
    refine ev_get d_M_isLoan_6 f_8_105 (mM_obj ok) rfl ?_
    refine ev_icmp_ge (t := 16) d_M_isLoan_9 (by decide) (fun c_9_2 => ?_) (fun c_9_2 => ?_)
    · refine ev_iconst (v := 0) d_M_isLoan_16 rfl ?_
      exact xEv.to (ev_zret d_M_isLoan_17 rfl (Or.inl rfl)) (by rw [xbi_f (by grind)])
    · refine ev_iconst (v := 1) d_M_isLoan_12 rfl ?_
      refine ev_goto (t := 17) d_M_isLoan_13 (by decide) ?_
      exact xEv.to (ev_zret d_M_isLoan_17 rfl (Or.inr rfl)) (by rw [xbi_t (by grind)])
set_option maxRecDepth 20000 in
theorem c_M_isContract {d : Nat} {B : xMm} {ad : Nat → Nat} {ix : Nat → Option Nat} {iv : Nat → Int32} {av : Nat → Nat → Int32} {ns : Nat × Nat} (ok : mOk ad ix) (v : Int32) : xCl d k_M_isContract [.ref (ad 0), .int v] (mM B ad ix iv av, ns) (.inl (some (.int (xbi (0 ≤ v ∧ v < iv 3)))), (mM B ad ix iv av, ns)) := by
  show xEv _ k_M_isContract 0 [some (.ref (ad 0)), some (.int v)] [] _ _
  refine ev_iload_n d_M_isContract_0 rfl ?_
  refine ev_if_lt (t := 16) d_M_isContract_1 (by decide) (fun c_1_1 => ?_) (fun c_1_1 => ?_)
  · refine ev_iconst (v := 0) d_M_isContract_16 rfl ?_
    exact xEv.to (ev_zret d_M_isContract_17 rfl (Or.inl rfl)) (by rw [xbi_f (by grind)])
  · refine ev_iload_n d_M_isContract_4 rfl ?_
    refine ev_aload_n d_M_isContract_5 rfl ?_
    refine ev_get d_M_isContract_6 f_8_135 (mM_obj ok) rfl ?_
    refine ev_icmp_ge (t := 16) d_M_isContract_9 (by decide) (fun c_9_2 => ?_) (fun c_9_2 => ?_)
    · refine ev_iconst (v := 0) d_M_isContract_16 rfl ?_
      exact xEv.to (ev_zret d_M_isContract_17 rfl (Or.inl rfl)) (by rw [xbi_f (by grind)])
    · refine ev_iconst (v := 1) d_M_isContract_12 rfl ?_
      refine ev_goto (t := 17) d_M_isContract_13 (by decide) ?_
      exact xEv.to (ev_zret d_M_isContract_17 rfl (Or.inr rfl)) (by rw [xbi_t (by grind)])
end
section
/-! the reference's methods without loops -/
theorem ev_cutv {d : Nat} {y : xMt} {pc : Nat} {lo : xL} {st : List Value} {σ : xS} {r : xO × xS} {E : Nat} {V : Int32} (h : xEv d y E lo (.int V :: st) σ r) (k : (∀ b : Int32, b = V → xEv d y E lo (.int b :: st) σ r) → xEv d y pc lo st σ r) : xEv d y pc lo st σ r := k fun _ e => e ▸ h
theorem xin_i {i : Int32} {n : Nat} (N : Int32) (hN : N.toInt = n) (h0 : 0 ≤ i) (h1 : i < N) : xin i n := by
  have a0 : (0 : Int32).toInt ≤ i.toInt := Int32.le_iff_toInt_le.mp h0
  have a1 : i.toInt < N.toInt := Int32.lt_iff_toInt_lt.mp h1
  have a2 : (0 : Int32).toInt = 0 := by decide
  exact vp_in_iff.mpr ⟨by omega, by omega⟩
set_option maxRecDepth 20000 in
theorem c_M_unit_ok {d : Nat} {B : xMm} {ad : Nat → Nat} {ix : Nat → Option Nat} {iv : Nat → Int32} {av : Nat → Nat → Int32} {ns : Nat × Nat} (ok : mOk ad ix) (s : Int32) (h0 : 0 ≤ iv 1) (h : mgo (xbi (iv 1 < 80)) (xbi (33 ≤ s ∧ s ≤ 126)) 1 = 0) : xCl (d + 1) k_M_unit [.ref (ad 0), .int s] (mM B ad ix iv av, ns) (.inl (some (.int (iv 1 + 1))), (mM B ad ix (upd (upd iv 0 0) 1 (iv 1 + 1)) (va_up av 2 (upd (av 2) (iv 1).toNatClampNeg s)), ns)) := by
  show xEv _ k_M_unit 0 [some (.ref (ad 0)), some (.int s)] [] _ _
  refine ev_aload_n d_M_unit_0 rfl ?_
  refine ev_cutv (E := 15) (V := xbi (iv 1 < 80)) ?_ (fun hk_1 => ?_)
  · refine ev_iload_n d_M_unit_15 rfl ?_
    refine ev_bipush (v := 33) d_M_unit_16 rfl ?_
    refine ev_bipush (v := 126) d_M_unit_18 rfl ?_
    refine ev_s3r d_M_unit_20 q_8_112 rfl ⟨rfl, Nat.le_of_ble_eq_true rfl, Nat.le_of_ble_eq_true rfl⟩ (c_M_within _ _ _) ?_
    refine ev_iconst (v := 1) d_M_unit_23 rfl ?_
    refine ev_v3r d_M_unit_24 q_8_116 rfl (mM_obj ok) ⟨rfl, Nat.le_of_ble_eq_true rfl, Nat.le_of_ble_eq_true rfl⟩ (c_M_goes ok _ _ _) ?_
    refine ev_if_ne (t := 32) d_M_unit_27 (by decide) (fun _ => ?_) (fun c_27 => absurd c_27 (by rw [h]; decide))
    refine ev_aload_n d_M_unit_32 rfl ?_
    refine ev_get d_M_unit_33 f_8_7 (mM_obj ok) rfl ?_
    refine ev_aload_n d_M_unit_36 rfl ?_
    refine ev_get d_M_unit_37 f_8_109 (mM_obj ok) rfl ?_
    refine ev_iload_n d_M_unit_40 rfl ?_
    refine ev_iast d_M_unit_41 (mM_arr ok 2 rfl) ⟨rfl, (xin_i 80 (by decide) (by grind [upd]) (by grind [upd, mgo, xbi]))⟩ (mM_ast ok 2 rfl) ?_
    refine ev_aload_n d_M_unit_42 rfl ?_
    refine ev_dup d_M_unit_43 rfl ?_
    refine ev_get d_M_unit_44 f_8_109 (mM_obj ok) rfl ?_
    refine ev_iconst (v := 1) d_M_unit_47 rfl ?_
    refine ev_iadd d_M_unit_48 ?_
    refine ev_put d_M_unit_49 f_8_109 (mM_obj ok) ⟨Nat.le_of_ble_eq_true rfl, xfit_i rfl, Or.inl rfl⟩ (mM_put ok rfl) ?_
    refine ev_aload_n d_M_unit_52 rfl ?_
    refine ev_get d_M_unit_53 f_8_109 (mM_obj ok) rfl ?_
    exact xEv.to (ev_iret d_M_unit_56 rfl) (by grind [upd, va_up, xbi])
  · refine ev_aload_n d_M_unit_1 rfl ?_
    refine ev_get d_M_unit_2 f_8_109 (mM_obj ok) rfl ?_
    refine ev_bipush (v := 80) d_M_unit_5 rfl ?_
    refine ev_icmp_ge (t := 14) d_M_unit_7 (by decide) (fun c_7_2 => ?_) (fun c_7_2 => ?_)
    · refine ev_iconst (v := 0) d_M_unit_14 rfl ?_
      exact hk_1 _ (by rw [xbi_f (by grind)])
    · refine ev_iconst (v := 1) d_M_unit_10 rfl ?_
      refine ev_goto (t := 15) d_M_unit_11 (by decide) ?_
      exact hk_1 _ (by rw [xbi_t (by grind)])
set_option maxRecDepth 20000 in
theorem c_M_unit_no {d : Nat} {B : xMm} {ad : Nat → Nat} {ix : Nat → Option Nat} {iv : Nat → Int32} {av : Nat → Nat → Int32} {ns : Nat × Nat} (ok : mOk ad ix) (s : Int32) (h : mgo (xbi (iv 1 < 80)) (xbi (33 ≤ s ∧ s ≤ 126)) 1 ≠ 0) : xCl (d + 1) k_M_unit [.ref (ad 0), .int s] (mM B ad ix iv av, ns) (.inl (some (.int 0)), (mM B ad ix (upd iv 0 (mgo (xbi (iv 1 < 80)) (xbi (33 ≤ s ∧ s ≤ 126)) 1)) (av), ns)) := by
  show xEv _ k_M_unit 0 [some (.ref (ad 0)), some (.int s)] [] _ _
  refine ev_aload_n d_M_unit_0 rfl ?_
  refine ev_cutv (E := 15) (V := xbi (iv 1 < 80)) ?_ (fun hk_1 => ?_)
  · refine ev_iload_n d_M_unit_15 rfl ?_
    refine ev_bipush (v := 33) d_M_unit_16 rfl ?_
    refine ev_bipush (v := 126) d_M_unit_18 rfl ?_
    refine ev_s3r d_M_unit_20 q_8_112 rfl ⟨rfl, Nat.le_of_ble_eq_true rfl, Nat.le_of_ble_eq_true rfl⟩ (c_M_within _ _ _) ?_
    refine ev_iconst (v := 1) d_M_unit_23 rfl ?_
    refine ev_v3r d_M_unit_24 q_8_116 rfl (mM_obj ok) ⟨rfl, Nat.le_of_ble_eq_true rfl, Nat.le_of_ble_eq_true rfl⟩ (c_M_goes ok _ _ _) ?_
    refine ev_if_ne (t := 32) d_M_unit_27 (by decide) (fun c_27 => absurd (xbi_f h) c_27) (fun _ => ?_)
    refine ev_iconst (v := 0) d_M_unit_30 rfl ?_
    exact xEv.to (ev_iret d_M_unit_31 rfl) (by grind [upd, va_up, xbi])
  · refine ev_aload_n d_M_unit_1 rfl ?_
    refine ev_get d_M_unit_2 f_8_109 (mM_obj ok) rfl ?_
    refine ev_bipush (v := 80) d_M_unit_5 rfl ?_
    refine ev_icmp_ge (t := 14) d_M_unit_7 (by decide) (fun c_7_2 => ?_) (fun c_7_2 => ?_)
    · refine ev_iconst (v := 0) d_M_unit_14 rfl ?_
      exact hk_1 _ (by rw [xbi_f (by grind)])
    · refine ev_iconst (v := 1) d_M_unit_10 rfl ?_
      refine ev_goto (t := 15) d_M_unit_11 (by decide) ?_
      exact hk_1 _ (by rw [xbi_t (by grind)])
set_option maxRecDepth 20000 in
theorem c_M_terms_ok {d : Nat} {B : xMm} {ad : Nat → Nat} {ix : Nat → Option Nat} {iv : Nat → Int32} {av : Nat → Nat → Int32} {ns : Nat × Nat} (ok : mOk ad ix) (c : Nat) (hc : c < 8) (h : nI c < iv 3) : xCl (d + 1) k_M_terms [.ref (ad 0), .int (nI c)] (mM B ad ix iv av, ns) (.inl (some (.int (av 4 c))), (mM B ad ix (upd iv 0 0) (av), ns)) := by
  have h0c : 0 ≤ nI c := nI_pos' (by omega)
  have ec : (nI c).toNatClampNeg = c := nI_clamp (by omega)
  show xEv _ k_M_terms 0 [some (.ref (ad 0)), some (.int (nI c))] [] _ _
  refine ev_aload_n d_M_terms_0 rfl ?_
  refine ev_aload_n d_M_terms_1 rfl ?_
  refine ev_iload_n d_M_terms_2 rfl ?_
  refine ev_v1r d_M_terms_3 q_8_146 rfl (mM_obj ok) ⟨rfl, Nat.le_of_ble_eq_true rfl, Nat.le_of_ble_eq_true rfl⟩ (c_M_isContract ok _) ?_
  refine ev_iconst (v := 1) d_M_terms_6 rfl ?_
  refine ev_iconst (v := 1) d_M_terms_7 rfl ?_
  refine ev_v3r d_M_terms_8 q_8_116 rfl (mM_obj ok) ⟨rfl, Nat.le_of_ble_eq_true rfl, Nat.le_of_ble_eq_true rfl⟩ (c_M_goes ok _ _ _) ?_
  refine ev_if_eq (t := 23) d_M_terms_11 (by decide) (fun c_11 => absurd c_11 (by grind [xbi, mgo])) (fun _ => ?_)
  refine ev_aload_n d_M_terms_14 rfl ?_
  refine ev_get d_M_terms_15 f_8_13 (mM_obj ok) rfl ?_
  refine ev_iload_n d_M_terms_18 rfl ?_
  refine ev_iald d_M_terms_19 (mM_arr ok 4 rfl) ⟨rfl, vp_in_nI hc (by decide)⟩ rfl ?_
  refine ev_goto (t := 24) d_M_terms_20 (by decide) ?_
  exact xEv.to (ev_iret d_M_terms_24 rfl) (by grind [upd, va_up, xbi, mgo])
set_option maxRecDepth 20000 in
theorem c_M_terms_no {d : Nat} {B : xMm} {ad : Nat → Nat} {ix : Nat → Option Nat} {iv : Nat → Int32} {av : Nat → Nat → Int32} {ns : Nat × Nat} (ok : mOk ad ix) (c : Int32) (h : ¬ (0 ≤ c ∧ c < iv 3)) : xCl (d + 1) k_M_terms [.ref (ad 0), .int c] (mM B ad ix iv av, ns) (.inl (some (.int 0)), (mM B ad ix (upd iv 0 1) (av), ns)) := by
  show xEv _ k_M_terms 0 [some (.ref (ad 0)), some (.int c)] [] _ _
  refine ev_aload_n d_M_terms_0 rfl ?_
  refine ev_aload_n d_M_terms_1 rfl ?_
  refine ev_iload_n d_M_terms_2 rfl ?_
  refine ev_v1r d_M_terms_3 q_8_146 rfl (mM_obj ok) ⟨rfl, Nat.le_of_ble_eq_true rfl, Nat.le_of_ble_eq_true rfl⟩ (c_M_isContract ok _) ?_
  refine ev_iconst (v := 1) d_M_terms_6 rfl ?_
  refine ev_iconst (v := 1) d_M_terms_7 rfl ?_
  refine ev_v3r d_M_terms_8 q_8_116 rfl (mM_obj ok) ⟨rfl, Nat.le_of_ble_eq_true rfl, Nat.le_of_ble_eq_true rfl⟩ (c_M_goes ok _ _ _) ?_
  refine ev_if_eq (t := 23) d_M_terms_11 (by decide) (fun _ => ?_) (fun c_11 => absurd (by grind [xbi, mgo]) c_11)
  refine ev_iconst (v := 0) d_M_terms_23 rfl ?_
  exact xEv.to (ev_iret d_M_terms_24 rfl) (by grind [upd, va_up, xbi, mgo])
set_option maxRecDepth 20000 in
theorem c_M_fails_no {d : Nat} {B : xMm} {ad : Nat → Nat} {ix : Nat → Option Nat} {iv : Nat → Int32} {av : Nat → Nat → Int32} {ns : Nat × Nat} (ok : mOk ad ix) (n f t : Int32) (h : mgo (xbi (0 ≤ n ∧ n < 8)) (xbi (0 ≤ f ∧ f ≤ t ∧ t ≤ 2400000)) 1 ≠ 0) : xCl (d + 1) k_M_fails [.ref (ad 0), .int n, .int f, .int t] (mM B ad ix iv av, ns) (.inl none, (mM B ad ix (upd iv 0 (mgo (xbi (0 ≤ n ∧ n < 8)) (xbi (0 ≤ f ∧ f ≤ t ∧ t ≤ 2400000)) 1)) (av), ns)) := by
  show xEv _ k_M_fails 0 [some (.ref (ad 0)), some (.int n), some (.int f), some (.int t)] [] _ _
  refine ev_aload_n d_M_fails_0 rfl ?_
  refine ev_cutv (E := 16) (V := xbi (0 ≤ n ∧ n < 8)) ?_ (fun hk_1 => ?_)
  · refine ev_cutv (E := 36) (V := xbi (0 ≤ f ∧ f ≤ t ∧ t ≤ 2400000)) ?_ (fun hk_2 => ?_)
    · refine ev_iconst (v := 1) d_M_fails_36 rfl ?_
      refine ev_v3r d_M_fails_37 q_8_116 rfl (mM_obj ok) ⟨rfl, Nat.le_of_ble_eq_true rfl, Nat.le_of_ble_eq_true rfl⟩ (c_M_goes ok _ _ _) ?_
      refine ev_if_eq (t := 57) d_M_fails_40 (by decide) (fun _ => ?_) (fun c_40 => absurd (xbi_f h) c_40)
      exact xEv.to (ev_ret d_M_fails_57 rfl) (by grind [upd, va_up, xbi])
    · refine ev_iload_n d_M_fails_16 rfl ?_
      refine ev_if_lt (t := 35) d_M_fails_17 (by decide) (fun c_17_3 => ?_) (fun c_17_3 => ?_)
      · refine ev_iconst (v := 0) d_M_fails_35 rfl ?_
        exact hk_2 _ (by rw [xbi_f (by grind)])
      · refine ev_iload_n d_M_fails_20 rfl ?_
        refine ev_iload_n d_M_fails_21 rfl ?_
        refine ev_icmp_gt (t := 35) d_M_fails_22 (by decide) (fun c_22_4 => ?_) (fun c_22_4 => ?_)
        · refine ev_iconst (v := 0) d_M_fails_35 rfl ?_
          exact hk_2 _ (by rw [xbi_f (by grind)])
        · refine ev_iload_n d_M_fails_25 rfl ?_
          refine ev_ldc d_M_fails_26 l_8_171 ?_
          refine ev_icmp_gt (t := 35) d_M_fails_28 (by decide) (fun c_28_5 => ?_) (fun c_28_5 => ?_)
          · refine ev_iconst (v := 0) d_M_fails_35 rfl ?_
            exact hk_2 _ (by rw [xbi_f (by grind)])
          · refine ev_iconst (v := 1) d_M_fails_31 rfl ?_
            refine ev_goto (t := 36) d_M_fails_32 (by decide) ?_
            exact hk_2 _ (by rw [xbi_t (by grind)])
  · refine ev_iload_n d_M_fails_1 rfl ?_
    refine ev_if_lt (t := 15) d_M_fails_2 (by decide) (fun c_2_6 => ?_) (fun c_2_6 => ?_)
    · refine ev_iconst (v := 0) d_M_fails_15 rfl ?_
      exact hk_1 _ (by rw [xbi_f (by grind)])
    · refine ev_iload_n d_M_fails_5 rfl ?_
      refine ev_bipush (v := 8) d_M_fails_6 rfl ?_
      refine ev_icmp_ge (t := 15) d_M_fails_8 (by decide) (fun c_8_7 => ?_) (fun c_8_7 => ?_)
      · refine ev_iconst (v := 0) d_M_fails_15 rfl ?_
        exact hk_1 _ (by rw [xbi_f (by grind)])
      · refine ev_iconst (v := 1) d_M_fails_11 rfl ?_
        refine ev_goto (t := 16) d_M_fails_12 (by decide) ?_
        exact hk_1 _ (by rw [xbi_t (by grind)])
set_option maxRecDepth 20000 in
theorem c_M_fails_ok {d : Nat} {B : xMm} {ad : Nat → Nat} {ix : Nat → Option Nat} {iv : Nat → Int32} {av : Nat → Nat → Int32} {ns : Nat × Nat} (ok : mOk ad ix) (f t : Int32) (n : Nat) (hn : n < 8) (h1 : 0 ≤ f) (h2 : f ≤ t) (h3 : t ≤ 2400000) : xCl (d + 1) k_M_fails [.ref (ad 0), .int (nI n), .int f, .int t] (mM B ad ix iv av, ns) (.inl none, (mM B ad ix (upd iv 0 0) (va_up (va_up av 21 (upd (av 21) n f)) 22 (upd (av 22) n t)), ns)) := by
  have h0n : 0 ≤ nI n := nI_pos' (by omega)
  have en : (nI n).toNatClampNeg = n := nI_clamp (by omega)
  have hn8 : nI n < 8 := nI_lt hn (by decide)
  show xEv _ k_M_fails 0 [some (.ref (ad 0)), some (.int (nI n)), some (.int f), some (.int t)] [] _ _
  refine ev_aload_n d_M_fails_0 rfl ?_
  refine ev_cutv (E := 16) (V := xbi (0 ≤ nI n ∧ nI n < 8)) ?_ (fun hk_1 => ?_)
  · refine ev_cutv (E := 36) (V := xbi (0 ≤ f ∧ f ≤ t ∧ t ≤ 2400000)) ?_ (fun hk_2 => ?_)
    · refine ev_iconst (v := 1) d_M_fails_36 rfl ?_
      refine ev_v3r d_M_fails_37 q_8_116 rfl (mM_obj ok) ⟨rfl, Nat.le_of_ble_eq_true rfl, Nat.le_of_ble_eq_true rfl⟩ (c_M_goes ok _ _ _) ?_
      refine ev_if_eq (t := 57) d_M_fails_40 (by decide) (fun c_40 => absurd c_40 (by grind [xbi, mgo])) (fun _ => ?_)
      refine ev_aload_n d_M_fails_43 rfl ?_
      refine ev_get d_M_fails_44 f_8_58 (mM_obj ok) rfl ?_
      refine ev_iload_n d_M_fails_47 rfl ?_
      refine ev_iload_n d_M_fails_48 rfl ?_
      refine ev_iast d_M_fails_49 (mM_arr ok 21 rfl) ⟨rfl, vp_in_nI hn (by decide)⟩ (mM_ast ok 21 rfl) ?_
      refine ev_aload_n d_M_fails_50 rfl ?_
      refine ev_get d_M_fails_51 f_8_61 (mM_obj ok) rfl ?_
      refine ev_iload_n d_M_fails_54 rfl ?_
      refine ev_iload_n d_M_fails_55 rfl ?_
      refine ev_iast d_M_fails_56 (mM_arr ok 22 rfl) ⟨rfl, vp_in_nI hn (by decide)⟩ (mM_ast ok 22 rfl) ?_
      exact xEv.to (ev_ret d_M_fails_57 rfl) (by grind [upd, va_up, xbi, mgo])
    · refine ev_iload_n d_M_fails_16 rfl ?_
      refine ev_if_lt (t := 35) d_M_fails_17 (by decide) (fun c_17_3 => ?_) (fun c_17_3 => ?_)
      · refine ev_iconst (v := 0) d_M_fails_35 rfl ?_
        exact hk_2 _ (by rw [xbi_f (by grind)])
      · refine ev_iload_n d_M_fails_20 rfl ?_
        refine ev_iload_n d_M_fails_21 rfl ?_
        refine ev_icmp_gt (t := 35) d_M_fails_22 (by decide) (fun c_22_4 => ?_) (fun c_22_4 => ?_)
        · refine ev_iconst (v := 0) d_M_fails_35 rfl ?_
          exact hk_2 _ (by rw [xbi_f (by grind)])
        · refine ev_iload_n d_M_fails_25 rfl ?_
          refine ev_ldc d_M_fails_26 l_8_171 ?_
          refine ev_icmp_gt (t := 35) d_M_fails_28 (by decide) (fun c_28_5 => ?_) (fun c_28_5 => ?_)
          · refine ev_iconst (v := 0) d_M_fails_35 rfl ?_
            exact hk_2 _ (by rw [xbi_f (by grind)])
          · refine ev_iconst (v := 1) d_M_fails_31 rfl ?_
            refine ev_goto (t := 36) d_M_fails_32 (by decide) ?_
            exact hk_2 _ (by rw [xbi_t (by grind)])
  · refine ev_iload_n d_M_fails_1 rfl ?_
    refine ev_if_lt (t := 15) d_M_fails_2 (by decide) (fun c_2_6 => ?_) (fun c_2_6 => ?_)
    · refine ev_iconst (v := 0) d_M_fails_15 rfl ?_
      exact hk_1 _ (by rw [xbi_f (by grind)])
    · refine ev_iload_n d_M_fails_5 rfl ?_
      refine ev_bipush (v := 8) d_M_fails_6 rfl ?_
      refine ev_icmp_ge (t := 15) d_M_fails_8 (by decide) (fun c_8_7 => ?_) (fun c_8_7 => ?_)
      · refine ev_iconst (v := 0) d_M_fails_15 rfl ?_
        exact hk_1 _ (by rw [xbi_f (by grind)])
      · refine ev_iconst (v := 1) d_M_fails_11 rfl ?_
        refine ev_goto (t := 16) d_M_fails_12 (by decide) ?_
        exact hk_1 _ (by rw [xbi_t (by grind)])
set_option maxRecDepth 20000 in
theorem c_M_shield_no {d : Nat} {B : xMm} {ad : Nat → Nat} {ix : Nat → Option Nat} {iv : Nat → Int32} {av : Nat → Nat → Int32} {ns : Nat × Nat} (ok : mOk ad ix) (l b : Int32) (h : ¬ (0 ≤ l ∧ l < iv 23)) : xCl (d + 1) k_M_shield [.ref (ad 0), .int l, .int b] (mM B ad ix iv av, ns) (.inl (some (.int 0)), (mM B ad ix (upd iv 0 1) (av), ns)) := by
  show xEv _ k_M_shield 0 [some (.ref (ad 0)), some (.int l), some (.int b), none] [] _ _
  refine ev_aload_n d_M_shield_0 rfl ?_
  refine ev_aload_n d_M_shield_1 rfl ?_
  refine ev_iload_n d_M_shield_2 rfl ?_
  refine ev_v1r d_M_shield_3 q_8_184 rfl (mM_obj ok) ⟨rfl, Nat.le_of_ble_eq_true rfl, Nat.le_of_ble_eq_true rfl⟩ (c_M_isLoan ok _) ?_
  refine ev_iconst (v := 1) d_M_shield_6 rfl ?_
  refine ev_iconst (v := 1) d_M_shield_7 rfl ?_
  refine ev_v3r d_M_shield_8 q_8_116 rfl (mM_obj ok) ⟨rfl, Nat.le_of_ble_eq_true rfl, Nat.le_of_ble_eq_true rfl⟩ (c_M_goes ok _ _ _) ?_
  refine ev_if_ne (t := 16) d_M_shield_11 (by decide) (fun c_11 => absurd (by grind [xbi, mgo]) c_11) (fun _ => ?_)
  refine ev_iconst (v := 0) d_M_shield_14 rfl ?_
  exact xEv.to (ev_zret d_M_shield_15 rfl (Or.inl rfl)) (by grind [upd, va_up, xbi, mgo])
set_option maxRecDepth 20000 in
theorem c_M_shield_ok {d : Nat} {B : xMm} {ad : Nat → Nat} {ix : Nat → Option Nat} {iv : Nat → Int32} {av : Nat → Nat → Int32} {ns : Nat × Nat} (ok : mOk ad ix) (b : Int32) (l : Nat) (hl : l < 20) (h : nI l < iv 23) (hb : b = 0 ∨ b = 1) : xCl (d + 1) k_M_shield [.ref (ad 0), .int (nI l), .int b] (mM B ad ix iv av, ns) (.inl (some (.int (xbi (av 28 l ≠ b)))), (mM B ad ix (upd iv 0 0) (va_up av 28 (upd (av 28) l b)), ns)) := by
  have h0l : 0 ≤ nI l := nI_pos' (by omega)
  have el : (nI l).toNatClampNeg = l := nI_clamp (by omega)
  have hb1 : b &&& 1 = b := by rcases hb with rfl | rfl <;> rfl
  show xEv _ k_M_shield 0 [some (.ref (ad 0)), some (.int (nI l)), some (.int b), none] [] _ _
  refine ev_aload_n d_M_shield_0 rfl ?_
  refine ev_aload_n d_M_shield_1 rfl ?_
  refine ev_iload_n d_M_shield_2 rfl ?_
  refine ev_v1r d_M_shield_3 q_8_184 rfl (mM_obj ok) ⟨rfl, Nat.le_of_ble_eq_true rfl, Nat.le_of_ble_eq_true rfl⟩ (c_M_isLoan ok _) ?_
  refine ev_iconst (v := 1) d_M_shield_6 rfl ?_
  refine ev_iconst (v := 1) d_M_shield_7 rfl ?_
  refine ev_v3r d_M_shield_8 q_8_116 rfl (mM_obj ok) ⟨rfl, Nat.le_of_ble_eq_true rfl, Nat.le_of_ble_eq_true rfl⟩ (c_M_goes ok _ _ _) ?_
  refine ev_if_ne (t := 16) d_M_shield_11 (by decide) (fun _ => ?_) (fun c_11 => absurd c_11 (by grind [xbi, mgo]))
  refine ev_aload_n d_M_shield_16 rfl ?_
  refine ev_get d_M_shield_17 f_8_76 (mM_obj ok) rfl ?_
  refine ev_iload_n d_M_shield_20 rfl ?_
  refine ev_zald d_M_shield_21 (mM_arr ok 28 rfl) ⟨rfl, vp_in_nI hl (by decide)⟩ rfl ?_
  refine ev_top (fun x_1 ex_1 => ?_)
  refine ev_istore_n (lo1 := [some (.ref (ad 0)), some (.int (nI l)), some (.int b), some (.int x_1)]) d_M_shield_22 (Nat.le_of_ble_eq_true rfl) rfl ?_
  refine ev_aload_n d_M_shield_23 rfl ?_
  refine ev_get d_M_shield_24 f_8_76 (mM_obj ok) rfl ?_
  refine ev_iload_n d_M_shield_27 rfl ?_
  refine ev_iload_n d_M_shield_28 rfl ?_
  refine ev_zast d_M_shield_29 (mM_arr ok 28 rfl) ⟨rfl, vp_in_nI hl (by decide)⟩ (mM_ast ok 28 rfl) ?_
  refine ev_iload_n d_M_shield_30 rfl ?_
  refine ev_iload_n d_M_shield_31 rfl ?_
  refine ev_icmp_eq (t := 39) d_M_shield_32 (by decide) (fun c_32_2 => ?_) (fun c_32_2 => ?_)
  · refine ev_iconst (v := 0) d_M_shield_39 rfl ?_
    exact xEv.to (ev_zret d_M_shield_40 rfl (Or.inl rfl)) (by grind [upd, va_up, xbi, mgo])
  · refine ev_iconst (v := 1) d_M_shield_35 rfl ?_
    refine ev_goto (t := 40) d_M_shield_36 (by decide) ?_
    exact xEv.to (ev_zret d_M_shield_40 rfl (Or.inr rfl)) (by grind [upd, va_up, xbi, mgo])
set_option maxRecDepth 20000 in
theorem c_M_request_no {d : Nat} {B : xMm} {ad : Nat → Nat} {ix : Nat → Option Nat} {iv : Nat → Int32} {av : Nat → Nat → Int32} {ns : Nat × Nat} (ok : mOk ad ix) (t f u : Int32) (h : mgo (xbi (0 ≤ t ∧ t < 16)) (xbi (iv 33 < 30)) (xbi (0 ≤ f ∧ f ≤ u ∧ u ≤ 100000)) ≠ 0) : xCl (d + 1) k_M_request [.ref (ad 0), .int t, .int f, .int u] (mM B ad ix iv av, ns) (.inl (some (.int 0)), (mM B ad ix (upd iv 0 (mgo (xbi (0 ≤ t ∧ t < 16)) (xbi (iv 33 < 30)) (xbi (0 ≤ f ∧ f ≤ u ∧ u ≤ 100000)))) (av), ns)) := by
  show xEv _ k_M_request 0 [some (.ref (ad 0)), some (.int t), some (.int f), some (.int u)] [] _ _
  refine ev_aload_n d_M_request_0 rfl ?_
  refine ev_iload_n d_M_request_1 rfl ?_
  refine ev_s1r d_M_request_2 q_8_173 rfl ⟨rfl, Nat.le_of_ble_eq_true rfl, Nat.le_of_ble_eq_true rfl⟩ (c_M_isThing _) ?_
  refine ev_cutv (E := 19) (V := xbi (iv 33 < 30)) ?_ (fun hk_1 => ?_)
  · refine ev_iload_n d_M_request_19 rfl ?_
    refine ev_iload_n d_M_request_20 rfl ?_
    refine ev_s2r d_M_request_21 q_8_176 rfl ⟨rfl, Nat.le_of_ble_eq_true rfl, Nat.le_of_ble_eq_true rfl⟩ (c_M_areDays _ _) ?_
    refine ev_v3r d_M_request_24 q_8_116 rfl (mM_obj ok) ⟨rfl, Nat.le_of_ble_eq_true rfl, Nat.le_of_ble_eq_true rfl⟩ (c_M_goes ok _ _ _) ?_
    refine ev_if_ne (t := 32) d_M_request_27 (by decide) (fun c_27 => absurd (xbi_f h) c_27) (fun _ => ?_)
    refine ev_iconst (v := 0) d_M_request_30 rfl ?_
    exact xEv.to (ev_iret d_M_request_31 rfl) (by grind [upd, va_up, xbi])
  · refine ev_aload_n d_M_request_5 rfl ?_
    refine ev_get d_M_request_6 f_8_196 (mM_obj ok) rfl ?_
    refine ev_bipush (v := 30) d_M_request_9 rfl ?_
    refine ev_icmp_ge (t := 18) d_M_request_11 (by decide) (fun c_11_2 => ?_) (fun c_11_2 => ?_)
    · refine ev_iconst (v := 0) d_M_request_18 rfl ?_
      exact hk_1 _ (by rw [xbi_f (by grind)])
    · refine ev_iconst (v := 1) d_M_request_14 rfl ?_
      refine ev_goto (t := 19) d_M_request_15 (by decide) ?_
      exact hk_1 _ (by rw [xbi_t (by grind)])
set_option maxRecDepth 20000 in
theorem c_M_request_ok {d : Nat} {B : xMm} {ad : Nat → Nat} {ix : Nat → Option Nat} {iv : Nat → Int32} {av : Nat → Nat → Int32} {ns : Nat × Nat} (ok : mOk ad ix) (t f u : Int32) (n : Nat) (hn : n < 30) (hi : iv 33 = nI n) (h1 : 0 ≤ t ∧ t < 16) (h3 : 0 ≤ f ∧ f ≤ u ∧ u ≤ 100000) : xCl (d + 1) k_M_request [.ref (ad 0), .int t, .int f, .int u] (mM B ad ix iv av, ns) (.inl (some (.int (nI n))), (mM B ad ix (upd (upd iv 0 0) 33 (nI (n + 1))) (va_up (va_up (va_up av 34 (upd (av 34) n t)) 35 (upd (av 35) n f)) 36 (upd (av 36) n u)), ns)) := by
  have h0n : 0 ≤ nI n := nI_pos' (by omega)
  have en : (nI n).toNatClampNeg = n := nI_clamp (by omega)
  have hn8 : iv 33 < 30 := by rw [hi]; exact nI_lt hn (by decide)
  have es : nI (n + 1) = nI n + 1 := nI_succ n
  have ep : nI n + 1 - 1 = nI n := by rw [← es]; exact nI_pred n
  show xEv _ k_M_request 0 [some (.ref (ad 0)), some (.int t), some (.int f), some (.int u)] [] _ _
  refine ev_aload_n d_M_request_0 rfl ?_
  refine ev_iload_n d_M_request_1 rfl ?_
  refine ev_s1r d_M_request_2 q_8_173 rfl ⟨rfl, Nat.le_of_ble_eq_true rfl, Nat.le_of_ble_eq_true rfl⟩ (c_M_isThing _) ?_
  refine ev_cutv (E := 19) (V := xbi (iv 33 < 30)) ?_ (fun hk_1 => ?_)
  · refine ev_iload_n d_M_request_19 rfl ?_
    refine ev_iload_n d_M_request_20 rfl ?_
    refine ev_s2r d_M_request_21 q_8_176 rfl ⟨rfl, Nat.le_of_ble_eq_true rfl, Nat.le_of_ble_eq_true rfl⟩ (c_M_areDays _ _) ?_
    refine ev_v3r d_M_request_24 q_8_116 rfl (mM_obj ok) ⟨rfl, Nat.le_of_ble_eq_true rfl, Nat.le_of_ble_eq_true rfl⟩ (c_M_goes ok _ _ _) ?_
    refine ev_if_ne (t := 32) d_M_request_27 (by decide) (fun _ => ?_) (fun c_27 => absurd c_27 (by grind [xbi, mgo]))
    refine ev_aload_n d_M_request_32 rfl ?_
    refine ev_get d_M_request_33 f_8_92 (mM_obj ok) rfl ?_
    refine ev_aload_n d_M_request_36 rfl ?_
    refine ev_get d_M_request_37 f_8_196 (mM_obj ok) rfl ?_
    refine ev_iload_n d_M_request_40 rfl ?_
    refine ev_iast d_M_request_41 (mM_arr ok 34 rfl) ⟨rfl, (by rw [show upd iv 0 _ 33 = nI n from by grind [upd]]; exact vp_in_nI hn (by decide))⟩ (mM_ast ok 34 rfl) ?_
    refine ev_aload_n d_M_request_42 rfl ?_
    refine ev_get d_M_request_43 f_8_95 (mM_obj ok) rfl ?_
    refine ev_aload_n d_M_request_46 rfl ?_
    refine ev_get d_M_request_47 f_8_196 (mM_obj ok) rfl ?_
    refine ev_iload_n d_M_request_50 rfl ?_
    refine ev_iast d_M_request_51 (mM_arr ok 35 rfl) ⟨rfl, (by rw [show upd iv 0 _ 33 = nI n from by grind [upd]]; exact vp_in_nI hn (by decide))⟩ (mM_ast ok 35 rfl) ?_
    refine ev_aload_n d_M_request_52 rfl ?_
    refine ev_get d_M_request_53 f_8_98 (mM_obj ok) rfl ?_
    refine ev_aload_n d_M_request_56 rfl ?_
    refine ev_get d_M_request_57 f_8_196 (mM_obj ok) rfl ?_
    refine ev_iload_n d_M_request_60 rfl ?_
    refine ev_iast d_M_request_61 (mM_arr ok 36 rfl) ⟨rfl, (by rw [show upd iv 0 _ 33 = nI n from by grind [upd]]; exact vp_in_nI hn (by decide))⟩ (mM_ast ok 36 rfl) ?_
    refine ev_aload_n d_M_request_62 rfl ?_
    refine ev_dup d_M_request_63 rfl ?_
    refine ev_get d_M_request_64 f_8_196 (mM_obj ok) rfl ?_
    refine ev_iconst (v := 1) d_M_request_67 rfl ?_
    refine ev_iadd d_M_request_68 ?_
    refine ev_put d_M_request_69 f_8_196 (mM_obj ok) ⟨Nat.le_of_ble_eq_true rfl, xfit_i rfl, Or.inl rfl⟩ (mM_put ok rfl) ?_
    refine ev_aload_n d_M_request_72 rfl ?_
    refine ev_get d_M_request_73 f_8_196 (mM_obj ok) rfl ?_
    refine ev_iconst (v := 1) d_M_request_76 rfl ?_
    refine ev_isub d_M_request_77 ?_
    exact xEv.to (ev_iret d_M_request_78 rfl) (by grind [upd, va_up, xbi, mgo])
  · refine ev_aload_n d_M_request_5 rfl ?_
    refine ev_get d_M_request_6 f_8_196 (mM_obj ok) rfl ?_
    refine ev_bipush (v := 30) d_M_request_9 rfl ?_
    refine ev_icmp_ge (t := 18) d_M_request_11 (by decide) (fun c_11_2 => ?_) (fun c_11_2 => ?_)
    · refine ev_iconst (v := 0) d_M_request_18 rfl ?_
      exact hk_1 _ (by rw [xbi_f (by grind)])
    · refine ev_iconst (v := 1) d_M_request_14 rfl ?_
      refine ev_goto (t := 19) d_M_request_15 (by decide) ?_
      exact hk_1 _ (by rw [xbi_t (by grind)])
set_option maxRecDepth 20000 in
theorem c_M_allDays {d : Nat} {B : xMm} {ad : Nat → Nat} {ix : Nat → Option Nat} {iv : Nat → Int32} {av : Nat → Nat → Int32} {ns : Nat × Nat} (ok : mOk ad ix) (l : Nat) (hl : l < 20) : xCl (d) k_M_allDays [.ref (ad 0), .int (nI l)] (mM B ad ix iv av, ns) (.inl (some (.int (av 27 l - av 26 l + 1))), (mM B ad ix (iv) (av), ns)) := by
  have h0l : 0 ≤ nI l := nI_pos' (by omega)
  have el : (nI l).toNatClampNeg = l := nI_clamp (by omega)
  show xEv _ k_M_allDays 0 [some (.ref (ad 0)), some (.int (nI l))] [] _ _
  refine ev_aload_n d_M_allDays_0 rfl ?_
  refine ev_get d_M_allDays_1 f_8_73 (mM_obj ok) rfl ?_
  refine ev_iload_n d_M_allDays_4 rfl ?_
  refine ev_iald d_M_allDays_5 (mM_arr ok 27 rfl) ⟨rfl, vp_in_nI hl (by decide)⟩ rfl ?_
  refine ev_aload_n d_M_allDays_6 rfl ?_
  refine ev_get d_M_allDays_7 f_8_70 (mM_obj ok) rfl ?_
  refine ev_iload_n d_M_allDays_10 rfl ?_
  refine ev_iald d_M_allDays_11 (mM_arr ok 26 rfl) ⟨rfl, vp_in_nI hl (by decide)⟩ rfl ?_
  refine ev_isub d_M_allDays_12 ?_
  refine ev_iconst (v := 1) d_M_allDays_13 rfl ?_
  refine ev_iadd d_M_allDays_14 ?_
  exact xEv.to (ev_iret d_M_allDays_15 rfl) (by grind [upd, va_up, xbi])
set_option maxRecDepth 20000 in
theorem c_M_days_no {d : Nat} {B : xMm} {ad : Nat → Nat} {ix : Nat → Option Nat} {iv : Nat → Int32} {av : Nat → Nat → Int32} {ns : Nat × Nat} (ok : mOk ad ix) (l : Int32) (h : ¬ (0 ≤ l ∧ l < iv 23)) : xCl (d + 1) k_M_days [.ref (ad 0), .int l] (mM B ad ix iv av, ns) (.inl (some (.int 0)), (mM B ad ix (upd iv 0 1) (av), ns)) := by
  show xEv _ k_M_days 0 [some (.ref (ad 0)), some (.int l)] [] _ _
  refine ev_aload_n d_M_days_0 rfl ?_
  refine ev_aload_n d_M_days_1 rfl ?_
  refine ev_iload_n d_M_days_2 rfl ?_
  refine ev_v1r d_M_days_3 q_8_184 rfl (mM_obj ok) ⟨rfl, Nat.le_of_ble_eq_true rfl, Nat.le_of_ble_eq_true rfl⟩ (c_M_isLoan ok _) ?_
  refine ev_iconst (v := 1) d_M_days_6 rfl ?_
  refine ev_iconst (v := 1) d_M_days_7 rfl ?_
  refine ev_v3r d_M_days_8 q_8_116 rfl (mM_obj ok) ⟨rfl, Nat.le_of_ble_eq_true rfl, Nat.le_of_ble_eq_true rfl⟩ (c_M_goes ok _ _ _) ?_
  refine ev_if_eq (t := 22) d_M_days_11 (by decide) (fun _ => ?_) (fun c_11 => absurd (by grind [xbi, mgo]) c_11)
  refine ev_iconst (v := 0) d_M_days_22 rfl ?_
  exact xEv.to (ev_iret d_M_days_23 rfl) (by grind [upd, va_up, xbi, mgo])
set_option maxRecDepth 20000 in
theorem c_M_days_ok {d : Nat} {B : xMm} {ad : Nat → Nat} {ix : Nat → Option Nat} {iv : Nat → Int32} {av : Nat → Nat → Int32} {ns : Nat × Nat} (ok : mOk ad ix) (l : Nat) (hl : l < 20) (h : nI l < iv 23) : xCl (d + 1) k_M_days [.ref (ad 0), .int (nI l)] (mM B ad ix iv av, ns) (.inl (some (.int (av 27 l - av 26 l + 1))), (mM B ad ix (upd iv 0 0) (av), ns)) := by
  have h0l : 0 ≤ nI l := nI_pos' (by omega)
  have el : (nI l).toNatClampNeg = l := nI_clamp (by omega)
  show xEv _ k_M_days 0 [some (.ref (ad 0)), some (.int (nI l))] [] _ _
  refine ev_aload_n d_M_days_0 rfl ?_
  refine ev_aload_n d_M_days_1 rfl ?_
  refine ev_iload_n d_M_days_2 rfl ?_
  refine ev_v1r d_M_days_3 q_8_184 rfl (mM_obj ok) ⟨rfl, Nat.le_of_ble_eq_true rfl, Nat.le_of_ble_eq_true rfl⟩ (c_M_isLoan ok _) ?_
  refine ev_iconst (v := 1) d_M_days_6 rfl ?_
  refine ev_iconst (v := 1) d_M_days_7 rfl ?_
  refine ev_v3r d_M_days_8 q_8_116 rfl (mM_obj ok) ⟨rfl, Nat.le_of_ble_eq_true rfl, Nat.le_of_ble_eq_true rfl⟩ (c_M_goes ok _ _ _) ?_
  refine ev_if_eq (t := 22) d_M_days_11 (by decide) (fun c_11 => absurd c_11 (by grind [xbi, mgo])) (fun _ => ?_)
  refine ev_aload_n d_M_days_14 rfl ?_
  refine ev_iload_n d_M_days_15 rfl ?_
  refine ev_v1r d_M_days_16 q_8_202 rfl (mM_obj ok) ⟨rfl, Nat.le_of_ble_eq_true rfl, Nat.le_of_ble_eq_true rfl⟩ (c_M_allDays ok _ hl) ?_
  refine ev_goto (t := 23) d_M_days_19 (by decide) ?_
  exact xEv.to (ev_iret d_M_days_23 rfl) (by grind [upd, va_up, xbi, mgo])
set_option maxRecDepth 20000 in
theorem c_M_allFee {d : Nat} {B : xMm} {ad : Nat → Nat} {ix : Nat → Option Nat} {iv : Nat → Int32} {av : Nat → Nat → Int32} {ns : Nat × Nat} (ok : mOk ad ix) (l : Nat) (c : Nat) (hl : l < 20) (hc : c < 8) (hlc : av 24 l = nI c) : xCl (d + 1) k_M_allFee [.ref (ad 0), .int (nI l)] (mM B ad ix iv av, ns) (.inl (some (.int (5 * (av 27 l - av 26 l + 1) + 20 * av 4 c + (if av 28 l = 0 then 300 else 0) + 50 * av 30 l))), (mM B ad ix (iv) (av), ns)) := by
  have h0l : 0 ≤ nI l := nI_pos' (by omega)
  have el : (nI l).toNatClampNeg = l := nI_clamp (by omega)
  have ec : (nI c).toNatClampNeg = c := nI_clamp (by omega)
  show xEv _ k_M_allFee 0 [some (.ref (ad 0)), some (.int (nI l))] [] _ _
  refine ev_iconst (v := 5) d_M_allFee_0 rfl ?_
  refine ev_aload_n d_M_allFee_1 rfl ?_
  refine ev_iload_n d_M_allFee_2 rfl ?_
  refine ev_v1r d_M_allFee_3 q_8_202 rfl (mM_obj ok) ⟨rfl, Nat.le_of_ble_eq_true rfl, Nat.le_of_ble_eq_true rfl⟩ (c_M_allDays ok _ hl) ?_
  refine ev_imul d_M_allFee_6 ?_
  refine ev_bipush (v := 20) d_M_allFee_7 rfl ?_
  refine ev_aload_n d_M_allFee_9 rfl ?_
  refine ev_get d_M_allFee_10 f_8_13 (mM_obj ok) rfl ?_
  refine ev_aload_n d_M_allFee_13 rfl ?_
  refine ev_get d_M_allFee_14 f_8_64 (mM_obj ok) rfl ?_
  refine ev_iload_n d_M_allFee_17 rfl ?_
  refine ev_iald d_M_allFee_18 (mM_arr ok 24 rfl) ⟨rfl, vp_in_nI hl (by decide)⟩ rfl ?_
  refine ev_iald d_M_allFee_19 (mM_arr ok 4 rfl) ⟨rfl, (by rw [el, hlc]; exact vp_in_nI hc (by decide))⟩ rfl ?_
  refine ev_imul d_M_allFee_20 ?_
  refine ev_iadd d_M_allFee_21 ?_
  refine ev_aload_n d_M_allFee_22 rfl ?_
  refine ev_get d_M_allFee_23 f_8_76 (mM_obj ok) rfl ?_
  refine ev_iload_n d_M_allFee_26 rfl ?_
  refine ev_zald d_M_allFee_27 (mM_arr ok 28 rfl) ⟨rfl, vp_in_nI hl (by decide)⟩ rfl ?_
  refine ev_if_eq (t := 35) d_M_allFee_28 (by decide) (fun c_28_1 => ?_) (fun c_28_1 => ?_)
  · refine ev_sipush (v := 300) d_M_allFee_35 rfl ?_
    refine ev_iadd d_M_allFee_38 ?_
    refine ev_bipush (v := 50) d_M_allFee_39 rfl ?_
    refine ev_aload_n d_M_allFee_41 rfl ?_
    refine ev_get d_M_allFee_42 f_8_83 (mM_obj ok) rfl ?_
    refine ev_iload_n d_M_allFee_45 rfl ?_
    refine ev_iald d_M_allFee_46 (mM_arr ok 30 rfl) ⟨rfl, vp_in_nI hl (by decide)⟩ rfl ?_
    refine ev_imul d_M_allFee_47 ?_
    refine ev_iadd d_M_allFee_48 ?_
    exact xEv.to (ev_iret d_M_allFee_49 rfl) (by grind [upd, va_up, xbi])
  · refine ev_iconst (v := 0) d_M_allFee_31 rfl ?_
    refine ev_goto (t := 38) d_M_allFee_32 (by decide) ?_
    refine ev_iadd d_M_allFee_38 ?_
    refine ev_bipush (v := 50) d_M_allFee_39 rfl ?_
    refine ev_aload_n d_M_allFee_41 rfl ?_
    refine ev_get d_M_allFee_42 f_8_83 (mM_obj ok) rfl ?_
    refine ev_iload_n d_M_allFee_45 rfl ?_
    refine ev_iald d_M_allFee_46 (mM_arr ok 30 rfl) ⟨rfl, vp_in_nI hl (by decide)⟩ rfl ?_
    refine ev_imul d_M_allFee_47 ?_
    refine ev_iadd d_M_allFee_48 ?_
    exact xEv.to (ev_iret d_M_allFee_49 rfl) (by grind [upd, va_up, xbi])
set_option maxRecDepth 20000 in
theorem c_M_fee_no {d : Nat} {B : xMm} {ad : Nat → Nat} {ix : Nat → Option Nat} {iv : Nat → Int32} {av : Nat → Nat → Int32} {ns : Nat × Nat} (ok : mOk ad ix) (l : Int32) (h : ¬ (0 ≤ l ∧ l < iv 23)) : xCl (d + 2) k_M_fee [.ref (ad 0), .int l] (mM B ad ix iv av, ns) (.inl (some (.int 0)), (mM B ad ix (upd iv 0 1) (av), ns)) := by
  show xEv _ k_M_fee 0 [some (.ref (ad 0)), some (.int l)] [] _ _
  refine ev_aload_n d_M_fee_0 rfl ?_
  refine ev_aload_n d_M_fee_1 rfl ?_
  refine ev_iload_n d_M_fee_2 rfl ?_
  refine ev_v1r d_M_fee_3 q_8_184 rfl (mM_obj ok) ⟨rfl, Nat.le_of_ble_eq_true rfl, Nat.le_of_ble_eq_true rfl⟩ (c_M_isLoan ok _) ?_
  refine ev_iconst (v := 1) d_M_fee_6 rfl ?_
  refine ev_iconst (v := 1) d_M_fee_7 rfl ?_
  refine ev_v3r d_M_fee_8 q_8_116 rfl (mM_obj ok) ⟨rfl, Nat.le_of_ble_eq_true rfl, Nat.le_of_ble_eq_true rfl⟩ (c_M_goes ok _ _ _) ?_
  refine ev_if_eq (t := 22) d_M_fee_11 (by decide) (fun _ => ?_) (fun c_11 => absurd (by grind [xbi, mgo]) c_11)
  refine ev_iconst (v := 0) d_M_fee_22 rfl ?_
  exact xEv.to (ev_iret d_M_fee_23 rfl) (by grind [upd, va_up, xbi, mgo])
set_option maxRecDepth 20000 in
theorem c_M_fee_ok {d : Nat} {B : xMm} {ad : Nat → Nat} {ix : Nat → Option Nat} {iv : Nat → Int32} {av : Nat → Nat → Int32} {ns : Nat × Nat} (ok : mOk ad ix) (l : Nat) (c : Nat) (hl : l < 20) (hc : c < 8) (hlc : av 24 l = nI c) (h : nI l < iv 23) : xCl (d + 2) k_M_fee [.ref (ad 0), .int (nI l)] (mM B ad ix iv av, ns) (.inl (some (.int (5 * (av 27 l - av 26 l + 1) + 20 * av 4 c + (if av 28 l = 0 then 300 else 0) + 50 * av 30 l))), (mM B ad ix (upd iv 0 0) (av), ns)) := by
  have h0l : 0 ≤ nI l := nI_pos' (by omega)
  have el : (nI l).toNatClampNeg = l := nI_clamp (by omega)
  show xEv _ k_M_fee 0 [some (.ref (ad 0)), some (.int (nI l))] [] _ _
  refine ev_aload_n d_M_fee_0 rfl ?_
  refine ev_aload_n d_M_fee_1 rfl ?_
  refine ev_iload_n d_M_fee_2 rfl ?_
  refine ev_v1r d_M_fee_3 q_8_184 rfl (mM_obj ok) ⟨rfl, Nat.le_of_ble_eq_true rfl, Nat.le_of_ble_eq_true rfl⟩ (c_M_isLoan ok _) ?_
  refine ev_iconst (v := 1) d_M_fee_6 rfl ?_
  refine ev_iconst (v := 1) d_M_fee_7 rfl ?_
  refine ev_v3r d_M_fee_8 q_8_116 rfl (mM_obj ok) ⟨rfl, Nat.le_of_ble_eq_true rfl, Nat.le_of_ble_eq_true rfl⟩ (c_M_goes ok _ _ _) ?_
  refine ev_if_eq (t := 22) d_M_fee_11 (by decide) (fun c_11 => absurd c_11 (by grind [xbi, mgo])) (fun _ => ?_)
  refine ev_aload_n d_M_fee_14 rfl ?_
  refine ev_iload_n d_M_fee_15 rfl ?_
  refine ev_v1r d_M_fee_16 q_8_206 rfl (mM_obj ok) ⟨rfl, Nat.le_of_ble_eq_true rfl, Nat.le_of_ble_eq_true rfl⟩ (c_M_allFee ok _ c hl hc hlc) ?_
  refine ev_goto (t := 23) d_M_fee_19 (by decide) ?_
  exact xEv.to (ev_iret d_M_fee_23 rfl) (by grind [upd, va_up, xbi, mgo])
set_option maxRecDepth 20000 in
theorem c_M_put {d : Nat} {B : xMm} {ad : Nat → Nat} {ix : Nat → Option Nat} {iv : Nat → Int32} {av : Nat → Nat → Int32} {ns : Nat × Nat} (ok : mOk ad ix) (s : Int32) (n : Nat) (hn : n < 400) (hi : iv 17 = nI n) : xCl (d) k_M_put [.ref (ad 0), .int s] (mM B ad ix iv av, ns) (.inl none, (mM B ad ix (upd iv 17 (nI (n + 1))) (va_up av 16 (upd (av 16) n s)), ns)) := by
  have h0n : 0 ≤ nI n := nI_pos' (by omega)
  have en : (nI n).toNatClampNeg = n := nI_clamp (by omega)
  have es : nI (n + 1) = nI n + 1 := nI_succ n
  show xEv _ k_M_put 0 [some (.ref (ad 0)), some (.int s)] [] _ _
  refine ev_aload_n d_M_put_0 rfl ?_
  refine ev_get d_M_put_1 f_8_46 (mM_obj ok) rfl ?_
  refine ev_aload_n d_M_put_4 rfl ?_
  refine ev_get d_M_put_5 f_8_149 (mM_obj ok) rfl ?_
  refine ev_iload_n d_M_put_8 rfl ?_
  refine ev_iast d_M_put_9 (mM_arr ok 16 rfl) ⟨rfl, (by rw [hi]; exact vp_in_nI hn (by decide))⟩ (mM_ast ok 16 rfl) ?_
  refine ev_aload_n d_M_put_10 rfl ?_
  refine ev_dup d_M_put_11 rfl ?_
  refine ev_get d_M_put_12 f_8_149 (mM_obj ok) rfl ?_
  refine ev_iconst (v := 1) d_M_put_15 rfl ?_
  refine ev_iadd d_M_put_16 ?_
  refine ev_put d_M_put_17 f_8_149 (mM_obj ok) ⟨Nat.le_of_ble_eq_true rfl, xfit_i rfl, Or.inl rfl⟩ (mM_put ok rfl) ?_
  exact xEv.to (ev_ret d_M_put_20 rfl) (by grind [upd, va_up, xbi])
end
section
/-! the reference's loops over loans, rows -/
def anyF (P : Nat → Bool) : Nat → Nat → Bool
  | 0, _ => false
  | n + 1, i => P i || anyF P n (i + 1)
def xb (b : Bool) : Int32 := if b then 1 else 0
theorem xb_t {b : Bool} (h : b = true) : xb b = 1 := by rw [h]; rfl
theorem xb_f {b : Bool} (h : b = false) : xb b = 0 := by rw [h]; rfl
theorem xb_01 (b : Bool) : xb b = 0 ∨ xb b = 1 := by cases b <;> simp [xb]
def mOut (av : Nat → Nat → Int32) (t f u b : Int32) (l : Nat) : Bool := decide (¬ nI l = b ∧ av 25 l = t ∧ av 26 l ≤ u ∧ f ≤ av 27 l)
set_option maxRecDepth 20000 in
theorem l_M_isOut {d : Nat} {B : xMm} {ad : Nat → Nat} {ix : Nat → Option Nat} {iv : Nat → Int32} {av : Nat → Nat → Int32} {ns : Nat × Nat} (ok : mOk ad ix) (t f u b : Int32) (ln : Nat) (hln : ln ≤ 20) (hi : iv 23 = nI ln) : ∀ n i : Nat, i + n = ln → xEv d k_M_isOut 3 [some (.ref (ad 0)), some (.int t), some (.int f), some (.int u), some (.int b), some (.int (nI i))] [] (mM B ad ix iv av, ns) (.inl (some (.int (xb (anyF (mOut av t f u b) n i)))), (mM B ad ix iv av, ns)) := by
  intro n
  induction n with
  | zero =>
    intro i hi0
    refine ev_iload d_M_isOut_3 rfl ?_
    refine ev_aload_n d_M_isOut_5 rfl ?_
    refine ev_get d_M_isOut_6 f_8_105 (mM_obj ok) rfl ?_
    refine ev_icmp_ge (t := 60) d_M_isOut_9 (by decide) (fun _ => ?_) (fun c_9 => absurd (by rw [hi, show i = ln by omega]; exact nI_le (Nat.le_refl _) (by omega)) c_9)
    refine ev_iconst (v := 0) d_M_isOut_60 rfl ?_
    exact xEv.to (ev_zret d_M_isOut_61 rfl (Or.inl rfl)) rfl
  | succ n ih =>
    intro i hi0
    have ei : (nI i).toNatClampNeg = i := nI_clamp (by omega)
    refine ev_iload d_M_isOut_3 rfl ?_
    refine ev_aload_n d_M_isOut_5 rfl ?_
    refine ev_get d_M_isOut_6 f_8_105 (mM_obj ok) rfl ?_
    refine ev_icmp_ge (t := 60) d_M_isOut_9 (by decide) (fun c_9 => absurd c_9 (by rw [hi]; exact nI_ge (by omega) (by omega))) (fun _ => ?_)
    refine ev_iload d_M_isOut_12 rfl ?_
    refine ev_iload d_M_isOut_14 rfl ?_
    refine ev_icmp_eq (t := 54) d_M_isOut_16 (by decide) (fun c_16_1 => ?_) (fun c_16_1 => ?_)
    · obtain ⟨x_2, ex_2⟩ : ∃ z : Int32, z = (nI i) + 1 := ⟨_, rfl⟩
      refine ev_iinc (v := x_2) (lo1 := [some (.ref (ad 0)), some (.int t), some (.int f), some (.int u), some (.int b), some (.int x_2)]) d_M_isOut_54 rfl (by rw [ex_2]; rfl) rfl ?_
      refine ev_goto (t := 3) d_M_isOut_57 (by decide) ?_
      rw [show x_2 = nI (i + 1) from by rw [ex_2, nI_succ]]
      exact xEv.to (ih (i + 1) (by omega)) (by grind [anyF, mOut])
    · refine ev_aload_n d_M_isOut_19 rfl ?_
      refine ev_get d_M_isOut_20 f_8_67 (mM_obj ok) rfl ?_
      refine ev_iload d_M_isOut_23 rfl ?_
      refine ev_iald d_M_isOut_25 (mM_arr ok 25 rfl) ⟨rfl, vp_in_nI (N := 20) (by omega) (by decide)⟩ rfl ?_
      refine ev_iload_n d_M_isOut_26 rfl ?_
      refine ev_icmp_ne (t := 54) d_M_isOut_27 (by decide) (fun c_27_3 => ?_) (fun c_27_3 => ?_)
      · obtain ⟨x_4, ex_4⟩ : ∃ z : Int32, z = (nI i) + 1 := ⟨_, rfl⟩
        refine ev_iinc (v := x_4) (lo1 := [some (.ref (ad 0)), some (.int t), some (.int f), some (.int u), some (.int b), some (.int x_4)]) d_M_isOut_54 rfl (by rw [ex_4]; rfl) rfl ?_
        refine ev_goto (t := 3) d_M_isOut_57 (by decide) ?_
        rw [show x_4 = nI (i + 1) from by rw [ex_4, nI_succ]]
        exact xEv.to (ih (i + 1) (by omega)) (by grind [anyF, mOut])
      · refine ev_aload_n d_M_isOut_30 rfl ?_
        refine ev_get d_M_isOut_31 f_8_70 (mM_obj ok) rfl ?_
        refine ev_iload d_M_isOut_34 rfl ?_
        refine ev_iald d_M_isOut_36 (mM_arr ok 26 rfl) ⟨rfl, vp_in_nI (N := 20) (by omega) (by decide)⟩ rfl ?_
        refine ev_iload_n d_M_isOut_37 rfl ?_
        refine ev_icmp_gt (t := 54) d_M_isOut_38 (by decide) (fun c_38_5 => ?_) (fun c_38_5 => ?_)
        · obtain ⟨x_6, ex_6⟩ : ∃ z : Int32, z = (nI i) + 1 := ⟨_, rfl⟩
          refine ev_iinc (v := x_6) (lo1 := [some (.ref (ad 0)), some (.int t), some (.int f), some (.int u), some (.int b), some (.int x_6)]) d_M_isOut_54 rfl (by rw [ex_6]; rfl) rfl ?_
          refine ev_goto (t := 3) d_M_isOut_57 (by decide) ?_
          rw [show x_6 = nI (i + 1) from by rw [ex_6, nI_succ]]
          exact xEv.to (ih (i + 1) (by omega)) (by grind [anyF, mOut])
        · refine ev_iload_n d_M_isOut_41 rfl ?_
          refine ev_aload_n d_M_isOut_42 rfl ?_
          refine ev_get d_M_isOut_43 f_8_73 (mM_obj ok) rfl ?_
          refine ev_iload d_M_isOut_46 rfl ?_
          refine ev_iald d_M_isOut_48 (mM_arr ok 27 rfl) ⟨rfl, vp_in_nI (N := 20) (by omega) (by decide)⟩ rfl ?_
          refine ev_icmp_gt (t := 54) d_M_isOut_49 (by decide) (fun c_49_7 => ?_) (fun c_49_7 => ?_)
          · obtain ⟨x_8, ex_8⟩ : ∃ z : Int32, z = (nI i) + 1 := ⟨_, rfl⟩
            refine ev_iinc (v := x_8) (lo1 := [some (.ref (ad 0)), some (.int t), some (.int f), some (.int u), some (.int b), some (.int x_8)]) d_M_isOut_54 rfl (by rw [ex_8]; rfl) rfl ?_
            refine ev_goto (t := 3) d_M_isOut_57 (by decide) ?_
            rw [show x_8 = nI (i + 1) from by rw [ex_8, nI_succ]]
            exact xEv.to (ih (i + 1) (by omega)) (by grind [anyF, mOut])
          · refine ev_iconst (v := 1) d_M_isOut_52 rfl ?_
            exact xEv.to (ev_zret d_M_isOut_53 rfl (Or.inr rfl)) (by grind [anyF, mOut, xb])
set_option maxRecDepth 20000 in
theorem c_M_isOut {d : Nat} {B : xMm} {ad : Nat → Nat} {ix : Nat → Option Nat} {iv : Nat → Int32} {av : Nat → Nat → Int32} {ns : Nat × Nat} (ok : mOk ad ix) (t f u b : Int32) (ln : Nat) (hln : ln ≤ 20) (hi : iv 23 = nI ln) : xCl d k_M_isOut [.ref (ad 0), .int t, .int f, .int u, .int b] (mM B ad ix iv av, ns) (.inl (some (.int (xb (anyF (mOut av t f u b) ln 0)))), (mM B ad ix iv av, ns)) := by
  show xEv _ k_M_isOut 0 [some (.ref (ad 0)), some (.int t), some (.int f), some (.int u), some (.int b), none] [] _ _
  refine ev_iconst (v := 0) d_M_isOut_0 rfl ?_
  refine ev_istore (lo1 := [some (.ref (ad 0)), some (.int t), some (.int f), some (.int u), some (.int b), some (.int 0)]) d_M_isOut_1 (Nat.le_of_ble_eq_true rfl) rfl ?_
  exact l_M_isOut ok t f u b ln hln hi ln 0 (by omega)
/-- the value of the last of the rows i .. that is not above the hour, v before them -/
def mVal (av : Nat → Nat → Int32) (k : Nat) (h : Int32) : Nat → Nat → Int32 → Int32
  | 0, _, v => v
  | n + 1, i, v => mVal av k h n (i + 1) (if av 19 (60 * k + i) ≤ h then av 20 (60 * k + i) else v)
def mValue (av : Nat → Nat → Int32) (k : Nat) (h : Int32) (n : Nat) : Int32 := if av 22 k ≠ -1 ∧ av 21 k ≤ h ∧ h ≤ av 22 k then -1 else mVal av k h n 0 (-1)
theorem nI60 (k i : Nat) : 60 * nI k + nI i = nI (60 * k + i) := by rw [show (60 : Int32) = nI 60 from rfl, pk_mul, nI_add]
theorem nI60z (k : Nat) : 60 * nI k = nI (60 * k) := by rw [show (60 : Int32) = nI 60 from rfl, pk_mul]
set_option maxRecDepth 20000 in
theorem l_M_valueAt {d : Nat} {B : xMm} {ad : Nat → Nat} {ix : Nat → Option Nat} {iv : Nat → Int32} {av : Nat → Nat → Int32} {ns : Nat × Nat} (ok : mOk ad ix) {r : xO × xS} (k : Nat) (h : Int32) (rn : Nat) (hk : k < 8) (hrn : rn ≤ 60) (hr : av 18 k = nI rn) (V : Int32) (hend : ∀ x : Int32, xEv (d + 1) k_M_valueAt 53 [some (.ref (ad 0)), some (.int (nI k)), some (.int h), some (.int V), some (.int x)] [] (mM B ad ix iv av, ns) r) : ∀ (n i : Nat) (v : Int32), i + n = rn → mVal av k h n i v = V → xEv (d + 1) k_M_valueAt 8 [some (.ref (ad 0)), some (.int (nI k)), some (.int h), some (.int v), some (.int (nI (60 * k + i)))] [] (mM B ad ix iv av, ns) r := by
  have ek : (nI k).toNatClampNeg = k := nI_clamp (by omega)
  intro n
  induction n with
  | zero =>
    intro i v hi0 hV
    have hV : v = V := hV
    subst hV
    refine ev_iload d_M_valueAt_8 rfl ?_
    refine ev_bipush (v := 60) d_M_valueAt_10 rfl ?_
    refine ev_iload_n d_M_valueAt_12 rfl ?_
    refine ev_imul d_M_valueAt_13 ?_
    refine ev_aload_n d_M_valueAt_14 rfl ?_
    refine ev_get d_M_valueAt_15 f_8_49 (mM_obj ok) rfl ?_
    refine ev_iload_n d_M_valueAt_18 rfl ?_
    refine ev_iald d_M_valueAt_19 (mM_arr ok 18 rfl) ⟨rfl, vp_in_nI hk (by decide)⟩ rfl ?_
    refine ev_iadd d_M_valueAt_20 ?_
    refine ev_icmp_ge (t := 53) d_M_valueAt_21 (by decide) (fun _ => ?_) (fun c_21 => absurd (by rw [ek, hr, nI60, show i = rn by omega]; exact nI_le (Nat.le_refl _) (by omega)) c_21)
    exact hend _
  | succ n ih =>
    intro i v hi0 hV
    have ei : (nI (60 * k + i)).toNatClampNeg = 60 * k + i := nI_clamp (by omega)
    refine ev_iload d_M_valueAt_8 rfl ?_
    refine ev_bipush (v := 60) d_M_valueAt_10 rfl ?_
    refine ev_iload_n d_M_valueAt_12 rfl ?_
    refine ev_imul d_M_valueAt_13 ?_
    refine ev_aload_n d_M_valueAt_14 rfl ?_
    refine ev_get d_M_valueAt_15 f_8_49 (mM_obj ok) rfl ?_
    refine ev_iload_n d_M_valueAt_18 rfl ?_
    refine ev_iald d_M_valueAt_19 (mM_arr ok 18 rfl) ⟨rfl, vp_in_nI hk (by decide)⟩ rfl ?_
    refine ev_iadd d_M_valueAt_20 ?_
    refine ev_icmp_ge (t := 53) d_M_valueAt_21 (by decide) (fun c_21 => absurd c_21 (by rw [ek, hr, nI60]; exact nI_ge (by omega) (by omega))) (fun _ => ?_)
    refine ev_cutv (E := 46) (V := if av 19 (60 * k + i) ≤ h then av 20 (60 * k + i) else v) ?_ (fun hk_1 => ?_)
    · refine ev_top (fun x_2 ex_2 => ?_)
      refine ev_istore_n (lo1 := [some (.ref (ad 0)), some (.int (nI k)), some (.int h), some (.int x_2), some (.int (nI (60 * k + i)))]) d_M_valueAt_46 (Nat.le_of_ble_eq_true rfl) rfl ?_
      obtain ⟨x_3, ex_3⟩ : ∃ z : Int32, z = (nI (60 * k + i)) + 1 := ⟨_, rfl⟩
      refine ev_iinc (v := x_3) (lo1 := [some (.ref (ad 0)), some (.int (nI k)), some (.int h), some (.int x_2), some (.int x_3)]) d_M_valueAt_47 rfl (by rw [ex_3]; rfl) rfl ?_
      refine ev_goto (t := 8) d_M_valueAt_50 (by decide) ?_
      rw [show x_3 = nI (60 * k + (i + 1)) from by rw [ex_3, ← Nat.add_assoc, nI_succ]]
      exact ih (i + 1) _ (by omega) (by rw [← hV]; grind [mVal])
    · refine ev_aload_n d_M_valueAt_24 rfl ?_
      refine ev_get d_M_valueAt_25 f_8_52 (mM_obj ok) rfl ?_
      refine ev_iload d_M_valueAt_28 rfl ?_
      refine ev_iald d_M_valueAt_30 (mM_arr ok 19 rfl) ⟨rfl, vp_in_nI (N := 480) (by omega) (by decide)⟩ rfl ?_
      refine ev_iload_n d_M_valueAt_31 rfl ?_
      refine ev_icmp_gt (t := 45) d_M_valueAt_32 (by decide) (fun c_32_4 => ?_) (fun c_32_4 => ?_)
      · refine ev_iload_n d_M_valueAt_45 rfl ?_
        exact hk_1 _ (by grind)
      · refine ev_aload_n d_M_valueAt_35 rfl ?_
        refine ev_get d_M_valueAt_36 f_8_55 (mM_obj ok) rfl ?_
        refine ev_iload d_M_valueAt_39 rfl ?_
        refine ev_iald d_M_valueAt_41 (mM_arr ok 20 rfl) ⟨rfl, vp_in_nI (N := 480) (by omega) (by decide)⟩ rfl ?_
        refine ev_goto (t := 46) d_M_valueAt_42 (by decide) ?_
        exact hk_1 _ (by grind)
set_option maxRecDepth 20000 in
theorem c_M_valueAt {d : Nat} {B : xMm} {ad : Nat → Nat} {ix : Nat → Option Nat} {iv : Nat → Int32} {av : Nat → Nat → Int32} {ns : Nat × Nat} (ok : mOk ad ix) (k : Nat) (h : Int32) (rn : Nat) (hk : k < 8) (hrn : rn ≤ 60) (hr : av 18 k = nI rn) : xCl (d + 1) k_M_valueAt [.ref (ad 0), .int (nI k), .int h] (mM B ad ix iv av, ns) (.inl (some (.int (mValue av k h rn))), (mM B ad ix iv av, ns)) := by
  have ek : (nI k).toNatClampNeg = k := nI_clamp (by omega)
  show xEv _ k_M_valueAt 0 [some (.ref (ad 0)), some (.int (nI k)), some (.int h), none, none] [] _ _
  refine ev_iconst (v := (-1)) d_M_valueAt_0 rfl ?_
  refine ev_istore_n (lo1 := [some (.ref (ad 0)), some (.int (nI k)), some (.int h), some (.int (-1)), none]) d_M_valueAt_1 (Nat.le_of_ble_eq_true rfl) rfl ?_
  refine ev_bipush (v := 60) d_M_valueAt_2 rfl ?_
  refine ev_iload_n d_M_valueAt_4 rfl ?_
  refine ev_imul d_M_valueAt_5 ?_
  refine ev_top (fun x_1 ex_1 => ?_)
  refine ev_istore (lo1 := [some (.ref (ad 0)), some (.int (nI k)), some (.int h), some (.int (-1)), some (.int x_1)]) d_M_valueAt_6 (Nat.le_of_ble_eq_true rfl) rfl ?_
  rw [show x_1 = nI (60 * k + 0) from by rw [ex_1, nI60z, Nat.add_zero]]
  refine l_M_valueAt ok k h rn hk hrn hr _ (fun x => ?_) rn 0 (-1) (by omega) rfl
  refine ev_aload_n d_M_valueAt_53 rfl ?_
  refine ev_get d_M_valueAt_54 f_8_61 (mM_obj ok) rfl ?_
  refine ev_iload_n d_M_valueAt_57 rfl ?_
  refine ev_iald d_M_valueAt_58 (mM_arr ok 22 rfl) ⟨rfl, vp_in_nI hk (by decide)⟩ rfl ?_
  refine ev_iconst (v := (-1)) d_M_valueAt_59 rfl ?_
  refine ev_icmp_eq (t := 86) d_M_valueAt_60 (by decide) (fun c_60_1 => ?_) (fun c_60_1 => ?_)
  · refine ev_iload_n d_M_valueAt_86 rfl ?_
    exact xEv.to (ev_iret d_M_valueAt_87 rfl) (by grind [mVal, mValue, xbi])
  · refine ev_iload_n d_M_valueAt_63 rfl ?_
    refine ev_aload_n d_M_valueAt_64 rfl ?_
    refine ev_get d_M_valueAt_65 f_8_58 (mM_obj ok) rfl ?_
    refine ev_iload_n d_M_valueAt_68 rfl ?_
    refine ev_iald d_M_valueAt_69 (mM_arr ok 21 rfl) ⟨rfl, vp_in_nI hk (by decide)⟩ rfl ?_
    refine ev_aload_n d_M_valueAt_70 rfl ?_
    refine ev_get d_M_valueAt_71 f_8_61 (mM_obj ok) rfl ?_
    refine ev_iload_n d_M_valueAt_74 rfl ?_
    refine ev_iald d_M_valueAt_75 (mM_arr ok 22 rfl) ⟨rfl, vp_in_nI hk (by decide)⟩ rfl ?_
    refine ev_s3r d_M_valueAt_76 q_8_112 rfl ⟨rfl, Nat.le_of_ble_eq_true rfl, Nat.le_of_ble_eq_true rfl⟩ (c_M_within _ _ _) ?_
    refine ev_if_eq (t := 86) d_M_valueAt_79 (by decide) (fun c_79_2 => ?_) (fun c_79_2 => ?_)
    · refine ev_iload_n d_M_valueAt_86 rfl ?_
      exact xEv.to (ev_iret d_M_valueAt_87 rfl) (by grind [mVal, mValue, xbi])
    · refine ev_iconst (v := (-1)) d_M_valueAt_82 rfl ?_
      refine ev_goto (t := 87) d_M_valueAt_83 (by decide) ?_
      exact xEv.to (ev_iret d_M_valueAt_87 rfl) (by grind [mVal, mValue, xbi])
def mSum (av : Nat → Nat → Int32) : Nat → Nat → Int32 → Int32
  | 0, _, s => s
  | n + 1, i, s => mSum av n (i + 1) (s + av 18 i)
set_option maxRecDepth 20000 in
theorem l_M_count {d : Nat} {B : xMm} {ad : Nat → Nat} {ix : Nat → Option Nat} {iv : Nat → Int32} {av : Nat → Nat → Int32} {ns : Nat × Nat} (ok : mOk ad ix) {r : xO × xS} (w V : Int32) (hend : ∀ x : Int32, xEv d k_M_count 42 [some (.ref (ad 0)), some (.int w), some (.int V), some (.int x)] [] (mM B ad ix iv av, ns) r) : ∀ (n i : Nat) (s : Int32), i + n = 8 → mSum av n i s = V → xEv d k_M_count 21 [some (.ref (ad 0)), some (.int w), some (.int s), some (.int (nI i))] [] (mM B ad ix iv av, ns) r := by
  intro n
  induction n with
  | zero =>
    intro i s hi0 hV
    have hV : s = V := hV
    subst hV
    refine ev_iload_n d_M_count_21 rfl ?_
    refine ev_bipush (v := 8) d_M_count_22 rfl ?_
    refine ev_icmp_ge (t := 42) d_M_count_24 (by decide) (fun _ => ?_) (fun c_24 => absurd (nI_le (a := 8) (b := i) (by omega) (by omega)) c_24)
    exact hend _
  | succ n ih =>
    intro i s hi0 hV
    have ei : (nI i).toNatClampNeg = i := nI_clamp (by omega)
    refine ev_iload_n d_M_count_21 rfl ?_
    refine ev_bipush (v := 8) d_M_count_22 rfl ?_
    refine ev_icmp_ge (t := 42) d_M_count_24 (by decide) (fun c_24 => absurd c_24 (nI_ge (a := i) (b := 8) (by omega) (by decide))) (fun _ => ?_)
    refine ev_iload_n d_M_count_27 rfl ?_
    refine ev_aload_n d_M_count_28 rfl ?_
    refine ev_get d_M_count_29 f_8_49 (mM_obj ok) rfl ?_
    refine ev_iload_n d_M_count_32 rfl ?_
    refine ev_iald d_M_count_33 (mM_arr ok 18 rfl) ⟨rfl, vp_in_nI (N := 8) (by omega) (by decide)⟩ rfl ?_
    refine ev_iadd d_M_count_34 ?_
    refine ev_top (fun x_1 ex_1 => ?_)
    refine ev_istore_n (lo1 := [some (.ref (ad 0)), some (.int w), some (.int x_1), some (.int (nI i))]) d_M_count_35 (Nat.le_of_ble_eq_true rfl) rfl ?_
    obtain ⟨x_2, ex_2⟩ : ∃ z : Int32, z = (nI i) + 1 := ⟨_, rfl⟩
    refine ev_iinc (v := x_2) (lo1 := [some (.ref (ad 0)), some (.int w), some (.int x_1), some (.int x_2)]) d_M_count_36 rfl (by rw [ex_2]; rfl) rfl ?_
    refine ev_goto (t := 21) d_M_count_39 (by decide) ?_
    rw [show x_2 = nI (i + 1) from by rw [ex_2, nI_succ]]
    exact ih (i + 1) _ (by omega) (by rw [← hV]; grind [mSum])
set_option maxRecDepth 20000 in
theorem c_M_count_no {d : Nat} {B : xMm} {ad : Nat → Nat} {ix : Nat → Option Nat} {iv : Nat → Int32} {av : Nat → Nat → Int32} {ns : Nat × Nat} (ok : mOk ad ix) (w : Int32) (h : mgo (xbi (0 ≤ w ∧ w ≤ 4)) 1 1 ≠ 0) : xCl (d + 1) k_M_count [.ref (ad 0), .int w] (mM B ad ix iv av, ns) (.inl (some (.int 0)), (mM B ad ix (upd iv 0 (mgo (xbi (0 ≤ w ∧ w ≤ 4)) 1 1)) av, ns)) := by
  show xEv _ k_M_count 0 [some (.ref (ad 0)), some (.int w), none, none] [] _ _
  refine ev_aload_n d_M_count_0 rfl ?_
  refine ev_iload_n d_M_count_1 rfl ?_
  refine ev_iconst (v := 0) d_M_count_2 rfl ?_
  refine ev_iconst (v := 4) d_M_count_3 rfl ?_
  refine ev_s3r d_M_count_4 q_8_112 rfl ⟨rfl, Nat.le_of_ble_eq_true rfl, Nat.le_of_ble_eq_true rfl⟩ (c_M_within _ _ _) ?_
  refine ev_iconst (v := 1) d_M_count_7 rfl ?_
  refine ev_iconst (v := 1) d_M_count_8 rfl ?_
  refine ev_v3r d_M_count_9 q_8_116 rfl (mM_obj ok) ⟨rfl, Nat.le_of_ble_eq_true rfl, Nat.le_of_ble_eq_true rfl⟩ (c_M_goes ok _ _ _) ?_
  refine ev_if_ne (t := 17) d_M_count_12 (by decide) (fun c_12 => absurd (xbi_f h) c_12) (fun _ => ?_)
  refine ev_iconst (v := 0) d_M_count_15 rfl ?_
  exact xEv.to (ev_iret d_M_count_16 rfl) (by grind [upd])
set_option maxRecDepth 20000 in
theorem c_M_count_ok {d : Nat} {B : xMm} {ad : Nat → Nat} {ix : Nat → Option Nat} {iv : Nat → Int32} {av : Nat → Nat → Int32} {ns : Nat × Nat} (ok : mOk ad ix) (w : Int32) (h : mgo (xbi (0 ≤ w ∧ w ≤ 4)) 1 1 = 0) : xCl (d + 1) k_M_count [.ref (ad 0), .int w] (mM B ad ix iv av, ns) (.inl (some (.int (if w = 0 then iv 1 else if w = 1 then iv 3 else if w = 2 then iv 23 else if w = 3 then iv 33 else mSum av 8 0 0))), (mM B ad ix (upd iv 0 0) av, ns)) := by
  show xEv _ k_M_count 0 [some (.ref (ad 0)), some (.int w), none, none] [] _ _
  refine ev_aload_n d_M_count_0 rfl ?_
  refine ev_iload_n d_M_count_1 rfl ?_
  refine ev_iconst (v := 0) d_M_count_2 rfl ?_
  refine ev_iconst (v := 4) d_M_count_3 rfl ?_
  refine ev_s3r d_M_count_4 q_8_112 rfl ⟨rfl, Nat.le_of_ble_eq_true rfl, Nat.le_of_ble_eq_true rfl⟩ (c_M_within _ _ _) ?_
  refine ev_iconst (v := 1) d_M_count_7 rfl ?_
  refine ev_iconst (v := 1) d_M_count_8 rfl ?_
  refine ev_v3r d_M_count_9 q_8_116 rfl (mM_obj ok) ⟨rfl, Nat.le_of_ble_eq_true rfl, Nat.le_of_ble_eq_true rfl⟩ (c_M_goes ok _ _ _) ?_
  refine ev_if_ne (t := 17) d_M_count_12 (by decide) (fun _ => ?_) (fun c_12 => absurd c_12 (by rw [h]; decide))
  refine ev_iconst (v := 0) d_M_count_17 rfl ?_
  refine ev_istore_n (lo1 := [some (.ref (ad 0)), some (.int w), some (.int 0), none]) d_M_count_18 (Nat.le_of_ble_eq_true rfl) rfl ?_
  refine ev_iconst (v := 0) d_M_count_19 rfl ?_
  refine ev_istore_n (lo1 := [some (.ref (ad 0)), some (.int w), some (.int 0), some (.int 0)]) d_M_count_20 (Nat.le_of_ble_eq_true rfl) rfl ?_
  refine l_M_count ok w _ (fun x => ?_) 8 0 0 rfl rfl
  refine ev_iload_n d_M_count_42 rfl ?_
  refine ev_if_ne (t := 53) d_M_count_43 (by decide) (fun c_43_1 => ?_) (fun c_43_1 => ?_)
  · refine ev_iload_n d_M_count_53 rfl ?_
    refine ev_iconst (v := 1) d_M_count_54 rfl ?_
    refine ev_icmp_ne (t := 65) d_M_count_55 (by decide) (fun c_55_2 => ?_) (fun c_55_2 => ?_)
    · refine ev_iload_n d_M_count_65 rfl ?_
      refine ev_iconst (v := 2) d_M_count_66 rfl ?_
      refine ev_icmp_ne (t := 77) d_M_count_67 (by decide) (fun c_67_3 => ?_) (fun c_67_3 => ?_)
      · refine ev_iload_n d_M_count_77 rfl ?_
        refine ev_iconst (v := 3) d_M_count_78 rfl ?_
        refine ev_icmp_ne (t := 89) d_M_count_79 (by decide) (fun c_79_4 => ?_) (fun c_79_4 => ?_)
        · refine ev_iload_n d_M_count_89 rfl ?_
          exact xEv.to (ev_iret d_M_count_90 rfl) (by grind [upd, mgo, xbi])
        · refine ev_aload_n d_M_count_82 rfl ?_
          refine ev_get d_M_count_83 f_8_196 (mM_obj ok) rfl ?_
          refine ev_goto (t := 90) d_M_count_86 (by decide) ?_
          exact xEv.to (ev_iret d_M_count_90 rfl) (by grind [upd, mgo, xbi])
      · refine ev_aload_n d_M_count_70 rfl ?_
        refine ev_get d_M_count_71 f_8_105 (mM_obj ok) rfl ?_
        refine ev_goto (t := 90) d_M_count_74 (by decide) ?_
        exact xEv.to (ev_iret d_M_count_90 rfl) (by grind [upd, mgo, xbi])
    · refine ev_aload_n d_M_count_58 rfl ?_
      refine ev_get d_M_count_59 f_8_135 (mM_obj ok) rfl ?_
      refine ev_goto (t := 90) d_M_count_62 (by decide) ?_
      exact xEv.to (ev_iret d_M_count_90 rfl) (by grind [upd, mgo, xbi])
  · refine ev_aload_n d_M_count_46 rfl ?_
    refine ev_get d_M_count_47 f_8_109 (mM_obj ok) rfl ?_
    refine ev_goto (t := 90) d_M_count_50 (by decide) ?_
    exact xEv.to (ev_iret d_M_count_90 rfl) (by grind [upd, mgo, xbi])
end
section
/-! the reference: loans, extensions, what was told, inputs -/
theorem xb_ne0 {b : Bool} : ¬ xb b = 0 ↔ b = true := by cases b <;> simp [xb]
theorem xb_eq0 {b : Bool} : xb b = 0 ↔ b = false := by cases b <;> simp [xb]
theorem nI100 (k i : Nat) : 100 * nI k + nI i = nI (100 * k + i) := by rw [show (100 : Int32) = nI 100 from rfl, pk_mul, nI_add]
theorem nI6 (k i : Nat) : 6 * nI k + nI i = nI (6 * k + i) := by rw [show (6 : Int32) = nI 6 from rfl, pk_mul, nI_add]
theorem nI160 (k i : Nat) : 160 * nI k + nI i = nI (160 * k + i) := by rw [show (160 : Int32) = nI 160 from rfl, pk_mul, nI_add]
set_option maxRecDepth 20000 in
theorem c_M_loan_no {d : Nat} {B : xMm} {ad : Nat → Nat} {ix : Nat → Option Nat} {iv : Nat → Int32} {av : Nat → Nat → Int32} {ns : Nat × Nat} (ok : mOk ad ix) (c t f u : Int32) (h : mgo (xbi ((0 ≤ c ∧ c < iv 3) ∧ 0 ≤ t ∧ t < 16)) (xbi (iv 23 < 20)) (xbi (0 ≤ f ∧ f ≤ u ∧ u ≤ 100000)) ≠ 0) : xCl (d + 1) k_M_loan [.ref (ad 0), .int c, .int t, .int f, .int u] (mM B ad ix iv av, ns) (.inl (some (.int 0)), (mM B ad ix (upd iv 0 (mgo (xbi ((0 ≤ c ∧ c < iv 3) ∧ 0 ≤ t ∧ t < 16)) (xbi (iv 23 < 20)) (xbi (0 ≤ f ∧ f ≤ u ∧ u ≤ 100000)))) (av), ns)) := by
  show xEv _ k_M_loan 0 [some (.ref (ad 0)), some (.int c), some (.int t), some (.int f), some (.int u)] [] _ _
  refine ev_aload_n d_M_loan_0 rfl ?_
  refine ev_cutv (E := 21) (V := xbi ((0 ≤ c ∧ c < iv 3) ∧ 0 ≤ t ∧ t < 16)) ?_ (fun hk_1 => ?_)
  · refine ev_cutv (E := 35) (V := xbi (iv 23 < 20)) ?_ (fun hk_2 => ?_)
    · refine ev_iload_n d_M_loan_35 rfl ?_
      refine ev_iload d_M_loan_36 rfl ?_
      refine ev_s2r d_M_loan_38 q_8_176 rfl ⟨rfl, Nat.le_of_ble_eq_true rfl, Nat.le_of_ble_eq_true rfl⟩ (c_M_areDays _ _) ?_
      refine ev_v3r d_M_loan_41 q_8_116 rfl (mM_obj ok) ⟨rfl, Nat.le_of_ble_eq_true rfl, Nat.le_of_ble_eq_true rfl⟩ (c_M_goes ok _ _ _) ?_
      refine ev_if_ne (t := 49) d_M_loan_44 (by decide) (fun c_44 => absurd (xbi_f h) c_44) (fun _ => ?_)
      refine ev_iconst (v := 0) d_M_loan_47 rfl ?_
      exact xEv.to (ev_iret d_M_loan_48 rfl) (by grind [upd, va_up, xbi])
    · refine ev_aload_n d_M_loan_21 rfl ?_
      refine ev_get d_M_loan_22 f_8_105 (mM_obj ok) rfl ?_
      refine ev_bipush (v := 20) d_M_loan_25 rfl ?_
      refine ev_icmp_ge (t := 34) d_M_loan_27 (by decide) (fun c_27_3 => ?_) (fun c_27_3 => ?_)
      · refine ev_iconst (v := 0) d_M_loan_34 rfl ?_
        exact hk_2 _ (by rw [xbi_f (by grind)])
      · refine ev_iconst (v := 1) d_M_loan_30 rfl ?_
        refine ev_goto (t := 35) d_M_loan_31 (by decide) ?_
        exact hk_2 _ (by rw [xbi_t (by grind)])
  · refine ev_aload_n d_M_loan_1 rfl ?_
    refine ev_iload_n d_M_loan_2 rfl ?_
    refine ev_v1r d_M_loan_3 q_8_146 rfl (mM_obj ok) ⟨rfl, Nat.le_of_ble_eq_true rfl, Nat.le_of_ble_eq_true rfl⟩ (c_M_isContract ok _) ?_
    refine ev_if_eq (t := 20) d_M_loan_6 (by decide) (fun c_6_4 => ?_) (fun c_6_4 => ?_)
    · refine ev_iconst (v := 0) d_M_loan_20 rfl ?_
      exact hk_1 _ (by grind [xbi])
    · refine ev_iload_n d_M_loan_9 rfl ?_
      refine ev_s1r d_M_loan_10 q_8_173 rfl ⟨rfl, Nat.le_of_ble_eq_true rfl, Nat.le_of_ble_eq_true rfl⟩ (c_M_isThing _) ?_
      refine ev_if_eq (t := 20) d_M_loan_13 (by decide) (fun c_13_5 => ?_) (fun c_13_5 => ?_)
      · refine ev_iconst (v := 0) d_M_loan_20 rfl ?_
        exact hk_1 _ (by grind [xbi])
      · refine ev_iconst (v := 1) d_M_loan_16 rfl ?_
        refine ev_goto (t := 21) d_M_loan_17 (by decide) ?_
        exact hk_1 _ (by grind [xbi])
set_option maxRecDepth 20000 in
theorem c_M_loan_out {d : Nat} {B : xMm} {ad : Nat → Nat} {ix : Nat → Option Nat} {iv : Nat → Int32} {av : Nat → Nat → Int32} {ns : Nat × Nat} (ok : mOk ad ix) (c t f u : Int32) (ln : Nat) (hln : ln ≤ 20) (hi : iv 23 = nI ln) (h : mgo (xbi ((0 ≤ c ∧ c < iv 3) ∧ 0 ≤ t ∧ t < 16)) (xbi (iv 23 < 20)) (xbi (0 ≤ f ∧ f ≤ u ∧ u ≤ 100000)) = 0) (ho : anyF (mOut av t f u (-1)) ln 0 = true) : xCl (d + 1) k_M_loan [.ref (ad 0), .int c, .int t, .int f, .int u] (mM B ad ix iv av, ns) (.inl (some (.int (-1))), (mM B ad ix (upd iv 0 0) (av), ns)) := by
  show xEv _ k_M_loan 0 [some (.ref (ad 0)), some (.int c), some (.int t), some (.int f), some (.int u)] [] _ _
  refine ev_aload_n d_M_loan_0 rfl ?_
  refine ev_cutv (E := 21) (V := xbi ((0 ≤ c ∧ c < iv 3) ∧ 0 ≤ t ∧ t < 16)) ?_ (fun hk_1 => ?_)
  · refine ev_cutv (E := 35) (V := xbi (iv 23 < 20)) ?_ (fun hk_2 => ?_)
    · refine ev_iload_n d_M_loan_35 rfl ?_
      refine ev_iload d_M_loan_36 rfl ?_
      refine ev_s2r d_M_loan_38 q_8_176 rfl ⟨rfl, Nat.le_of_ble_eq_true rfl, Nat.le_of_ble_eq_true rfl⟩ (c_M_areDays _ _) ?_
      refine ev_v3r d_M_loan_41 q_8_116 rfl (mM_obj ok) ⟨rfl, Nat.le_of_ble_eq_true rfl, Nat.le_of_ble_eq_true rfl⟩ (c_M_goes ok _ _ _) ?_
      refine ev_if_ne (t := 49) d_M_loan_44 (by decide) (fun _ => ?_) (fun c_44 => absurd c_44 (by rw [h]; decide))
      refine ev_aload_n d_M_loan_49 rfl ?_
      refine ev_iload_n d_M_loan_50 rfl ?_
      refine ev_iload_n d_M_loan_51 rfl ?_
      refine ev_iload d_M_loan_52 rfl ?_
      refine ev_iconst (v := (-1)) d_M_loan_54 rfl ?_
      refine ev_v4r d_M_loan_55 q_8_180 rfl (mM_obj ok) ⟨rfl, Nat.le_of_ble_eq_true rfl, Nat.le_of_ble_eq_true rfl⟩ (c_M_isOut ok _ _ _ _ ln hln (by grind [upd])) ?_
      refine ev_if_eq (t := 63) d_M_loan_58 (by decide) (fun c_58 => absurd c_58 (by rw [ho]; decide)) (fun _ => ?_)
      refine ev_iconst (v := (-1)) d_M_loan_61 rfl ?_
      exact xEv.to (ev_iret d_M_loan_62 rfl) (by grind [upd, va_up, xbi])
    · refine ev_aload_n d_M_loan_21 rfl ?_
      refine ev_get d_M_loan_22 f_8_105 (mM_obj ok) rfl ?_
      refine ev_bipush (v := 20) d_M_loan_25 rfl ?_
      refine ev_icmp_ge (t := 34) d_M_loan_27 (by decide) (fun c_27_3 => ?_) (fun c_27_3 => ?_)
      · refine ev_iconst (v := 0) d_M_loan_34 rfl ?_
        exact hk_2 _ (by rw [xbi_f (by grind)])
      · refine ev_iconst (v := 1) d_M_loan_30 rfl ?_
        refine ev_goto (t := 35) d_M_loan_31 (by decide) ?_
        exact hk_2 _ (by rw [xbi_t (by grind)])
  · refine ev_aload_n d_M_loan_1 rfl ?_
    refine ev_iload_n d_M_loan_2 rfl ?_
    refine ev_v1r d_M_loan_3 q_8_146 rfl (mM_obj ok) ⟨rfl, Nat.le_of_ble_eq_true rfl, Nat.le_of_ble_eq_true rfl⟩ (c_M_isContract ok _) ?_
    refine ev_if_eq (t := 20) d_M_loan_6 (by decide) (fun c_6_4 => ?_) (fun c_6_4 => ?_)
    · refine ev_iconst (v := 0) d_M_loan_20 rfl ?_
      exact hk_1 _ (by grind [xbi])
    · refine ev_iload_n d_M_loan_9 rfl ?_
      refine ev_s1r d_M_loan_10 q_8_173 rfl ⟨rfl, Nat.le_of_ble_eq_true rfl, Nat.le_of_ble_eq_true rfl⟩ (c_M_isThing _) ?_
      refine ev_if_eq (t := 20) d_M_loan_13 (by decide) (fun c_13_5 => ?_) (fun c_13_5 => ?_)
      · refine ev_iconst (v := 0) d_M_loan_20 rfl ?_
        exact hk_1 _ (by grind [xbi])
      · refine ev_iconst (v := 1) d_M_loan_16 rfl ?_
        refine ev_goto (t := 21) d_M_loan_17 (by decide) ?_
        exact hk_1 _ (by grind [xbi])
set_option maxRecDepth 20000 in
theorem c_M_loan_ok {d : Nat} {B : xMm} {ad : Nat → Nat} {ix : Nat → Option Nat} {iv : Nat → Int32} {av : Nat → Nat → Int32} {ns : Nat × Nat} (ok : mOk ad ix) (c t f u : Int32) (ln : Nat) (hln : ln ≤ 20) (hi : iv 23 = nI ln) (h : mgo (xbi ((0 ≤ c ∧ c < iv 3) ∧ 0 ≤ t ∧ t < 16)) (xbi (iv 23 < 20)) (xbi (0 ≤ f ∧ f ≤ u ∧ u ≤ 100000)) = 0) (ho : anyF (mOut av t f u (-1)) ln 0 = false) : xCl (d + 1) k_M_loan [.ref (ad 0), .int c, .int t, .int f, .int u] (mM B ad ix iv av, ns) (.inl (some (.int (nI ln))), (mM B ad ix (upd (upd iv 0 0) 23 (nI (ln + 1))) (va_up (va_up (va_up (va_up av 24 (upd (av 24) ln c)) 25 (upd (av 25) ln t)) 26 (upd (av 26) ln f)) 27 (upd (av 27) ln u)), ns)) := by
  have hl20 : ln < 20 := by
    have h9 : iv 23 < 20 := by grind [mgo, xbi]
    rw [hi] at h9
    exact (nI_ltI (a := ln) (b := 20) (by omega) (by decide)).mp h9
  have h0ln : 0 ≤ nI ln := nI_pos' (by omega)
  have eln : (nI ln).toNatClampNeg = ln := nI_clamp (by omega)
  have es : nI (ln + 1) = nI ln + 1 := nI_succ ln
  have ep : nI ln + 1 - 1 = nI ln := by rw [← es]; exact nI_pred ln
  show xEv _ k_M_loan 0 [some (.ref (ad 0)), some (.int c), some (.int t), some (.int f), some (.int u)] [] _ _
  refine ev_aload_n d_M_loan_0 rfl ?_
  refine ev_cutv (E := 21) (V := xbi ((0 ≤ c ∧ c < iv 3) ∧ 0 ≤ t ∧ t < 16)) ?_ (fun hk_1 => ?_)
  · refine ev_cutv (E := 35) (V := xbi (iv 23 < 20)) ?_ (fun hk_2 => ?_)
    · refine ev_iload_n d_M_loan_35 rfl ?_
      refine ev_iload d_M_loan_36 rfl ?_
      refine ev_s2r d_M_loan_38 q_8_176 rfl ⟨rfl, Nat.le_of_ble_eq_true rfl, Nat.le_of_ble_eq_true rfl⟩ (c_M_areDays _ _) ?_
      refine ev_v3r d_M_loan_41 q_8_116 rfl (mM_obj ok) ⟨rfl, Nat.le_of_ble_eq_true rfl, Nat.le_of_ble_eq_true rfl⟩ (c_M_goes ok _ _ _) ?_
      refine ev_if_ne (t := 49) d_M_loan_44 (by decide) (fun _ => ?_) (fun c_44 => absurd c_44 (by rw [h]; decide))
      refine ev_aload_n d_M_loan_49 rfl ?_
      refine ev_iload_n d_M_loan_50 rfl ?_
      refine ev_iload_n d_M_loan_51 rfl ?_
      refine ev_iload d_M_loan_52 rfl ?_
      refine ev_iconst (v := (-1)) d_M_loan_54 rfl ?_
      refine ev_v4r d_M_loan_55 q_8_180 rfl (mM_obj ok) ⟨rfl, Nat.le_of_ble_eq_true rfl, Nat.le_of_ble_eq_true rfl⟩ (c_M_isOut ok _ _ _ _ ln hln (by grind [upd])) ?_
      refine ev_if_eq (t := 63) d_M_loan_58 (by decide) (fun _ => ?_) (fun c_58 => absurd (by rw [ho]; rfl) c_58)
      refine ev_aload_n d_M_loan_63 rfl ?_
      refine ev_get d_M_loan_64 f_8_64 (mM_obj ok) rfl ?_
      refine ev_aload_n d_M_loan_67 rfl ?_
      refine ev_get d_M_loan_68 f_8_105 (mM_obj ok) rfl ?_
      refine ev_iload_n d_M_loan_71 rfl ?_
      refine ev_iast d_M_loan_72 (mM_arr ok 24 rfl) ⟨rfl, (by rw [show upd iv 0 _ 23 = nI ln from by grind [upd]]; exact vp_in_nI (N := 20) (by omega) (by decide))⟩ (mM_ast ok 24 rfl) ?_
      refine ev_aload_n d_M_loan_73 rfl ?_
      refine ev_get d_M_loan_74 f_8_67 (mM_obj ok) rfl ?_
      refine ev_aload_n d_M_loan_77 rfl ?_
      refine ev_get d_M_loan_78 f_8_105 (mM_obj ok) rfl ?_
      refine ev_iload_n d_M_loan_81 rfl ?_
      refine ev_iast d_M_loan_82 (mM_arr ok 25 rfl) ⟨rfl, (by rw [show upd iv 0 _ 23 = nI ln from by grind [upd]]; exact vp_in_nI (N := 20) (by omega) (by decide))⟩ (mM_ast ok 25 rfl) ?_
      refine ev_aload_n d_M_loan_83 rfl ?_
      refine ev_get d_M_loan_84 f_8_70 (mM_obj ok) rfl ?_
      refine ev_aload_n d_M_loan_87 rfl ?_
      refine ev_get d_M_loan_88 f_8_105 (mM_obj ok) rfl ?_
      refine ev_iload_n d_M_loan_91 rfl ?_
      refine ev_iast d_M_loan_92 (mM_arr ok 26 rfl) ⟨rfl, (by rw [show upd iv 0 _ 23 = nI ln from by grind [upd]]; exact vp_in_nI (N := 20) (by omega) (by decide))⟩ (mM_ast ok 26 rfl) ?_
      refine ev_aload_n d_M_loan_93 rfl ?_
      refine ev_get d_M_loan_94 f_8_73 (mM_obj ok) rfl ?_
      refine ev_aload_n d_M_loan_97 rfl ?_
      refine ev_get d_M_loan_98 f_8_105 (mM_obj ok) rfl ?_
      refine ev_iload d_M_loan_101 rfl ?_
      refine ev_iast d_M_loan_103 (mM_arr ok 27 rfl) ⟨rfl, (by rw [show upd iv 0 _ 23 = nI ln from by grind [upd]]; exact vp_in_nI (N := 20) (by omega) (by decide))⟩ (mM_ast ok 27 rfl) ?_
      refine ev_aload_n d_M_loan_104 rfl ?_
      refine ev_dup d_M_loan_105 rfl ?_
      refine ev_get d_M_loan_106 f_8_105 (mM_obj ok) rfl ?_
      refine ev_iconst (v := 1) d_M_loan_109 rfl ?_
      refine ev_iadd d_M_loan_110 ?_
      refine ev_put d_M_loan_111 f_8_105 (mM_obj ok) ⟨Nat.le_of_ble_eq_true rfl, xfit_i rfl, Or.inl rfl⟩ (mM_put ok rfl) ?_
      refine ev_aload_n d_M_loan_114 rfl ?_
      refine ev_get d_M_loan_115 f_8_105 (mM_obj ok) rfl ?_
      refine ev_iconst (v := 1) d_M_loan_118 rfl ?_
      refine ev_isub d_M_loan_119 ?_
      exact xEv.to (ev_iret d_M_loan_120 rfl) (by grind [upd, va_up, xbi])
    · refine ev_aload_n d_M_loan_21 rfl ?_
      refine ev_get d_M_loan_22 f_8_105 (mM_obj ok) rfl ?_
      refine ev_bipush (v := 20) d_M_loan_25 rfl ?_
      refine ev_icmp_ge (t := 34) d_M_loan_27 (by decide) (fun c_27_3 => ?_) (fun c_27_3 => ?_)
      · refine ev_iconst (v := 0) d_M_loan_34 rfl ?_
        exact hk_2 _ (by rw [xbi_f (by grind)])
      · refine ev_iconst (v := 1) d_M_loan_30 rfl ?_
        refine ev_goto (t := 35) d_M_loan_31 (by decide) ?_
        exact hk_2 _ (by rw [xbi_t (by grind)])
  · refine ev_aload_n d_M_loan_1 rfl ?_
    refine ev_iload_n d_M_loan_2 rfl ?_
    refine ev_v1r d_M_loan_3 q_8_146 rfl (mM_obj ok) ⟨rfl, Nat.le_of_ble_eq_true rfl, Nat.le_of_ble_eq_true rfl⟩ (c_M_isContract ok _) ?_
    refine ev_if_eq (t := 20) d_M_loan_6 (by decide) (fun c_6_4 => ?_) (fun c_6_4 => ?_)
    · refine ev_iconst (v := 0) d_M_loan_20 rfl ?_
      exact hk_1 _ (by grind [xbi])
    · refine ev_iload_n d_M_loan_9 rfl ?_
      refine ev_s1r d_M_loan_10 q_8_173 rfl ⟨rfl, Nat.le_of_ble_eq_true rfl, Nat.le_of_ble_eq_true rfl⟩ (c_M_isThing _) ?_
      refine ev_if_eq (t := 20) d_M_loan_13 (by decide) (fun c_13_5 => ?_) (fun c_13_5 => ?_)
      · refine ev_iconst (v := 0) d_M_loan_20 rfl ?_
        exact hk_1 _ (by grind [xbi])
      · refine ev_iconst (v := 1) d_M_loan_16 rfl ?_
        refine ev_goto (t := 21) d_M_loan_17 (by decide) ?_
        exact hk_1 _ (by grind [xbi])
set_option maxRecDepth 20000 in
theorem c_M_extend_no {d : Nat} {B : xMm} {ad : Nat → Nat} {ix : Nat → Option Nat} {iv : Nat → Int32} {av : Nat → Nat → Int32} {ns : Nat × Nat} (ok : mOk ad ix) (l u y : Int32) (h : mgo (xbi (0 ≤ l ∧ l < iv 23)) (xbi ((0 ≤ u ∧ u ≤ 100000) ∧ 0 ≤ y ∧ y ≤ 100000)) 1 ≠ 0) : xCl (d + 1) k_M_extend [.ref (ad 0), .int l, .int u, .int y] (mM B ad ix iv av, ns) (.inl (some (.int 0)), (mM B ad ix (upd iv 0 (mgo (xbi (0 ≤ l ∧ l < iv 23)) (xbi ((0 ≤ u ∧ u ≤ 100000) ∧ 0 ≤ y ∧ y ≤ 100000)) 1)) (av), ns)) := by
  show xEv _ k_M_extend 0 [some (.ref (ad 0)), some (.int l), some (.int u), some (.int y)] [] _ _
  refine ev_aload_n d_M_extend_0 rfl ?_
  refine ev_aload_n d_M_extend_1 rfl ?_
  refine ev_iload_n d_M_extend_2 rfl ?_
  refine ev_v1r d_M_extend_3 q_8_184 rfl (mM_obj ok) ⟨rfl, Nat.le_of_ble_eq_true rfl, Nat.le_of_ble_eq_true rfl⟩ (c_M_isLoan ok _) ?_
  refine ev_cutv (E := 31) (V := xbi ((0 ≤ u ∧ u ≤ 100000) ∧ 0 ≤ y ∧ y ≤ 100000)) ?_ (fun hk_1 => ?_)
  · refine ev_iconst (v := 1) d_M_extend_31 rfl ?_
    refine ev_v3r d_M_extend_32 q_8_116 rfl (mM_obj ok) ⟨rfl, Nat.le_of_ble_eq_true rfl, Nat.le_of_ble_eq_true rfl⟩ (c_M_goes ok _ _ _) ?_
    refine ev_if_ne (t := 40) d_M_extend_35 (by decide) (fun c_35 => absurd (xbi_f h) c_35) (fun _ => ?_)
    refine ev_iconst (v := 0) d_M_extend_38 rfl ?_
    exact xEv.to (ev_iret d_M_extend_39 rfl) (by grind [upd, va_up, xbi])
  · refine ev_iload_n d_M_extend_6 rfl ?_
    refine ev_iconst (v := 0) d_M_extend_7 rfl ?_
    refine ev_ldc d_M_extend_8 l_8_108 ?_
    refine ev_s3r d_M_extend_10 q_8_112 rfl ⟨rfl, Nat.le_of_ble_eq_true rfl, Nat.le_of_ble_eq_true rfl⟩ (c_M_within _ _ _) ?_
    refine ev_if_eq (t := 30) d_M_extend_13 (by decide) (fun c_13_2 => ?_) (fun c_13_2 => ?_)
    · refine ev_iconst (v := 0) d_M_extend_30 rfl ?_
      exact hk_1 _ (by grind [xbi])
    · refine ev_iload_n d_M_extend_16 rfl ?_
      refine ev_iconst (v := 0) d_M_extend_17 rfl ?_
      refine ev_ldc d_M_extend_18 l_8_108 ?_
      refine ev_s3r d_M_extend_20 q_8_112 rfl ⟨rfl, Nat.le_of_ble_eq_true rfl, Nat.le_of_ble_eq_true rfl⟩ (c_M_within _ _ _) ?_
      refine ev_if_eq (t := 30) d_M_extend_23 (by decide) (fun c_23_3 => ?_) (fun c_23_3 => ?_)
      · refine ev_iconst (v := 0) d_M_extend_30 rfl ?_
        exact hk_1 _ (by grind [xbi])
      · refine ev_iconst (v := 1) d_M_extend_26 rfl ?_
        refine ev_goto (t := 31) d_M_extend_27 (by decide) ?_
        exact hk_1 _ (by grind [xbi])
set_option maxRecDepth 20000 in
theorem c_M_extend_1 {d : Nat} {B : xMm} {ad : Nat → Nat} {ix : Nat → Option Nat} {iv : Nat → Int32} {av : Nat → Nat → Int32} {ns : Nat × Nat} (ok : mOk ad ix) (u y : Int32) (l : Nat) (hlt : l < 2 ^ 31) (ln : Nat) (hln : ln ≤ 20) (hi : iv 23 = nI ln) (h : mgo (xbi (0 ≤ nI l ∧ nI l < iv 23)) (xbi ((0 ≤ u ∧ u ≤ 100000) ∧ 0 ≤ y ∧ y ≤ 100000)) 1 = 0) (h1 : av 27 l < y) : xCl (d + 1) k_M_extend [.ref (ad 0), .int (nI l), .int u, .int y] (mM B ad ix iv av, ns) (.inl (some (.int 1)), (mM B ad ix (upd iv 0 0) (av), ns)) := by
  have h0l : 0 ≤ nI l := nI_pos' (by omega)
  have el : (nI l).toNatClampNeg = l := nI_clamp (by omega)
  have hl20 : l < 20 := by
    have h9 : nI l < iv 23 := by grind [mgo, xbi]
    rw [hi] at h9
    have := (nI_ltI (a := l) (b := ln) (by omega) (by omega)).mp h9
    omega
  show xEv _ k_M_extend 0 [some (.ref (ad 0)), some (.int (nI l)), some (.int u), some (.int y)] [] _ _
  refine ev_aload_n d_M_extend_0 rfl ?_
  refine ev_aload_n d_M_extend_1 rfl ?_
  refine ev_iload_n d_M_extend_2 rfl ?_
  refine ev_v1r d_M_extend_3 q_8_184 rfl (mM_obj ok) ⟨rfl, Nat.le_of_ble_eq_true rfl, Nat.le_of_ble_eq_true rfl⟩ (c_M_isLoan ok _) ?_
  refine ev_cutv (E := 31) (V := xbi ((0 ≤ u ∧ u ≤ 100000) ∧ 0 ≤ y ∧ y ≤ 100000)) ?_ (fun hk_1 => ?_)
  · refine ev_iconst (v := 1) d_M_extend_31 rfl ?_
    refine ev_v3r d_M_extend_32 q_8_116 rfl (mM_obj ok) ⟨rfl, Nat.le_of_ble_eq_true rfl, Nat.le_of_ble_eq_true rfl⟩ (c_M_goes ok _ _ _) ?_
    refine ev_if_ne (t := 40) d_M_extend_35 (by decide) (fun _ => ?_) (fun c_35 => absurd c_35 (by rw [h]; decide))
    refine ev_iload_n d_M_extend_40 rfl ?_
    refine ev_aload_n d_M_extend_41 rfl ?_
    refine ev_get d_M_extend_42 f_8_73 (mM_obj ok) rfl ?_
    refine ev_iload_n d_M_extend_45 rfl ?_
    refine ev_iald d_M_extend_46 (mM_arr ok 27 rfl) ⟨rfl, vp_in_nI (N := 20) (by omega) (by decide)⟩ rfl ?_
    refine ev_icmp_le (t := 52) d_M_extend_47 (by decide) (fun c_47 => absurd c_47 (by grind)) (fun _ => ?_)
    refine ev_iconst (v := 1) d_M_extend_50 rfl ?_
    exact xEv.to (ev_iret d_M_extend_51 rfl) (by grind [upd, va_up, xbi])
  · refine ev_iload_n d_M_extend_6 rfl ?_
    refine ev_iconst (v := 0) d_M_extend_7 rfl ?_
    refine ev_ldc d_M_extend_8 l_8_108 ?_
    refine ev_s3r d_M_extend_10 q_8_112 rfl ⟨rfl, Nat.le_of_ble_eq_true rfl, Nat.le_of_ble_eq_true rfl⟩ (c_M_within _ _ _) ?_
    refine ev_if_eq (t := 30) d_M_extend_13 (by decide) (fun c_13_2 => ?_) (fun c_13_2 => ?_)
    · refine ev_iconst (v := 0) d_M_extend_30 rfl ?_
      exact hk_1 _ (by grind [xbi])
    · refine ev_iload_n d_M_extend_16 rfl ?_
      refine ev_iconst (v := 0) d_M_extend_17 rfl ?_
      refine ev_ldc d_M_extend_18 l_8_108 ?_
      refine ev_s3r d_M_extend_20 q_8_112 rfl ⟨rfl, Nat.le_of_ble_eq_true rfl, Nat.le_of_ble_eq_true rfl⟩ (c_M_within _ _ _) ?_
      refine ev_if_eq (t := 30) d_M_extend_23 (by decide) (fun c_23_3 => ?_) (fun c_23_3 => ?_)
      · refine ev_iconst (v := 0) d_M_extend_30 rfl ?_
        exact hk_1 _ (by grind [xbi])
      · refine ev_iconst (v := 1) d_M_extend_26 rfl ?_
        refine ev_goto (t := 31) d_M_extend_27 (by decide) ?_
        exact hk_1 _ (by grind [xbi])
set_option maxRecDepth 20000 in
theorem c_M_extend_2 {d : Nat} {B : xMm} {ad : Nat → Nat} {ix : Nat → Option Nat} {iv : Nat → Int32} {av : Nat → Nat → Int32} {ns : Nat × Nat} (ok : mOk ad ix) (u y : Int32) (l : Nat) (hlt : l < 2 ^ 31) (ln : Nat) (hln : ln ≤ 20) (hi : iv 23 = nI ln) (h : mgo (xbi (0 ≤ nI l ∧ nI l < iv 23)) (xbi ((0 ≤ u ∧ u ≤ 100000) ∧ 0 ≤ y ∧ y ≤ 100000)) 1 = 0) (h1 : ¬ av 27 l < y) (h2 : u ≤ av 27 l) : xCl (d + 1) k_M_extend [.ref (ad 0), .int (nI l), .int u, .int y] (mM B ad ix iv av, ns) (.inl (some (.int 2)), (mM B ad ix (upd iv 0 0) (av), ns)) := by
  have h0l : 0 ≤ nI l := nI_pos' (by omega)
  have el : (nI l).toNatClampNeg = l := nI_clamp (by omega)
  have hl20 : l < 20 := by
    have h9 : nI l < iv 23 := by grind [mgo, xbi]
    rw [hi] at h9
    have := (nI_ltI (a := l) (b := ln) (by omega) (by omega)).mp h9
    omega
  show xEv _ k_M_extend 0 [some (.ref (ad 0)), some (.int (nI l)), some (.int u), some (.int y)] [] _ _
  refine ev_aload_n d_M_extend_0 rfl ?_
  refine ev_aload_n d_M_extend_1 rfl ?_
  refine ev_iload_n d_M_extend_2 rfl ?_
  refine ev_v1r d_M_extend_3 q_8_184 rfl (mM_obj ok) ⟨rfl, Nat.le_of_ble_eq_true rfl, Nat.le_of_ble_eq_true rfl⟩ (c_M_isLoan ok _) ?_
  refine ev_cutv (E := 31) (V := xbi ((0 ≤ u ∧ u ≤ 100000) ∧ 0 ≤ y ∧ y ≤ 100000)) ?_ (fun hk_1 => ?_)
  · refine ev_iconst (v := 1) d_M_extend_31 rfl ?_
    refine ev_v3r d_M_extend_32 q_8_116 rfl (mM_obj ok) ⟨rfl, Nat.le_of_ble_eq_true rfl, Nat.le_of_ble_eq_true rfl⟩ (c_M_goes ok _ _ _) ?_
    refine ev_if_ne (t := 40) d_M_extend_35 (by decide) (fun _ => ?_) (fun c_35 => absurd c_35 (by rw [h]; decide))
    refine ev_iload_n d_M_extend_40 rfl ?_
    refine ev_aload_n d_M_extend_41 rfl ?_
    refine ev_get d_M_extend_42 f_8_73 (mM_obj ok) rfl ?_
    refine ev_iload_n d_M_extend_45 rfl ?_
    refine ev_iald d_M_extend_46 (mM_arr ok 27 rfl) ⟨rfl, vp_in_nI (N := 20) (by omega) (by decide)⟩ rfl ?_
    refine ev_icmp_le (t := 52) d_M_extend_47 (by decide) (fun _ => ?_) (fun c_47 => absurd (by grind) c_47)
    refine ev_iload_n d_M_extend_52 rfl ?_
    refine ev_aload_n d_M_extend_53 rfl ?_
    refine ev_get d_M_extend_54 f_8_73 (mM_obj ok) rfl ?_
    refine ev_iload_n d_M_extend_57 rfl ?_
    refine ev_iald d_M_extend_58 (mM_arr ok 27 rfl) ⟨rfl, vp_in_nI (N := 20) (by omega) (by decide)⟩ rfl ?_
    refine ev_icmp_gt (t := 64) d_M_extend_59 (by decide) (fun c_59 => absurd c_59 (by grind)) (fun _ => ?_)
    refine ev_iconst (v := 2) d_M_extend_62 rfl ?_
    exact xEv.to (ev_iret d_M_extend_63 rfl) (by grind [upd, va_up, xbi])
  · refine ev_iload_n d_M_extend_6 rfl ?_
    refine ev_iconst (v := 0) d_M_extend_7 rfl ?_
    refine ev_ldc d_M_extend_8 l_8_108 ?_
    refine ev_s3r d_M_extend_10 q_8_112 rfl ⟨rfl, Nat.le_of_ble_eq_true rfl, Nat.le_of_ble_eq_true rfl⟩ (c_M_within _ _ _) ?_
    refine ev_if_eq (t := 30) d_M_extend_13 (by decide) (fun c_13_2 => ?_) (fun c_13_2 => ?_)
    · refine ev_iconst (v := 0) d_M_extend_30 rfl ?_
      exact hk_1 _ (by grind [xbi])
    · refine ev_iload_n d_M_extend_16 rfl ?_
      refine ev_iconst (v := 0) d_M_extend_17 rfl ?_
      refine ev_ldc d_M_extend_18 l_8_108 ?_
      refine ev_s3r d_M_extend_20 q_8_112 rfl ⟨rfl, Nat.le_of_ble_eq_true rfl, Nat.le_of_ble_eq_true rfl⟩ (c_M_within _ _ _) ?_
      refine ev_if_eq (t := 30) d_M_extend_23 (by decide) (fun c_23_3 => ?_) (fun c_23_3 => ?_)
      · refine ev_iconst (v := 0) d_M_extend_30 rfl ?_
        exact hk_1 _ (by grind [xbi])
      · refine ev_iconst (v := 1) d_M_extend_26 rfl ?_
        refine ev_goto (t := 31) d_M_extend_27 (by decide) ?_
        exact hk_1 _ (by grind [xbi])
set_option maxRecDepth 20000 in
theorem c_M_extend_3 {d : Nat} {B : xMm} {ad : Nat → Nat} {ix : Nat → Option Nat} {iv : Nat → Int32} {av : Nat → Nat → Int32} {ns : Nat × Nat} (ok : mOk ad ix) (u y : Int32) (l : Nat) (hlt : l < 2 ^ 31) (ln : Nat) (hln : ln ≤ 20) (hi : iv 23 = nI ln) (h : mgo (xbi (0 ≤ nI l ∧ nI l < iv 23)) (xbi ((0 ≤ u ∧ u ≤ 100000) ∧ 0 ≤ y ∧ y ≤ 100000)) 1 = 0) (h1 : ¬ av 27 l < y) (h2 : ¬ u ≤ av 27 l) (h3 : anyF (mOut av (av 25 l) (av 26 l) u (nI l)) ln 0 = true) : xCl (d + 1) k_M_extend [.ref (ad 0), .int (nI l), .int u, .int y] (mM B ad ix iv av, ns) (.inl (some (.int 3)), (mM B ad ix (upd iv 0 0) (av), ns)) := by
  have h0l : 0 ≤ nI l := nI_pos' (by omega)
  have el : (nI l).toNatClampNeg = l := nI_clamp (by omega)
  have hl20 : l < 20 := by
    have h9 : nI l < iv 23 := by grind [mgo, xbi]
    rw [hi] at h9
    have := (nI_ltI (a := l) (b := ln) (by omega) (by omega)).mp h9
    omega
  show xEv _ k_M_extend 0 [some (.ref (ad 0)), some (.int (nI l)), some (.int u), some (.int y)] [] _ _
  refine ev_aload_n d_M_extend_0 rfl ?_
  refine ev_aload_n d_M_extend_1 rfl ?_
  refine ev_iload_n d_M_extend_2 rfl ?_
  refine ev_v1r d_M_extend_3 q_8_184 rfl (mM_obj ok) ⟨rfl, Nat.le_of_ble_eq_true rfl, Nat.le_of_ble_eq_true rfl⟩ (c_M_isLoan ok _) ?_
  refine ev_cutv (E := 31) (V := xbi ((0 ≤ u ∧ u ≤ 100000) ∧ 0 ≤ y ∧ y ≤ 100000)) ?_ (fun hk_1 => ?_)
  · refine ev_iconst (v := 1) d_M_extend_31 rfl ?_
    refine ev_v3r d_M_extend_32 q_8_116 rfl (mM_obj ok) ⟨rfl, Nat.le_of_ble_eq_true rfl, Nat.le_of_ble_eq_true rfl⟩ (c_M_goes ok _ _ _) ?_
    refine ev_if_ne (t := 40) d_M_extend_35 (by decide) (fun _ => ?_) (fun c_35 => absurd c_35 (by rw [h]; decide))
    refine ev_iload_n d_M_extend_40 rfl ?_
    refine ev_aload_n d_M_extend_41 rfl ?_
    refine ev_get d_M_extend_42 f_8_73 (mM_obj ok) rfl ?_
    refine ev_iload_n d_M_extend_45 rfl ?_
    refine ev_iald d_M_extend_46 (mM_arr ok 27 rfl) ⟨rfl, vp_in_nI (N := 20) (by omega) (by decide)⟩ rfl ?_
    refine ev_icmp_le (t := 52) d_M_extend_47 (by decide) (fun _ => ?_) (fun c_47 => absurd (by grind) c_47)
    refine ev_iload_n d_M_extend_52 rfl ?_
    refine ev_aload_n d_M_extend_53 rfl ?_
    refine ev_get d_M_extend_54 f_8_73 (mM_obj ok) rfl ?_
    refine ev_iload_n d_M_extend_57 rfl ?_
    refine ev_iald d_M_extend_58 (mM_arr ok 27 rfl) ⟨rfl, vp_in_nI (N := 20) (by omega) (by decide)⟩ rfl ?_
    refine ev_icmp_gt (t := 64) d_M_extend_59 (by decide) (fun _ => ?_) (fun c_59 => absurd (by grind) c_59)
    refine ev_aload_n d_M_extend_64 rfl ?_
    refine ev_aload_n d_M_extend_65 rfl ?_
    refine ev_get d_M_extend_66 f_8_67 (mM_obj ok) rfl ?_
    refine ev_iload_n d_M_extend_69 rfl ?_
    refine ev_iald d_M_extend_70 (mM_arr ok 25 rfl) ⟨rfl, vp_in_nI (N := 20) (by omega) (by decide)⟩ rfl ?_
    refine ev_aload_n d_M_extend_71 rfl ?_
    refine ev_get d_M_extend_72 f_8_70 (mM_obj ok) rfl ?_
    refine ev_iload_n d_M_extend_75 rfl ?_
    refine ev_iald d_M_extend_76 (mM_arr ok 26 rfl) ⟨rfl, vp_in_nI (N := 20) (by omega) (by decide)⟩ rfl ?_
    refine ev_iload_n d_M_extend_77 rfl ?_
    refine ev_iload_n d_M_extend_78 rfl ?_
    rw [el]
    refine ev_v4r d_M_extend_79 q_8_180 rfl (mM_obj ok) ⟨rfl, Nat.le_of_ble_eq_true rfl, Nat.le_of_ble_eq_true rfl⟩ (c_M_isOut ok _ _ _ _ ln hln (by grind [upd])) ?_
    refine ev_if_eq (t := 87) d_M_extend_82 (by decide) (fun c_82 => absurd c_82 (by rw [h3]; decide)) (fun _ => ?_)
    refine ev_iconst (v := 3) d_M_extend_85 rfl ?_
    exact xEv.to (ev_iret d_M_extend_86 rfl) (by grind [upd, va_up, xbi])
  · refine ev_iload_n d_M_extend_6 rfl ?_
    refine ev_iconst (v := 0) d_M_extend_7 rfl ?_
    refine ev_ldc d_M_extend_8 l_8_108 ?_
    refine ev_s3r d_M_extend_10 q_8_112 rfl ⟨rfl, Nat.le_of_ble_eq_true rfl, Nat.le_of_ble_eq_true rfl⟩ (c_M_within _ _ _) ?_
    refine ev_if_eq (t := 30) d_M_extend_13 (by decide) (fun c_13_2 => ?_) (fun c_13_2 => ?_)
    · refine ev_iconst (v := 0) d_M_extend_30 rfl ?_
      exact hk_1 _ (by grind [xbi])
    · refine ev_iload_n d_M_extend_16 rfl ?_
      refine ev_iconst (v := 0) d_M_extend_17 rfl ?_
      refine ev_ldc d_M_extend_18 l_8_108 ?_
      refine ev_s3r d_M_extend_20 q_8_112 rfl ⟨rfl, Nat.le_of_ble_eq_true rfl, Nat.le_of_ble_eq_true rfl⟩ (c_M_within _ _ _) ?_
      refine ev_if_eq (t := 30) d_M_extend_23 (by decide) (fun c_23_3 => ?_) (fun c_23_3 => ?_)
      · refine ev_iconst (v := 0) d_M_extend_30 rfl ?_
        exact hk_1 _ (by grind [xbi])
      · refine ev_iconst (v := 1) d_M_extend_26 rfl ?_
        refine ev_goto (t := 31) d_M_extend_27 (by decide) ?_
        exact hk_1 _ (by grind [xbi])
set_option maxRecDepth 20000 in
theorem c_M_extend_ok {d : Nat} {B : xMm} {ad : Nat → Nat} {ix : Nat → Option Nat} {iv : Nat → Int32} {av : Nat → Nat → Int32} {ns : Nat × Nat} (ok : mOk ad ix) (u y : Int32) (l : Nat) (hlt : l < 2 ^ 31) (ln : Nat) (hln : ln ≤ 20) (hi : iv 23 = nI ln) (h : mgo (xbi (0 ≤ nI l ∧ nI l < iv 23)) (xbi ((0 ≤ u ∧ u ≤ 100000) ∧ 0 ≤ y ∧ y ≤ 100000)) 1 = 0) (h1 : ¬ av 27 l < y) (h2 : ¬ u ≤ av 27 l) (h3 : anyF (mOut av (av 25 l) (av 26 l) u (nI l)) ln 0 = false) : xCl (d + 1) k_M_extend [.ref (ad 0), .int (nI l), .int u, .int y] (mM B ad ix iv av, ns) (.inl (some (.int 0)), (mM B ad ix (upd iv 0 0) (va_up av 27 (upd (av 27) l u)), ns)) := by
  have h0l : 0 ≤ nI l := nI_pos' (by omega)
  have el : (nI l).toNatClampNeg = l := nI_clamp (by omega)
  have hl20 : l < 20 := by
    have h9 : nI l < iv 23 := by grind [mgo, xbi]
    rw [hi] at h9
    have := (nI_ltI (a := l) (b := ln) (by omega) (by omega)).mp h9
    omega
  show xEv _ k_M_extend 0 [some (.ref (ad 0)), some (.int (nI l)), some (.int u), some (.int y)] [] _ _
  refine ev_aload_n d_M_extend_0 rfl ?_
  refine ev_aload_n d_M_extend_1 rfl ?_
  refine ev_iload_n d_M_extend_2 rfl ?_
  refine ev_v1r d_M_extend_3 q_8_184 rfl (mM_obj ok) ⟨rfl, Nat.le_of_ble_eq_true rfl, Nat.le_of_ble_eq_true rfl⟩ (c_M_isLoan ok _) ?_
  refine ev_cutv (E := 31) (V := xbi ((0 ≤ u ∧ u ≤ 100000) ∧ 0 ≤ y ∧ y ≤ 100000)) ?_ (fun hk_1 => ?_)
  · refine ev_iconst (v := 1) d_M_extend_31 rfl ?_
    refine ev_v3r d_M_extend_32 q_8_116 rfl (mM_obj ok) ⟨rfl, Nat.le_of_ble_eq_true rfl, Nat.le_of_ble_eq_true rfl⟩ (c_M_goes ok _ _ _) ?_
    refine ev_if_ne (t := 40) d_M_extend_35 (by decide) (fun _ => ?_) (fun c_35 => absurd c_35 (by rw [h]; decide))
    refine ev_iload_n d_M_extend_40 rfl ?_
    refine ev_aload_n d_M_extend_41 rfl ?_
    refine ev_get d_M_extend_42 f_8_73 (mM_obj ok) rfl ?_
    refine ev_iload_n d_M_extend_45 rfl ?_
    refine ev_iald d_M_extend_46 (mM_arr ok 27 rfl) ⟨rfl, vp_in_nI (N := 20) (by omega) (by decide)⟩ rfl ?_
    refine ev_icmp_le (t := 52) d_M_extend_47 (by decide) (fun _ => ?_) (fun c_47 => absurd (by grind) c_47)
    refine ev_iload_n d_M_extend_52 rfl ?_
    refine ev_aload_n d_M_extend_53 rfl ?_
    refine ev_get d_M_extend_54 f_8_73 (mM_obj ok) rfl ?_
    refine ev_iload_n d_M_extend_57 rfl ?_
    refine ev_iald d_M_extend_58 (mM_arr ok 27 rfl) ⟨rfl, vp_in_nI (N := 20) (by omega) (by decide)⟩ rfl ?_
    refine ev_icmp_gt (t := 64) d_M_extend_59 (by decide) (fun _ => ?_) (fun c_59 => absurd (by grind) c_59)
    refine ev_aload_n d_M_extend_64 rfl ?_
    refine ev_aload_n d_M_extend_65 rfl ?_
    refine ev_get d_M_extend_66 f_8_67 (mM_obj ok) rfl ?_
    refine ev_iload_n d_M_extend_69 rfl ?_
    refine ev_iald d_M_extend_70 (mM_arr ok 25 rfl) ⟨rfl, vp_in_nI (N := 20) (by omega) (by decide)⟩ rfl ?_
    refine ev_aload_n d_M_extend_71 rfl ?_
    refine ev_get d_M_extend_72 f_8_70 (mM_obj ok) rfl ?_
    refine ev_iload_n d_M_extend_75 rfl ?_
    refine ev_iald d_M_extend_76 (mM_arr ok 26 rfl) ⟨rfl, vp_in_nI (N := 20) (by omega) (by decide)⟩ rfl ?_
    refine ev_iload_n d_M_extend_77 rfl ?_
    refine ev_iload_n d_M_extend_78 rfl ?_
    rw [el]
    refine ev_v4r d_M_extend_79 q_8_180 rfl (mM_obj ok) ⟨rfl, Nat.le_of_ble_eq_true rfl, Nat.le_of_ble_eq_true rfl⟩ (c_M_isOut ok _ _ _ _ ln hln (by grind [upd])) ?_
    refine ev_if_eq (t := 87) d_M_extend_82 (by decide) (fun _ => ?_) (fun c_82 => absurd (by rw [h3]; rfl) c_82)
    refine ev_aload_n d_M_extend_87 rfl ?_
    refine ev_get d_M_extend_88 f_8_73 (mM_obj ok) rfl ?_
    refine ev_iload_n d_M_extend_91 rfl ?_
    refine ev_iload_n d_M_extend_92 rfl ?_
    refine ev_iast d_M_extend_93 (mM_arr ok 27 rfl) ⟨rfl, vp_in_nI (N := 20) (by omega) (by decide)⟩ (mM_ast ok 27 rfl) ?_
    refine ev_iconst (v := 0) d_M_extend_94 rfl ?_
    exact xEv.to (ev_iret d_M_extend_95 rfl) (by grind [upd, va_up, xbi])
  · refine ev_iload_n d_M_extend_6 rfl ?_
    refine ev_iconst (v := 0) d_M_extend_7 rfl ?_
    refine ev_ldc d_M_extend_8 l_8_108 ?_
    refine ev_s3r d_M_extend_10 q_8_112 rfl ⟨rfl, Nat.le_of_ble_eq_true rfl, Nat.le_of_ble_eq_true rfl⟩ (c_M_within _ _ _) ?_
    refine ev_if_eq (t := 30) d_M_extend_13 (by decide) (fun c_13_2 => ?_) (fun c_13_2 => ?_)
    · refine ev_iconst (v := 0) d_M_extend_30 rfl ?_
      exact hk_1 _ (by grind [xbi])
    · refine ev_iload_n d_M_extend_16 rfl ?_
      refine ev_iconst (v := 0) d_M_extend_17 rfl ?_
      refine ev_ldc d_M_extend_18 l_8_108 ?_
      refine ev_s3r d_M_extend_20 q_8_112 rfl ⟨rfl, Nat.le_of_ble_eq_true rfl, Nat.le_of_ble_eq_true rfl⟩ (c_M_within _ _ _) ?_
      refine ev_if_eq (t := 30) d_M_extend_23 (by decide) (fun c_23_3 => ?_) (fun c_23_3 => ?_)
      · refine ev_iconst (v := 0) d_M_extend_30 rfl ?_
        exact hk_1 _ (by grind [xbi])
      · refine ev_iconst (v := 1) d_M_extend_26 rfl ?_
        refine ev_goto (t := 31) d_M_extend_27 (by decide) ?_
        exact hk_1 _ (by grind [xbi])
set_option maxRecDepth 20000 in
theorem c_M_told_no1 {d : Nat} {B : xMm} {ad : Nat → Nat} {ix : Nat → Option Nat} {iv : Nat → Int32} {av : Nat → Nat → Int32} {ns : Nat × Nat} (ok : mOk ad ix) (l k w : Int32) (h : ¬ ((0 ≤ l ∧ l < iv 23) ∧ (w = 0 ∨ w = 1) ∧ -1 ≤ k)) : xCl (d + 1) k_M_told [.ref (ad 0), .int l, .int k, .int w] (mM B ad ix iv av, ns) (.inl (some (.int 0)), (mM B ad ix (upd iv 0 1) (av), ns)) := by
  show xEv _ k_M_told 0 [some (.ref (ad 0)), some (.int l), some (.int k), some (.int w), none] [] _ _
  refine ev_cutv (E := 27) (V := 0) ?_ (fun hk_1 => ?_)
  · refine ev_istore (lo1 := [some (.ref (ad 0)), some (.int l), some (.int k), some (.int w), some (.int (0))]) d_M_told_27 (Nat.le_of_ble_eq_true rfl) rfl ?_
    refine ev_aload_n d_M_told_29 rfl ?_
    refine ev_cutv (E := 50) (V := 0) ?_ (fun hk_2 => ?_)
    · refine ev_iconst (v := 1) d_M_told_50 rfl ?_
      refine ev_iconst (v := 1) d_M_told_51 rfl ?_
      refine ev_v3r d_M_told_52 q_8_116 rfl (mM_obj ok) ⟨rfl, Nat.le_of_ble_eq_true rfl, Nat.le_of_ble_eq_true rfl⟩ (c_M_goes ok _ _ _) ?_
      refine ev_if_ne (t := 60) d_M_told_55 (by decide) (fun c_55 => absurd (by decide) c_55) (fun _ => ?_)
      refine ev_iconst (v := 0) d_M_told_58 rfl ?_
      exact xEv.to (ev_iret d_M_told_59 rfl) (by grind [upd, va_up, xbi, mgo])
    · refine ev_iload d_M_told_30 rfl ?_
      refine ev_if_eq (t := 49) d_M_told_32 (by decide) (fun _ => ?_) (fun c_32 => absurd (by grind) c_32)
      refine ev_iconst (v := 0) d_M_told_49 rfl ?_
      exact hk_2 _ (by grind)
  · refine ev_aload_n d_M_told_0 rfl ?_
    refine ev_iload_n d_M_told_1 rfl ?_
    refine ev_v1r d_M_told_2 q_8_184 rfl (mM_obj ok) ⟨rfl, Nat.le_of_ble_eq_true rfl, Nat.le_of_ble_eq_true rfl⟩ (c_M_isLoan ok _) ?_
    refine ev_if_eq (t := 26) d_M_told_5 (by decide) (fun c_5_3 => ?_) (fun c_5_3 => ?_)
    · refine ev_iconst (v := 0) d_M_told_26 rfl ?_
      exact hk_1 _ (by grind [xbi])
    · refine ev_iload_n d_M_told_8 rfl ?_
      refine ev_if_eq (t := 17) d_M_told_9 (by decide) (fun c_9_4 => ?_) (fun c_9_4 => ?_)
      · refine ev_iload_n d_M_told_17 rfl ?_
        refine ev_iconst (v := (-1)) d_M_told_18 rfl ?_
        refine ev_icmp_lt (t := 26) d_M_told_19 (by decide) (fun c_19_5 => ?_) (fun c_19_5 => ?_)
        · refine ev_iconst (v := 0) d_M_told_26 rfl ?_
          exact hk_1 _ (by grind [xbi])
        · refine ev_iconst (v := 1) d_M_told_22 rfl ?_
          refine ev_goto (t := 27) d_M_told_23 (by decide) ?_
          exact hk_1 _ (by grind [xbi])
      · refine ev_iload_n d_M_told_12 rfl ?_
        refine ev_iconst (v := 1) d_M_told_13 rfl ?_
        refine ev_icmp_ne (t := 26) d_M_told_14 (by decide) (fun c_14_6 => ?_) (fun c_14_6 => ?_)
        · refine ev_iconst (v := 0) d_M_told_26 rfl ?_
          exact hk_1 _ (by grind [xbi])
        · refine ev_iload_n d_M_told_17 rfl ?_
          refine ev_iconst (v := (-1)) d_M_told_18 rfl ?_
          refine ev_icmp_lt (t := 26) d_M_told_19 (by decide) (fun c_19_7 => ?_) (fun c_19_7 => ?_)
          · refine ev_iconst (v := 0) d_M_told_26 rfl ?_
            exact hk_1 _ (by grind [xbi])
          · refine ev_iconst (v := 1) d_M_told_22 rfl ?_
            refine ev_goto (t := 27) d_M_told_23 (by decide) ?_
            exact hk_1 _ (by grind [xbi])
set_option maxRecDepth 20000 in
theorem c_M_told_no2 {d : Nat} {B : xMm} {ad : Nat → Nat} {ix : Nat → Option Nat} {iv : Nat → Int32} {av : Nat → Nat → Int32} {ns : Nat × Nat} (ok : mOk ad ix) (k w : Int32) (l : Nat) (hl : l < 20) (h : (0 ≤ nI l ∧ nI l < iv 23) ∧ (w = 0 ∨ w = 1) ∧ -1 ≤ k) (h2 : ¬ k < av 30 l) : xCl (d + 1) k_M_told [.ref (ad 0), .int (nI l), .int k, .int w] (mM B ad ix iv av, ns) (.inl (some (.int 0)), (mM B ad ix (upd iv 0 1) (av), ns)) := by
  have h0l : 0 ≤ nI l := nI_pos' (by omega)
  have el : (nI l).toNatClampNeg = l := nI_clamp (by omega)
  show xEv _ k_M_told 0 [some (.ref (ad 0)), some (.int (nI l)), some (.int k), some (.int w), none] [] _ _
  refine ev_cutv (E := 27) (V := 1) ?_ (fun hk_1 => ?_)
  · refine ev_istore (lo1 := [some (.ref (ad 0)), some (.int (nI l)), some (.int k), some (.int w), some (.int (1))]) d_M_told_27 (Nat.le_of_ble_eq_true rfl) rfl ?_
    refine ev_aload_n d_M_told_29 rfl ?_
    refine ev_cutv (E := 50) (V := 0) ?_ (fun hk_2 => ?_)
    · refine ev_iconst (v := 1) d_M_told_50 rfl ?_
      refine ev_iconst (v := 1) d_M_told_51 rfl ?_
      refine ev_v3r d_M_told_52 q_8_116 rfl (mM_obj ok) ⟨rfl, Nat.le_of_ble_eq_true rfl, Nat.le_of_ble_eq_true rfl⟩ (c_M_goes ok _ _ _) ?_
      refine ev_if_ne (t := 60) d_M_told_55 (by decide) (fun c_55 => absurd (by decide) c_55) (fun _ => ?_)
      refine ev_iconst (v := 0) d_M_told_58 rfl ?_
      exact xEv.to (ev_iret d_M_told_59 rfl) (by grind [upd, va_up, xbi, mgo])
    · refine ev_iload d_M_told_30 rfl ?_
      refine ev_if_eq (t := 49) d_M_told_32 (by decide) (fun c_32 => absurd c_32 (by grind)) (fun _ => ?_)
      refine ev_iload_n d_M_told_35 rfl ?_
      refine ev_aload_n d_M_told_36 rfl ?_
      refine ev_get d_M_told_37 f_8_83 (mM_obj ok) rfl ?_
      refine ev_iload_n d_M_told_40 rfl ?_
      refine ev_iald d_M_told_41 (mM_arr ok 30 rfl) ⟨rfl, vp_in_nI (N := 20) (by omega) (by decide)⟩ rfl ?_
      refine ev_icmp_ge (t := 49) d_M_told_42 (by decide) (fun c_42_3 => ?_) (fun c_42_3 => ?_)
      · refine ev_iconst (v := 0) d_M_told_49 rfl ?_
        exact hk_2 _ (by grind)
      · refine ev_iconst (v := 1) d_M_told_45 rfl ?_
        refine ev_goto (t := 50) d_M_told_46 (by decide) ?_
        exact hk_2 _ (by grind)
  · refine ev_aload_n d_M_told_0 rfl ?_
    refine ev_iload_n d_M_told_1 rfl ?_
    refine ev_v1r d_M_told_2 q_8_184 rfl (mM_obj ok) ⟨rfl, Nat.le_of_ble_eq_true rfl, Nat.le_of_ble_eq_true rfl⟩ (c_M_isLoan ok _) ?_
    refine ev_if_eq (t := 26) d_M_told_5 (by decide) (fun c_5_4 => ?_) (fun c_5_4 => ?_)
    · refine ev_iconst (v := 0) d_M_told_26 rfl ?_
      exact hk_1 _ (by grind [xbi])
    · refine ev_iload_n d_M_told_8 rfl ?_
      refine ev_if_eq (t := 17) d_M_told_9 (by decide) (fun c_9_5 => ?_) (fun c_9_5 => ?_)
      · refine ev_iload_n d_M_told_17 rfl ?_
        refine ev_iconst (v := (-1)) d_M_told_18 rfl ?_
        refine ev_icmp_lt (t := 26) d_M_told_19 (by decide) (fun c_19_6 => ?_) (fun c_19_6 => ?_)
        · refine ev_iconst (v := 0) d_M_told_26 rfl ?_
          exact hk_1 _ (by grind [xbi])
        · refine ev_iconst (v := 1) d_M_told_22 rfl ?_
          refine ev_goto (t := 27) d_M_told_23 (by decide) ?_
          exact hk_1 _ (by grind [xbi])
      · refine ev_iload_n d_M_told_12 rfl ?_
        refine ev_iconst (v := 1) d_M_told_13 rfl ?_
        refine ev_icmp_ne (t := 26) d_M_told_14 (by decide) (fun c_14_7 => ?_) (fun c_14_7 => ?_)
        · refine ev_iconst (v := 0) d_M_told_26 rfl ?_
          exact hk_1 _ (by grind [xbi])
        · refine ev_iload_n d_M_told_17 rfl ?_
          refine ev_iconst (v := (-1)) d_M_told_18 rfl ?_
          refine ev_icmp_lt (t := 26) d_M_told_19 (by decide) (fun c_19_8 => ?_) (fun c_19_8 => ?_)
          · refine ev_iconst (v := 0) d_M_told_26 rfl ?_
            exact hk_1 _ (by grind [xbi])
          · refine ev_iconst (v := 1) d_M_told_22 rfl ?_
            refine ev_goto (t := 27) d_M_told_23 (by decide) ?_
            exact hk_1 _ (by grind [xbi])
set_option maxRecDepth 20000 in
theorem c_M_told_n {d : Nat} {B : xMm} {ad : Nat → Nat} {ix : Nat → Option Nat} {iv : Nat → Int32} {av : Nat → Nat → Int32} {ns : Nat × Nat} (ok : mOk ad ix) (k w : Int32) (l : Nat) (hl : l < 20) (h : (0 ≤ nI l ∧ nI l < iv 23) ∧ (w = 0 ∨ w = 1) ∧ -1 ≤ k) (h2 : k < av 30 l) (hk : k = -1) : xCl (d + 1) k_M_told [.ref (ad 0), .int (nI l), .int k, .int w] (mM B ad ix iv av, ns) (.inl (some (.int (av 30 l))), (mM B ad ix (upd iv 0 0) (av), ns)) := by
  have h0l : 0 ≤ nI l := nI_pos' (by omega)
  have el : (nI l).toNatClampNeg = l := nI_clamp (by omega)
  show xEv _ k_M_told 0 [some (.ref (ad 0)), some (.int (nI l)), some (.int k), some (.int w), none] [] _ _
  refine ev_cutv (E := 27) (V := 1) ?_ (fun hk_1 => ?_)
  · refine ev_istore (lo1 := [some (.ref (ad 0)), some (.int (nI l)), some (.int k), some (.int w), some (.int (1))]) d_M_told_27 (Nat.le_of_ble_eq_true rfl) rfl ?_
    refine ev_aload_n d_M_told_29 rfl ?_
    refine ev_cutv (E := 50) (V := 1) ?_ (fun hk_2 => ?_)
    · refine ev_iconst (v := 1) d_M_told_50 rfl ?_
      refine ev_iconst (v := 1) d_M_told_51 rfl ?_
      refine ev_v3r d_M_told_52 q_8_116 rfl (mM_obj ok) ⟨rfl, Nat.le_of_ble_eq_true rfl, Nat.le_of_ble_eq_true rfl⟩ (c_M_goes ok _ _ _) ?_
      refine ev_if_ne (t := 60) d_M_told_55 (by decide) (fun _ => ?_) (fun c_55 => absurd c_55 (by decide))
      refine ev_iload_n d_M_told_60 rfl ?_
      refine ev_iconst (v := (-1)) d_M_told_61 rfl ?_
      refine ev_icmp_ne (t := 74) d_M_told_62 (by decide) (fun c_62 => absurd hk c_62) (fun _ => ?_)
      refine ev_aload_n d_M_told_65 rfl ?_
      refine ev_get d_M_told_66 f_8_83 (mM_obj ok) rfl ?_
      refine ev_iload_n d_M_told_69 rfl ?_
      refine ev_iald d_M_told_70 (mM_arr ok 30 rfl) ⟨rfl, vp_in_nI (N := 20) (by omega) (by decide)⟩ rfl ?_
      refine ev_goto (t := 103) d_M_told_71 (by decide) ?_
      exact xEv.to (ev_iret d_M_told_103 rfl) (by grind [upd, va_up, xbi, mgo])
    · refine ev_iload d_M_told_30 rfl ?_
      refine ev_if_eq (t := 49) d_M_told_32 (by decide) (fun c_32 => absurd c_32 (by grind)) (fun _ => ?_)
      refine ev_iload_n d_M_told_35 rfl ?_
      refine ev_aload_n d_M_told_36 rfl ?_
      refine ev_get d_M_told_37 f_8_83 (mM_obj ok) rfl ?_
      refine ev_iload_n d_M_told_40 rfl ?_
      refine ev_iald d_M_told_41 (mM_arr ok 30 rfl) ⟨rfl, vp_in_nI (N := 20) (by omega) (by decide)⟩ rfl ?_
      refine ev_icmp_ge (t := 49) d_M_told_42 (by decide) (fun c_42_3 => ?_) (fun c_42_3 => ?_)
      · refine ev_iconst (v := 0) d_M_told_49 rfl ?_
        exact hk_2 _ (by grind)
      · refine ev_iconst (v := 1) d_M_told_45 rfl ?_
        refine ev_goto (t := 50) d_M_told_46 (by decide) ?_
        exact hk_2 _ (by grind)
  · refine ev_aload_n d_M_told_0 rfl ?_
    refine ev_iload_n d_M_told_1 rfl ?_
    refine ev_v1r d_M_told_2 q_8_184 rfl (mM_obj ok) ⟨rfl, Nat.le_of_ble_eq_true rfl, Nat.le_of_ble_eq_true rfl⟩ (c_M_isLoan ok _) ?_
    refine ev_if_eq (t := 26) d_M_told_5 (by decide) (fun c_5_4 => ?_) (fun c_5_4 => ?_)
    · refine ev_iconst (v := 0) d_M_told_26 rfl ?_
      exact hk_1 _ (by grind [xbi])
    · refine ev_iload_n d_M_told_8 rfl ?_
      refine ev_if_eq (t := 17) d_M_told_9 (by decide) (fun c_9_5 => ?_) (fun c_9_5 => ?_)
      · refine ev_iload_n d_M_told_17 rfl ?_
        refine ev_iconst (v := (-1)) d_M_told_18 rfl ?_
        refine ev_icmp_lt (t := 26) d_M_told_19 (by decide) (fun c_19_6 => ?_) (fun c_19_6 => ?_)
        · refine ev_iconst (v := 0) d_M_told_26 rfl ?_
          exact hk_1 _ (by grind [xbi])
        · refine ev_iconst (v := 1) d_M_told_22 rfl ?_
          refine ev_goto (t := 27) d_M_told_23 (by decide) ?_
          exact hk_1 _ (by grind [xbi])
      · refine ev_iload_n d_M_told_12 rfl ?_
        refine ev_iconst (v := 1) d_M_told_13 rfl ?_
        refine ev_icmp_ne (t := 26) d_M_told_14 (by decide) (fun c_14_7 => ?_) (fun c_14_7 => ?_)
        · refine ev_iconst (v := 0) d_M_told_26 rfl ?_
          exact hk_1 _ (by grind [xbi])
        · refine ev_iload_n d_M_told_17 rfl ?_
          refine ev_iconst (v := (-1)) d_M_told_18 rfl ?_
          refine ev_icmp_lt (t := 26) d_M_told_19 (by decide) (fun c_19_8 => ?_) (fun c_19_8 => ?_)
          · refine ev_iconst (v := 0) d_M_told_26 rfl ?_
            exact hk_1 _ (by grind [xbi])
          · refine ev_iconst (v := 1) d_M_told_22 rfl ?_
            refine ev_goto (t := 27) d_M_told_23 (by decide) ?_
            exact hk_1 _ (by grind [xbi])
set_option maxRecDepth 20000 in
theorem c_M_told_h {d : Nat} {B : xMm} {ad : Nat → Nat} {ix : Nat → Option Nat} {iv : Nat → Int32} {av : Nat → Nat → Int32} {ns : Nat × Nat} (ok : mOk ad ix) (k w : Int32) (l : Nat) (hl : l < 20) (h : (0 ≤ nI l ∧ nI l < iv 23) ∧ (w = 0 ∨ w = 1) ∧ -1 ≤ k) (h2 : k < av 30 l) (j : Nat) (hj : j < 100) (hk : k = nI j) (hw : w = 0) : xCl (d + 1) k_M_told [.ref (ad 0), .int (nI l), .int k, .int w] (mM B ad ix iv av, ns) (.inl (some (.int (av 31 (100 * l + j)))), (mM B ad ix (upd iv 0 0) (av), ns)) := by
  have h0l : 0 ≤ nI l := nI_pos' (by omega)
  have el : (nI l).toNatClampNeg = l := nI_clamp (by omega)
  have ex : (100 * nI l + k).toNatClampNeg = 100 * l + j := by rw [hk, nI100]; exact nI_clamp (by omega)
  have hx : xin (100 * nI l + k) 2000 := by rw [hk, nI100]; exact vp_in_nI (N := 2000) (by omega) (by decide)
  have hk1 : ¬ k = -1 := by
    rw [hk]
    have := nI_pos' (n := j) (by omega)
    grind
  show xEv _ k_M_told 0 [some (.ref (ad 0)), some (.int (nI l)), some (.int k), some (.int w), none] [] _ _
  refine ev_cutv (E := 27) (V := 1) ?_ (fun hk_1 => ?_)
  · refine ev_istore (lo1 := [some (.ref (ad 0)), some (.int (nI l)), some (.int k), some (.int w), some (.int (1))]) d_M_told_27 (Nat.le_of_ble_eq_true rfl) rfl ?_
    refine ev_aload_n d_M_told_29 rfl ?_
    refine ev_cutv (E := 50) (V := 1) ?_ (fun hk_2 => ?_)
    · refine ev_iconst (v := 1) d_M_told_50 rfl ?_
      refine ev_iconst (v := 1) d_M_told_51 rfl ?_
      refine ev_v3r d_M_told_52 q_8_116 rfl (mM_obj ok) ⟨rfl, Nat.le_of_ble_eq_true rfl, Nat.le_of_ble_eq_true rfl⟩ (c_M_goes ok _ _ _) ?_
      refine ev_if_ne (t := 60) d_M_told_55 (by decide) (fun _ => ?_) (fun c_55 => absurd c_55 (by decide))
      refine ev_iload_n d_M_told_60 rfl ?_
      refine ev_iconst (v := (-1)) d_M_told_61 rfl ?_
      refine ev_icmp_ne (t := 74) d_M_told_62 (by decide) (fun _ => ?_) (fun c_62 => absurd c_62 hk1)
      refine ev_iload_n d_M_told_74 rfl ?_
      refine ev_if_ne (t := 92) d_M_told_75 (by decide) (fun c_75 => absurd hw c_75) (fun _ => ?_)
      refine ev_aload_n d_M_told_78 rfl ?_
      refine ev_get d_M_told_79 f_8_86 (mM_obj ok) rfl ?_
      refine ev_bipush (v := 100) d_M_told_82 rfl ?_
      refine ev_iload_n d_M_told_84 rfl ?_
      refine ev_imul d_M_told_85 ?_
      refine ev_iload_n d_M_told_86 rfl ?_
      refine ev_iadd d_M_told_87 ?_
      refine ev_iald d_M_told_88 (mM_arr ok 31 rfl) ⟨rfl, hx⟩ rfl ?_
      refine ev_goto (t := 103) d_M_told_89 (by decide) ?_
      exact xEv.to (ev_iret d_M_told_103 rfl) (by grind [upd, va_up, xbi, mgo])
    · refine ev_iload d_M_told_30 rfl ?_
      refine ev_if_eq (t := 49) d_M_told_32 (by decide) (fun c_32 => absurd c_32 (by grind)) (fun _ => ?_)
      refine ev_iload_n d_M_told_35 rfl ?_
      refine ev_aload_n d_M_told_36 rfl ?_
      refine ev_get d_M_told_37 f_8_83 (mM_obj ok) rfl ?_
      refine ev_iload_n d_M_told_40 rfl ?_
      refine ev_iald d_M_told_41 (mM_arr ok 30 rfl) ⟨rfl, vp_in_nI (N := 20) (by omega) (by decide)⟩ rfl ?_
      refine ev_icmp_ge (t := 49) d_M_told_42 (by decide) (fun c_42_3 => ?_) (fun c_42_3 => ?_)
      · refine ev_iconst (v := 0) d_M_told_49 rfl ?_
        exact hk_2 _ (by grind)
      · refine ev_iconst (v := 1) d_M_told_45 rfl ?_
        refine ev_goto (t := 50) d_M_told_46 (by decide) ?_
        exact hk_2 _ (by grind)
  · refine ev_aload_n d_M_told_0 rfl ?_
    refine ev_iload_n d_M_told_1 rfl ?_
    refine ev_v1r d_M_told_2 q_8_184 rfl (mM_obj ok) ⟨rfl, Nat.le_of_ble_eq_true rfl, Nat.le_of_ble_eq_true rfl⟩ (c_M_isLoan ok _) ?_
    refine ev_if_eq (t := 26) d_M_told_5 (by decide) (fun c_5_4 => ?_) (fun c_5_4 => ?_)
    · refine ev_iconst (v := 0) d_M_told_26 rfl ?_
      exact hk_1 _ (by grind [xbi])
    · refine ev_iload_n d_M_told_8 rfl ?_
      refine ev_if_eq (t := 17) d_M_told_9 (by decide) (fun c_9_5 => ?_) (fun c_9_5 => ?_)
      · refine ev_iload_n d_M_told_17 rfl ?_
        refine ev_iconst (v := (-1)) d_M_told_18 rfl ?_
        refine ev_icmp_lt (t := 26) d_M_told_19 (by decide) (fun c_19_6 => ?_) (fun c_19_6 => ?_)
        · refine ev_iconst (v := 0) d_M_told_26 rfl ?_
          exact hk_1 _ (by grind [xbi])
        · refine ev_iconst (v := 1) d_M_told_22 rfl ?_
          refine ev_goto (t := 27) d_M_told_23 (by decide) ?_
          exact hk_1 _ (by grind [xbi])
      · refine ev_iload_n d_M_told_12 rfl ?_
        refine ev_iconst (v := 1) d_M_told_13 rfl ?_
        refine ev_icmp_ne (t := 26) d_M_told_14 (by decide) (fun c_14_7 => ?_) (fun c_14_7 => ?_)
        · refine ev_iconst (v := 0) d_M_told_26 rfl ?_
          exact hk_1 _ (by grind [xbi])
        · refine ev_iload_n d_M_told_17 rfl ?_
          refine ev_iconst (v := (-1)) d_M_told_18 rfl ?_
          refine ev_icmp_lt (t := 26) d_M_told_19 (by decide) (fun c_19_8 => ?_) (fun c_19_8 => ?_)
          · refine ev_iconst (v := 0) d_M_told_26 rfl ?_
            exact hk_1 _ (by grind [xbi])
          · refine ev_iconst (v := 1) d_M_told_22 rfl ?_
            refine ev_goto (t := 27) d_M_told_23 (by decide) ?_
            exact hk_1 _ (by grind [xbi])
set_option maxRecDepth 20000 in
theorem c_M_told_t {d : Nat} {B : xMm} {ad : Nat → Nat} {ix : Nat → Option Nat} {iv : Nat → Int32} {av : Nat → Nat → Int32} {ns : Nat × Nat} (ok : mOk ad ix) (k w : Int32) (l : Nat) (hl : l < 20) (h : (0 ≤ nI l ∧ nI l < iv 23) ∧ (w = 0 ∨ w = 1) ∧ -1 ≤ k) (h2 : k < av 30 l) (j : Nat) (hj : j < 100) (hk : k = nI j) (hw : ¬ w = 0) : xCl (d + 1) k_M_told [.ref (ad 0), .int (nI l), .int k, .int w] (mM B ad ix iv av, ns) (.inl (some (.int (av 32 (100 * l + j)))), (mM B ad ix (upd iv 0 0) (av), ns)) := by
  have h0l : 0 ≤ nI l := nI_pos' (by omega)
  have el : (nI l).toNatClampNeg = l := nI_clamp (by omega)
  have ex : (100 * nI l + k).toNatClampNeg = 100 * l + j := by rw [hk, nI100]; exact nI_clamp (by omega)
  have hx : xin (100 * nI l + k) 2000 := by rw [hk, nI100]; exact vp_in_nI (N := 2000) (by omega) (by decide)
  have hk1 : ¬ k = -1 := by
    rw [hk]
    have := nI_pos' (n := j) (by omega)
    grind
  show xEv _ k_M_told 0 [some (.ref (ad 0)), some (.int (nI l)), some (.int k), some (.int w), none] [] _ _
  refine ev_cutv (E := 27) (V := 1) ?_ (fun hk_1 => ?_)
  · refine ev_istore (lo1 := [some (.ref (ad 0)), some (.int (nI l)), some (.int k), some (.int w), some (.int (1))]) d_M_told_27 (Nat.le_of_ble_eq_true rfl) rfl ?_
    refine ev_aload_n d_M_told_29 rfl ?_
    refine ev_cutv (E := 50) (V := 1) ?_ (fun hk_2 => ?_)
    · refine ev_iconst (v := 1) d_M_told_50 rfl ?_
      refine ev_iconst (v := 1) d_M_told_51 rfl ?_
      refine ev_v3r d_M_told_52 q_8_116 rfl (mM_obj ok) ⟨rfl, Nat.le_of_ble_eq_true rfl, Nat.le_of_ble_eq_true rfl⟩ (c_M_goes ok _ _ _) ?_
      refine ev_if_ne (t := 60) d_M_told_55 (by decide) (fun _ => ?_) (fun c_55 => absurd c_55 (by decide))
      refine ev_iload_n d_M_told_60 rfl ?_
      refine ev_iconst (v := (-1)) d_M_told_61 rfl ?_
      refine ev_icmp_ne (t := 74) d_M_told_62 (by decide) (fun _ => ?_) (fun c_62 => absurd c_62 hk1)
      refine ev_iload_n d_M_told_74 rfl ?_
      refine ev_if_ne (t := 92) d_M_told_75 (by decide) (fun _ => ?_) (fun c_75 => absurd c_75 hw)
      refine ev_aload_n d_M_told_92 rfl ?_
      refine ev_get d_M_told_93 f_8_89 (mM_obj ok) rfl ?_
      refine ev_bipush (v := 100) d_M_told_96 rfl ?_
      refine ev_iload_n d_M_told_98 rfl ?_
      refine ev_imul d_M_told_99 ?_
      refine ev_iload_n d_M_told_100 rfl ?_
      refine ev_iadd d_M_told_101 ?_
      refine ev_iald d_M_told_102 (mM_arr ok 32 rfl) ⟨rfl, hx⟩ rfl ?_
      exact xEv.to (ev_iret d_M_told_103 rfl) (by grind [upd, va_up, xbi, mgo])
    · refine ev_iload d_M_told_30 rfl ?_
      refine ev_if_eq (t := 49) d_M_told_32 (by decide) (fun c_32 => absurd c_32 (by grind)) (fun _ => ?_)
      refine ev_iload_n d_M_told_35 rfl ?_
      refine ev_aload_n d_M_told_36 rfl ?_
      refine ev_get d_M_told_37 f_8_83 (mM_obj ok) rfl ?_
      refine ev_iload_n d_M_told_40 rfl ?_
      refine ev_iald d_M_told_41 (mM_arr ok 30 rfl) ⟨rfl, vp_in_nI (N := 20) (by omega) (by decide)⟩ rfl ?_
      refine ev_icmp_ge (t := 49) d_M_told_42 (by decide) (fun c_42_3 => ?_) (fun c_42_3 => ?_)
      · refine ev_iconst (v := 0) d_M_told_49 rfl ?_
        exact hk_2 _ (by grind)
      · refine ev_iconst (v := 1) d_M_told_45 rfl ?_
        refine ev_goto (t := 50) d_M_told_46 (by decide) ?_
        exact hk_2 _ (by grind)
  · refine ev_aload_n d_M_told_0 rfl ?_
    refine ev_iload_n d_M_told_1 rfl ?_
    refine ev_v1r d_M_told_2 q_8_184 rfl (mM_obj ok) ⟨rfl, Nat.le_of_ble_eq_true rfl, Nat.le_of_ble_eq_true rfl⟩ (c_M_isLoan ok _) ?_
    refine ev_if_eq (t := 26) d_M_told_5 (by decide) (fun c_5_4 => ?_) (fun c_5_4 => ?_)
    · refine ev_iconst (v := 0) d_M_told_26 rfl ?_
      exact hk_1 _ (by grind [xbi])
    · refine ev_iload_n d_M_told_8 rfl ?_
      refine ev_if_eq (t := 17) d_M_told_9 (by decide) (fun c_9_5 => ?_) (fun c_9_5 => ?_)
      · refine ev_iload_n d_M_told_17 rfl ?_
        refine ev_iconst (v := (-1)) d_M_told_18 rfl ?_
        refine ev_icmp_lt (t := 26) d_M_told_19 (by decide) (fun c_19_6 => ?_) (fun c_19_6 => ?_)
        · refine ev_iconst (v := 0) d_M_told_26 rfl ?_
          exact hk_1 _ (by grind [xbi])
        · refine ev_iconst (v := 1) d_M_told_22 rfl ?_
          refine ev_goto (t := 27) d_M_told_23 (by decide) ?_
          exact hk_1 _ (by grind [xbi])
      · refine ev_iload_n d_M_told_12 rfl ?_
        refine ev_iconst (v := 1) d_M_told_13 rfl ?_
        refine ev_icmp_ne (t := 26) d_M_told_14 (by decide) (fun c_14_7 => ?_) (fun c_14_7 => ?_)
        · refine ev_iconst (v := 0) d_M_told_26 rfl ?_
          exact hk_1 _ (by grind [xbi])
        · refine ev_iload_n d_M_told_17 rfl ?_
          refine ev_iconst (v := (-1)) d_M_told_18 rfl ?_
          refine ev_icmp_lt (t := 26) d_M_told_19 (by decide) (fun c_19_8 => ?_) (fun c_19_8 => ?_)
          · refine ev_iconst (v := 0) d_M_told_26 rfl ?_
            exact hk_1 _ (by grind [xbi])
          · refine ev_iconst (v := 1) d_M_told_22 rfl ?_
            refine ev_goto (t := 27) d_M_told_23 (by decide) ?_
            exact hk_1 _ (by grind [xbi])
set_option maxRecDepth 20000 in
theorem c_M_input_no1 {d : Nat} {B : xMm} {ad : Nat → Nat} {ix : Nat → Option Nat} {iv : Nat → Int32} {av : Nat → Nat → Int32} {ns : Nat × Nat} (ok : mOk ad ix) (n h v : Int32) (hn : ¬ (0 ≤ n ∧ n < 8)) : xCl (d + 1) k_M_input [.ref (ad 0), .int n, .int h, .int v] (mM B ad ix iv av, ns) (.inl (some (.int 0)), (mM B ad ix (upd iv 0 1) (av), ns)) := by
  show xEv _ k_M_input 0 [some (.ref (ad 0)), some (.int n), some (.int h), some (.int v), none, none, none] [] _ _
  refine ev_cutv (E := 15) (V := 0) ?_ (fun hk_1 => ?_)
  · refine ev_istore (lo1 := [some (.ref (ad 0)), some (.int n), some (.int h), some (.int v), some (.int (0)), none, none]) d_M_input_15 (Nat.le_of_ble_eq_true rfl) rfl ?_
    refine ev_cutv (E := 32) (V := 0) ?_ (fun hk_2 => ?_)
    · refine ev_istore (lo1 := [some (.ref (ad 0)), some (.int n), some (.int h), some (.int v), some (.int (0)), some (.int (0)), none]) d_M_input_32 (Nat.le_of_ble_eq_true rfl) rfl ?_
      refine ev_cutv (E := 77) (V := 0) ?_ (fun hk_3 => ?_)
      · refine ev_istore (lo1 := [some (.ref (ad 0)), some (.int n), some (.int h), some (.int v), some (.int (0)), some (.int (0)), some (.int (0))]) d_M_input_77 (Nat.le_of_ble_eq_true rfl) rfl ?_
        refine ev_aload_n d_M_input_79 rfl ?_
        refine ev_iload d_M_input_80 rfl ?_
        refine ev_cutv (E := 94) (V := 1) ?_ (fun hk_4 => ?_)
        · refine ev_cutv (E := 114) (V := 0) ?_ (fun hk_5 => ?_)
          · refine ev_v3r d_M_input_114 q_8_116 rfl (mM_obj ok) ⟨rfl, Nat.le_of_ble_eq_true rfl, Nat.le_of_ble_eq_true rfl⟩ (c_M_goes ok _ _ _) ?_
            refine ev_if_ne (t := 122) d_M_input_117 (by decide) (fun c_117 => absurd (by decide) c_117) (fun _ => ?_)
            refine ev_iconst (v := 0) d_M_input_120 rfl ?_
            exact xEv.to (ev_iret d_M_input_121 rfl) (by grind [upd, va_up, xbi, mgo])
          · refine ev_iload d_M_input_94 rfl ?_
            refine ev_if_eq (t := 113) d_M_input_96 (by decide) (fun _ => ?_) (fun c_96 => absurd (by grind) c_96)
            refine ev_iconst (v := 0) d_M_input_113 rfl ?_
            exact hk_5 _ (by grind)
        · refine ev_iload d_M_input_82 rfl ?_
          refine ev_bipush (v := 60) d_M_input_84 rfl ?_
          refine ev_icmp_ge (t := 93) d_M_input_86 (by decide) (fun c_86 => absurd c_86 (by grind)) (fun _ => ?_)
          refine ev_iconst (v := 1) d_M_input_89 rfl ?_
          refine ev_goto (t := 94) d_M_input_90 (by decide) ?_
          exact hk_4 _ (by grind)
      · refine ev_iload d_M_input_34 rfl ?_
        refine ev_if_eq (t := 76) d_M_input_36 (by decide) (fun _ => ?_) (fun c_36 => absurd (by grind) c_36)
        refine ev_iconst (v := 0) d_M_input_76 rfl ?_
        exact hk_3 _ (by grind)
    · refine ev_iload d_M_input_17 rfl ?_
      refine ev_if_eq (t := 31) d_M_input_19 (by decide) (fun _ => ?_) (fun c_19 => absurd (by grind) c_19)
      refine ev_iconst (v := 0) d_M_input_31 rfl ?_
      exact hk_2 _ (by grind)
  · refine ev_iload_n d_M_input_0 rfl ?_
    refine ev_if_lt (t := 14) d_M_input_1 (by decide) (fun c_1_6 => ?_) (fun c_1_6 => ?_)
    · refine ev_iconst (v := 0) d_M_input_14 rfl ?_
      exact hk_1 _ (by grind)
    · refine ev_iload_n d_M_input_4 rfl ?_
      refine ev_bipush (v := 8) d_M_input_5 rfl ?_
      refine ev_icmp_ge (t := 14) d_M_input_7 (by decide) (fun c_7_7 => ?_) (fun c_7_7 => ?_)
      · refine ev_iconst (v := 0) d_M_input_14 rfl ?_
        exact hk_1 _ (by grind)
      · refine ev_iconst (v := 1) d_M_input_10 rfl ?_
        refine ev_goto (t := 15) d_M_input_11 (by decide) ?_
        exact hk_1 _ (by grind)
set_option maxRecDepth 20000 in
theorem c_M_input_no2 {d : Nat} {B : xMm} {ad : Nat → Nat} {ix : Nat → Option Nat} {iv : Nat → Int32} {av : Nat → Nat → Int32} {ns : Nat × Nat} (ok : mOk ad ix) (h v : Int32) (n : Nat) (hn : n < 8) (rn : Nat) (hrn : rn ≤ 60) (hr : av 18 n = nI rn) (hm : mgo 1 (xbi (nI rn < 60)) (xbi (((0 ≤ h ∧ h ≤ 2400000) ∧ (rn = 0 ∨ av 19 (60 * n + rn - 1) < h)) ∧ 0 ≤ v ∧ v ≤ 999999)) ≠ 0) : xCl (d + 1) k_M_input [.ref (ad 0), .int (nI n), .int h, .int v] (mM B ad ix iv av, ns) (.inl (some (.int 0)), (mM B ad ix (upd iv 0 (mgo 1 (xbi (nI rn < 60)) (xbi (((0 ≤ h ∧ h ≤ 2400000) ∧ (rn = 0 ∨ av 19 (60 * n + rn - 1) < h)) ∧ 0 ≤ v ∧ v ≤ 999999)))) (av), ns)) := by
  have h0n : 0 ≤ nI n := nI_pos' (by omega)
  have en : (nI n).toNatClampNeg = n := nI_clamp (by omega)
  have hn8 : nI n < 8 := nI_lt hn (by decide)
  have ern : (nI rn).toNatClampNeg = rn := nI_clamp (by omega)
  have hz : nI rn = 0 ↔ rn = 0 := by rw [show (0 : Int32) = nI 0 from rfl]; exact nI_eq (by omega) (by decide)
  have ex : 0 < rn → (60 * nI n + nI rn - 1).toNatClampNeg = 60 * n + rn - 1 := fun h0 => by rw [nI60, show 60 * n + rn = (60 * n + rn - 1) + 1 by omega, nI_pred]; exact nI_clamp (by omega)
  have hx : ¬ nI rn = 0 → xin (60 * nI n + nI rn - 1) 480 := fun h0 => by
    have h1 : 0 < rn := by
      have : ¬ rn = 0 := fun e => h0 (hz.mpr e)
      omega
    rw [nI60, show 60 * n + rn = (60 * n + rn - 1) + 1 by omega, nI_pred]
    exact vp_in_nI (N := 480) (by omega) (by decide)
  show xEv _ k_M_input 0 [some (.ref (ad 0)), some (.int (nI n)), some (.int h), some (.int v), none, none, none] [] _ _
  refine ev_cutv (E := 15) (V := 1) ?_ (fun hk_1 => ?_)
  · refine ev_istore (lo1 := [some (.ref (ad 0)), some (.int (nI n)), some (.int h), some (.int v), some (.int (1)), none, none]) d_M_input_15 (Nat.le_of_ble_eq_true rfl) rfl ?_
    refine ev_cutv (E := 32) (V := nI rn) ?_ (fun hk_2 => ?_)
    · refine ev_istore (lo1 := [some (.ref (ad 0)), some (.int (nI n)), some (.int h), some (.int v), some (.int (1)), some (.int (nI rn)), none]) d_M_input_32 (Nat.le_of_ble_eq_true rfl) rfl ?_
      refine ev_cutv (E := 77) (V := xbi ((0 ≤ h ∧ h ≤ 2400000) ∧ (rn = 0 ∨ av 19 (60 * n + rn - 1) < h))) ?_ (fun hk_3 => ?_)
      · refine ev_top (fun x_4 ex_4 => ?_)
        refine ev_istore (lo1 := [some (.ref (ad 0)), some (.int (nI n)), some (.int h), some (.int v), some (.int (1)), some (.int (nI rn)), some (.int x_4)]) d_M_input_77 (Nat.le_of_ble_eq_true rfl) rfl ?_
        refine ev_aload_n d_M_input_79 rfl ?_
        refine ev_iload d_M_input_80 rfl ?_
        refine ev_cutv (E := 94) (V := xbi (nI rn < 60)) ?_ (fun hk_5 => ?_)
        · refine ev_cutv (E := 114) (V := xbi (((0 ≤ h ∧ h ≤ 2400000) ∧ (rn = 0 ∨ av 19 (60 * n + rn - 1) < h)) ∧ 0 ≤ v ∧ v ≤ 999999)) ?_ (fun hk_6 => ?_)
          · refine ev_v3r d_M_input_114 q_8_116 rfl (mM_obj ok) ⟨rfl, Nat.le_of_ble_eq_true rfl, Nat.le_of_ble_eq_true rfl⟩ (c_M_goes ok _ _ _) ?_
            refine ev_if_ne (t := 122) d_M_input_117 (by decide) (fun c_117 => absurd (xbi_f hm) c_117) (fun _ => ?_)
            refine ev_iconst (v := 0) d_M_input_120 rfl ?_
            exact xEv.to (ev_iret d_M_input_121 rfl) rfl
          · refine ev_iload d_M_input_94 rfl ?_
            refine ev_if_eq (t := 113) d_M_input_96 (by decide) (fun c_96_7 => ?_) (fun c_96_7 => ?_)
            · refine ev_iconst (v := 0) d_M_input_113 rfl ?_
              exact hk_6 _ (by clear hm ex hx; grind [xbi])
            · refine ev_iload_n d_M_input_99 rfl ?_
              refine ev_iconst (v := 0) d_M_input_100 rfl ?_
              refine ev_ldc d_M_input_101 l_8_172 ?_
              refine ev_s3r d_M_input_103 q_8_112 rfl ⟨rfl, Nat.le_of_ble_eq_true rfl, Nat.le_of_ble_eq_true rfl⟩ (c_M_within _ _ _) ?_
              refine ev_if_eq (t := 113) d_M_input_106 (by decide) (fun c_106_8 => ?_) (fun c_106_8 => ?_)
              · refine ev_iconst (v := 0) d_M_input_113 rfl ?_
                exact hk_6 _ (by clear hm ex hx; grind [xbi])
              · refine ev_iconst (v := 1) d_M_input_109 rfl ?_
                refine ev_goto (t := 114) d_M_input_110 (by decide) ?_
                exact hk_6 _ (by clear hm ex hx; grind [xbi])
        · refine ev_iload d_M_input_82 rfl ?_
          refine ev_bipush (v := 60) d_M_input_84 rfl ?_
          refine ev_icmp_ge (t := 93) d_M_input_86 (by decide) (fun c_86_9 => ?_) (fun c_86_9 => ?_)
          · refine ev_iconst (v := 0) d_M_input_93 rfl ?_
            exact hk_5 _ (by clear hm ex hx; grind [xbi])
          · refine ev_iconst (v := 1) d_M_input_89 rfl ?_
            refine ev_goto (t := 94) d_M_input_90 (by decide) ?_
            exact hk_5 _ (by clear hm ex hx; grind [xbi])
      · refine ev_iload d_M_input_34 rfl ?_
        refine ev_if_eq (t := 76) d_M_input_36 (by decide) (fun c_36_10 => ?_) (fun c_36_10 => ?_)
        · refine ev_iconst (v := 0) d_M_input_76 rfl ?_
          exact hk_3 _ (by clear hm ex hx; grind [xbi])
        · refine ev_iload_n d_M_input_39 rfl ?_
          refine ev_iconst (v := 0) d_M_input_40 rfl ?_
          refine ev_ldc d_M_input_41 l_8_171 ?_
          refine ev_s3r d_M_input_43 q_8_112 rfl ⟨rfl, Nat.le_of_ble_eq_true rfl, Nat.le_of_ble_eq_true rfl⟩ (c_M_within _ _ _) ?_
          refine ev_if_eq (t := 76) d_M_input_46 (by decide) (fun c_46_11 => ?_) (fun c_46_11 => ?_)
          · refine ev_iconst (v := 0) d_M_input_76 rfl ?_
            exact hk_3 _ (by clear hm ex hx; grind [xbi])
          · refine ev_iload d_M_input_49 rfl ?_
            refine ev_if_eq (t := 72) d_M_input_51 (by decide) (fun c_51_12 => ?_) (fun c_51_12 => ?_)
            · refine ev_iconst (v := 1) d_M_input_72 rfl ?_
              refine ev_goto (t := 77) d_M_input_73 (by decide) ?_
              exact hk_3 _ (by clear hm ex hx; grind [xbi])
            · refine ev_iload_n d_M_input_54 rfl ?_
              refine ev_aload_n d_M_input_55 rfl ?_
              refine ev_get d_M_input_56 f_8_52 (mM_obj ok) rfl ?_
              refine ev_bipush (v := 60) d_M_input_59 rfl ?_
              refine ev_iload_n d_M_input_61 rfl ?_
              refine ev_imul d_M_input_62 ?_
              refine ev_iload d_M_input_63 rfl ?_
              refine ev_iadd d_M_input_65 ?_
              refine ev_iconst (v := 1) d_M_input_66 rfl ?_
              refine ev_isub d_M_input_67 ?_
              refine ev_iald d_M_input_68 (mM_arr ok 19 rfl) ⟨rfl, hx (by assumption)⟩ rfl ?_
              rw [ex (by have h7 : ¬ rn = 0 := fun e => absurd (hz.mpr e) (by assumption); omega)]
              refine ev_icmp_le (t := 76) d_M_input_69 (by decide) (fun c_69_13 => ?_) (fun c_69_13 => ?_)
              · refine ev_iconst (v := 0) d_M_input_76 rfl ?_
                exact hk_3 _ (by clear hm ex hx; grind [xbi])
              · refine ev_iconst (v := 1) d_M_input_72 rfl ?_
                refine ev_goto (t := 77) d_M_input_73 (by decide) ?_
                exact hk_3 _ (by clear hm ex hx; grind [xbi])
    · refine ev_iload d_M_input_17 rfl ?_
      refine ev_if_eq (t := 31) d_M_input_19 (by decide) (fun c_19_14 => ?_) (fun c_19_14 => ?_)
      · refine ev_iconst (v := 0) d_M_input_31 rfl ?_
        exact hk_2 _ (by clear hm ex hx; grind)
      · refine ev_aload_n d_M_input_22 rfl ?_
        refine ev_get d_M_input_23 f_8_49 (mM_obj ok) rfl ?_
        refine ev_iload_n d_M_input_26 rfl ?_
        refine ev_iald d_M_input_27 (mM_arr ok 18 rfl) ⟨rfl, vp_in_nI (N := 8) hn (by decide)⟩ rfl ?_
        refine ev_goto (t := 32) d_M_input_28 (by decide) ?_
        exact hk_2 _ (by clear hm ex hx; grind)
  · refine ev_iload_n d_M_input_0 rfl ?_
    refine ev_if_lt (t := 14) d_M_input_1 (by decide) (fun c_1_15 => ?_) (fun c_1_15 => ?_)
    · refine ev_iconst (v := 0) d_M_input_14 rfl ?_
      exact hk_1 _ (by clear hm ex hx; grind)
    · refine ev_iload_n d_M_input_4 rfl ?_
      refine ev_bipush (v := 8) d_M_input_5 rfl ?_
      refine ev_icmp_ge (t := 14) d_M_input_7 (by decide) (fun c_7_16 => ?_) (fun c_7_16 => ?_)
      · refine ev_iconst (v := 0) d_M_input_14 rfl ?_
        exact hk_1 _ (by clear hm ex hx; grind)
      · refine ev_iconst (v := 1) d_M_input_10 rfl ?_
        refine ev_goto (t := 15) d_M_input_11 (by decide) ?_
        exact hk_1 _ (by clear hm ex hx; grind)
set_option maxRecDepth 20000 in
theorem c_M_input_ok {d : Nat} {B : xMm} {ad : Nat → Nat} {ix : Nat → Option Nat} {iv : Nat → Int32} {av : Nat → Nat → Int32} {ns : Nat × Nat} (ok : mOk ad ix) (h v : Int32) (n : Nat) (hn : n < 8) (rn : Nat) (hrn : rn ≤ 60) (hr : av 18 n = nI rn) (hm : mgo 1 (xbi (nI rn < 60)) (xbi (((0 ≤ h ∧ h ≤ 2400000) ∧ (rn = 0 ∨ av 19 (60 * n + rn - 1) < h)) ∧ 0 ≤ v ∧ v ≤ 999999)) = 0) : xCl (d + 1) k_M_input [.ref (ad 0), .int (nI n), .int h, .int v] (mM B ad ix iv av, ns) (.inl (some (.int (nI (rn + 1)))), (mM B ad ix (upd iv 0 0) (va_up (va_up (va_up av 19 (upd (av 19) (60 * n + rn) h)) 20 (upd (av 20) (60 * n + rn) v)) 18 (upd (av 18) n (nI (rn + 1)))), ns)) := by
  have h0n : 0 ≤ nI n := nI_pos' (by omega)
  have en : (nI n).toNatClampNeg = n := nI_clamp (by omega)
  have hn8 : nI n < 8 := nI_lt hn (by decide)
  have ern : (nI rn).toNatClampNeg = rn := nI_clamp (by omega)
  have hz : nI rn = 0 ↔ rn = 0 := by rw [show (0 : Int32) = nI 0 from rfl]; exact nI_eq (by omega) (by decide)
  have ex : 0 < rn → (60 * nI n + nI rn - 1).toNatClampNeg = 60 * n + rn - 1 := fun h0 => by rw [nI60, show 60 * n + rn = (60 * n + rn - 1) + 1 by omega, nI_pred]; exact nI_clamp (by omega)
  have hx : ¬ nI rn = 0 → xin (60 * nI n + nI rn - 1) 480 := fun h0 => by
    have h1 : 0 < rn := by
      have : ¬ rn = 0 := fun e => h0 (hz.mpr e)
      omega
    rw [nI60, show 60 * n + rn = (60 * n + rn - 1) + 1 by omega, nI_pred]
    exact vp_in_nI (N := 480) (by omega) (by decide)
  have hlt : rn < 60 := by
    have h9 : nI rn < 60 := by grind [mgo, xbi]
    exact (nI_ltI (a := rn) (b := 60) (by omega) (by decide)).mp h9
  have ey : (60 * nI n + nI rn).toNatClampNeg = 60 * n + rn := by rw [nI60]; exact nI_clamp (by omega)
  have hy : xin (60 * nI n + nI rn) 480 := by rw [nI60]; exact vp_in_nI (N := 480) (by omega) (by decide)
  have es : nI (rn + 1) = nI rn + 1 := nI_succ rn
  show xEv _ k_M_input 0 [some (.ref (ad 0)), some (.int (nI n)), some (.int h), some (.int v), none, none, none] [] _ _
  refine ev_cutv (E := 15) (V := 1) ?_ (fun hk_1 => ?_)
  · refine ev_istore (lo1 := [some (.ref (ad 0)), some (.int (nI n)), some (.int h), some (.int v), some (.int (1)), none, none]) d_M_input_15 (Nat.le_of_ble_eq_true rfl) rfl ?_
    refine ev_cutv (E := 32) (V := nI rn) ?_ (fun hk_2 => ?_)
    · refine ev_istore (lo1 := [some (.ref (ad 0)), some (.int (nI n)), some (.int h), some (.int v), some (.int (1)), some (.int (nI rn)), none]) d_M_input_32 (Nat.le_of_ble_eq_true rfl) rfl ?_
      refine ev_cutv (E := 77) (V := xbi ((0 ≤ h ∧ h ≤ 2400000) ∧ (rn = 0 ∨ av 19 (60 * n + rn - 1) < h))) ?_ (fun hk_3 => ?_)
      · refine ev_top (fun x_4 ex_4 => ?_)
        refine ev_istore (lo1 := [some (.ref (ad 0)), some (.int (nI n)), some (.int h), some (.int v), some (.int (1)), some (.int (nI rn)), some (.int x_4)]) d_M_input_77 (Nat.le_of_ble_eq_true rfl) rfl ?_
        refine ev_aload_n d_M_input_79 rfl ?_
        refine ev_iload d_M_input_80 rfl ?_
        refine ev_cutv (E := 94) (V := xbi (nI rn < 60)) ?_ (fun hk_5 => ?_)
        · refine ev_cutv (E := 114) (V := xbi (((0 ≤ h ∧ h ≤ 2400000) ∧ (rn = 0 ∨ av 19 (60 * n + rn - 1) < h)) ∧ 0 ≤ v ∧ v ≤ 999999)) ?_ (fun hk_6 => ?_)
          · refine ev_v3r d_M_input_114 q_8_116 rfl (mM_obj ok) ⟨rfl, Nat.le_of_ble_eq_true rfl, Nat.le_of_ble_eq_true rfl⟩ (c_M_goes ok _ _ _) ?_
            refine ev_if_ne (t := 122) d_M_input_117 (by decide) (fun _ => ?_) (fun c_117 => absurd c_117 (by rw [hm]; decide))
            refine ev_aload_n d_M_input_122 rfl ?_
            refine ev_get d_M_input_123 f_8_52 (mM_obj ok) rfl ?_
            refine ev_bipush (v := 60) d_M_input_126 rfl ?_
            refine ev_iload_n d_M_input_128 rfl ?_
            refine ev_imul d_M_input_129 ?_
            refine ev_iload d_M_input_130 rfl ?_
            refine ev_iadd d_M_input_132 ?_
            refine ev_iload_n d_M_input_133 rfl ?_
            refine ev_iast d_M_input_134 (mM_arr ok 19 rfl) ⟨rfl, hy⟩ (mM_ast ok 19 rfl) ?_
            rw [ey]
            refine ev_aload_n d_M_input_135 rfl ?_
            refine ev_get d_M_input_136 f_8_55 (mM_obj ok) rfl ?_
            refine ev_bipush (v := 60) d_M_input_139 rfl ?_
            refine ev_iload_n d_M_input_141 rfl ?_
            refine ev_imul d_M_input_142 ?_
            refine ev_iload d_M_input_143 rfl ?_
            refine ev_iadd d_M_input_145 ?_
            refine ev_iload_n d_M_input_146 rfl ?_
            refine ev_iast d_M_input_147 (mM_arr ok 20 rfl) ⟨rfl, hy⟩ (mM_ast ok 20 rfl) ?_
            rw [ey]
            refine ev_aload_n d_M_input_148 rfl ?_
            refine ev_get d_M_input_149 f_8_49 (mM_obj ok) rfl ?_
            refine ev_iload_n d_M_input_152 rfl ?_
            refine ev_dup2 d_M_input_153 ⟨rfl, rfl⟩ ?_
            refine ev_iald d_M_input_154 (mM_arr ok 18 rfl) ⟨rfl, vp_in_nI (N := 8) hn (by decide)⟩ rfl ?_
            rw [en]
            refine ev_iconst (v := 1) d_M_input_155 rfl ?_
            refine ev_iadd d_M_input_156 ?_
            refine ev_iast d_M_input_157 (mM_arr ok 18 rfl) ⟨rfl, vp_in_nI (N := 8) hn (by decide)⟩ (mM_ast ok 18 rfl) ?_
            rw [en]
            refine ev_aload_n d_M_input_158 rfl ?_
            refine ev_get d_M_input_159 f_8_49 (mM_obj ok) rfl ?_
            refine ev_iload_n d_M_input_162 rfl ?_
            refine ev_iald d_M_input_163 (mM_arr ok 18 rfl) ⟨rfl, vp_in_nI (N := 8) hn (by decide)⟩ rfl ?_
            rw [en]
            exact xEv.to (ev_iret d_M_input_164 rfl) (by rw [hm]; clear hm ex hx ey hy; simp [va_up, upd, hr, es])
          · refine ev_iload d_M_input_94 rfl ?_
            refine ev_if_eq (t := 113) d_M_input_96 (by decide) (fun c_96_7 => ?_) (fun c_96_7 => ?_)
            · refine ev_iconst (v := 0) d_M_input_113 rfl ?_
              exact hk_6 _ (by clear hm ex hx; grind [xbi])
            · refine ev_iload_n d_M_input_99 rfl ?_
              refine ev_iconst (v := 0) d_M_input_100 rfl ?_
              refine ev_ldc d_M_input_101 l_8_172 ?_
              refine ev_s3r d_M_input_103 q_8_112 rfl ⟨rfl, Nat.le_of_ble_eq_true rfl, Nat.le_of_ble_eq_true rfl⟩ (c_M_within _ _ _) ?_
              refine ev_if_eq (t := 113) d_M_input_106 (by decide) (fun c_106_8 => ?_) (fun c_106_8 => ?_)
              · refine ev_iconst (v := 0) d_M_input_113 rfl ?_
                exact hk_6 _ (by clear hm ex hx; grind [xbi])
              · refine ev_iconst (v := 1) d_M_input_109 rfl ?_
                refine ev_goto (t := 114) d_M_input_110 (by decide) ?_
                exact hk_6 _ (by clear hm ex hx; grind [xbi])
        · refine ev_iload d_M_input_82 rfl ?_
          refine ev_bipush (v := 60) d_M_input_84 rfl ?_
          refine ev_icmp_ge (t := 93) d_M_input_86 (by decide) (fun c_86_9 => ?_) (fun c_86_9 => ?_)
          · refine ev_iconst (v := 0) d_M_input_93 rfl ?_
            exact hk_5 _ (by clear hm ex hx; grind [xbi])
          · refine ev_iconst (v := 1) d_M_input_89 rfl ?_
            refine ev_goto (t := 94) d_M_input_90 (by decide) ?_
            exact hk_5 _ (by clear hm ex hx; grind [xbi])
      · refine ev_iload d_M_input_34 rfl ?_
        refine ev_if_eq (t := 76) d_M_input_36 (by decide) (fun c_36_10 => ?_) (fun c_36_10 => ?_)
        · refine ev_iconst (v := 0) d_M_input_76 rfl ?_
          exact hk_3 _ (by clear hm ex hx; grind [xbi])
        · refine ev_iload_n d_M_input_39 rfl ?_
          refine ev_iconst (v := 0) d_M_input_40 rfl ?_
          refine ev_ldc d_M_input_41 l_8_171 ?_
          refine ev_s3r d_M_input_43 q_8_112 rfl ⟨rfl, Nat.le_of_ble_eq_true rfl, Nat.le_of_ble_eq_true rfl⟩ (c_M_within _ _ _) ?_
          refine ev_if_eq (t := 76) d_M_input_46 (by decide) (fun c_46_11 => ?_) (fun c_46_11 => ?_)
          · refine ev_iconst (v := 0) d_M_input_76 rfl ?_
            exact hk_3 _ (by clear hm ex hx; grind [xbi])
          · refine ev_iload d_M_input_49 rfl ?_
            refine ev_if_eq (t := 72) d_M_input_51 (by decide) (fun c_51_12 => ?_) (fun c_51_12 => ?_)
            · refine ev_iconst (v := 1) d_M_input_72 rfl ?_
              refine ev_goto (t := 77) d_M_input_73 (by decide) ?_
              exact hk_3 _ (by clear hm ex hx; grind [xbi])
            · refine ev_iload_n d_M_input_54 rfl ?_
              refine ev_aload_n d_M_input_55 rfl ?_
              refine ev_get d_M_input_56 f_8_52 (mM_obj ok) rfl ?_
              refine ev_bipush (v := 60) d_M_input_59 rfl ?_
              refine ev_iload_n d_M_input_61 rfl ?_
              refine ev_imul d_M_input_62 ?_
              refine ev_iload d_M_input_63 rfl ?_
              refine ev_iadd d_M_input_65 ?_
              refine ev_iconst (v := 1) d_M_input_66 rfl ?_
              refine ev_isub d_M_input_67 ?_
              refine ev_iald d_M_input_68 (mM_arr ok 19 rfl) ⟨rfl, hx (by assumption)⟩ rfl ?_
              rw [ex (by have h7 : ¬ rn = 0 := fun e => absurd (hz.mpr e) (by assumption); omega)]
              refine ev_icmp_le (t := 76) d_M_input_69 (by decide) (fun c_69_13 => ?_) (fun c_69_13 => ?_)
              · refine ev_iconst (v := 0) d_M_input_76 rfl ?_
                exact hk_3 _ (by clear hm ex hx; grind [xbi])
              · refine ev_iconst (v := 1) d_M_input_72 rfl ?_
                refine ev_goto (t := 77) d_M_input_73 (by decide) ?_
                exact hk_3 _ (by clear hm ex hx; grind [xbi])
    · refine ev_iload d_M_input_17 rfl ?_
      refine ev_if_eq (t := 31) d_M_input_19 (by decide) (fun c_19_14 => ?_) (fun c_19_14 => ?_)
      · refine ev_iconst (v := 0) d_M_input_31 rfl ?_
        exact hk_2 _ (by clear hm ex hx; grind)
      · refine ev_aload_n d_M_input_22 rfl ?_
        refine ev_get d_M_input_23 f_8_49 (mM_obj ok) rfl ?_
        refine ev_iload_n d_M_input_26 rfl ?_
        refine ev_iald d_M_input_27 (mM_arr ok 18 rfl) ⟨rfl, vp_in_nI (N := 8) hn (by decide)⟩ rfl ?_
        refine ev_goto (t := 32) d_M_input_28 (by decide) ?_
        exact hk_2 _ (by clear hm ex hx; grind)
  · refine ev_iload_n d_M_input_0 rfl ?_
    refine ev_if_lt (t := 14) d_M_input_1 (by decide) (fun c_1_15 => ?_) (fun c_1_15 => ?_)
    · refine ev_iconst (v := 0) d_M_input_14 rfl ?_
      exact hk_1 _ (by clear hm ex hx; grind)
    · refine ev_iload_n d_M_input_4 rfl ?_
      refine ev_bipush (v := 8) d_M_input_5 rfl ?_
      refine ev_icmp_ge (t := 14) d_M_input_7 (by decide) (fun c_7_16 => ?_) (fun c_7_16 => ?_)
      · refine ev_iconst (v := 0) d_M_input_14 rfl ?_
        exact hk_1 _ (by clear hm ex hx; grind)
      · refine ev_iconst (v := 1) d_M_input_10 rfl ?_
        refine ev_goto (t := 15) d_M_input_11 (by decide) ?_
        exact hk_1 _ (by clear hm ex hx; grind)
end
section
/-! texts: a list laid into an array; numbers as digits -/
def wrF (f : Nat → Int32) (w : List Int32) : Nat → Int32 := fun i => (w[i]?).getD (f i)
theorem wrF_nil (f : Nat → Int32) : wrF f [] = f := by funext i; simp [wrF]
theorem wrF_put (f : Nat → Int32) (w : List Int32) (s : Int32) : upd (wrF f w) w.length s = wrF f (w ++ [s]) := by
  funext i
  unfold upd wrF
  by_cases h : i = w.length
  · subst h
    simp
  · by_cases h2 : i < w.length
    · simp [h, List.getElem?_append_left h2]
    · have h3 : w.length + 1 ≤ i := by omega
      simp [h, List.getElem?_eq_none (Nat.le_of_not_lt h2), List.getElem?_eq_none (show (w ++ [s]).length ≤ i by simp; omega)]
theorem wrF_at {f : Nat → Int32} {w : List Int32} {i : Nat} {s : Int32} (h : w[i]? = some s) : wrF f w i = s := by simp [wrF, h]
theorem wrF_base (f : Nat → Int32) (w u : List Int32) : wrF f (w ++ u) = wrF (wrF f (w ++ u)) w := by
  funext i
  unfold wrF
  by_cases h2 : i < w.length
  · simp [List.getElem?_append_left h2, h2]
  · simp [List.getElem?_eq_none (Nat.le_of_not_lt h2)]
def wI (iv : Nat → Int32) (w : List Int32) : Nat → Int32 := upd iv 17 (nI w.length)
def wA (av : Nat → Nat → Int32) (w : List Int32) : Nat → Nat → Int32 := va_up av 16 (wrF (av 16) w)
theorem wI_ne {iv : Nat → Int32} {w : List Int32} {k : Nat} (h : k ≠ 17) : wI iv w k = iv k := by simp [wI, upd, h]
theorem wI_17 (iv : Nat → Int32) (w : List Int32) : wI iv w 17 = nI w.length := by simp [wI, upd]
theorem wA_ne {av : Nat → Nat → Int32} {w : List Int32} {k : Nat} (h : k ≠ 16) : wA av w k = av k := va_up_ne _ _ h
theorem wA_16 (av : Nat → Nat → Int32) (w : List Int32) : wA av w 16 = wrF (av 16) w := va_up_self _ _ _
theorem va_up_up {α : Type} (f : Nat → α) (k : Nat) (u v : α) : va_up (va_up f k u) k v = va_up f k v := by funext j; simp [va_up]; grind
theorem upd_upd (f : Nat → Int32) (k : Nat) (u v : Int32) : upd (upd f k u) k v = upd f k v := by funext j; simp [upd]; grind
/-- the first j from which on the number has no further digit -/
def dn (m : Nat) : Nat → Nat → Nat
  | 0, j => j
  | f + 1, j => if m / 10 ^ j ≤ 9 then j else dn m f (j + 1)
def dgn (m : Nat) : Nat → List Int32
  | 0 => [nI (48 + m % 10)]
  | j + 1 => nI (48 + m / 10 ^ (j + 1) % 10) :: dgn m j
def dg (m : Nat) : List Int32 := dgn m (dn m 5 0)
theorem dn_le (m : Nat) : ∀ f j, dn m f j ≤ f + j
  | 0, j => by simp [dn]
  | f + 1, j => by
    unfold dn
    split
    · omega
    · have := dn_le m f (j + 1)
      omega
theorem dgn_len (m : Nat) : ∀ j, (dgn m j).length = j + 1
  | 0 => rfl
  | j + 1 => by simp [dgn, dgn_len m j]
theorem dg_len (m : Nat) : (dg m).length ≤ 6 := by
  unfold dg
  rw [dgn_len]
  have := dn_le m 5 0
  omega
theorem dg_pos (m : Nat) : 1 ≤ (dg m).length := by
  unfold dg
  rw [dgn_len]
  omega
theorem p10 {j : Nat} (h : j ≤ 5) : 10 ^ j ≤ 100000 := Nat.le_trans (Nat.pow_le_pow_right (by decide) h) (by decide)
theorem p10p (j : Nat) : 0 < 10 ^ j := Nat.pow_pos (by decide)
theorem c_M_putw {d : Nat} {B : xMm} {ad : Nat → Nat} {ix : Nat → Option Nat} {iv : Nat → Int32} {av : Nat → Nat → Int32} {ns : Nat × Nat} (ok : mOk ad ix) (s : Int32) (w : List Int32) (hw : w.length < 400) : xCl d k_M_put [.ref (ad 0), .int s] (mM B ad ix (wI iv (w)) (wA av (w)), ns) (.inl none, (mM B ad ix (wI iv (w ++ [s])) (wA av (w ++ [s])), ns)) := by
  have h := c_M_put (d := d) (B := B) (ns := ns) (iv := wI iv w) (av := wA av w) ok s w.length hw (wI_17 iv w)
  rw [show upd (wI iv w) 17 (nI (w.length + 1)) = wI iv (w ++ [s]) by simp [wI, upd_upd], show va_up (wA av w) 16 (upd (wA av w 16) w.length s) = wA av (w ++ [s]) by rw [wA_16, wrF_put]; simp [wA, va_up_up]] at h
  exact h
set_option maxRecDepth 20000 in
theorem l_M_putNumber2 {d : Nat} {B : xMm} {ad : Nat → Nat} {ix : Nat → Option Nat} {iv : Nat → Int32} {av : Nat → Nat → Int32} {ns : Nat × Nat} (ok : mOk ad ix) (m : Nat) (hm : m < 1000000) : ∀ (j : Nat) (w : List Int32), j ≤ 5 → w.length + (dgn m j).length ≤ 400 → xEv (d + 1) k_M_putNumber 18 [some (.ref (ad 0)), some (.int (nI m)), some (.int (nI (10 ^ j)))] [] (mM B ad ix (wI iv (w)) (wA av (w)), ns) (.inl none, (mM B ad ix (wI iv (w ++ dgn m j)) (wA av (w ++ dgn m j)), ns)) := by
  intro j
  induction j with
  | zero =>
    intro w hj hw
    have hdj : nI m / nI (10 ^ 0) = nI (m / 10 ^ 0) := pk_div (by omega) (by decide) (by decide)
    rw [show dgn m 0 = [nI (48 + m / 10 ^ 0 % 10)] from by simp [dgn]]
    refine ev_iload_n d_M_putNumber_18 rfl ?_
    refine ev_if_le (t := 43) d_M_putNumber_19 (by decide) (fun c_19 => absurd c_19 (by decide)) (fun _ => ?_)
    refine ev_aload_n d_M_putNumber_22 rfl ?_
    refine ev_bipush (v := 48) d_M_putNumber_23 rfl ?_
    refine ev_iload_n d_M_putNumber_25 rfl ?_
    refine ev_iload_n d_M_putNumber_26 rfl ?_
    refine ev_idiv d_M_putNumber_27 (nI_ne0 (p10p _) (by omega)) ?_
    rw [hdj]
    refine ev_bipush (v := 10) d_M_putNumber_28 rfl ?_
    rw [show (10 : Int32) = nI 10 from rfl]
    refine ev_irem d_M_putNumber_30 (by decide) ?_
    rw [pk_rem (by omega) (by decide) (by decide), show (48 : Int32) = nI 48 from rfl]
    refine ev_iadd d_M_putNumber_31 ?_
    rw [nI_add]
    refine ev_v1o d_M_putNumber_32 q_8_152 rfl (mM_obj ok) ⟨rfl, Nat.le_of_ble_eq_true rfl, Nat.le_of_ble_eq_true rfl⟩ (c_M_putw ok _ _ (by have := hw; simp [dgn_len] at this; omega)) ?_
    refine ev_iload_n d_M_putNumber_35 rfl ?_
    refine ev_bipush (v := 10) d_M_putNumber_36 rfl ?_
    refine ev_idiv d_M_putNumber_38 (by decide) ?_
    refine ev_top (fun x_1 ex_1 => ?_)
    refine ev_istore_n (lo1 := [some (.ref (ad 0)), some (.int (nI m)), some (.int x_1)]) d_M_putNumber_39 (Nat.le_of_ble_eq_true rfl) rfl ?_
    refine ev_goto (t := 18) d_M_putNumber_40 (by decide) ?_
    rw [show x_1 = 0 from by rw [ex_1]; rfl]
    refine ev_iload_n d_M_putNumber_18 rfl ?_
    refine ev_if_le (t := 43) d_M_putNumber_19 (by decide) (fun _ => ?_) (fun c_19 => absurd (by decide) c_19)
    exact ev_ret d_M_putNumber_43 rfl
  | succ j ih =>
    intro w hj hw
    have hp := p10 hj
    have hp2 := p10p (j + 1)
    have hp3 := p10 (show j ≤ 5 by omega)
    have hdj : nI m / nI (10 ^ (j + 1)) = nI (m / 10 ^ (j + 1)) := pk_div (by omega) hp2 (by omega)
    have hlt : m / 10 ^ (j + 1) ≤ m := Nat.div_le_self _ _
    refine ev_iload_n d_M_putNumber_18 rfl ?_
    refine ev_if_le (t := 43) d_M_putNumber_19 (by decide) (fun c_19 => absurd c_19 (nI_nle (p10p _) (by omega))) (fun _ => ?_)
    refine ev_aload_n d_M_putNumber_22 rfl ?_
    refine ev_bipush (v := 48) d_M_putNumber_23 rfl ?_
    refine ev_iload_n d_M_putNumber_25 rfl ?_
    refine ev_iload_n d_M_putNumber_26 rfl ?_
    refine ev_idiv d_M_putNumber_27 (nI_ne0 (p10p _) (by omega)) ?_
    rw [hdj]
    refine ev_bipush (v := 10) d_M_putNumber_28 rfl ?_
    rw [show (10 : Int32) = nI 10 from rfl]
    refine ev_irem d_M_putNumber_30 (by decide) ?_
    rw [pk_rem (by omega) (by decide) (by decide), show (48 : Int32) = nI 48 from rfl]
    refine ev_iadd d_M_putNumber_31 ?_
    rw [nI_add]
    refine ev_v1o d_M_putNumber_32 q_8_152 rfl (mM_obj ok) ⟨rfl, Nat.le_of_ble_eq_true rfl, Nat.le_of_ble_eq_true rfl⟩ (c_M_putw ok _ _ (by have := hw; simp [dgn_len] at this; omega)) ?_
    refine ev_iload_n d_M_putNumber_35 rfl ?_
    refine ev_bipush (v := 10) d_M_putNumber_36 rfl ?_
    refine ev_idiv d_M_putNumber_38 (by decide) ?_
    refine ev_top (fun x_1 ex_1 => ?_)
    refine ev_istore_n (lo1 := [some (.ref (ad 0)), some (.int (nI m)), some (.int x_1)]) d_M_putNumber_39 (Nat.le_of_ble_eq_true rfl) rfl ?_
    refine ev_goto (t := 18) d_M_putNumber_40 (by decide) ?_
    rw [show x_1 = nI (10 ^ j) from by rw [ex_1, show (10 : Int32) = nI 10 from rfl, pk_div (by omega) (by decide) (by decide), Nat.pow_succ, Nat.mul_div_cancel _ (by decide)]]
    exact xEv.to (ih _ (by omega) (by have := hw; simp [dgn_len] at this ⊢; omega)) (by simp [dgn])
set_option maxRecDepth 20000 in
theorem l_M_putNumber1 {d : Nat} {B : xMm} {ad : Nat → Nat} {ix : Nat → Option Nat} {iv : Nat → Int32} {av : Nat → Nat → Int32} {ns : Nat × Nat} (ok : mOk ad ix) (m : Nat) (hm : m < 1000000) (w : List Int32) : ∀ (f j : Nat), j + f = 5 → w.length + (dgn m (dn m f j)).length ≤ 400 → xEv (d + 1) k_M_putNumber 2 [some (.ref (ad 0)), some (.int (nI m)), some (.int (nI (10 ^ j)))] [] (mM B ad ix (wI iv (w)) (wA av (w)), ns) (.inl none, (mM B ad ix (wI iv (w ++ dgn m (dn m f j))) (wA av (w ++ dgn m (dn m f j))), ns)) := by
  intro f
  induction f with
  | zero =>
    intro j hj hw
    have hj5 : j = 5 := by omega
    have hp := p10 (show j ≤ 5 by omega)
    have hp2 := p10p j
    have hdj : nI m / nI (10 ^ j) = nI (m / 10 ^ j) := pk_div (by omega) hp2 (by omega)
    have hlt : m / 10 ^ j ≤ m := Nat.div_le_self _ _
    refine ev_iload_n d_M_putNumber_2 rfl ?_
    refine ev_iload_n d_M_putNumber_3 rfl ?_
    refine ev_idiv d_M_putNumber_4 (nI_ne0 (p10p _) (by omega)) ?_
    rw [hdj]
    refine ev_bipush (v := 9) d_M_putNumber_5 rfl ?_
    refine ev_icmp_le (t := 18) d_M_putNumber_7 (by decide) (fun _ => ?_) (fun c_7 => absurd (nI_le (b := 9) (by rw [show j = 5 by omega]; omega) (by decide)) c_7)
    exact l_M_putNumber2 ok m hm _ _ (by omega) hw
  | succ f ih =>
    intro j hj hw
    have hp := p10 (show j ≤ 5 by omega)
    have hp2 := p10p j
    have hdj : nI m / nI (10 ^ j) = nI (m / 10 ^ j) := pk_div (by omega) hp2 (by omega)
    have hlt : m / 10 ^ j ≤ m := Nat.div_le_self _ _
    by_cases hc : m / 10 ^ j ≤ 9
    · refine ev_iload_n d_M_putNumber_2 rfl ?_
      refine ev_iload_n d_M_putNumber_3 rfl ?_
      refine ev_idiv d_M_putNumber_4 (nI_ne0 (p10p _) (by omega)) ?_
      rw [hdj]
      refine ev_bipush (v := 9) d_M_putNumber_5 rfl ?_
      refine ev_icmp_le (t := 18) d_M_putNumber_7 (by decide) (fun _ => ?_) (fun c_7 => absurd (nI_le (b := 9) hc (by decide)) c_7)
      exact xEv.to (l_M_putNumber2 ok m hm j _ (by omega) (by rw [show dn m (f + 1) j = j from if_pos hc] at hw; exact hw)) (by rw [show dn m (f + 1) j = j from if_pos hc])
    · refine ev_iload_n d_M_putNumber_2 rfl ?_
      refine ev_iload_n d_M_putNumber_3 rfl ?_
      refine ev_idiv d_M_putNumber_4 (nI_ne0 (p10p _) (by omega)) ?_
      rw [hdj]
      refine ev_bipush (v := 9) d_M_putNumber_5 rfl ?_
      refine ev_icmp_le (t := 18) d_M_putNumber_7 (by decide) (fun c_7 => absurd c_7 (nI_ge (a := 9) (by omega) (by omega))) (fun _ => ?_)
      refine ev_iload_n d_M_putNumber_10 rfl ?_
      refine ev_bipush (v := 10) d_M_putNumber_11 rfl ?_
      refine ev_imul d_M_putNumber_13 ?_
      refine ev_top (fun x_1 ex_1 => ?_)
      refine ev_istore_n (lo1 := [some (.ref (ad 0)), some (.int (nI m)), some (.int x_1)]) d_M_putNumber_14 (Nat.le_of_ble_eq_true rfl) rfl ?_
      refine ev_goto (t := 2) d_M_putNumber_15 (by decide) ?_
      rw [show x_1 = nI (10 ^ (j + 1)) from by rw [ex_1, show (10 : Int32) = nI 10 from rfl, pk_mul, Nat.pow_succ]]
      exact xEv.to (ih _ (by omega) (by rw [show dn m (f + 1) j = dn m f (j + 1) from if_neg hc] at hw; exact hw)) (by rw [show dn m (f + 1) j = dn m f (j + 1) from if_neg hc])
set_option maxRecDepth 20000 in
theorem c_M_putNumber {d : Nat} {B : xMm} {ad : Nat → Nat} {ix : Nat → Option Nat} {iv : Nat → Int32} {av : Nat → Nat → Int32} {ns : Nat × Nat} (ok : mOk ad ix) (m : Nat) (hm : m < 1000000) (w : List Int32) (hw : w.length + (dg m).length ≤ 400) : xCl (d + 1) k_M_putNumber [.ref (ad 0), .int (nI m)] (mM B ad ix (wI iv (w)) (wA av (w)), ns) (.inl none, (mM B ad ix (wI iv (w ++ dg m)) (wA av (w ++ dg m)), ns)) := by
  show xEv _ k_M_putNumber 0 [some (.ref (ad 0)), some (.int (nI m)), none] [] _ _
  refine ev_iconst (v := 1) d_M_putNumber_0 rfl ?_
  refine ev_istore_n (lo1 := [some (.ref (ad 0)), some (.int (nI m)), some (.int 1)]) d_M_putNumber_1 (Nat.le_of_ble_eq_true rfl) rfl ?_
  exact l_M_putNumber1 ok m hm w 5 0 (by omega) hw
end
section
/-! the reference: letters -/
def tp (tt : Nat → Nat) : Nat → Nat → List Int32
  | 0, _ => []
  | n + 1, k => [33] ++ dg (tt k) ++ tp tt n (k + 1)
theorem dg_1 {m : Nat} (h : m < 10) : (dg m).length = 1 := by
  unfold dg dn
  rw [if_pos (show m / 10 ^ 0 ≤ 9 by omega), dgn_len]
theorem dg_2 {m : Nat} (h : m < 100) : (dg m).length ≤ 2 := by
  unfold dg dn dn
  split
  · rw [dgn_len]
    omega
  · rw [if_pos (show m / 10 ^ (0 + 1) ≤ 9 by omega), dgn_len]
    omega
theorem tp_len (tt : Nat → Nat) (h : ∀ k, tt k < 10) : ∀ n k, (tp tt n k).length = 2 * n
  | 0, _ => rfl
  | n + 1, k => by simp [tp, tp_len tt h n (k + 1), dg_1 (h k)]; omega
def ltr (l th fi la fe : Nat) (tt : Nat → Nat) (n : Nat) : List Int32 := [35] ++ dg l ++ [64] ++ dg th ++ [58] ++ dg fi ++ [45] ++ dg la ++ [61] ++ dg fe ++ tp tt n 0
theorem ltr_len {l th fi la fe : Nat} {tt : Nat → Nat} {n : Nat} (h1 : l < 20) (h2 : th < 16) (ht : ∀ k, tt k < 10) (hn : n ≤ 100) : (ltr l th fi la fe tt n).length ≤ 227 := by
  have a1 := dg_2 (m := l) (by omega)
  have a2 := dg_2 (m := th) (by omega)
  have a3 := dg_len fi
  have a4 := dg_len la
  have a5 := dg_len fe
  simp only [ltr, List.length_append, List.length_cons, List.length_nil, tp_len tt ht]
  omega
set_option maxRecDepth 20000 in
theorem l_M_writeLetter {d : Nat} {B : xMm} {ad : Nat → Nat} {ix : Nat → Option Nat} {iv : Nat → Int32} {av : Nat → Nat → Int32} {ns : Nat × Nat} (ok : mOk ad ix) (l n : Nat) (tt : Nat → Nat) (hl : l < 20) (ht : ∀ k, tt k < 10) (hn : n ≤ 100) (hN : av 30 l = nI n) (hT : ∀ k, k < n → av 32 (100 * l + k) = nI (tt k))  : ∀ (i k : Nat) (w : List Int32), k + i = n → w.length + 2 * i ≤ 400 → xEv (d + 2) k_M_writeLetter 81 [some (.ref (ad 0)), some (.int (nI l)), some (.int (nI k))] [] (mM B ad ix (wI iv (w)) (wA av (w)), ns) (.inl none, (mM B ad ix (wI iv (w ++ tp tt i k)) (wA av (w ++ tp tt i k)), ns)) := by
  have el : (nI l).toNatClampNeg = l := nI_clamp (by omega)
  intro i
  induction i with
  | zero =>
    intro k w hk hw
    refine ev_iload_n d_M_writeLetter_81 rfl ?_
    refine ev_aload_n d_M_writeLetter_82 rfl ?_
    refine ev_get d_M_writeLetter_83 f_8_83 (mM_obj ok) rfl ?_
    refine ev_iload_n d_M_writeLetter_86 rfl ?_
    refine ev_iald d_M_writeLetter_87 (mM_arr ok 30 rfl) ⟨rfl, vp_in_nI (N := 20) (by omega) (by decide)⟩ rfl ?_
    rw [wA_ne (k := 30) (by decide), el, hN]
    refine ev_icmp_ge (t := 118) d_M_writeLetter_88 (by decide) (fun _ => ?_) (fun c_88 => absurd (nI_le (a := n) (b := k) (by omega) (by omega)) c_88)
    exact xEv.to (ev_ret d_M_writeLetter_118 rfl) (by simp [tp])
  | succ i ih =>
    intro k w hk hw
    refine ev_iload_n d_M_writeLetter_81 rfl ?_
    refine ev_aload_n d_M_writeLetter_82 rfl ?_
    refine ev_get d_M_writeLetter_83 f_8_83 (mM_obj ok) rfl ?_
    refine ev_iload_n d_M_writeLetter_86 rfl ?_
    refine ev_iald d_M_writeLetter_87 (mM_arr ok 30 rfl) ⟨rfl, vp_in_nI (N := 20) (by omega) (by decide)⟩ rfl ?_
    rw [wA_ne (k := 30) (by decide), el, hN]
    refine ev_icmp_ge (t := 118) d_M_writeLetter_88 (by decide) (fun c_88 => absurd c_88 (nI_ge (by omega) (by omega))) (fun _ => ?_)
    refine ev_aload_n d_M_writeLetter_91 rfl ?_
    refine ev_bipush (v := 33) d_M_writeLetter_92 rfl ?_
    refine ev_v1o d_M_writeLetter_94 q_8_152 rfl (mM_obj ok) ⟨rfl, Nat.le_of_ble_eq_true rfl, Nat.le_of_ble_eq_true rfl⟩ (c_M_putw ok _ _ (by omega)) ?_
    refine ev_aload_n d_M_writeLetter_97 rfl ?_
    refine ev_aload_n d_M_writeLetter_98 rfl ?_
    refine ev_get d_M_writeLetter_99 f_8_89 (mM_obj ok) rfl ?_
    refine ev_bipush (v := 100) d_M_writeLetter_102 rfl ?_
    refine ev_iload_n d_M_writeLetter_104 rfl ?_
    refine ev_imul d_M_writeLetter_105 ?_
    refine ev_iload_n d_M_writeLetter_106 rfl ?_
    refine ev_iadd d_M_writeLetter_107 ?_
    rw [nI100]
    refine ev_iald d_M_writeLetter_108 (mM_arr ok 32 rfl) ⟨rfl, vp_in_nI (N := 2000) (by omega) (by decide)⟩ rfl ?_
    rw [wA_ne (k := 32) (by decide), nI_clamp (show 100 * l + k < 2 ^ 31 by omega), hT k (by omega)]
    have hk9 := ht k
    have hk8 := dg_1 hk9
    refine ev_v1o d_M_writeLetter_109 q_8_165 rfl (mM_obj ok) ⟨rfl, Nat.le_of_ble_eq_true rfl, Nat.le_of_ble_eq_true rfl⟩ (c_M_putNumber ok _ (by omega) _ (by simp; omega)) ?_
    obtain ⟨x_1, ex_1⟩ : ∃ z : Int32, z = (nI k) + 1 := ⟨_, rfl⟩
    refine ev_iinc (v := x_1) (lo1 := [some (.ref (ad 0)), some (.int (nI l)), some (.int x_1)]) d_M_writeLetter_112 rfl (by rw [ex_1]; rfl) rfl ?_
    refine ev_goto (t := 81) d_M_writeLetter_115 (by decide) ?_
    rw [show x_1 = nI (k + 1) from by rw [ex_1, nI_succ]]
    exact xEv.to (ih (k + 1) _ (by omega) (by simp [dg_1 (ht k)]; omega)) (by simp [tp])
set_option maxRecDepth 20000 in
theorem c_M_writeLetter {d : Nat} {B : xMm} {ad : Nat → Nat} {ix : Nat → Option Nat} {iv : Nat → Int32} {av : Nat → Nat → Int32} {ns : Nat × Nat} (ok : mOk ad ix) (l n : Nat) (tt : Nat → Nat) (hl : l < 20) (ht : ∀ k, tt k < 10) (hn : n ≤ 100) (hN : av 30 l = nI n) (hT : ∀ k, k < n → av 32 (100 * l + k) = nI (tt k)) (c th fi la : Nat) (hc : c < 8) (hlc : av 24 l = nI c) (hth : av 25 l = nI th) (h16 : th < 16) (hfi : av 26 l = nI fi) (hla : av 27 l = nI la) (hfl : fi < 1000000 ∧ la < 1000000) (fe : Nat) (hfe : 5 * (av 27 l - av 26 l + 1) + 20 * av 4 c + (if av 28 l = 0 then 300 else 0) + 50 * av 30 l = nI fe) (hf6 : fe < 1000000)  : xCl (d + 2) k_M_writeLetter [.ref (ad 0), .int (nI l)] (mM B ad ix iv av, ns) (.inl none, (mM B ad ix (wI iv (ltr l th fi la fe tt n)) (wA av (ltr l th fi la fe tt n)), ns)) := by
  have el : (nI l).toNatClampNeg = l := nI_clamp (by omega)
  show xEv _ k_M_writeLetter 0 [some (.ref (ad 0)), some (.int (nI l)), none] [] _ _
  refine ev_aload_n d_M_writeLetter_0 rfl ?_
  refine ev_iconst (v := 0) d_M_writeLetter_1 rfl ?_
  refine ev_put d_M_writeLetter_2 f_8_149 (mM_obj ok) ⟨Nat.le_of_ble_eq_true rfl, xfit_i rfl, Or.inl rfl⟩ (mM_put ok rfl) ?_
  rw [show mM B ad ix (upd iv 17 0) av = mM B ad ix (wI iv []) (wA av []) by rw [show wI iv [] = upd iv 17 0 from rfl, show wA av [] = av from by funext k; simp [wA, va_up, wrF_nil]; intro h; rw [h]]]
  refine ev_aload_n d_M_writeLetter_5 rfl ?_
  refine ev_bipush (v := 35) d_M_writeLetter_6 rfl ?_
  refine ev_v1o d_M_writeLetter_8 q_8_152 rfl (mM_obj ok) ⟨rfl, Nat.le_of_ble_eq_true rfl, Nat.le_of_ble_eq_true rfl⟩ (c_M_putw ok _ _ (by have a1 := dg_len l; have a2 := dg_len th; have a3 := dg_len fi; have a4 := dg_len la; have a5 := dg_len fe; simp <;> omega)) ?_
  refine ev_aload_n d_M_writeLetter_11 rfl ?_
  refine ev_iload_n d_M_writeLetter_12 rfl ?_
  refine ev_v1o d_M_writeLetter_13 q_8_165 rfl (mM_obj ok) ⟨rfl, Nat.le_of_ble_eq_true rfl, Nat.le_of_ble_eq_true rfl⟩ (c_M_putNumber ok _ (by omega) _ (by have a1 := dg_len l; have a2 := dg_len th; have a3 := dg_len fi; have a4 := dg_len la; have a5 := dg_len fe; simp <;> omega)) ?_
  refine ev_aload_n d_M_writeLetter_16 rfl ?_
  refine ev_bipush (v := 64) d_M_writeLetter_17 rfl ?_
  refine ev_v1o d_M_writeLetter_19 q_8_152 rfl (mM_obj ok) ⟨rfl, Nat.le_of_ble_eq_true rfl, Nat.le_of_ble_eq_true rfl⟩ (c_M_putw ok _ _ (by have a1 := dg_len l; have a2 := dg_len th; have a3 := dg_len fi; have a4 := dg_len la; have a5 := dg_len fe; simp <;> omega)) ?_
  refine ev_aload_n d_M_writeLetter_22 rfl ?_
  refine ev_aload_n d_M_writeLetter_23 rfl ?_
  refine ev_get d_M_writeLetter_24 f_8_67 (mM_obj ok) rfl ?_
  refine ev_iload_n d_M_writeLetter_27 rfl ?_
  refine ev_iald d_M_writeLetter_28 (mM_arr ok 25 rfl) ⟨rfl, vp_in_nI (N := 20) (by omega) (by decide)⟩ rfl ?_
  rw [wA_ne (k := 25) (by decide), el, hth]
  refine ev_v1o d_M_writeLetter_29 q_8_165 rfl (mM_obj ok) ⟨rfl, Nat.le_of_ble_eq_true rfl, Nat.le_of_ble_eq_true rfl⟩ (c_M_putNumber ok _ (by omega) _ (by have a1 := dg_len l; have a2 := dg_len th; have a3 := dg_len fi; have a4 := dg_len la; have a5 := dg_len fe; simp <;> omega)) ?_
  refine ev_aload_n d_M_writeLetter_32 rfl ?_
  refine ev_bipush (v := 58) d_M_writeLetter_33 rfl ?_
  refine ev_v1o d_M_writeLetter_35 q_8_152 rfl (mM_obj ok) ⟨rfl, Nat.le_of_ble_eq_true rfl, Nat.le_of_ble_eq_true rfl⟩ (c_M_putw ok _ _ (by have a1 := dg_len l; have a2 := dg_len th; have a3 := dg_len fi; have a4 := dg_len la; have a5 := dg_len fe; simp <;> omega)) ?_
  refine ev_aload_n d_M_writeLetter_38 rfl ?_
  refine ev_aload_n d_M_writeLetter_39 rfl ?_
  refine ev_get d_M_writeLetter_40 f_8_70 (mM_obj ok) rfl ?_
  refine ev_iload_n d_M_writeLetter_43 rfl ?_
  refine ev_iald d_M_writeLetter_44 (mM_arr ok 26 rfl) ⟨rfl, vp_in_nI (N := 20) (by omega) (by decide)⟩ rfl ?_
  rw [wA_ne (k := 26) (by decide), el, hfi]
  refine ev_v1o d_M_writeLetter_45 q_8_165 rfl (mM_obj ok) ⟨rfl, Nat.le_of_ble_eq_true rfl, Nat.le_of_ble_eq_true rfl⟩ (c_M_putNumber ok _ (by omega) _ (by have a1 := dg_len l; have a2 := dg_len th; have a3 := dg_len fi; have a4 := dg_len la; have a5 := dg_len fe; simp <;> omega)) ?_
  refine ev_aload_n d_M_writeLetter_48 rfl ?_
  refine ev_bipush (v := 45) d_M_writeLetter_49 rfl ?_
  refine ev_v1o d_M_writeLetter_51 q_8_152 rfl (mM_obj ok) ⟨rfl, Nat.le_of_ble_eq_true rfl, Nat.le_of_ble_eq_true rfl⟩ (c_M_putw ok _ _ (by have a1 := dg_len l; have a2 := dg_len th; have a3 := dg_len fi; have a4 := dg_len la; have a5 := dg_len fe; simp <;> omega)) ?_
  refine ev_aload_n d_M_writeLetter_54 rfl ?_
  refine ev_aload_n d_M_writeLetter_55 rfl ?_
  refine ev_get d_M_writeLetter_56 f_8_73 (mM_obj ok) rfl ?_
  refine ev_iload_n d_M_writeLetter_59 rfl ?_
  refine ev_iald d_M_writeLetter_60 (mM_arr ok 27 rfl) ⟨rfl, vp_in_nI (N := 20) (by omega) (by decide)⟩ rfl ?_
  rw [wA_ne (k := 27) (by decide), el, hla]
  refine ev_v1o d_M_writeLetter_61 q_8_165 rfl (mM_obj ok) ⟨rfl, Nat.le_of_ble_eq_true rfl, Nat.le_of_ble_eq_true rfl⟩ (c_M_putNumber ok _ (by omega) _ (by have a1 := dg_len l; have a2 := dg_len th; have a3 := dg_len fi; have a4 := dg_len la; have a5 := dg_len fe; simp <;> omega)) ?_
  refine ev_aload_n d_M_writeLetter_64 rfl ?_
  refine ev_bipush (v := 61) d_M_writeLetter_65 rfl ?_
  refine ev_v1o d_M_writeLetter_67 q_8_152 rfl (mM_obj ok) ⟨rfl, Nat.le_of_ble_eq_true rfl, Nat.le_of_ble_eq_true rfl⟩ (c_M_putw ok _ _ (by have a1 := dg_len l; have a2 := dg_len th; have a3 := dg_len fi; have a4 := dg_len la; have a5 := dg_len fe; simp <;> omega)) ?_
  refine ev_aload_n d_M_writeLetter_70 rfl ?_
  refine ev_aload_n d_M_writeLetter_71 rfl ?_
  refine ev_iload_n d_M_writeLetter_72 rfl ?_
  refine ev_v1r d_M_writeLetter_73 q_8_206 rfl (mM_obj ok) ⟨rfl, Nat.le_of_ble_eq_true rfl, Nat.le_of_ble_eq_true rfl⟩ (c_M_allFee ok _ c hl hc (by rw [wA_ne (k := 24) (by decide)]; exact hlc)) ?_
  rw [wA_ne (k := 27) (by decide), wA_ne (k := 26) (by decide), wA_ne (k := 4) (by decide), wA_ne (k := 28) (by decide), wA_ne (k := 30) (by decide), hfe]
  refine ev_v1o d_M_writeLetter_76 q_8_165 rfl (mM_obj ok) ⟨rfl, Nat.le_of_ble_eq_true rfl, Nat.le_of_ble_eq_true rfl⟩ (c_M_putNumber ok _ (by omega) _ (by have a1 := dg_len l; have a2 := dg_len th; have a3 := dg_len fi; have a4 := dg_len la; have a5 := dg_len fe; simp <;> omega)) ?_
  refine ev_iconst (v := 0) d_M_writeLetter_79 rfl ?_
  refine ev_istore_n (lo1 := [some (.ref (ad 0)), some (.int (nI l)), some (.int 0)]) d_M_writeLetter_80 (Nat.le_of_ble_eq_true rfl) rfl ?_
  exact xEv.to (l_M_writeLetter ok l n tt hl ht hn hN hT n 0 _ (by omega) (by have a1 := dg_len l; have a2 := dg_len th; have a3 := dg_len fi; have a4 := dg_len la; have a5 := dg_len fe; simp <;> omega)) (by simp [ltr])
set_option maxRecDepth 20000 in
theorem c_M_letter_no1 {d : Nat} {B : xMm} {ad : Nat → Nat} {ix : Nat → Option Nat} {iv : Nat → Int32} {av : Nat → Nat → Int32} {ns : Nat × Nat} (ok : mOk ad ix) (l i : Int32) (h : ¬ ((0 ≤ l ∧ l < iv 23) ∧ -1 ≤ i)) : xCl (d + 3) k_M_letter [.ref (ad 0), .int l, .int i] (mM B ad ix iv av, ns) (.inl (some (.int 0)), (mM B ad ix (upd iv 0 1) (av), ns)) := by
  show xEv _ k_M_letter 0 [some (.ref (ad 0)), some (.int l), some (.int i), none] [] _ _
  refine ev_cutv (E := 18) (V := 0) ?_ (fun hk_1 => ?_)
  · refine ev_istore_n (lo1 := [some (.ref (ad 0)), some (.int l), some (.int i), some (.int (0))]) d_M_letter_18 (Nat.le_of_ble_eq_true rfl) rfl ?_
    refine ev_iload_n d_M_letter_19 rfl ?_
    refine ev_if_eq (t := 28) d_M_letter_20 (by decide) (fun _ => ?_) (fun c_20 => absurd rfl c_20)
    refine ev_aload_n d_M_letter_28 rfl ?_
    refine ev_cutv (E := 46) (V := 0) ?_ (fun hk_2 => ?_)
    · refine ev_iconst (v := 1) d_M_letter_46 rfl ?_
      refine ev_iconst (v := 1) d_M_letter_47 rfl ?_
      refine ev_v3r d_M_letter_48 q_8_116 rfl (mM_obj ok) ⟨rfl, Nat.le_of_ble_eq_true rfl, Nat.le_of_ble_eq_true rfl⟩ (c_M_goes ok _ _ _) ?_
      refine ev_if_ne (t := 56) d_M_letter_51 (by decide) (fun c_51 => absurd (by decide) c_51) (fun _ => ?_)
      refine ev_iconst (v := 0) d_M_letter_54 rfl ?_
      exact xEv.to (ev_iret d_M_letter_55 rfl) (by grind [upd, va_up, xbi, mgo])
    · refine ev_iload_n d_M_letter_29 rfl ?_
      refine ev_if_eq (t := 45) d_M_letter_30 (by decide) (fun _ => ?_) (fun c_30 => absurd rfl c_30)
      refine ev_iconst (v := 0) d_M_letter_45 rfl ?_
      exact hk_2 _ (by grind)
  · refine ev_aload_n d_M_letter_0 rfl ?_
    refine ev_iload_n d_M_letter_1 rfl ?_
    refine ev_v1r d_M_letter_2 q_8_184 rfl (mM_obj ok) ⟨rfl, Nat.le_of_ble_eq_true rfl, Nat.le_of_ble_eq_true rfl⟩ (c_M_isLoan ok _) ?_
    refine ev_if_eq (t := 17) d_M_letter_5 (by decide) (fun c_5_3 => ?_) (fun c_5_3 => ?_)
    · refine ev_iconst (v := 0) d_M_letter_17 rfl ?_
      exact hk_1 _ (by grind [xbi])
    · refine ev_iload_n d_M_letter_8 rfl ?_
      refine ev_iconst (v := (-1)) d_M_letter_9 rfl ?_
      refine ev_icmp_lt (t := 17) d_M_letter_10 (by decide) (fun c_10_4 => ?_) (fun c_10_4 => ?_)
      · refine ev_iconst (v := 0) d_M_letter_17 rfl ?_
        exact hk_1 _ (by grind [xbi])
      · refine ev_iconst (v := 1) d_M_letter_13 rfl ?_
        refine ev_goto (t := 18) d_M_letter_14 (by decide) ?_
        exact hk_1 _ (by grind [xbi])
set_option maxRecDepth 20000 in
theorem c_M_letter_no2 {d : Nat} {B : xMm} {ad : Nat → Nat} {ix : Nat → Option Nat} {iv : Nat → Int32} {av : Nat → Nat → Int32} {ns : Nat × Nat} (ok : mOk ad ix) (i : Int32) (l n : Nat) (tt : Nat → Nat) (hl : l < 20) (ht : ∀ k, tt k < 10) (hn : n ≤ 100) (hN : av 30 l = nI n) (hT : ∀ k, k < n → av 32 (100 * l + k) = nI (tt k)) (c th fi la : Nat) (hc : c < 8) (hlc : av 24 l = nI c) (hth : av 25 l = nI th) (h16 : th < 16) (hfi : av 26 l = nI fi) (hla : av 27 l = nI la) (hfl : fi < 1000000 ∧ la < 1000000) (fe : Nat) (hfe : 5 * (av 27 l - av 26 l + 1) + 20 * av 4 c + (if av 28 l = 0 then 300 else 0) + 50 * av 30 l = nI fe) (hf6 : fe < 1000000) (h : (0 ≤ nI l ∧ nI l < iv 23) ∧ -1 ≤ i) (h2 : ¬ i < nI (ltr l th fi la fe tt n).length) : xCl (d + 3) k_M_letter [.ref (ad 0), .int (nI l), .int i] (mM B ad ix iv av, ns) (.inl (some (.int 0)), (mM B ad ix (upd (wI iv (ltr l th fi la fe tt n)) 0 1) (wA av (ltr l th fi la fe tt n)), ns)) := by
  have hlen := ltr_len (l := l) (th := th) (fi := fi) (la := la) (fe := fe) hl h16 ht hn
  show xEv _ k_M_letter 0 [some (.ref (ad 0)), some (.int (nI l)), some (.int i), none] [] _ _
  refine ev_cutv (E := 18) (V := 1) ?_ (fun hk_1 => ?_)
  · refine ev_istore_n (lo1 := [some (.ref (ad 0)), some (.int (nI l)), some (.int i), some (.int (1))]) d_M_letter_18 (Nat.le_of_ble_eq_true rfl) rfl ?_
    refine ev_iload_n d_M_letter_19 rfl ?_
    refine ev_if_eq (t := 28) d_M_letter_20 (by decide) (fun c_20 => absurd c_20 (by grind)) (fun _ => ?_)
    refine ev_aload_n d_M_letter_23 rfl ?_
    refine ev_iload_n d_M_letter_24 rfl ?_
    refine ev_v1o d_M_letter_25 q_8_209 rfl (mM_obj ok) ⟨rfl, Nat.le_of_ble_eq_true rfl, Nat.le_of_ble_eq_true rfl⟩ (c_M_writeLetter ok l n tt hl ht hn hN hT c th fi la hc hlc hth h16 hfi hla hfl fe hfe hf6) ?_
    refine ev_aload_n d_M_letter_28 rfl ?_
    refine ev_cutv (E := 46) (V := 0) ?_ (fun hk_2 => ?_)
    · refine ev_iconst (v := 1) d_M_letter_46 rfl ?_
      refine ev_iconst (v := 1) d_M_letter_47 rfl ?_
      refine ev_v3r d_M_letter_48 q_8_116 rfl (mM_obj ok) ⟨rfl, Nat.le_of_ble_eq_true rfl, Nat.le_of_ble_eq_true rfl⟩ (c_M_goes ok _ _ _) ?_
      refine ev_if_ne (t := 56) d_M_letter_51 (by decide) (fun c_51 => absurd (by decide) c_51) (fun _ => ?_)
      refine ev_iconst (v := 0) d_M_letter_54 rfl ?_
      exact xEv.to (ev_iret d_M_letter_55 rfl) rfl
    · refine ev_iload_n d_M_letter_29 rfl ?_
      refine ev_if_eq (t := 45) d_M_letter_30 (by decide) (fun c_30 => absurd c_30 (by grind)) (fun _ => ?_)
      refine ev_iload_n d_M_letter_33 rfl ?_
      refine ev_aload_n d_M_letter_34 rfl ?_
      refine ev_get d_M_letter_35 f_8_149 (mM_obj ok) rfl ?_
      refine ev_icmp_ge (t := 45) d_M_letter_38 (by decide) (fun c_38_3 => ?_) (fun c_38_3 => ?_)
      · refine ev_iconst (v := 0) d_M_letter_45 rfl ?_
        exact hk_2 _ (by (try rw [wI_17] at *) <;> grind)
      · refine ev_iconst (v := 1) d_M_letter_41 rfl ?_
        refine ev_goto (t := 46) d_M_letter_42 (by decide) ?_
        exact hk_2 _ (by (try rw [wI_17] at *) <;> grind)
  · refine ev_aload_n d_M_letter_0 rfl ?_
    refine ev_iload_n d_M_letter_1 rfl ?_
    refine ev_v1r d_M_letter_2 q_8_184 rfl (mM_obj ok) ⟨rfl, Nat.le_of_ble_eq_true rfl, Nat.le_of_ble_eq_true rfl⟩ (c_M_isLoan ok _) ?_
    refine ev_if_eq (t := 17) d_M_letter_5 (by decide) (fun c_5_4 => ?_) (fun c_5_4 => ?_)
    · refine ev_iconst (v := 0) d_M_letter_17 rfl ?_
      exact hk_1 _ (by grind [xbi])
    · refine ev_iload_n d_M_letter_8 rfl ?_
      refine ev_iconst (v := (-1)) d_M_letter_9 rfl ?_
      refine ev_icmp_lt (t := 17) d_M_letter_10 (by decide) (fun c_10_5 => ?_) (fun c_10_5 => ?_)
      · refine ev_iconst (v := 0) d_M_letter_17 rfl ?_
        exact hk_1 _ (by grind [xbi])
      · refine ev_iconst (v := 1) d_M_letter_13 rfl ?_
        refine ev_goto (t := 18) d_M_letter_14 (by decide) ?_
        exact hk_1 _ (by grind [xbi])
set_option maxRecDepth 20000 in
theorem c_M_letter_n {d : Nat} {B : xMm} {ad : Nat → Nat} {ix : Nat → Option Nat} {iv : Nat → Int32} {av : Nat → Nat → Int32} {ns : Nat × Nat} (ok : mOk ad ix) (i : Int32) (l n : Nat) (tt : Nat → Nat) (hl : l < 20) (ht : ∀ k, tt k < 10) (hn : n ≤ 100) (hN : av 30 l = nI n) (hT : ∀ k, k < n → av 32 (100 * l + k) = nI (tt k)) (c th fi la : Nat) (hc : c < 8) (hlc : av 24 l = nI c) (hth : av 25 l = nI th) (h16 : th < 16) (hfi : av 26 l = nI fi) (hla : av 27 l = nI la) (hfl : fi < 1000000 ∧ la < 1000000) (fe : Nat) (hfe : 5 * (av 27 l - av 26 l + 1) + 20 * av 4 c + (if av 28 l = 0 then 300 else 0) + 50 * av 30 l = nI fe) (hf6 : fe < 1000000) (h : 0 ≤ nI l ∧ nI l < iv 23) (h2 : i = -1) : xCl (d + 3) k_M_letter [.ref (ad 0), .int (nI l), .int i] (mM B ad ix iv av, ns) (.inl (some (.int (nI (ltr l th fi la fe tt n).length))), (mM B ad ix (upd (wI iv (ltr l th fi la fe tt n)) 0 0) (wA av (ltr l th fi la fe tt n)), ns)) := by
  have hlen := ltr_len (l := l) (th := th) (fi := fi) (la := la) (fe := fe) hl h16 ht hn
  have h3 := nI_pos' (n := (ltr l th fi la fe tt n).length) (by omega)
  show xEv _ k_M_letter 0 [some (.ref (ad 0)), some (.int (nI l)), some (.int i), none] [] _ _
  refine ev_cutv (E := 18) (V := 1) ?_ (fun hk_1 => ?_)
  · refine ev_istore_n (lo1 := [some (.ref (ad 0)), some (.int (nI l)), some (.int i), some (.int (1))]) d_M_letter_18 (Nat.le_of_ble_eq_true rfl) rfl ?_
    refine ev_iload_n d_M_letter_19 rfl ?_
    refine ev_if_eq (t := 28) d_M_letter_20 (by decide) (fun c_20 => absurd c_20 (by grind)) (fun _ => ?_)
    refine ev_aload_n d_M_letter_23 rfl ?_
    refine ev_iload_n d_M_letter_24 rfl ?_
    refine ev_v1o d_M_letter_25 q_8_209 rfl (mM_obj ok) ⟨rfl, Nat.le_of_ble_eq_true rfl, Nat.le_of_ble_eq_true rfl⟩ (c_M_writeLetter ok l n tt hl ht hn hN hT c th fi la hc hlc hth h16 hfi hla hfl fe hfe hf6) ?_
    refine ev_aload_n d_M_letter_28 rfl ?_
    refine ev_cutv (E := 46) (V := 1) ?_ (fun hk_2 => ?_)
    · refine ev_iconst (v := 1) d_M_letter_46 rfl ?_
      refine ev_iconst (v := 1) d_M_letter_47 rfl ?_
      refine ev_v3r d_M_letter_48 q_8_116 rfl (mM_obj ok) ⟨rfl, Nat.le_of_ble_eq_true rfl, Nat.le_of_ble_eq_true rfl⟩ (c_M_goes ok _ _ _) ?_
      refine ev_if_ne (t := 56) d_M_letter_51 (by decide) (fun _ => ?_) (fun c_51 => absurd c_51 (by decide))
      refine ev_iload_n d_M_letter_56 rfl ?_
      refine ev_iconst (v := (-1)) d_M_letter_57 rfl ?_
      refine ev_icmp_ne (t := 68) d_M_letter_58 (by decide) (fun c_58 => absurd h2 c_58) (fun _ => ?_)
      refine ev_aload_n d_M_letter_61 rfl ?_
      refine ev_get d_M_letter_62 f_8_149 (mM_obj ok) rfl ?_
      refine ev_goto (t := 74) d_M_letter_65 (by decide) ?_
      exact xEv.to (ev_iret d_M_letter_74 rfl) (by simp [mgo, upd, wI_17])
    · refine ev_iload_n d_M_letter_29 rfl ?_
      refine ev_if_eq (t := 45) d_M_letter_30 (by decide) (fun c_30 => absurd c_30 (by grind)) (fun _ => ?_)
      refine ev_iload_n d_M_letter_33 rfl ?_
      refine ev_aload_n d_M_letter_34 rfl ?_
      refine ev_get d_M_letter_35 f_8_149 (mM_obj ok) rfl ?_
      refine ev_icmp_ge (t := 45) d_M_letter_38 (by decide) (fun c_38_3 => ?_) (fun c_38_3 => ?_)
      · refine ev_iconst (v := 0) d_M_letter_45 rfl ?_
        exact hk_2 _ (by (try rw [wI_17] at *) <;> grind)
      · refine ev_iconst (v := 1) d_M_letter_41 rfl ?_
        refine ev_goto (t := 46) d_M_letter_42 (by decide) ?_
        exact hk_2 _ (by (try rw [wI_17] at *) <;> grind)
  · refine ev_aload_n d_M_letter_0 rfl ?_
    refine ev_iload_n d_M_letter_1 rfl ?_
    refine ev_v1r d_M_letter_2 q_8_184 rfl (mM_obj ok) ⟨rfl, Nat.le_of_ble_eq_true rfl, Nat.le_of_ble_eq_true rfl⟩ (c_M_isLoan ok _) ?_
    refine ev_if_eq (t := 17) d_M_letter_5 (by decide) (fun c_5_4 => ?_) (fun c_5_4 => ?_)
    · refine ev_iconst (v := 0) d_M_letter_17 rfl ?_
      exact hk_1 _ (by grind [xbi])
    · refine ev_iload_n d_M_letter_8 rfl ?_
      refine ev_iconst (v := (-1)) d_M_letter_9 rfl ?_
      refine ev_icmp_lt (t := 17) d_M_letter_10 (by decide) (fun c_10_5 => ?_) (fun c_10_5 => ?_)
      · refine ev_iconst (v := 0) d_M_letter_17 rfl ?_
        exact hk_1 _ (by grind [xbi])
      · refine ev_iconst (v := 1) d_M_letter_13 rfl ?_
        refine ev_goto (t := 18) d_M_letter_14 (by decide) ?_
        exact hk_1 _ (by grind [xbi])
set_option maxRecDepth 20000 in
theorem c_M_letter_s {d : Nat} {B : xMm} {ad : Nat → Nat} {ix : Nat → Option Nat} {iv : Nat → Int32} {av : Nat → Nat → Int32} {ns : Nat × Nat} (ok : mOk ad ix) (i : Int32) (l n : Nat) (tt : Nat → Nat) (hl : l < 20) (ht : ∀ k, tt k < 10) (hn : n ≤ 100) (hN : av 30 l = nI n) (hT : ∀ k, k < n → av 32 (100 * l + k) = nI (tt k)) (c th fi la : Nat) (hc : c < 8) (hlc : av 24 l = nI c) (hth : av 25 l = nI th) (h16 : th < 16) (hfi : av 26 l = nI fi) (hla : av 27 l = nI la) (hfl : fi < 1000000 ∧ la < 1000000) (fe : Nat) (hfe : 5 * (av 27 l - av 26 l + 1) + 20 * av 4 c + (if av 28 l = 0 then 300 else 0) + 50 * av 30 l = nI fe) (hf6 : fe < 1000000) (h : 0 ≤ nI l ∧ nI l < iv 23) (j : Nat) (s : Int32) (h2 : i = nI j) (hs : (ltr l th fi la fe tt n)[j]? = some s) : xCl (d + 3) k_M_letter [.ref (ad 0), .int (nI l), .int i] (mM B ad ix iv av, ns) (.inl (some (.int s)), (mM B ad ix (upd (wI iv (ltr l th fi la fe tt n)) 0 0) (wA av (ltr l th fi la fe tt n)), ns)) := by
  have hlen := ltr_len (l := l) (th := th) (fi := fi) (la := la) (fe := fe) hl h16 ht hn
  have hj : j < (ltr l th fi la fe tt n).length := (List.getElem?_eq_some_iff.mp hs).1
  have h3 := nI_pos' (n := j) (by omega)
  have h5 : i < nI (ltr l th fi la fe tt n).length := by rw [h2]; exact nI_lt hj (by omega)
  have h4 : ¬ i = -1 := by grind
  show xEv _ k_M_letter 0 [some (.ref (ad 0)), some (.int (nI l)), some (.int i), none] [] _ _
  refine ev_cutv (E := 18) (V := 1) ?_ (fun hk_1 => ?_)
  · refine ev_istore_n (lo1 := [some (.ref (ad 0)), some (.int (nI l)), some (.int i), some (.int (1))]) d_M_letter_18 (Nat.le_of_ble_eq_true rfl) rfl ?_
    refine ev_iload_n d_M_letter_19 rfl ?_
    refine ev_if_eq (t := 28) d_M_letter_20 (by decide) (fun c_20 => absurd c_20 (by grind)) (fun _ => ?_)
    refine ev_aload_n d_M_letter_23 rfl ?_
    refine ev_iload_n d_M_letter_24 rfl ?_
    refine ev_v1o d_M_letter_25 q_8_209 rfl (mM_obj ok) ⟨rfl, Nat.le_of_ble_eq_true rfl, Nat.le_of_ble_eq_true rfl⟩ (c_M_writeLetter ok l n tt hl ht hn hN hT c th fi la hc hlc hth h16 hfi hla hfl fe hfe hf6) ?_
    refine ev_aload_n d_M_letter_28 rfl ?_
    refine ev_cutv (E := 46) (V := 1) ?_ (fun hk_2 => ?_)
    · refine ev_iconst (v := 1) d_M_letter_46 rfl ?_
      refine ev_iconst (v := 1) d_M_letter_47 rfl ?_
      refine ev_v3r d_M_letter_48 q_8_116 rfl (mM_obj ok) ⟨rfl, Nat.le_of_ble_eq_true rfl, Nat.le_of_ble_eq_true rfl⟩ (c_M_goes ok _ _ _) ?_
      refine ev_if_ne (t := 56) d_M_letter_51 (by decide) (fun _ => ?_) (fun c_51 => absurd c_51 (by decide))
      refine ev_iload_n d_M_letter_56 rfl ?_
      refine ev_iconst (v := (-1)) d_M_letter_57 rfl ?_
      refine ev_icmp_ne (t := 68) d_M_letter_58 (by decide) (fun _ => ?_) (fun c_58 => absurd c_58 h4)
      refine ev_aload_n d_M_letter_68 rfl ?_
      refine ev_get d_M_letter_69 f_8_46 (mM_obj ok) rfl ?_
      refine ev_iload_n d_M_letter_72 rfl ?_
      refine ev_iald d_M_letter_73 (mM_arr ok 16 rfl) ⟨rfl, (by rw [h2]; exact vp_in_nI (N := 400) (by omega) (by decide))⟩ rfl ?_
      rw [h2, nI_clamp (by omega), wA_16, wrF_at hs]
      exact xEv.to (ev_iret d_M_letter_74 rfl) rfl
    · refine ev_iload_n d_M_letter_29 rfl ?_
      refine ev_if_eq (t := 45) d_M_letter_30 (by decide) (fun c_30 => absurd c_30 (by grind)) (fun _ => ?_)
      refine ev_iload_n d_M_letter_33 rfl ?_
      refine ev_aload_n d_M_letter_34 rfl ?_
      refine ev_get d_M_letter_35 f_8_149 (mM_obj ok) rfl ?_
      refine ev_icmp_ge (t := 45) d_M_letter_38 (by decide) (fun c_38_3 => ?_) (fun c_38_3 => ?_)
      · refine ev_iconst (v := 0) d_M_letter_45 rfl ?_
        exact hk_2 _ (by (try rw [wI_17] at *) <;> grind)
      · refine ev_iconst (v := 1) d_M_letter_41 rfl ?_
        refine ev_goto (t := 46) d_M_letter_42 (by decide) ?_
        exact hk_2 _ (by (try rw [wI_17] at *) <;> grind)
  · refine ev_aload_n d_M_letter_0 rfl ?_
    refine ev_iload_n d_M_letter_1 rfl ?_
    refine ev_v1r d_M_letter_2 q_8_184 rfl (mM_obj ok) ⟨rfl, Nat.le_of_ble_eq_true rfl, Nat.le_of_ble_eq_true rfl⟩ (c_M_isLoan ok _) ?_
    refine ev_if_eq (t := 17) d_M_letter_5 (by decide) (fun c_5_4 => ?_) (fun c_5_4 => ?_)
    · refine ev_iconst (v := 0) d_M_letter_17 rfl ?_
      exact hk_1 _ (by grind [xbi])
    · refine ev_iload_n d_M_letter_8 rfl ?_
      refine ev_iconst (v := (-1)) d_M_letter_9 rfl ?_
      refine ev_icmp_lt (t := 17) d_M_letter_10 (by decide) (fun c_10_5 => ?_) (fun c_10_5 => ?_)
      · refine ev_iconst (v := 0) d_M_letter_17 rfl ?_
        exact hk_1 _ (by grind [xbi])
      · refine ev_iconst (v := 1) d_M_letter_13 rfl ?_
        refine ev_goto (t := 18) d_M_letter_14 (by decide) ?_
        exact hk_1 _ (by grind [xbi])
end
section
theorem x_dummy : True := trivial
end
