section
-- ===== PART A: goes FIRST, ahead of the names: the tables' words, and 'selects' of the private methods out of them =====
/-- a private method of a class that the tables say can be made, by its rows of tables_1 -/
def lw_okq (q : MethodName × Nat) : Prop := (q.1.cls ≠ "java/lang/invoke/MethodHandle" ∧ q.1.cls ≠ "java/lang/invoke/VarHandle") ∧ Cond.instantiable q.1.cls q.2 ∈ tables_1 ∧ Cond.privateMethod q.1 ∈ tables_1 ∧ Cond.instanceMethod q.1 ∈ tables_1
theorem lw_p0 : lw_okq (⟨"CarbonSheets$Tally", "addVotes", "(II)V"⟩, 8) := ⟨⟨by decide +kernel, by decide +kernel⟩, List.mem_of_getElem? (i := 78) (by decide +kernel), List.mem_of_getElem? (i := 418) (by decide +kernel), List.mem_of_getElem? (i := 419) (by decide +kernel)⟩
theorem lw_p1 : lw_okq (⟨"CarbonSheets$Tally", "findLeaders", "()V"⟩, 8) := ⟨⟨by decide +kernel, by decide +kernel⟩, List.mem_of_getElem? (i := 78) (by decide +kernel), List.mem_of_getElem? (i := 422) (by decide +kernel), List.mem_of_getElem? (i := 423) (by decide +kernel)⟩
theorem lw_p2 : lw_okq (⟨"CarbonSheets", "fieldsWithLeaders", "(II)I"⟩, 8) := ⟨⟨by decide +kernel, by decide +kernel⟩, List.mem_of_getElem? (i := 12) (by decide +kernel), List.mem_of_getElem? (i := 442) (by decide +kernel), List.mem_of_getElem? (i := 443) (by decide +kernel)⟩
theorem lw_p3 : lw_okq (⟨"CarbonSheets$OrderReader", "takesKind", "(C)Z"⟩, 5) := ⟨⟨by decide +kernel, by decide +kernel⟩, List.mem_of_getElem? (i := 151) (by decide +kernel), List.mem_of_getElem? (i := 520) (by decide +kernel), List.mem_of_getElem? (i := 521) (by decide +kernel)⟩
theorem lw_p4 : lw_okq (⟨"CarbonSheets$OrderReader", "goesOn", "(ZI)Z"⟩, 5) := ⟨⟨by decide +kernel, by decide +kernel⟩, List.mem_of_getElem? (i := 151) (by decide +kernel), List.mem_of_getElem? (i := 524) (by decide +kernel), List.mem_of_getElem? (i := 525) (by decide +kernel)⟩
theorem lw_p5 : lw_okq (⟨"CarbonSheets$OrderReader", "takesField", "(C)Z"⟩, 5) := ⟨⟨by decide +kernel, by decide +kernel⟩, List.mem_of_getElem? (i := 151) (by decide +kernel), List.mem_of_getElem? (i := 528) (by decide +kernel), List.mem_of_getElem? (i := 529) (by decide +kernel)⟩
theorem lw_p6 : lw_okq (⟨"CarbonSheets$OrderReader", "takesFirstDigit", "(C)Z"⟩, 5) := ⟨⟨by decide +kernel, by decide +kernel⟩, List.mem_of_getElem? (i := 151) (by decide +kernel), List.mem_of_getElem? (i := 535) (by decide +kernel), List.mem_of_getElem? (i := 536) (by decide +kernel)⟩
theorem lw_p7 : lw_okq (⟨"CarbonSheets$OrderReader", "takesOneMoreDigit", "(C)Z"⟩, 5) := ⟨⟨by decide +kernel, by decide +kernel⟩, List.mem_of_getElem? (i := 151) (by decide +kernel), List.mem_of_getElem? (i := 539) (by decide +kernel), List.mem_of_getElem? (i := 540) (by decide +kernel)⟩
theorem lw_p8 : lw_okq (⟨"CarbonSheets$OrderReader", "takesPressure", "(C)Z"⟩, 5) := ⟨⟨by decide +kernel, by decide +kernel⟩, List.mem_of_getElem? (i := 151) (by decide +kernel), List.mem_of_getElem? (i := 543) (by decide +kernel), List.mem_of_getElem? (i := 544) (by decide +kernel)⟩
theorem lw_p9 : lw_okq (⟨"CarbonSheets", "carryOutThePad", "()I"⟩, 8) := ⟨⟨by decide +kernel, by decide +kernel⟩, List.mem_of_getElem? (i := 12) (by decide +kernel), List.mem_of_getElem? (i := 556) (by decide +kernel), List.mem_of_getElem? (i := 557) (by decide +kernel)⟩
theorem lw_p10 : lw_okq (⟨"CarbonSheets", "carriesOutOrder", "()Z"⟩, 8) := ⟨⟨by decide +kernel, by decide +kernel⟩, List.mem_of_getElem? (i := 12) (by decide +kernel), List.mem_of_getElem? (i := 563) (by decide +kernel), List.mem_of_getElem? (i := 564) (by decide +kernel)⟩
theorem lw_p11 : lw_okq (⟨"CarbonSheetsModel", "record", "()V"⟩, 19) := ⟨⟨by decide +kernel, by decide +kernel⟩, List.mem_of_getElem? (i := 586) (by decide +kernel), List.mem_of_getElem? (i := 657) (by decide +kernel), List.mem_of_getElem? (i := 658) (by decide +kernel)⟩
theorem lw_p12 : lw_okq (⟨"CarbonSheetsModel", "isInStack", "(I)Z"⟩, 19) := ⟨⟨by decide +kernel, by decide +kernel⟩, List.mem_of_getElem? (i := 586) (by decide +kernel), List.mem_of_getElem? (i := 672) (by decide +kernel), List.mem_of_getElem? (i := 673) (by decide +kernel)⟩
theorem lw_p13 : lw_okq (⟨"CarbonSheetsModel", "barOf", "(III)I"⟩, 19) := ⟨⟨by decide +kernel, by decide +kernel⟩, List.mem_of_getElem? (i := 586) (by decide +kernel), List.mem_of_getElem? (i := 680) (by decide +kernel), List.mem_of_getElem? (i := 681) (by decide +kernel)⟩
theorem lw_p14 : lw_okq (⟨"CarbonSheetsModel", "hasStack", "()Z"⟩, 19) := ⟨⟨by decide +kernel, by decide +kernel⟩, List.mem_of_getElem? (i := 586) (by decide +kernel), List.mem_of_getElem? (i := 687) (by decide +kernel), List.mem_of_getElem? (i := 688) (by decide +kernel)⟩
theorem lw_p15 : lw_okq (⟨"CarbonSheetsModel", "layPress", "(I)I"⟩, 19) := ⟨⟨by decide +kernel, by decide +kernel⟩, List.mem_of_getElem? (i := 586) (by decide +kernel), List.mem_of_getElem? (i := 691) (by decide +kernel), List.mem_of_getElem? (i := 692) (by decide +kernel)⟩
def lw_privs_1 : List (MethodName × Nat) := [(⟨"CarbonSheets$Tally", "addVotes", "(II)V"⟩, 8), (⟨"CarbonSheets$Tally", "findLeaders", "()V"⟩, 8), (⟨"CarbonSheets", "fieldsWithLeaders", "(II)I"⟩, 8), (⟨"CarbonSheets$OrderReader", "takesKind", "(C)Z"⟩, 5), (⟨"CarbonSheets$OrderReader", "goesOn", "(ZI)Z"⟩, 5), (⟨"CarbonSheets$OrderReader", "takesField", "(C)Z"⟩, 5), (⟨"CarbonSheets$OrderReader", "takesFirstDigit", "(C)Z"⟩, 5), (⟨"CarbonSheets$OrderReader", "takesOneMoreDigit", "(C)Z"⟩, 5), (⟨"CarbonSheets$OrderReader", "takesPressure", "(C)Z"⟩, 5), (⟨"CarbonSheets", "carryOutThePad", "()I"⟩, 8), (⟨"CarbonSheets", "carriesOutOrder", "()Z"⟩, 8), (⟨"CarbonSheetsModel", "record", "()V"⟩, 19), (⟨"CarbonSheetsModel", "isInStack", "(I)Z"⟩, 19), (⟨"CarbonSheetsModel", "barOf", "(III)I"⟩, 19), (⟨"CarbonSheetsModel", "hasStack", "()Z"⟩, 19), (⟨"CarbonSheetsModel", "layPress", "(I)I"⟩, 19)]
theorem lw_r1 : ∀ q ∈ lw_privs_1, lw_okq q := List.forall_mem_cons.mpr ⟨lw_p0, List.forall_mem_cons.mpr ⟨lw_p1, List.forall_mem_cons.mpr ⟨lw_p2, List.forall_mem_cons.mpr ⟨lw_p3, List.forall_mem_cons.mpr ⟨lw_p4, List.forall_mem_cons.mpr ⟨lw_p5, List.forall_mem_cons.mpr ⟨lw_p6, List.forall_mem_cons.mpr ⟨lw_p7, List.forall_mem_cons.mpr ⟨lw_p8, List.forall_mem_cons.mpr ⟨lw_p9, List.forall_mem_cons.mpr ⟨lw_p10, List.forall_mem_cons.mpr ⟨lw_p11, List.forall_mem_cons.mpr ⟨lw_p12, List.forall_mem_cons.mpr ⟨lw_p13, List.forall_mem_cons.mpr ⟨lw_p14, List.forall_mem_cons.mpr ⟨lw_p15, fun _ h => absurd h List.not_mem_nil⟩⟩⟩⟩⟩⟩⟩⟩⟩⟩⟩⟩⟩⟩⟩⟩
theorem lw_p16 : lw_okq (⟨"CarbonSheetsModel", "many", "(II)I"⟩, 19) := ⟨⟨by decide +kernel, by decide +kernel⟩, List.mem_of_getElem? (i := 586) (by decide +kernel), List.mem_of_getElem? (i := 695) (by decide +kernel), List.mem_of_getElem? (i := 696) (by decide +kernel)⟩
theorem lw_p17 : lw_okq (⟨"CarbonSheetsModel", "writeNow", "(III)I"⟩, 19) := ⟨⟨by decide +kernel, by decide +kernel⟩, List.mem_of_getElem? (i := 586) (by decide +kernel), List.mem_of_getElem? (i := 702) (by decide +kernel), List.mem_of_getElem? (i := 703) (by decide +kernel)⟩
theorem lw_p18 : lw_okq (⟨"CarbonSheetsModel", "usePress", "(I)V"⟩, 19) := ⟨⟨by decide +kernel, by decide +kernel⟩, List.mem_of_getElem? (i := 586) (by decide +kernel), List.mem_of_getElem? (i := 706) (by decide +kernel), List.mem_of_getElem? (i := 707) (by decide +kernel)⟩
theorem lw_p19 : lw_okq (⟨"CarbonSheetsModel", "addMark", "(IIII)V"⟩, 19) := ⟨⟨by decide +kernel, by decide +kernel⟩, List.mem_of_getElem? (i := 586) (by decide +kernel), List.mem_of_getElem? (i := 710) (by decide +kernel), List.mem_of_getElem? (i := 711) (by decide +kernel)⟩
theorem lw_p20 : lw_okq (⟨"CarbonSheetsModel", "strikeNow", "(II)I"⟩, 19) := ⟨⟨by decide +kernel, by decide +kernel⟩, List.mem_of_getElem? (i := 586) (by decide +kernel), List.mem_of_getElem? (i := 718) (by decide +kernel), List.mem_of_getElem? (i := 719) (by decide +kernel)⟩
theorem lw_p21 : lw_okq (⟨"CarbonSheetsModel", "strikeAt", "(III)I"⟩, 19) := ⟨⟨by decide +kernel, by decide +kernel⟩, List.mem_of_getElem? (i := 586) (by decide +kernel), List.mem_of_getElem? (i := 722) (by decide +kernel), List.mem_of_getElem? (i := 723) (by decide +kernel)⟩
theorem lw_p22 : lw_okq (⟨"CarbonSheetsModel", "markAt", "(III)I"⟩, 19) := ⟨⟨by decide +kernel, by decide +kernel⟩, List.mem_of_getElem? (i := 586) (by decide +kernel), List.mem_of_getElem? (i := 726) (by decide +kernel), List.mem_of_getElem? (i := 727) (by decide +kernel)⟩
theorem lw_p23 : lw_okq (⟨"CarbonSheetsModel", "marksOf", "(IZ)I"⟩, 19) := ⟨⟨by decide +kernel, by decide +kernel⟩, List.mem_of_getElem? (i := 586) (by decide +kernel), List.mem_of_getElem? (i := 752) (by decide +kernel), List.mem_of_getElem? (i := 753) (by decide +kernel)⟩
theorem lw_p24 : lw_okq (⟨"CarbonSheetsModel", "fieldsOf", "(II)I"⟩, 19) := ⟨⟨by decide +kernel, by decide +kernel⟩, List.mem_of_getElem? (i := 586) (by decide +kernel), List.mem_of_getElem? (i := 756) (by decide +kernel), List.mem_of_getElem? (i := 757) (by decide +kernel)⟩
theorem lw_p25 : lw_okq (⟨"CarbonSheetsModel", "stateOf", "(II)I"⟩, 19) := ⟨⟨by decide +kernel, by decide +kernel⟩, List.mem_of_getElem? (i := 586) (by decide +kernel), List.mem_of_getElem? (i := 760) (by decide +kernel), List.mem_of_getElem? (i := 761) (by decide +kernel)⟩
theorem lw_p26 : lw_okq (⟨"CarbonSheetsModel", "lastAt", "(II)I"⟩, 19) := ⟨⟨by decide +kernel, by decide +kernel⟩, List.mem_of_getElem? (i := 586) (by decide +kernel), List.mem_of_getElem? (i := 764) (by decide +kernel), List.mem_of_getElem? (i := 765) (by decide +kernel)⟩
theorem lw_p27 : lw_okq (⟨"CarbonSheetsModel", "isReadable", "(I)Z"⟩, 19) := ⟨⟨by decide +kernel, by decide +kernel⟩, List.mem_of_getElem? (i := 586) (by decide +kernel), List.mem_of_getElem? (i := 768) (by decide +kernel), List.mem_of_getElem? (i := 769) (by decide +kernel)⟩
theorem lw_p28 : lw_okq (⟨"CarbonSheetsModel", "lastOf", "(III)I"⟩, 19) := ⟨⟨by decide +kernel, by decide +kernel⟩, List.mem_of_getElem? (i := 586) (by decide +kernel), List.mem_of_getElem? (i := 779) (by decide +kernel), List.mem_of_getElem? (i := 780) (by decide +kernel)⟩
theorem lw_p29 : lw_okq (⟨"CarbonSheetsModel", "layTogether", "(I)V"⟩, 19) := ⟨⟨by decide +kernel, by decide +kernel⟩, List.mem_of_getElem? (i := 586) (by decide +kernel), List.mem_of_getElem? (i := 791) (by decide +kernel), List.mem_of_getElem? (i := 792) (by decide +kernel)⟩
theorem lw_p30 : lw_okq (⟨"CarbonSheetsModel", "votesFor", "(II)I"⟩, 19) := ⟨⟨by decide +kernel, by decide +kernel⟩, List.mem_of_getElem? (i := 586) (by decide +kernel), List.mem_of_getElem? (i := 795) (by decide +kernel), List.mem_of_getElem? (i := 796) (by decide +kernel)⟩
theorem lw_p31 : lw_okq (⟨"CarbonSheetsModel", "stack", "()I"⟩, 19) := ⟨⟨by decide +kernel, by decide +kernel⟩, List.mem_of_getElem? (i := 586) (by decide +kernel), List.mem_of_getElem? (i := 803) (by decide +kernel), List.mem_of_getElem? (i := 804) (by decide +kernel)⟩
def lw_privs_2 : List (MethodName × Nat) := [(⟨"CarbonSheetsModel", "many", "(II)I"⟩, 19), (⟨"CarbonSheetsModel", "writeNow", "(III)I"⟩, 19), (⟨"CarbonSheetsModel", "usePress", "(I)V"⟩, 19), (⟨"CarbonSheetsModel", "addMark", "(IIII)V"⟩, 19), (⟨"CarbonSheetsModel", "strikeNow", "(II)I"⟩, 19), (⟨"CarbonSheetsModel", "strikeAt", "(III)I"⟩, 19), (⟨"CarbonSheetsModel", "markAt", "(III)I"⟩, 19), (⟨"CarbonSheetsModel", "marksOf", "(IZ)I"⟩, 19), (⟨"CarbonSheetsModel", "fieldsOf", "(II)I"⟩, 19), (⟨"CarbonSheetsModel", "stateOf", "(II)I"⟩, 19), (⟨"CarbonSheetsModel", "lastAt", "(II)I"⟩, 19), (⟨"CarbonSheetsModel", "isReadable", "(I)Z"⟩, 19), (⟨"CarbonSheetsModel", "lastOf", "(III)I"⟩, 19), (⟨"CarbonSheetsModel", "layTogether", "(I)V"⟩, 19), (⟨"CarbonSheetsModel", "votesFor", "(II)I"⟩, 19), (⟨"CarbonSheetsModel", "stack", "()I"⟩, 19)]
theorem lw_r2 : ∀ q ∈ lw_privs_2, lw_okq q := List.forall_mem_cons.mpr ⟨lw_p16, List.forall_mem_cons.mpr ⟨lw_p17, List.forall_mem_cons.mpr ⟨lw_p18, List.forall_mem_cons.mpr ⟨lw_p19, List.forall_mem_cons.mpr ⟨lw_p20, List.forall_mem_cons.mpr ⟨lw_p21, List.forall_mem_cons.mpr ⟨lw_p22, List.forall_mem_cons.mpr ⟨lw_p23, List.forall_mem_cons.mpr ⟨lw_p24, List.forall_mem_cons.mpr ⟨lw_p25, List.forall_mem_cons.mpr ⟨lw_p26, List.forall_mem_cons.mpr ⟨lw_p27, List.forall_mem_cons.mpr ⟨lw_p28, List.forall_mem_cons.mpr ⟨lw_p29, List.forall_mem_cons.mpr ⟨lw_p30, List.forall_mem_cons.mpr ⟨lw_p31, fun _ h => absurd h List.not_mem_nil⟩⟩⟩⟩⟩⟩⟩⟩⟩⟩⟩⟩⟩⟩⟩⟩
theorem lw_p32 : lw_okq (⟨"CarbonSheetsModel", "fieldsWith", "(Z)I"⟩, 19) := ⟨⟨by decide +kernel, by decide +kernel⟩, List.mem_of_getElem? (i := 586) (by decide +kernel), List.mem_of_getElem? (i := 807) (by decide +kernel), List.mem_of_getElem? (i := 808) (by decide +kernel)⟩
theorem lw_p33 : lw_okq (⟨"CarbonSheetsModel", "keep", "()V"⟩, 19) := ⟨⟨by decide +kernel, by decide +kernel⟩, List.mem_of_getElem? (i := 586) (by decide +kernel), List.mem_of_getElem? (i := 823) (by decide +kernel), List.mem_of_getElem? (i := 824) (by decide +kernel)⟩
theorem lw_p34 : lw_okq (⟨"CarbonSheetsModel", "isEmptyInStack", "(I)Z"⟩, 19) := ⟨⟨by decide +kernel, by decide +kernel⟩, List.mem_of_getElem? (i := 586) (by decide +kernel), List.mem_of_getElem? (i := 827) (by decide +kernel), List.mem_of_getElem? (i := 828) (by decide +kernel)⟩
theorem lw_p35 : lw_okq (⟨"CarbonSheetsModel", "comeBack", "()V"⟩, 19) := ⟨⟨by decide +kernel, by decide +kernel⟩, List.mem_of_getElem? (i := 586) (by decide +kernel), List.mem_of_getElem? (i := 831) (by decide +kernel), List.mem_of_getElem? (i := 832) (by decide +kernel)⟩
theorem lw_p36 : lw_okq (⟨"CarbonSheetsModel", "faultOf", "()I"⟩, 19) := ⟨⟨by decide +kernel, by decide +kernel⟩, List.mem_of_getElem? (i := 586) (by decide +kernel), List.mem_of_getElem? (i := 856) (by decide +kernel), List.mem_of_getElem? (i := 857) (by decide +kernel)⟩
theorem lw_p37 : lw_okq (⟨"CarbonSheetsModel", "readOne", "()V"⟩, 19) := ⟨⟨by decide +kernel, by decide +kernel⟩, List.mem_of_getElem? (i := 586) (by decide +kernel), List.mem_of_getElem? (i := 860) (by decide +kernel), List.mem_of_getElem? (i := 861) (by decide +kernel)⟩
theorem lw_p38 : lw_okq (⟨"CarbonSheetsModel", "sign", "()I"⟩, 19) := ⟨⟨by decide +kernel, by decide +kernel⟩, List.mem_of_getElem? (i := 586) (by decide +kernel), List.mem_of_getElem? (i := 864) (by decide +kernel), List.mem_of_getElem? (i := 865) (by decide +kernel)⟩
theorem lw_p39 : lw_okq (⟨"CarbonSheetsModel", "one", "(II)I"⟩, 19) := ⟨⟨by decide +kernel, by decide +kernel⟩, List.mem_of_getElem? (i := 586) (by decide +kernel), List.mem_of_getElem? (i := 868) (by decide +kernel), List.mem_of_getElem? (i := 869) (by decide +kernel)⟩
theorem lw_p40 : lw_okq (⟨"CarbonSheetsModel", "between", "(I)V"⟩, 19) := ⟨⟨by decide +kernel, by decide +kernel⟩, List.mem_of_getElem? (i := 586) (by decide +kernel), List.mem_of_getElem? (i := 872) (by decide +kernel), List.mem_of_getElem? (i := 873) (by decide +kernel)⟩
theorem lw_p41 : lw_okq (⟨"CarbonSheetsModel", "number", "()I"⟩, 19) := ⟨⟨by decide +kernel, by decide +kernel⟩, List.mem_of_getElem? (i := 586) (by decide +kernel), List.mem_of_getElem? (i := 876) (by decide +kernel), List.mem_of_getElem? (i := 877) (by decide +kernel)⟩
theorem lw_p42 : lw_okq (⟨"CarbonSheetsModel", "carry", "(I)I"⟩, 19) := ⟨⟨by decide +kernel, by decide +kernel⟩, List.mem_of_getElem? (i := 586) (by decide +kernel), List.mem_of_getElem? (i := 884) (by decide +kernel), List.mem_of_getElem? (i := 885) (by decide +kernel)⟩
def lw_privs_3 : List (MethodName × Nat) := [(⟨"CarbonSheetsModel", "fieldsWith", "(Z)I"⟩, 19), (⟨"CarbonSheetsModel", "keep", "()V"⟩, 19), (⟨"CarbonSheetsModel", "isEmptyInStack", "(I)Z"⟩, 19), (⟨"CarbonSheetsModel", "comeBack", "()V"⟩, 19), (⟨"CarbonSheetsModel", "faultOf", "()I"⟩, 19), (⟨"CarbonSheetsModel", "readOne", "()V"⟩, 19), (⟨"CarbonSheetsModel", "sign", "()I"⟩, 19), (⟨"CarbonSheetsModel", "one", "(II)I"⟩, 19), (⟨"CarbonSheetsModel", "between", "(I)V"⟩, 19), (⟨"CarbonSheetsModel", "number", "()I"⟩, 19), (⟨"CarbonSheetsModel", "carry", "(I)I"⟩, 19)]
theorem lw_r3 : ∀ q ∈ lw_privs_3, lw_okq q := List.forall_mem_cons.mpr ⟨lw_p32, List.forall_mem_cons.mpr ⟨lw_p33, List.forall_mem_cons.mpr ⟨lw_p34, List.forall_mem_cons.mpr ⟨lw_p35, List.forall_mem_cons.mpr ⟨lw_p36, List.forall_mem_cons.mpr ⟨lw_p37, List.forall_mem_cons.mpr ⟨lw_p38, List.forall_mem_cons.mpr ⟨lw_p39, List.forall_mem_cons.mpr ⟨lw_p40, List.forall_mem_cons.mpr ⟨lw_p41, List.forall_mem_cons.mpr ⟨lw_p42, fun _ h => absurd h List.not_mem_nil⟩⟩⟩⟩⟩⟩⟩⟩⟩⟩⟩
def lw_privs : List (MethodName × Nat) := lw_privs_1 ++ (lw_privs_2 ++ (lw_privs_3))
def lw_tbl : List Cond := k2_sels lw_privs ++ tables_1
theorem lw_privs_ok : ∀ q ∈ lw_privs, lw_okq q := by
  show ∀ q ∈ lw_privs_1 ++ (lw_privs_2 ++ (lw_privs_3)), lw_okq q
  exact List.forall_mem_append.mpr ⟨lw_r1, List.forall_mem_append.mpr ⟨lw_r2, lw_r3⟩⟩

def RX0 : String := "CarbonSheets$History"
def TX0 : u_T := fun k => match k with
  | 0 => ("CarbonSheets$History", "size", "I", false)
  | 1 => ("CarbonSheets$History", "latest", "I", false)
  | _ => ("CarbonSheets$History", "states", "[LCarbonSheets$State;", true)
def tyX0 : Nat → FieldType := fun k => match k with
  | 0 => .int
  | 1 => .int
  | _ => .array (.object "CarbonSheets$State")
abbrev wsX00 : List Cond := u_ws RX0 TX0 3
theorem nmX0 : ∀ a, a < 3 → ∀ b, b < 3 → a ≠ b → (TX0 a).2.1 ≠ (TX0 b).2.1 := by decide +kernel
theorem tyX0_ok : ∀ k, k < 3 → parseFieldDescriptor (TX0 k).2.2.1 = some (tyX0 k) := by decide +kernel
abbrev cX0_init : ByteArray := prog_2_method_1_code
def yX0_init : MethodName := ⟨RX0, "<init>", "()V"⟩
abbrev cX0_record : ByteArray := prog_2_method_2_code
def yX0_record : MethodName := ⟨RX0, "record", "(LCarbonSheets$State;)V"⟩
abbrev cX0_takeBackInto : ByteArray := prog_2_method_3_code
def yX0_takeBackInto : MethodName := ⟨RX0, "takeBackInto", "(LCarbonSheets$State;)V"⟩
def RX1 : String := "CarbonSheets$OrderReader"
def TX1 : u_T := fun k => match k with
  | 0 => ("CarbonSheets$OrderReader", "kind", "I", false)
  | 1 => ("CarbonSheets$OrderReader", "field", "I", false)
  | 2 => ("CarbonSheets$OrderReader", "value", "I", false)
  | 3 => ("CarbonSheets$OrderReader", "pressure", "I", false)
  | _ => ("CarbonSheets$OrderReader", "expected", "I", false)
def tyX1 : Nat → FieldType := fun k => match k with
  | 0 => .int
  | 1 => .int
  | 2 => .int
  | 3 => .int
  | _ => .int
abbrev wsX10 : List Cond := u_ws RX1 TX1 5
theorem nmX1 : ∀ a, a < 5 → ∀ b, b < 5 → a ≠ b → (TX1 a).2.1 ≠ (TX1 b).2.1 := by decide +kernel
theorem tyX1_ok : ∀ k, k < 5 → parseFieldDescriptor (TX1 k).2.2.1 = some (tyX1 k) := by decide +kernel
abbrev cX1_init : ByteArray := prog_3_method_1_code
def yX1_init : MethodName := ⟨RX1, "<init>", "()V"⟩
abbrev cX1_begin : ByteArray := prog_3_method_2_code
def yX1_begin : MethodName := ⟨RX1, "begin", "()V"⟩
abbrev cX1_isAfterOrder : ByteArray := prog_3_method_3_code
def yX1_isAfterOrder : MethodName := ⟨RX1, "isAfterOrder", "()Z"⟩
abbrev cX1_takes : ByteArray := prog_3_method_4_code
def yX1_takes : MethodName := ⟨RX1, "takes", "(C)Z"⟩
abbrev cX1_goesOn : ByteArray := prog_3_method_5_code
def yX1_goesOn : MethodName := ⟨RX1, "goesOn", "(ZI)Z"⟩
abbrev cX1_takesKind : ByteArray := prog_3_method_6_code
def yX1_takesKind : MethodName := ⟨RX1, "takesKind", "(C)Z"⟩
abbrev cX1_takesField : ByteArray := prog_3_method_7_code
def yX1_takesField : MethodName := ⟨RX1, "takesField", "(C)Z"⟩
abbrev cX1_takesFirstDigit : ByteArray := prog_3_method_8_code
def yX1_takesFirstDigit : MethodName := ⟨RX1, "takesFirstDigit", "(C)Z"⟩
abbrev cX1_takesOneMoreDigit : ByteArray := prog_3_method_9_code
def yX1_takesOneMoreDigit : MethodName := ⟨RX1, "takesOneMoreDigit", "(C)Z"⟩
abbrev cX1_takesPressure : ByteArray := prog_3_method_10_code
def yX1_takesPressure : MethodName := ⟨RX1, "takesPressure", "(C)Z"⟩
abbrev cX1_isDigit : ByteArray := prog_3_method_11_code
def yX1_isDigit : MethodName := ⟨RX1, "isDigit", "(C)Z"⟩
def RX2 : String := "CarbonSheets$Pad"
def TX2 : u_T := fun k => match k with
  | 0 => ("CarbonSheets$Pad", "length", "I", false)
  | _ => ("CarbonSheets$Pad", "codes", "[C", true)
def tyX2 : Nat → FieldType := fun k => match k with
  | 0 => .int
  | _ => .array .char
abbrev wsX20 : List Cond := u_ws RX2 TX2 2
theorem nmX2 : ∀ a, a < 2 → ∀ b, b < 2 → a ≠ b → (TX2 a).2.1 ≠ (TX2 b).2.1 := by decide +kernel
theorem tyX2_ok : ∀ k, k < 2 → parseFieldDescriptor (TX2 k).2.2.1 = some (tyX2 k) := by decide +kernel
abbrev cX2_init : ByteArray := prog_4_method_1_code
def yX2_init : MethodName := ⟨RX2, "<init>", "()V"⟩
abbrev cX2_sizeOf : ByteArray := prog_4_method_2_code
def yX2_sizeOf : MethodName := ⟨RX2, "sizeOf", "(J)I"⟩
abbrev cX2_append : ByteArray := prog_4_method_3_code
def yX2_append : MethodName := ⟨RX2, "append", "(JI)V"⟩
abbrev cX2_firstFault : ByteArray := prog_4_method_4_code
def yX2_firstFault : MethodName := ⟨RX2, "firstFault", "(LCarbonSheets$OrderReader;)I"⟩
def RX3 : String := "CarbonSheets$Sheet"
def TX3 : u_T := fun k => match k with
  | 0 => ("CarbonSheets$Sheet", "thickness", "I", false)
  | 1 => ("CarbonSheets$Sheet", "uses", "I", false)
  | 2 => ("CarbonSheets$Sheet", "amendedFields", "I", false)
  | 3 => ("CarbonSheets$Sheet", "counts", "[I", true)
  | _ => ("CarbonSheets$Sheet", "marks", "[I", true)
def tyX3 : Nat → FieldType := fun k => match k with
  | 0 => .int
  | 1 => .int
  | 2 => .int
  | 3 => .array .int
  | _ => .array .int
abbrev wsX30 : List Cond := u_ws RX3 TX3 5
theorem nmX3 : ∀ a, a < 5 → ∀ b, b < 5 → a ≠ b → (TX3 a).2.1 ≠ (TX3 b).2.1 := by decide +kernel
theorem tyX3_ok : ∀ k, k < 5 → parseFieldDescriptor (TX3 k).2.2.1 = some (tyX3 k) := by decide +kernel
abbrev cX3_init : ByteArray := prog_5_method_1_code
def yX3_init : MethodName := ⟨RX3, "<init>", "()V"⟩
abbrev cX3_copyFrom : ByteArray := prog_5_method_2_code
def yX3_copyFrom : MethodName := ⟨RX3, "copyFrom", "(LCarbonSheets$Sheet;)V"⟩
abbrev cX3_hasRoom : ByteArray := prog_5_method_3_code
def yX3_hasRoom : MethodName := ⟨RX3, "hasRoom", "(I)Z"⟩
abbrev cX3_addMark : ByteArray := prog_5_method_4_code
def yX3_addMark : MethodName := ⟨RX3, "addMark", "(III)V"⟩
abbrev cX3_valueAt : ByteArray := prog_5_method_5_code
def yX3_valueAt : MethodName := ⟨RX3, "valueAt", "(II)I"⟩
abbrev cX3_strengthAt : ByteArray := prog_5_method_6_code
def yX3_strengthAt : MethodName := ⟨RX3, "strengthAt", "(II)I"⟩
abbrev cX3_isStruck : ByteArray := prog_5_method_7_code
def yX3_isStruck : MethodName := ⟨RX3, "isStruck", "(II)Z"⟩
abbrev cX3_isReadable : ByteArray := prog_5_method_8_code
def yX3_isReadable : MethodName := ⟨RX3, "isReadable", "(III)Z"⟩
abbrev cX3_strikeUpTo : ByteArray := prog_5_method_9_code
def yX3_strikeUpTo : MethodName := ⟨RX3, "strikeUpTo", "(II)I"⟩
abbrev cX3_lastReadable : ByteArray := prog_5_method_10_code
def yX3_lastReadable : MethodName := ⟨RX3, "lastReadable", "(II)I"⟩
abbrev cX3_readableMarks : ByteArray := prog_5_method_11_code
def yX3_readableMarks : MethodName := ⟨RX3, "readableMarks", "(II)I"⟩
abbrev cX3_strongestReadable : ByteArray := prog_5_method_12_code
def yX3_strongestReadable : MethodName := ⟨RX3, "strongestReadable", "(II)I"⟩
abbrev cX3_kindOf : ByteArray := prog_5_method_13_code
def yX3_kindOf : MethodName := ⟨RX3, "kindOf", "(III)I"⟩
abbrev cX3_allMarks : ByteArray := prog_5_method_14_code
def yX3_allMarks : MethodName := ⟨RX3, "allMarks", "()I"⟩
abbrev cX3_struckMarks : ByteArray := prog_5_method_15_code
def yX3_struckMarks : MethodName := ⟨RX3, "struckMarks", "()I"⟩
def RX4 : String := "CarbonSheets$State"
def TX4 : u_T := fun k => match k with
  | 0 => ("CarbonSheets$State", "sheets", "[LCarbonSheets$Sheet;", true)
  | 1 => ("CarbonSheets$State", "settings", "[I", true)
  | 2 => ("CarbonSheets$State", "top", "I", false)
  | 3 => ("CarbonSheets$State", "low", "I", false)
  | _ => ("CarbonSheets$State", "arriving", "[I", true)
def tyX4 : Nat → FieldType := fun k => match k with
  | 0 => .array (.object "CarbonSheets$Sheet")
  | 1 => .array .int
  | 2 => .int
  | 3 => .int
  | _ => .array .int
abbrev wsX40 : List Cond := u_ws RX4 TX4 5
theorem nmX4 : ∀ a, a < 5 → ∀ b, b < 5 → a ≠ b → (TX4 a).2.1 ≠ (TX4 b).2.1 := by decide +kernel
theorem tyX4_ok : ∀ k, k < 5 → parseFieldDescriptor (TX4 k).2.2.1 = some (tyX4 k) := by decide +kernel
abbrev cX4_init : ByteArray := prog_6_method_1_code
def yX4_init : MethodName := ⟨RX4, "<init>", "()V"⟩
abbrev cX4_copyFrom : ByteArray := prog_6_method_2_code
def yX4_copyFrom : MethodName := ⟨RX4, "copyFrom", "(LCarbonSheets$State;)V"⟩
abbrev cX4_isStackEmpty : ByteArray := prog_6_method_3_code
def yX4_isStackEmpty : MethodName := ⟨RX4, "isStackEmpty", "()Z"⟩
abbrev cX4_isInStack : ByteArray := prog_6_method_4_code
def yX4_isInStack : MethodName := ⟨RX4, "isInStack", "(I)Z"⟩
abbrev cX4_stack : ByteArray := prog_6_method_5_code
def yX4_stack : MethodName := ⟨RX4, "stack", "()I"⟩
abbrev cX4_noteIfApart : ByteArray := prog_6_method_6_code
def yX4_noteIfApart : MethodName := ⟨RX4, "noteIfApart", "(II)V"⟩
abbrev cX4_measure : ByteArray := prog_6_method_7_code
def yX4_measure : MethodName := ⟨RX4, "measure", "(I)V"⟩
abbrev cX4_wearCarbons : ByteArray := prog_6_method_8_code
def yX4_wearCarbons : MethodName := ⟨RX4, "wearCarbons", "()V"⟩
abbrev cX4_refusalToWrite : ByteArray := prog_6_method_9_code
def yX4_refusalToWrite : MethodName := ⟨RX4, "refusalToWrite", "(III)I"⟩
abbrev cX4_pressValue : ByteArray := prog_6_method_10_code
def yX4_pressValue : MethodName := ⟨RX4, "pressValue", "(III)I"⟩
abbrev cX4_refusalToStrike : ByteArray := prog_6_method_11_code
def yX4_refusalToStrike : MethodName := ⟨RX4, "refusalToStrike", "(II)I"⟩
abbrev cX4_pressStroke : ByteArray := prog_6_method_12_code
def yX4_pressStroke : MethodName := ⟨RX4, "pressStroke", "(II)I"⟩
abbrev cX4_refusalToTear : ByteArray := prog_6_method_13_code
def yX4_refusalToTear : MethodName := ⟨RX4, "refusalToTear", "(I)I"⟩
abbrev cX4_tearOff : ByteArray := prog_6_method_14_code
def yX4_tearOff : MethodName := ⟨RX4, "tearOff", "(I)I"⟩
abbrev cX4_kindOf : ByteArray := prog_6_method_15_code
def yX4_kindOf : MethodName := ⟨RX4, "kindOf", "(II)I"⟩
abbrev cX4_fieldsThatAre : ByteArray := prog_6_method_16_code
def yX4_fieldsThatAre : MethodName := ⟨RX4, "fieldsThatAre", "(II)I"⟩
abbrev cX4_readTheSame : ByteArray := prog_6_method_17_code
def yX4_readTheSame : MethodName := ⟨RX4, "readTheSame", "(III)Z"⟩
abbrev cX4_lastValue : ByteArray := prog_6_method_18_code
def yX4_lastValue : MethodName := ⟨RX4, "lastValue", "(II)I"⟩
abbrev cX4_lastStrength : ByteArray := prog_6_method_19_code
def yX4_lastStrength : MethodName := ⟨RX4, "lastStrength", "(II)I"⟩
abbrev cX4_allMarks : ByteArray := prog_6_method_20_code
def yX4_allMarks : MethodName := ⟨RX4, "allMarks", "()I"⟩
abbrev cX4_wouldBeEmptied : ByteArray := prog_6_method_21_code
def yX4_wouldBeEmptied : MethodName := ⟨RX4, "wouldBeEmptied", "(II)Z"⟩
abbrev cX4_pressesToTheLowest : ByteArray := prog_6_method_22_code
def yX4_pressesToTheLowest : MethodName := ⟨RX4, "pressesToTheLowest", "(I)I"⟩
def RX5 : String := "CarbonSheets$Tally"
def TX5 : u_T := fun k => match k with
  | 0 => ("CarbonSheets$Tally", "clearSheets", "I", false)
  | 1 => ("CarbonSheets$Tally", "leaders", "I", false)
  | 2 => ("CarbonSheets$Tally", "lowest", "I", false)
  | 3 => ("CarbonSheets$Tally", "highest", "I", false)
  | 4 => ("CarbonSheets$Tally", "most", "I", false)
  | 5 => ("CarbonSheets$Tally", "candidates", "I", false)
  | 6 => ("CarbonSheets$Tally", "values", "[I", true)
  | _ => ("CarbonSheets$Tally", "votes", "[I", true)
def tyX5 : Nat → FieldType := fun k => match k with
  | 0 => .int
  | 1 => .int
  | 2 => .int
  | 3 => .int
  | 4 => .int
  | 5 => .int
  | 6 => .array .int
  | _ => .array .int
abbrev wsX50 : List Cond := u_ws RX5 TX5 8
theorem nmX5 : ∀ a, a < 8 → ∀ b, b < 8 → a ≠ b → (TX5 a).2.1 ≠ (TX5 b).2.1 := by decide +kernel
theorem tyX5_ok : ∀ k, k < 8 → parseFieldDescriptor (TX5 k).2.2.1 = some (tyX5 k) := by decide +kernel
abbrev cX5_init : ByteArray := prog_7_method_1_code
def yX5_init : MethodName := ⟨RX5, "<init>", "()V"⟩
abbrev cX5_takeIn : ByteArray := prog_7_method_2_code
def yX5_takeIn : MethodName := ⟨RX5, "takeIn", "(LCarbonSheets$State;I)V"⟩
abbrev cX5_addVotes : ByteArray := prog_7_method_3_code
def yX5_addVotes : MethodName := ⟨RX5, "addVotes", "(II)V"⟩
abbrev cX5_findLeaders : ByteArray := prog_7_method_4_code
def yX5_findLeaders : MethodName := ⟨RX5, "findLeaders", "()V"⟩
def RX6 : String := "CarbonSheets"
def TX6 : u_T := fun k => match k with
  | 0 => ("CarbonSheets", "now", "LCarbonSheets$State;", true)
  | 1 => ("CarbonSheets", "trial", "LCarbonSheets$State;", true)
  | 2 => ("CarbonSheets", "tally", "LCarbonSheets$Tally;", true)
  | 3 => ("CarbonSheets", "history", "LCarbonSheets$History;", true)
  | 4 => ("CarbonSheets", "slots", "[LCarbonSheets$State;", true)
  | 5 => ("CarbonSheets", "isSaved", "[Z", true)
  | 6 => ("CarbonSheets", "pad", "LCarbonSheets$Pad;", true)
  | _ => ("CarbonSheets", "reader", "LCarbonSheets$OrderReader;", true)
def tyX6 : Nat → FieldType := fun k => match k with
  | 0 => .object "CarbonSheets$State"
  | 1 => .object "CarbonSheets$State"
  | 2 => .object "CarbonSheets$Tally"
  | 3 => .object "CarbonSheets$History"
  | 4 => .array (.object "CarbonSheets$State")
  | 5 => .array .boolean
  | 6 => .object "CarbonSheets$Pad"
  | _ => .object "CarbonSheets$OrderReader"
abbrev wsX60 : List Cond := u_ws RX6 TX6 8
theorem nmX6 : ∀ a, a < 8 → ∀ b, b < 8 → a ≠ b → (TX6 a).2.1 ≠ (TX6 b).2.1 := by decide +kernel
theorem tyX6_ok : ∀ k, k < 8 → parseFieldDescriptor (TX6 k).2.2.1 = some (tyX6 k) := by decide +kernel
abbrev cX6_init : ByteArray := prog_1_method_1_code
def yX6_init : MethodName := ⟨RX6, "<init>", "()V"⟩
abbrev cX6_set : ByteArray := prog_1_method_2_code
def yX6_set : MethodName := ⟨RX6, "set", "(II)I"⟩
abbrev cX6_thickness : ByteArray := prog_1_method_3_code
def yX6_thickness : MethodName := ⟨RX6, "thickness", "(II)I"⟩
abbrev cX6_carbon : ByteArray := prog_1_method_4_code
def yX6_carbon : MethodName := ⟨RX6, "carbon", "(II)I"⟩
abbrev cX6_write : ByteArray := prog_1_method_5_code
def yX6_write : MethodName := ⟨RX6, "write", "(III)I"⟩
abbrev cX6_strike : ByteArray := prog_1_method_6_code
def yX6_strike : MethodName := ⟨RX6, "strike", "(II)I"⟩
abbrev cX6_paint : ByteArray := prog_1_method_7_code
def yX6_paint : MethodName := ⟨RX6, "paint", "(II)I"⟩
abbrev cX6_amend : ByteArray := prog_1_method_8_code
def yX6_amend : MethodName := ⟨RX6, "amend", "(IIII)I"⟩
abbrev cX6_tear : ByteArray := prog_1_method_9_code
def yX6_tear : MethodName := ⟨RX6, "tear", "(I)I"⟩
abbrev cX6_ofSheet : ByteArray := prog_1_method_10_code
def yX6_ofSheet : MethodName := ⟨RX6, "ofSheet", "(II)I"⟩
abbrev cX6_reading : ByteArray := prog_1_method_11_code
def yX6_reading : MethodName := ⟨RX6, "reading", "(III)I"⟩
abbrev cX6_ofMark : ByteArray := prog_1_method_12_code
def yX6_ofMark : MethodName := ⟨RX6, "ofMark", "(IIII)I"⟩
abbrev cX6_together : ByteArray := prog_1_method_13_code
def yX6_together : MethodName := ⟨RX6, "together", "(II)I"⟩
abbrev cX6_count : ByteArray := prog_1_method_14_code
def yX6_count : MethodName := ⟨RX6, "count", "(I)I"⟩
abbrev cX6_differ : ByteArray := prog_1_method_15_code
def yX6_differ : MethodName := ⟨RX6, "differ", "(II)I"⟩
abbrev cX6_enoughFor : ByteArray := prog_1_method_16_code
def yX6_enoughFor : MethodName := ⟨RX6, "enoughFor", "(I)I"⟩
abbrev cX6_strikeFor : ByteArray := prog_1_method_17_code
def yX6_strikeFor : MethodName := ⟨RX6, "strikeFor", "(I)I"⟩
abbrev cX6_lasts : ByteArray := prog_1_method_18_code
def yX6_lasts : MethodName := ⟨RX6, "lasts", "(I)I"⟩
abbrev cX6_ifWritten : ByteArray := prog_1_method_19_code
def yX6_ifWritten : MethodName := ⟨RX6, "ifWritten", "(III)I"⟩
abbrev cX6_put : ByteArray := prog_1_method_20_code
def yX6_put : MethodName := ⟨RX6, "put", "(J)I"⟩
abbrev cX6_wipe : ByteArray := prog_1_method_21_code
def yX6_wipe : MethodName := ⟨RX6, "wipe", "()I"⟩
abbrev cX6_fault : ByteArray := prog_1_method_22_code
def yX6_fault : MethodName := ⟨RX6, "fault", "()I"⟩
abbrev cX6_carryOut : ByteArray := prog_1_method_23_code
def yX6_carryOut : MethodName := ⟨RX6, "carryOut", "()I"⟩
abbrev cX6_undo : ByteArray := prog_1_method_24_code
def yX6_undo : MethodName := ⟨RX6, "undo", "()I"⟩
abbrev cX6_save : ByteArray := prog_1_method_25_code
def yX6_save : MethodName := ⟨RX6, "save", "(I)I"⟩
abbrev cX6_restore : ByteArray := prog_1_method_26_code
def yX6_restore : MethodName := ⟨RX6, "restore", "(I)I"⟩
abbrev cX6_fieldsWithLeaders : ByteArray := prog_1_method_27_code
def yX6_fieldsWithLeaders : MethodName := ⟨RX6, "fieldsWithLeaders", "(II)I"⟩
abbrev cX6_carryOutThePad : ByteArray := prog_1_method_28_code
def yX6_carryOutThePad : MethodName := ⟨RX6, "carryOutThePad", "()I"⟩
abbrev cX6_carriesOutOrder : ByteArray := prog_1_method_29_code
def yX6_carriesOutOrder : MethodName := ⟨RX6, "carriesOutOrder", "()Z"⟩
abbrev cX6_isWithin : ByteArray := prog_1_method_30_code
def yX6_isWithin : MethodName := ⟨RX6, "isWithin", "(III)Z"⟩
abbrev cX6_isSheet : ByteArray := prog_1_method_31_code
def yX6_isSheet : MethodName := ⟨RX6, "isSheet", "(I)Z"⟩
abbrev cX6_isField : ByteArray := prog_1_method_32_code
def yX6_isField : MethodName := ⟨RX6, "isField", "(I)Z"⟩
abbrev cX6_isValue : ByteArray := prog_1_method_33_code
def yX6_isValue : MethodName := ⟨RX6, "isValue", "(I)Z"⟩
abbrev cX6_isPressure : ByteArray := prog_1_method_34_code
def yX6_isPressure : MethodName := ⟨RX6, "isPressure", "(I)Z"⟩
abbrev cX6_isSlot : ByteArray := prog_1_method_35_code
def yX6_isSlot : MethodName := ⟨RX6, "isSlot", "(I)Z"⟩
abbrev cX6_isSettingWith : ByteArray := prog_1_method_36_code
def yX6_isSettingWith : MethodName := ⟨RX6, "isSettingWith", "(II)Z"⟩
def RX7 : String := "CarbonSheetsModel"
def TX7 : u_T := fun k => match k with
  | 0 => ("CarbonSheetsModel", "now", "[I", true)
  | 1 => ("CarbonSheetsModel", "kept", "[I", true)
  | 2 => ("CarbonSheetsModel", "history", "[I", true)
  | 3 => ("CarbonSheetsModel", "undos", "I", false)
  | 4 => ("CarbonSheetsModel", "saved", "[I", true)
  | 5 => ("CarbonSheetsModel", "isSaved", "[Z", true)
  | 6 => ("CarbonSheetsModel", "pad", "[I", true)
  | 7 => ("CarbonSheetsModel", "signs", "I", false)
  | 8 => ("CarbonSheetsModel", "isInText", "Z", false)
  | 9 => ("CarbonSheetsModel", "comes", "[I", true)
  | 10 => ("CarbonSheetsModel", "leaders", "I", false)
  | 11 => ("CarbonSheetsModel", "lowest", "I", false)
  | 12 => ("CarbonSheetsModel", "highest", "I", false)
  | 13 => ("CarbonSheetsModel", "votes", "I", false)
  | 14 => ("CarbonSheetsModel", "clear", "I", false)
  | 15 => ("CarbonSheetsModel", "orders", "[I", true)
  | 16 => ("CarbonSheetsModel", "read", "I", false)
  | 17 => ("CarbonSheetsModel", "place", "I", false)
  | _ => ("CarbonSheetsModel", "isWrong", "Z", false)
def tyX7 : Nat → FieldType := fun k => match k with
  | 0 => .array .int
  | 1 => .array .int
  | 2 => .array .int
  | 3 => .int
  | 4 => .array .int
  | 5 => .array .boolean
  | 6 => .array .int
  | 7 => .int
  | 8 => .boolean
  | 9 => .array .int
  | 10 => .int
  | 11 => .int
  | 12 => .int
  | 13 => .int
  | 14 => .int
  | 15 => .array .int
  | 16 => .int
  | 17 => .int
  | _ => .boolean
abbrev wsX70 : List Cond := u_ws RX7 TX7 19
theorem nmX7 : ∀ a, a < 19 → ∀ b, b < 19 → a ≠ b → (TX7 a).2.1 ≠ (TX7 b).2.1 := by decide +kernel
theorem tyX7_ok : ∀ k, k < 19 → parseFieldDescriptor (TX7 k).2.2.1 = some (tyX7 k) := by decide +kernel
abbrev cX7_init : ByteArray := prog_9_method_1_code
def yX7_init : MethodName := ⟨RX7, "<init>", "()V"⟩
abbrev cX7_in : ByteArray := prog_9_method_2_code
def yX7_in : MethodName := ⟨RX7, "in", "(III)Z"⟩
abbrev cX7_record : ByteArray := prog_9_method_3_code
def yX7_record : MethodName := ⟨RX7, "record", "()V"⟩
abbrev cX7_set : ByteArray := prog_9_method_4_code
def yX7_set : MethodName := ⟨RX7, "set", "(II)I"⟩
abbrev cX7_isSheet : ByteArray := prog_9_method_5_code
def yX7_isSheet : MethodName := ⟨RX7, "isSheet", "(I)Z"⟩
abbrev cX7_isField : ByteArray := prog_9_method_6_code
def yX7_isField : MethodName := ⟨RX7, "isField", "(I)Z"⟩
abbrev cX7_isInStack : ByteArray := prog_9_method_7_code
def yX7_isInStack : MethodName := ⟨RX7, "isInStack", "(I)Z"⟩
abbrev cX7_hasStack : ByteArray := prog_9_method_8_code
def yX7_hasStack : MethodName := ⟨RX7, "hasStack", "()Z"⟩
abbrev cX7_thickness : ByteArray := prog_9_method_9_code
def yX7_thickness : MethodName := ⟨RX7, "thickness", "(II)I"⟩
abbrev cX7_carbon : ByteArray := prog_9_method_10_code
def yX7_carbon : MethodName := ⟨RX7, "carbon", "(II)I"⟩
abbrev cX7_spot : ByteArray := prog_9_method_11_code
def yX7_spot : MethodName := ⟨RX7, "spot", "(II)I"⟩
abbrev cX7_many : ByteArray := prog_9_method_12_code
def yX7_many : MethodName := ⟨RX7, "many", "(II)I"⟩
abbrev cX7_markAt : ByteArray := prog_9_method_13_code
def yX7_markAt : MethodName := ⟨RX7, "markAt", "(III)I"⟩
abbrev cX7_valueOf : ByteArray := prog_9_method_14_code
def yX7_valueOf : MethodName := ⟨RX7, "valueOf", "(I)I"⟩
abbrev cX7_strengthOf : ByteArray := prog_9_method_15_code
def yX7_strengthOf : MethodName := ⟨RX7, "strengthOf", "(I)I"⟩
abbrev cX7_isStruck : ByteArray := prog_9_method_16_code
def yX7_isStruck : MethodName := ⟨RX7, "isStruck", "(I)Z"⟩
abbrev cX7_addMark : ByteArray := prog_9_method_17_code
def yX7_addMark : MethodName := ⟨RX7, "addMark", "(IIII)V"⟩
abbrev cX7_strikeAt : ByteArray := prog_9_method_18_code
def yX7_strikeAt : MethodName := ⟨RX7, "strikeAt", "(III)I"⟩
abbrev cX7_layPress : ByteArray := prog_9_method_19_code
def yX7_layPress : MethodName := ⟨RX7, "layPress", "(I)I"⟩
abbrev cX7_usePress : ByteArray := prog_9_method_20_code
def yX7_usePress : MethodName := ⟨RX7, "usePress", "(I)V"⟩
abbrev cX7_barOf : ByteArray := prog_9_method_21_code
def yX7_barOf : MethodName := ⟨RX7, "barOf", "(III)I"⟩
abbrev cX7_writeNow : ByteArray := prog_9_method_22_code
def yX7_writeNow : MethodName := ⟨RX7, "writeNow", "(III)I"⟩
abbrev cX7_write : ByteArray := prog_9_method_23_code
def yX7_write : MethodName := ⟨RX7, "write", "(III)I"⟩
abbrev cX7_strikeNow : ByteArray := prog_9_method_24_code
def yX7_strikeNow : MethodName := ⟨RX7, "strikeNow", "(II)I"⟩
abbrev cX7_strike : ByteArray := prog_9_method_25_code
def yX7_strike : MethodName := ⟨RX7, "strike", "(II)I"⟩
abbrev cX7_paint : ByteArray := prog_9_method_26_code
def yX7_paint : MethodName := ⟨RX7, "paint", "(II)I"⟩
abbrev cX7_amend : ByteArray := prog_9_method_27_code
def yX7_amend : MethodName := ⟨RX7, "amend", "(IIII)I"⟩
abbrev cX7_tear : ByteArray := prog_9_method_28_code
def yX7_tear : MethodName := ⟨RX7, "tear", "(I)I"⟩
abbrev cX7_isReadable : ByteArray := prog_9_method_29_code
def yX7_isReadable : MethodName := ⟨RX7, "isReadable", "(I)Z"⟩
abbrev cX7_lastAt : ByteArray := prog_9_method_30_code
def yX7_lastAt : MethodName := ⟨RX7, "lastAt", "(II)I"⟩
abbrev cX7_stateOf : ByteArray := prog_9_method_31_code
def yX7_stateOf : MethodName := ⟨RX7, "stateOf", "(II)I"⟩
abbrev cX7_lastOf : ByteArray := prog_9_method_32_code
def yX7_lastOf : MethodName := ⟨RX7, "lastOf", "(III)I"⟩
abbrev cX7_fieldsOf : ByteArray := prog_9_method_33_code
def yX7_fieldsOf : MethodName := ⟨RX7, "fieldsOf", "(II)I"⟩
abbrev cX7_marksOf : ByteArray := prog_9_method_34_code
def yX7_marksOf : MethodName := ⟨RX7, "marksOf", "(IZ)I"⟩
abbrev cX7_ofSheet : ByteArray := prog_9_method_35_code
def yX7_ofSheet : MethodName := ⟨RX7, "ofSheet", "(II)I"⟩
abbrev cX7_reading : ByteArray := prog_9_method_36_code
def yX7_reading : MethodName := ⟨RX7, "reading", "(III)I"⟩
abbrev cX7_ofMark : ByteArray := prog_9_method_37_code
def yX7_ofMark : MethodName := ⟨RX7, "ofMark", "(IIII)I"⟩
abbrev cX7_votesFor : ByteArray := prog_9_method_38_code
def yX7_votesFor : MethodName := ⟨RX7, "votesFor", "(II)I"⟩
abbrev cX7_layTogether : ByteArray := prog_9_method_39_code
def yX7_layTogether : MethodName := ⟨RX7, "layTogether", "(I)V"⟩
abbrev cX7_together : ByteArray := prog_9_method_40_code
def yX7_together : MethodName := ⟨RX7, "together", "(II)I"⟩
abbrev cX7_fieldsWith : ByteArray := prog_9_method_41_code
def yX7_fieldsWith : MethodName := ⟨RX7, "fieldsWith", "(Z)I"⟩
abbrev cX7_stack : ByteArray := prog_9_method_42_code
def yX7_stack : MethodName := ⟨RX7, "stack", "()I"⟩
abbrev cX7_count : ByteArray := prog_9_method_43_code
def yX7_count : MethodName := ⟨RX7, "count", "(I)I"⟩
abbrev cX7_differ : ByteArray := prog_9_method_44_code
def yX7_differ : MethodName := ⟨RX7, "differ", "(II)I"⟩
abbrev cX7_enoughFor : ByteArray := prog_9_method_45_code
def yX7_enoughFor : MethodName := ⟨RX7, "enoughFor", "(I)I"⟩
abbrev cX7_keep : ByteArray := prog_9_method_46_code
def yX7_keep : MethodName := ⟨RX7, "keep", "()V"⟩
abbrev cX7_comeBack : ByteArray := prog_9_method_47_code
def yX7_comeBack : MethodName := ⟨RX7, "comeBack", "()V"⟩
abbrev cX7_isEmptyInStack : ByteArray := prog_9_method_48_code
def yX7_isEmptyInStack : MethodName := ⟨RX7, "isEmptyInStack", "(I)Z"⟩
abbrev cX7_strikeFor : ByteArray := prog_9_method_49_code
def yX7_strikeFor : MethodName := ⟨RX7, "strikeFor", "(I)I"⟩
abbrev cX7_lasts : ByteArray := prog_9_method_50_code
def yX7_lasts : MethodName := ⟨RX7, "lasts", "(I)I"⟩
abbrev cX7_ifWritten : ByteArray := prog_9_method_51_code
def yX7_ifWritten : MethodName := ⟨RX7, "ifWritten", "(III)I"⟩
abbrev cX7_sign : ByteArray := prog_9_method_52_code
def yX7_sign : MethodName := ⟨RX7, "sign", "()I"⟩
abbrev cX7_one : ByteArray := prog_9_method_53_code
def yX7_one : MethodName := ⟨RX7, "one", "(II)I"⟩
abbrev cX7_between : ByteArray := prog_9_method_54_code
def yX7_between : MethodName := ⟨RX7, "between", "(I)V"⟩
abbrev cX7_number : ByteArray := prog_9_method_55_code
def yX7_number : MethodName := ⟨RX7, "number", "()I"⟩
abbrev cX7_readOne : ByteArray := prog_9_method_56_code
def yX7_readOne : MethodName := ⟨RX7, "readOne", "()V"⟩
abbrev cX7_faultOf : ByteArray := prog_9_method_57_code
def yX7_faultOf : MethodName := ⟨RX7, "faultOf", "()I"⟩
abbrev cX7_put : ByteArray := prog_9_method_58_code
def yX7_put : MethodName := ⟨RX7, "put", "(J)I"⟩
abbrev cX7_wipe : ByteArray := prog_9_method_59_code
def yX7_wipe : MethodName := ⟨RX7, "wipe", "()I"⟩
abbrev cX7_fault : ByteArray := prog_9_method_60_code
def yX7_fault : MethodName := ⟨RX7, "fault", "()I"⟩
abbrev cX7_carry : ByteArray := prog_9_method_61_code
def yX7_carry : MethodName := ⟨RX7, "carry", "(I)I"⟩
abbrev cX7_carryOut : ByteArray := prog_9_method_62_code
def yX7_carryOut : MethodName := ⟨RX7, "carryOut", "()I"⟩
abbrev cX7_undo : ByteArray := prog_9_method_63_code
def yX7_undo : MethodName := ⟨RX7, "undo", "()I"⟩
abbrev cX7_save : ByteArray := prog_9_method_64_code
def yX7_save : MethodName := ⟨RX7, "save", "(I)I"⟩
abbrev cX7_restore : ByteArray := prog_9_method_65_code
def yX7_restore : MethodName := ⟨RX7, "restore", "(I)I"⟩
def RL : String := "CarbonSheetsLaw"
abbrev cL_law : ByteArray := code
def yL_law : MethodName := ⟨RL, "law", "([I)Z"⟩
end
section
theorem dX0_init_0 : decode cX0_init 0 = .ok (.aload_n 0, 1) := by decide +kernel
theorem dX0_init_1 : decode cX0_init 1 = .ok (.invokespecial 3, 3) := by decide +kernel
theorem dX0_init_4 : decode cX0_init 4 = .ok (.aload_n 0, 1) := by decide +kernel
theorem dX0_init_5 : decode cX0_init 5 = .ok (.iconst 0, 1) := by decide +kernel
theorem dX0_init_6 : decode cX0_init 6 = .ok (.putfield 9, 3) := by decide +kernel
theorem dX0_init_9 : decode cX0_init 9 = .ok (.aload_n 0, 1) := by decide +kernel
theorem dX0_init_10 : decode cX0_init 10 = .ok (.iconst 0, 1) := by decide +kernel
theorem dX0_init_11 : decode cX0_init 11 = .ok (.putfield 15, 3) := by decide +kernel
theorem dX0_init_14 : decode cX0_init 14 = .ok (.aload_n 0, 1) := by decide +kernel
theorem dX0_init_15 : decode cX0_init 15 = .ok (.bipush 6, 2) := by decide +kernel
theorem dX0_init_17 : decode cX0_init 17 = .ok (.anewarray 18, 3) := by decide +kernel
theorem dX0_init_20 : decode cX0_init 20 = .ok (.putfield 20, 3) := by decide +kernel
theorem dX0_init_23 : decode cX0_init 23 = .ok (.iconst 0, 1) := by decide +kernel
theorem dX0_init_24 : decode cX0_init 24 = .ok (.istore_n 1, 1) := by decide +kernel
theorem dX0_init_25 : decode cX0_init 25 = .ok (.iload_n 1, 1) := by decide +kernel
theorem dX0_init_26 : decode cX0_init 26 = .ok (.bipush 6, 2) := by decide +kernel
theorem dX0_init_28 : decode cX0_init 28 = .ok (.if_icmp .ge 22, 3) := by decide +kernel
theorem dX0_init_31 : decode cX0_init 31 = .ok (.aload_n 0, 1) := by decide +kernel
theorem dX0_init_32 : decode cX0_init 32 = .ok (.getfield 20, 3) := by decide +kernel
theorem dX0_init_35 : decode cX0_init 35 = .ok (.iload_n 1, 1) := by decide +kernel
theorem dX0_init_36 : decode cX0_init 36 = .ok (.new 18, 3) := by decide +kernel
theorem dX0_init_39 : decode cX0_init 39 = .ok (.dup, 1) := by decide +kernel
theorem dX0_init_40 : decode cX0_init 40 = .ok (.invokespecial 24, 3) := by decide +kernel
theorem dX0_init_43 : decode cX0_init 43 = .ok (.aastore, 1) := by decide +kernel
theorem dX0_init_44 : decode cX0_init 44 = .ok (.iinc 1 1, 3) := by decide +kernel
theorem dX0_init_47 : decode cX0_init 47 = .ok (.goto (-22), 3) := by decide +kernel
theorem dX0_init_50 : decode cX0_init 50 = .ok (.return_, 1) := by decide +kernel
theorem dX0_record_0 : decode cX0_record 0 = .ok (.aload_n 0, 1) := by decide +kernel
theorem dX0_record_1 : decode cX0_record 1 = .ok (.aload_n 0, 1) := by decide +kernel
theorem dX0_record_2 : decode cX0_record 2 = .ok (.getfield 15, 3) := by decide +kernel
theorem dX0_record_5 : decode cX0_record 5 = .ok (.iconst 1, 1) := by decide +kernel
theorem dX0_record_6 : decode cX0_record 6 = .ok (.iadd, 1) := by decide +kernel
theorem dX0_record_7 : decode cX0_record 7 = .ok (.bipush 6, 2) := by decide +kernel
theorem dX0_record_9 : decode cX0_record 9 = .ok (.if_icmp .ge 12, 3) := by decide +kernel
theorem dX0_record_12 : decode cX0_record 12 = .ok (.aload_n 0, 1) := by decide +kernel
theorem dX0_record_13 : decode cX0_record 13 = .ok (.getfield 15, 3) := by decide +kernel
theorem dX0_record_16 : decode cX0_record 16 = .ok (.iconst 1, 1) := by decide +kernel
theorem dX0_record_17 : decode cX0_record 17 = .ok (.iadd, 1) := by decide +kernel
theorem dX0_record_18 : decode cX0_record 18 = .ok (.goto 4, 3) := by decide +kernel
theorem dX0_record_21 : decode cX0_record 21 = .ok (.iconst 0, 1) := by decide +kernel
theorem dX0_record_22 : decode cX0_record 22 = .ok (.putfield 15, 3) := by decide +kernel
theorem dX0_record_25 : decode cX0_record 25 = .ok (.aload_n 0, 1) := by decide +kernel
theorem dX0_record_26 : decode cX0_record 26 = .ok (.getfield 20, 3) := by decide +kernel
theorem dX0_record_29 : decode cX0_record 29 = .ok (.aload_n 0, 1) := by decide +kernel
theorem dX0_record_30 : decode cX0_record 30 = .ok (.getfield 15, 3) := by decide +kernel
theorem dX0_record_33 : decode cX0_record 33 = .ok (.aaload, 1) := by decide +kernel
theorem dX0_record_34 : decode cX0_record 34 = .ok (.aload_n 1, 1) := by decide +kernel
theorem dX0_record_35 : decode cX0_record 35 = .ok (.invokevirtual 25, 3) := by decide +kernel
theorem dX0_record_38 : decode cX0_record 38 = .ok (.aload_n 0, 1) := by decide +kernel
theorem dX0_record_39 : decode cX0_record 39 = .ok (.aload_n 0, 1) := by decide +kernel
theorem dX0_record_40 : decode cX0_record 40 = .ok (.getfield 9, 3) := by decide +kernel
theorem dX0_record_43 : decode cX0_record 43 = .ok (.iconst 1, 1) := by decide +kernel
theorem dX0_record_44 : decode cX0_record 44 = .ok (.iadd, 1) := by decide +kernel
theorem dX0_record_45 : decode cX0_record 45 = .ok (.bipush 6, 2) := by decide +kernel
theorem dX0_record_47 : decode cX0_record 47 = .ok (.invokestatic 29, 3) := by decide +kernel
theorem dX0_record_50 : decode cX0_record 50 = .ok (.putfield 9, 3) := by decide +kernel
theorem dX0_record_53 : decode cX0_record 53 = .ok (.return_, 1) := by decide +kernel
theorem dX0_takeBackInto_0 : decode cX0_takeBackInto 0 = .ok (.aload_n 1, 1) := by decide +kernel
theorem dX0_takeBackInto_1 : decode cX0_takeBackInto 1 = .ok (.aload_n 0, 1) := by decide +kernel
theorem dX0_takeBackInto_2 : decode cX0_takeBackInto 2 = .ok (.getfield 20, 3) := by decide +kernel
theorem dX0_takeBackInto_5 : decode cX0_takeBackInto 5 = .ok (.aload_n 0, 1) := by decide +kernel
theorem dX0_takeBackInto_6 : decode cX0_takeBackInto 6 = .ok (.getfield 15, 3) := by decide +kernel
theorem dX0_takeBackInto_9 : decode cX0_takeBackInto 9 = .ok (.aaload, 1) := by decide +kernel
theorem dX0_takeBackInto_10 : decode cX0_takeBackInto 10 = .ok (.invokevirtual 25, 3) := by decide +kernel
theorem dX0_takeBackInto_13 : decode cX0_takeBackInto 13 = .ok (.aload_n 0, 1) := by decide +kernel
theorem dX0_takeBackInto_14 : decode cX0_takeBackInto 14 = .ok (.aload_n 0, 1) := by decide +kernel
theorem dX0_takeBackInto_15 : decode cX0_takeBackInto 15 = .ok (.getfield 15, 3) := by decide +kernel
theorem dX0_takeBackInto_18 : decode cX0_takeBackInto 18 = .ok (.ifCond .le 12, 3) := by decide +kernel
theorem dX0_takeBackInto_21 : decode cX0_takeBackInto 21 = .ok (.aload_n 0, 1) := by decide +kernel
theorem dX0_takeBackInto_22 : decode cX0_takeBackInto 22 = .ok (.getfield 15, 3) := by decide +kernel
theorem dX0_takeBackInto_25 : decode cX0_takeBackInto 25 = .ok (.iconst 1, 1) := by decide +kernel
theorem dX0_takeBackInto_26 : decode cX0_takeBackInto 26 = .ok (.isub, 1) := by decide +kernel
theorem dX0_takeBackInto_27 : decode cX0_takeBackInto 27 = .ok (.goto 4, 3) := by decide +kernel
theorem dX0_takeBackInto_30 : decode cX0_takeBackInto 30 = .ok (.iconst 5, 1) := by decide +kernel
theorem dX0_takeBackInto_31 : decode cX0_takeBackInto 31 = .ok (.putfield 15, 3) := by decide +kernel
theorem dX0_takeBackInto_34 : decode cX0_takeBackInto 34 = .ok (.aload_n 0, 1) := by decide +kernel
theorem dX0_takeBackInto_35 : decode cX0_takeBackInto 35 = .ok (.dup, 1) := by decide +kernel
theorem dX0_takeBackInto_36 : decode cX0_takeBackInto 36 = .ok (.getfield 9, 3) := by decide +kernel
theorem dX0_takeBackInto_39 : decode cX0_takeBackInto 39 = .ok (.iconst 1, 1) := by decide +kernel
theorem dX0_takeBackInto_40 : decode cX0_takeBackInto 40 = .ok (.isub, 1) := by decide +kernel
theorem dX0_takeBackInto_41 : decode cX0_takeBackInto 41 = .ok (.putfield 9, 3) := by decide +kernel
theorem dX0_takeBackInto_44 : decode cX0_takeBackInto 44 = .ok (.return_, 1) := by decide +kernel
theorem dX1_init_0 : decode cX1_init 0 = .ok (.aload_n 0, 1) := by decide +kernel
theorem dX1_init_1 : decode cX1_init 1 = .ok (.invokespecial 3, 3) := by decide +kernel
theorem dX1_init_4 : decode cX1_init 4 = .ok (.return_, 1) := by decide +kernel
theorem dX1_begin_0 : decode cX1_begin 0 = .ok (.aload_n 0, 1) := by decide +kernel
theorem dX1_begin_1 : decode cX1_begin 1 = .ok (.iconst 0, 1) := by decide +kernel
theorem dX1_begin_2 : decode cX1_begin 2 = .ok (.putfield 11, 3) := by decide +kernel
theorem dX1_begin_5 : decode cX1_begin 5 = .ok (.return_, 1) := by decide +kernel
theorem dX1_isAfterOrder_0 : decode cX1_isAfterOrder 0 = .ok (.aload_n 0, 1) := by decide +kernel
theorem dX1_isAfterOrder_1 : decode cX1_isAfterOrder 1 = .ok (.getfield 11, 3) := by decide +kernel
theorem dX1_isAfterOrder_4 : decode cX1_isAfterOrder 4 = .ok (.bipush 7, 2) := by decide +kernel
theorem dX1_isAfterOrder_6 : decode cX1_isAfterOrder 6 = .ok (.if_icmp .ne 7, 3) := by decide +kernel
theorem dX1_isAfterOrder_9 : decode cX1_isAfterOrder 9 = .ok (.iconst 1, 1) := by decide +kernel
theorem dX1_isAfterOrder_10 : decode cX1_isAfterOrder 10 = .ok (.goto 4, 3) := by decide +kernel
theorem dX1_isAfterOrder_13 : decode cX1_isAfterOrder 13 = .ok (.iconst 0, 1) := by decide +kernel
theorem dX1_isAfterOrder_14 : decode cX1_isAfterOrder 14 = .ok (.ireturn, 1) := by decide +kernel
theorem dX1_takes_0 : decode cX1_takes 0 = .ok (.aload_n 0, 1) := by decide +kernel
theorem dX1_takes_1 : decode cX1_takes 1 = .ok (.getfield 11, 3) := by decide +kernel
theorem dX1_takes_4 : decode cX1_takes 4 = .ok (.tableswitch 125 0 6 #[44, 50, 56, 73, 79, 101, 119], 44) := by decide +kernel
theorem dX1_takes_48 : decode cX1_takes 48 = .ok (.aload_n 0, 1) := by decide +kernel
theorem dX1_takes_49 : decode cX1_takes 49 = .ok (.iload_n 1, 1) := by decide +kernel
theorem dX1_takes_50 : decode cX1_takes 50 = .ok (.invokevirtual 15, 3) := by decide +kernel
theorem dX1_takes_53 : decode cX1_takes 53 = .ok (.ireturn, 1) := by decide +kernel
theorem dX1_takes_54 : decode cX1_takes 54 = .ok (.aload_n 0, 1) := by decide +kernel
theorem dX1_takes_55 : decode cX1_takes 55 = .ok (.iload_n 1, 1) := by decide +kernel
theorem dX1_takes_56 : decode cX1_takes 56 = .ok (.invokevirtual 19, 3) := by decide +kernel
theorem dX1_takes_59 : decode cX1_takes 59 = .ok (.ireturn, 1) := by decide +kernel
theorem dX1_takes_60 : decode cX1_takes 60 = .ok (.aload_n 0, 1) := by decide +kernel
theorem dX1_takes_61 : decode cX1_takes 61 = .ok (.iload_n 1, 1) := by decide +kernel
theorem dX1_takes_62 : decode cX1_takes 62 = .ok (.bipush 61, 2) := by decide +kernel
theorem dX1_takes_64 : decode cX1_takes 64 = .ok (.if_icmp .ne 7, 3) := by decide +kernel
theorem dX1_takes_67 : decode cX1_takes 67 = .ok (.iconst 1, 1) := by decide +kernel
theorem dX1_takes_68 : decode cX1_takes 68 = .ok (.goto 4, 3) := by decide +kernel
theorem dX1_takes_71 : decode cX1_takes 71 = .ok (.iconst 0, 1) := by decide +kernel
theorem dX1_takes_72 : decode cX1_takes 72 = .ok (.iconst 3, 1) := by decide +kernel
theorem dX1_takes_73 : decode cX1_takes 73 = .ok (.invokevirtual 22, 3) := by decide +kernel
theorem dX1_takes_76 : decode cX1_takes 76 = .ok (.ireturn, 1) := by decide +kernel
theorem dX1_takes_77 : decode cX1_takes 77 = .ok (.aload_n 0, 1) := by decide +kernel
theorem dX1_takes_78 : decode cX1_takes 78 = .ok (.iload_n 1, 1) := by decide +kernel
theorem dX1_takes_79 : decode cX1_takes 79 = .ok (.invokevirtual 26, 3) := by decide +kernel
theorem dX1_takes_82 : decode cX1_takes 82 = .ok (.ireturn, 1) := by decide +kernel
theorem dX1_takes_83 : decode cX1_takes 83 = .ok (.iload_n 1, 1) := by decide +kernel
theorem dX1_takes_84 : decode cX1_takes 84 = .ok (.bipush 33, 2) := by decide +kernel
theorem dX1_takes_86 : decode cX1_takes 86 = .ok (.if_icmp .ne 13, 3) := by decide +kernel
theorem dX1_takes_89 : decode cX1_takes 89 = .ok (.aload_n 0, 1) := by decide +kernel
theorem dX1_takes_90 : decode cX1_takes 90 = .ok (.iconst 1, 1) := by decide +kernel
theorem dX1_takes_91 : decode cX1_takes 91 = .ok (.bipush 6, 2) := by decide +kernel
theorem dX1_takes_93 : decode cX1_takes 93 = .ok (.invokevirtual 22, 3) := by decide +kernel
theorem dX1_takes_96 : decode cX1_takes 96 = .ok (.goto 8, 3) := by decide +kernel
theorem dX1_takes_99 : decode cX1_takes 99 = .ok (.aload_n 0, 1) := by decide +kernel
theorem dX1_takes_100 : decode cX1_takes 100 = .ok (.iload_n 1, 1) := by decide +kernel
theorem dX1_takes_101 : decode cX1_takes 101 = .ok (.invokevirtual 29, 3) := by decide +kernel
theorem dX1_takes_104 : decode cX1_takes 104 = .ok (.ireturn, 1) := by decide +kernel
theorem dX1_takes_105 : decode cX1_takes 105 = .ok (.aload_n 0, 1) := by decide +kernel
theorem dX1_takes_106 : decode cX1_takes 106 = .ok (.iload_n 1, 1) := by decide +kernel
theorem dX1_takes_107 : decode cX1_takes 107 = .ok (.bipush 33, 2) := by decide +kernel
theorem dX1_takes_109 : decode cX1_takes 109 = .ok (.if_icmp .ne 7, 3) := by decide +kernel
theorem dX1_takes_112 : decode cX1_takes 112 = .ok (.iconst 1, 1) := by decide +kernel
theorem dX1_takes_113 : decode cX1_takes 113 = .ok (.goto 4, 3) := by decide +kernel
theorem dX1_takes_116 : decode cX1_takes 116 = .ok (.iconst 0, 1) := by decide +kernel
theorem dX1_takes_117 : decode cX1_takes 117 = .ok (.bipush 6, 2) := by decide +kernel
theorem dX1_takes_119 : decode cX1_takes 119 = .ok (.invokevirtual 22, 3) := by decide +kernel
theorem dX1_takes_122 : decode cX1_takes 122 = .ok (.ireturn, 1) := by decide +kernel
theorem dX1_takes_123 : decode cX1_takes 123 = .ok (.aload_n 0, 1) := by decide +kernel
theorem dX1_takes_124 : decode cX1_takes 124 = .ok (.iload_n 1, 1) := by decide +kernel
theorem dX1_takes_125 : decode cX1_takes 125 = .ok (.invokevirtual 32, 3) := by decide +kernel
theorem dX1_takes_128 : decode cX1_takes 128 = .ok (.ireturn, 1) := by decide +kernel
theorem dX1_takes_129 : decode cX1_takes 129 = .ok (.aload_n 0, 1) := by decide +kernel
theorem dX1_takes_130 : decode cX1_takes 130 = .ok (.iload_n 1, 1) := by decide +kernel
theorem dX1_takes_131 : decode cX1_takes 131 = .ok (.bipush 59, 2) := by decide +kernel
theorem dX1_takes_133 : decode cX1_takes 133 = .ok (.if_icmp .ne 7, 3) := by decide +kernel
theorem dX1_takes_136 : decode cX1_takes 136 = .ok (.iconst 1, 1) := by decide +kernel
theorem dX1_takes_137 : decode cX1_takes 137 = .ok (.goto 4, 3) := by decide +kernel
theorem dX1_takes_140 : decode cX1_takes 140 = .ok (.iconst 0, 1) := by decide +kernel
theorem dX1_takes_141 : decode cX1_takes 141 = .ok (.iconst 0, 1) := by decide +kernel
theorem dX1_takes_142 : decode cX1_takes 142 = .ok (.invokevirtual 22, 3) := by decide +kernel
theorem dX1_takes_145 : decode cX1_takes 145 = .ok (.ireturn, 1) := by decide +kernel
theorem dX1_goesOn_0 : decode cX1_goesOn 0 = .ok (.iload_n 1, 1) := by decide +kernel
theorem dX1_goesOn_1 : decode cX1_goesOn 1 = .ok (.ifCond .eq 8, 3) := by decide +kernel
theorem dX1_goesOn_4 : decode cX1_goesOn 4 = .ok (.aload_n 0, 1) := by decide +kernel
theorem dX1_goesOn_5 : decode cX1_goesOn 5 = .ok (.iload_n 2, 1) := by decide +kernel
theorem dX1_goesOn_6 : decode cX1_goesOn 6 = .ok (.putfield 11, 3) := by decide +kernel
theorem dX1_goesOn_9 : decode cX1_goesOn 9 = .ok (.iload_n 1, 1) := by decide +kernel
theorem dX1_goesOn_10 : decode cX1_goesOn 10 = .ok (.ireturn, 1) := by decide +kernel
theorem dX1_takesKind_0 : decode cX1_takesKind 0 = .ok (.aload_n 0, 1) := by decide +kernel
theorem dX1_takesKind_1 : decode cX1_takesKind 1 = .ok (.iload_n 1, 1) := by decide +kernel
theorem dX1_takesKind_2 : decode cX1_takesKind 2 = .ok (.putfield 35, 3) := by decide +kernel
theorem dX1_takesKind_5 : decode cX1_takesKind 5 = .ok (.iload_n 1, 1) := by decide +kernel
theorem dX1_takesKind_6 : decode cX1_takesKind 6 = .ok (.bipush 119, 2) := by decide +kernel
theorem dX1_takesKind_8 : decode cX1_takesKind 8 = .ok (.if_icmp .eq 9, 3) := by decide +kernel
theorem dX1_takesKind_11 : decode cX1_takesKind 11 = .ok (.iload_n 1, 1) := by decide +kernel
theorem dX1_takesKind_12 : decode cX1_takesKind 12 = .ok (.bipush 115, 2) := by decide +kernel
theorem dX1_takesKind_14 : decode cX1_takesKind 14 = .ok (.if_icmp .ne 10, 3) := by decide +kernel
theorem dX1_takesKind_17 : decode cX1_takesKind 17 = .ok (.aload_n 0, 1) := by decide +kernel
theorem dX1_takesKind_18 : decode cX1_takesKind 18 = .ok (.iconst 1, 1) := by decide +kernel
theorem dX1_takesKind_19 : decode cX1_takesKind 19 = .ok (.iconst 1, 1) := by decide +kernel
theorem dX1_takesKind_20 : decode cX1_takesKind 20 = .ok (.invokevirtual 22, 3) := by decide +kernel
theorem dX1_takesKind_23 : decode cX1_takesKind 23 = .ok (.ireturn, 1) := by decide +kernel
theorem dX1_takesKind_24 : decode cX1_takesKind 24 = .ok (.aload_n 0, 1) := by decide +kernel
theorem dX1_takesKind_25 : decode cX1_takesKind 25 = .ok (.iload_n 1, 1) := by decide +kernel
theorem dX1_takesKind_26 : decode cX1_takesKind 26 = .ok (.bipush 116, 2) := by decide +kernel
theorem dX1_takesKind_28 : decode cX1_takesKind 28 = .ok (.if_icmp .eq 9, 3) := by decide +kernel
theorem dX1_takesKind_31 : decode cX1_takesKind 31 = .ok (.iload_n 1, 1) := by decide +kernel
theorem dX1_takesKind_32 : decode cX1_takesKind 32 = .ok (.bipush 98, 2) := by decide +kernel
theorem dX1_takesKind_34 : decode cX1_takesKind 34 = .ok (.if_icmp .ne 7, 3) := by decide +kernel
theorem dX1_takesKind_37 : decode cX1_takesKind 37 = .ok (.iconst 1, 1) := by decide +kernel
theorem dX1_takesKind_38 : decode cX1_takesKind 38 = .ok (.goto 4, 3) := by decide +kernel
theorem dX1_takesKind_41 : decode cX1_takesKind 41 = .ok (.iconst 0, 1) := by decide +kernel
theorem dX1_takesKind_42 : decode cX1_takesKind 42 = .ok (.bipush 7, 2) := by decide +kernel
theorem dX1_takesKind_44 : decode cX1_takesKind 44 = .ok (.invokevirtual 22, 3) := by decide +kernel
theorem dX1_takesKind_47 : decode cX1_takesKind 47 = .ok (.ireturn, 1) := by decide +kernel
theorem dX1_takesField_0 : decode cX1_takesField 0 = .ok (.aload_n 0, 1) := by decide +kernel
theorem dX1_takesField_1 : decode cX1_takesField 1 = .ok (.iload_n 1, 1) := by decide +kernel
theorem dX1_takesField_2 : decode cX1_takesField 2 = .ok (.bipush 48, 2) := by decide +kernel
theorem dX1_takesField_4 : decode cX1_takesField 4 = .ok (.isub, 1) := by decide +kernel
theorem dX1_takesField_5 : decode cX1_takesField 5 = .ok (.putfield 38, 3) := by decide +kernel
theorem dX1_takesField_8 : decode cX1_takesField 8 = .ok (.aload_n 0, 1) := by decide +kernel
theorem dX1_takesField_9 : decode cX1_takesField 9 = .ok (.iload_n 1, 1) := by decide +kernel
theorem dX1_takesField_10 : decode cX1_takesField 10 = .ok (.invokestatic 41, 3) := by decide +kernel
theorem dX1_takesField_13 : decode cX1_takesField 13 = .ok (.aload_n 0, 1) := by decide +kernel
theorem dX1_takesField_14 : decode cX1_takesField 14 = .ok (.getfield 35, 3) := by decide +kernel
theorem dX1_takesField_17 : decode cX1_takesField 17 = .ok (.bipush 119, 2) := by decide +kernel
theorem dX1_takesField_19 : decode cX1_takesField 19 = .ok (.if_icmp .ne 7, 3) := by decide +kernel
theorem dX1_takesField_22 : decode cX1_takesField 22 = .ok (.iconst 2, 1) := by decide +kernel
theorem dX1_takesField_23 : decode cX1_takesField 23 = .ok (.goto 4, 3) := by decide +kernel
theorem dX1_takesField_26 : decode cX1_takesField 26 = .ok (.iconst 5, 1) := by decide +kernel
theorem dX1_takesField_27 : decode cX1_takesField 27 = .ok (.invokevirtual 22, 3) := by decide +kernel
theorem dX1_takesField_30 : decode cX1_takesField 30 = .ok (.ireturn, 1) := by decide +kernel
theorem dX1_takesFirstDigit_0 : decode cX1_takesFirstDigit 0 = .ok (.aload_n 0, 1) := by decide +kernel
theorem dX1_takesFirstDigit_1 : decode cX1_takesFirstDigit 1 = .ok (.iload_n 1, 1) := by decide +kernel
theorem dX1_takesFirstDigit_2 : decode cX1_takesFirstDigit 2 = .ok (.bipush 48, 2) := by decide +kernel
theorem dX1_takesFirstDigit_4 : decode cX1_takesFirstDigit 4 = .ok (.isub, 1) := by decide +kernel
theorem dX1_takesFirstDigit_5 : decode cX1_takesFirstDigit 5 = .ok (.putfield 44, 3) := by decide +kernel
theorem dX1_takesFirstDigit_8 : decode cX1_takesFirstDigit 8 = .ok (.aload_n 0, 1) := by decide +kernel
theorem dX1_takesFirstDigit_9 : decode cX1_takesFirstDigit 9 = .ok (.iload_n 1, 1) := by decide +kernel
theorem dX1_takesFirstDigit_10 : decode cX1_takesFirstDigit 10 = .ok (.invokestatic 41, 3) := by decide +kernel
theorem dX1_takesFirstDigit_13 : decode cX1_takesFirstDigit 13 = .ok (.iconst 4, 1) := by decide +kernel
theorem dX1_takesFirstDigit_14 : decode cX1_takesFirstDigit 14 = .ok (.invokevirtual 22, 3) := by decide +kernel
theorem dX1_takesFirstDigit_17 : decode cX1_takesFirstDigit 17 = .ok (.ireturn, 1) := by decide +kernel
theorem dX1_takesOneMoreDigit_0 : decode cX1_takesOneMoreDigit 0 = .ok (.iload_n 1, 1) := by decide +kernel
theorem dX1_takesOneMoreDigit_1 : decode cX1_takesOneMoreDigit 1 = .ok (.invokestatic 41, 3) := by decide +kernel
theorem dX1_takesOneMoreDigit_4 : decode cX1_takesOneMoreDigit 4 = .ok (.ifCond .eq 10, 3) := by decide +kernel
theorem dX1_takesOneMoreDigit_7 : decode cX1_takesOneMoreDigit 7 = .ok (.aload_n 0, 1) := by decide +kernel
theorem dX1_takesOneMoreDigit_8 : decode cX1_takesOneMoreDigit 8 = .ok (.getfield 44, 3) := by decide +kernel
theorem dX1_takesOneMoreDigit_11 : decode cX1_takesOneMoreDigit 11 = .ok (.ifCond .ne 5, 3) := by decide +kernel
theorem dX1_takesOneMoreDigit_14 : decode cX1_takesOneMoreDigit 14 = .ok (.iconst 0, 1) := by decide +kernel
theorem dX1_takesOneMoreDigit_15 : decode cX1_takesOneMoreDigit 15 = .ok (.ireturn, 1) := by decide +kernel
theorem dX1_takesOneMoreDigit_16 : decode cX1_takesOneMoreDigit 16 = .ok (.aload_n 0, 1) := by decide +kernel
theorem dX1_takesOneMoreDigit_17 : decode cX1_takesOneMoreDigit 17 = .ok (.aload_n 0, 1) := by decide +kernel
theorem dX1_takesOneMoreDigit_18 : decode cX1_takesOneMoreDigit 18 = .ok (.getfield 44, 3) := by decide +kernel
theorem dX1_takesOneMoreDigit_21 : decode cX1_takesOneMoreDigit 21 = .ok (.bipush 10, 2) := by decide +kernel
theorem dX1_takesOneMoreDigit_23 : decode cX1_takesOneMoreDigit 23 = .ok (.imul, 1) := by decide +kernel
theorem dX1_takesOneMoreDigit_24 : decode cX1_takesOneMoreDigit 24 = .ok (.iload_n 1, 1) := by decide +kernel
theorem dX1_takesOneMoreDigit_25 : decode cX1_takesOneMoreDigit 25 = .ok (.bipush 48, 2) := by decide +kernel
theorem dX1_takesOneMoreDigit_27 : decode cX1_takesOneMoreDigit 27 = .ok (.isub, 1) := by decide +kernel
theorem dX1_takesOneMoreDigit_28 : decode cX1_takesOneMoreDigit 28 = .ok (.iadd, 1) := by decide +kernel
theorem dX1_takesOneMoreDigit_29 : decode cX1_takesOneMoreDigit 29 = .ok (.putfield 44, 3) := by decide +kernel
theorem dX1_takesOneMoreDigit_32 : decode cX1_takesOneMoreDigit 32 = .ok (.aload_n 0, 1) := by decide +kernel
theorem dX1_takesOneMoreDigit_33 : decode cX1_takesOneMoreDigit 33 = .ok (.getfield 44, 3) := by decide +kernel
theorem dX1_takesOneMoreDigit_36 : decode cX1_takesOneMoreDigit 36 = .ok (.sipush 999, 3) := by decide +kernel
theorem dX1_takesOneMoreDigit_39 : decode cX1_takesOneMoreDigit 39 = .ok (.if_icmp .gt 7, 3) := by decide +kernel
theorem dX1_takesOneMoreDigit_42 : decode cX1_takesOneMoreDigit 42 = .ok (.iconst 1, 1) := by decide +kernel
theorem dX1_takesOneMoreDigit_43 : decode cX1_takesOneMoreDigit 43 = .ok (.goto 4, 3) := by decide +kernel
theorem dX1_takesOneMoreDigit_46 : decode cX1_takesOneMoreDigit 46 = .ok (.iconst 0, 1) := by decide +kernel
theorem dX1_takesOneMoreDigit_47 : decode cX1_takesOneMoreDigit 47 = .ok (.ireturn, 1) := by decide +kernel
theorem dX1_takesPressure_0 : decode cX1_takesPressure 0 = .ok (.aload_n 0, 1) := by decide +kernel
theorem dX1_takesPressure_1 : decode cX1_takesPressure 1 = .ok (.iload_n 1, 1) := by decide +kernel
theorem dX1_takesPressure_2 : decode cX1_takesPressure 2 = .ok (.bipush 48, 2) := by decide +kernel
theorem dX1_takesPressure_4 : decode cX1_takesPressure 4 = .ok (.isub, 1) := by decide +kernel
theorem dX1_takesPressure_5 : decode cX1_takesPressure 5 = .ok (.putfield 47, 3) := by decide +kernel
theorem dX1_takesPressure_8 : decode cX1_takesPressure 8 = .ok (.aload_n 0, 1) := by decide +kernel
theorem dX1_takesPressure_9 : decode cX1_takesPressure 9 = .ok (.aload_n 0, 1) := by decide +kernel
theorem dX1_takesPressure_10 : decode cX1_takesPressure 10 = .ok (.getfield 47, 3) := by decide +kernel
theorem dX1_takesPressure_13 : decode cX1_takesPressure 13 = .ok (.invokestatic 50, 3) := by decide +kernel
theorem dX1_takesPressure_16 : decode cX1_takesPressure 16 = .ok (.bipush 7, 2) := by decide +kernel
theorem dX1_takesPressure_18 : decode cX1_takesPressure 18 = .ok (.invokevirtual 22, 3) := by decide +kernel
theorem dX1_takesPressure_21 : decode cX1_takesPressure 21 = .ok (.ireturn, 1) := by decide +kernel
theorem dX1_isDigit_0 : decode cX1_isDigit 0 = .ok (.iload_n 0, 1) := by decide +kernel
theorem dX1_isDigit_1 : decode cX1_isDigit 1 = .ok (.bipush 48, 2) := by decide +kernel
theorem dX1_isDigit_3 : decode cX1_isDigit 3 = .ok (.if_icmp .lt 13, 3) := by decide +kernel
theorem dX1_isDigit_6 : decode cX1_isDigit 6 = .ok (.iload_n 0, 1) := by decide +kernel
theorem dX1_isDigit_7 : decode cX1_isDigit 7 = .ok (.bipush 57, 2) := by decide +kernel
theorem dX1_isDigit_9 : decode cX1_isDigit 9 = .ok (.if_icmp .gt 7, 3) := by decide +kernel
theorem dX1_isDigit_12 : decode cX1_isDigit 12 = .ok (.iconst 1, 1) := by decide +kernel
theorem dX1_isDigit_13 : decode cX1_isDigit 13 = .ok (.goto 4, 3) := by decide +kernel
theorem dX1_isDigit_16 : decode cX1_isDigit 16 = .ok (.iconst 0, 1) := by decide +kernel
theorem dX1_isDigit_17 : decode cX1_isDigit 17 = .ok (.ireturn, 1) := by decide +kernel
theorem dX2_init_0 : decode cX2_init 0 = .ok (.aload_n 0, 1) := by decide +kernel
theorem dX2_init_1 : decode cX2_init 1 = .ok (.invokespecial 3, 3) := by decide +kernel
theorem dX2_init_4 : decode cX2_init 4 = .ok (.aload_n 0, 1) := by decide +kernel
theorem dX2_init_5 : decode cX2_init 5 = .ok (.iconst 0, 1) := by decide +kernel
theorem dX2_init_6 : decode cX2_init 6 = .ok (.putfield 9, 3) := by decide +kernel
theorem dX2_init_9 : decode cX2_init 9 = .ok (.aload_n 0, 1) := by decide +kernel
theorem dX2_init_10 : decode cX2_init 10 = .ok (.bipush 80, 2) := by decide +kernel
theorem dX2_init_12 : decode cX2_init 12 = .ok (.newarray .char, 2) := by decide +kernel
theorem dX2_init_14 : decode cX2_init 14 = .ok (.putfield 15, 3) := by decide +kernel
theorem dX2_init_17 : decode cX2_init 17 = .ok (.return_, 1) := by decide +kernel
theorem dX2_sizeOf_0 : decode cX2_sizeOf 0 = .ok (.iconst 0, 1) := by decide +kernel
theorem dX2_sizeOf_1 : decode cX2_sizeOf 1 = .ok (.istore_n 2, 1) := by decide +kernel
theorem dX2_sizeOf_2 : decode cX2_sizeOf 2 = .ok (.iload_n 2, 1) := by decide +kernel
theorem dX2_sizeOf_3 : decode cX2_sizeOf 3 = .ok (.bipush 8, 2) := by decide +kernel
theorem dX2_sizeOf_5 : decode cX2_sizeOf 5 = .ok (.if_icmp .ge 55, 3) := by decide +kernel
theorem dX2_sizeOf_8 : decode cX2_sizeOf 8 = .ok (.lload_n 0, 1) := by decide +kernel
theorem dX2_sizeOf_9 : decode cX2_sizeOf 9 = .ok (.bipush 8, 2) := by decide +kernel
theorem dX2_sizeOf_11 : decode cX2_sizeOf 11 = .ok (.iload_n 2, 1) := by decide +kernel
theorem dX2_sizeOf_12 : decode cX2_sizeOf 12 = .ok (.imul, 1) := by decide +kernel
theorem dX2_sizeOf_13 : decode cX2_sizeOf 13 = .ok (.lushr, 1) := by decide +kernel
theorem dX2_sizeOf_14 : decode cX2_sizeOf 14 = .ok (.lstore_n 3, 1) := by decide +kernel
theorem dX2_sizeOf_15 : decode cX2_sizeOf 15 = .ok (.lload_n 3, 1) := by decide +kernel
theorem dX2_sizeOf_16 : decode cX2_sizeOf 16 = .ok (.ldc2_w 19, 3) := by decide +kernel
theorem dX2_sizeOf_19 : decode cX2_sizeOf 19 = .ok (.land, 1) := by decide +kernel
theorem dX2_sizeOf_20 : decode cX2_sizeOf 20 = .ok (.l2i, 1) := by decide +kernel
theorem dX2_sizeOf_21 : decode cX2_sizeOf 21 = .ok (.istore 5, 2) := by decide +kernel
theorem dX2_sizeOf_23 : decode cX2_sizeOf 23 = .ok (.iload 5, 2) := by decide +kernel
theorem dX2_sizeOf_25 : decode cX2_sizeOf 25 = .ok (.ifCond .ne 15, 3) := by decide +kernel
theorem dX2_sizeOf_28 : decode cX2_sizeOf 28 = .ok (.lload_n 3, 1) := by decide +kernel
theorem dX2_sizeOf_29 : decode cX2_sizeOf 29 = .ok (.lconst 0, 1) := by decide +kernel
theorem dX2_sizeOf_30 : decode cX2_sizeOf 30 = .ok (.lcmp, 1) := by decide +kernel
theorem dX2_sizeOf_31 : decode cX2_sizeOf 31 = .ok (.ifCond .ne 7, 3) := by decide +kernel
theorem dX2_sizeOf_34 : decode cX2_sizeOf 34 = .ok (.iload_n 2, 1) := by decide +kernel
theorem dX2_sizeOf_35 : decode cX2_sizeOf 35 = .ok (.goto 4, 3) := by decide +kernel
theorem dX2_sizeOf_38 : decode cX2_sizeOf 38 = .ok (.iconst 0, 1) := by decide +kernel
theorem dX2_sizeOf_39 : decode cX2_sizeOf 39 = .ok (.ireturn, 1) := by decide +kernel
theorem dX2_sizeOf_40 : decode cX2_sizeOf 40 = .ok (.iload 5, 2) := by decide +kernel
theorem dX2_sizeOf_42 : decode cX2_sizeOf 42 = .ok (.bipush 33, 2) := by decide +kernel
theorem dX2_sizeOf_44 : decode cX2_sizeOf 44 = .ok (.bipush 126, 2) := by decide +kernel
theorem dX2_sizeOf_46 : decode cX2_sizeOf 46 = .ok (.invokestatic 21, 3) := by decide +kernel
theorem dX2_sizeOf_49 : decode cX2_sizeOf 49 = .ok (.ifCond .ne 5, 3) := by decide +kernel
theorem dX2_sizeOf_52 : decode cX2_sizeOf 52 = .ok (.iconst 0, 1) := by decide +kernel
theorem dX2_sizeOf_53 : decode cX2_sizeOf 53 = .ok (.ireturn, 1) := by decide +kernel
theorem dX2_sizeOf_54 : decode cX2_sizeOf 54 = .ok (.iinc 2 1, 3) := by decide +kernel
theorem dX2_sizeOf_57 : decode cX2_sizeOf 57 = .ok (.goto (-55), 3) := by decide +kernel
theorem dX2_sizeOf_60 : decode cX2_sizeOf 60 = .ok (.bipush 8, 2) := by decide +kernel
theorem dX2_sizeOf_62 : decode cX2_sizeOf 62 = .ok (.ireturn, 1) := by decide +kernel
theorem dX2_append_0 : decode cX2_append 0 = .ok (.iload_n 3, 1) := by decide +kernel
theorem dX2_append_1 : decode cX2_append 1 = .ok (.iconst 1, 1) := by decide +kernel
theorem dX2_append_2 : decode cX2_append 2 = .ok (.isub, 1) := by decide +kernel
theorem dX2_append_3 : decode cX2_append 3 = .ok (.istore 4, 2) := by decide +kernel
theorem dX2_append_5 : decode cX2_append 5 = .ok (.iload 4, 2) := by decide +kernel
theorem dX2_append_7 : decode cX2_append 7 = .ok (.ifCond .lt 50, 3) := by decide +kernel
theorem dX2_append_10 : decode cX2_append 10 = .ok (.aload_n 0, 1) := by decide +kernel
theorem dX2_append_11 : decode cX2_append 11 = .ok (.getfield 9, 3) := by decide +kernel
theorem dX2_append_14 : decode cX2_append 14 = .ok (.bipush 80, 2) := by decide +kernel
theorem dX2_append_16 : decode cX2_append 16 = .ok (.if_icmp .ge 35, 3) := by decide +kernel
theorem dX2_append_19 : decode cX2_append 19 = .ok (.aload_n 0, 1) := by decide +kernel
theorem dX2_append_20 : decode cX2_append 20 = .ok (.getfield 15, 3) := by decide +kernel
theorem dX2_append_23 : decode cX2_append 23 = .ok (.aload_n 0, 1) := by decide +kernel
theorem dX2_append_24 : decode cX2_append 24 = .ok (.getfield 9, 3) := by decide +kernel
theorem dX2_append_27 : decode cX2_append 27 = .ok (.lload_n 1, 1) := by decide +kernel
theorem dX2_append_28 : decode cX2_append 28 = .ok (.bipush 8, 2) := by decide +kernel
theorem dX2_append_30 : decode cX2_append 30 = .ok (.iload 4, 2) := by decide +kernel
theorem dX2_append_32 : decode cX2_append 32 = .ok (.imul, 1) := by decide +kernel
theorem dX2_append_33 : decode cX2_append 33 = .ok (.lushr, 1) := by decide +kernel
theorem dX2_append_34 : decode cX2_append 34 = .ok (.ldc2_w 19, 3) := by decide +kernel
theorem dX2_append_37 : decode cX2_append 37 = .ok (.land, 1) := by decide +kernel
theorem dX2_append_38 : decode cX2_append 38 = .ok (.l2i, 1) := by decide +kernel
theorem dX2_append_39 : decode cX2_append 39 = .ok (.i2c, 1) := by decide +kernel
theorem dX2_append_40 : decode cX2_append 40 = .ok (.castore, 1) := by decide +kernel
theorem dX2_append_41 : decode cX2_append 41 = .ok (.aload_n 0, 1) := by decide +kernel
theorem dX2_append_42 : decode cX2_append 42 = .ok (.dup, 1) := by decide +kernel
theorem dX2_append_43 : decode cX2_append 43 = .ok (.getfield 9, 3) := by decide +kernel
theorem dX2_append_46 : decode cX2_append 46 = .ok (.iconst 1, 1) := by decide +kernel
theorem dX2_append_47 : decode cX2_append 47 = .ok (.iadd, 1) := by decide +kernel
theorem dX2_append_48 : decode cX2_append 48 = .ok (.putfield 9, 3) := by decide +kernel
theorem dX2_append_51 : decode cX2_append 51 = .ok (.iinc 4 (-1), 3) := by decide +kernel
theorem dX2_append_54 : decode cX2_append 54 = .ok (.goto (-49), 3) := by decide +kernel
theorem dX2_append_57 : decode cX2_append 57 = .ok (.return_, 1) := by decide +kernel
theorem dX2_firstFault_0 : decode cX2_firstFault 0 = .ok (.aload_n 1, 1) := by decide +kernel
theorem dX2_firstFault_1 : decode cX2_firstFault 1 = .ok (.invokevirtual 25, 3) := by decide +kernel
theorem dX2_firstFault_4 : decode cX2_firstFault 4 = .ok (.iconst 0, 1) := by decide +kernel
theorem dX2_firstFault_5 : decode cX2_firstFault 5 = .ok (.istore_n 2, 1) := by decide +kernel
theorem dX2_firstFault_6 : decode cX2_firstFault 6 = .ok (.iload_n 2, 1) := by decide +kernel
theorem dX2_firstFault_7 : decode cX2_firstFault 7 = .ok (.aload_n 0, 1) := by decide +kernel
theorem dX2_firstFault_8 : decode cX2_firstFault 8 = .ok (.getfield 9, 3) := by decide +kernel
theorem dX2_firstFault_11 : decode cX2_firstFault 11 = .ok (.if_icmp .ge 24, 3) := by decide +kernel
theorem dX2_firstFault_14 : decode cX2_firstFault 14 = .ok (.aload_n 1, 1) := by decide +kernel
theorem dX2_firstFault_15 : decode cX2_firstFault 15 = .ok (.aload_n 0, 1) := by decide +kernel
theorem dX2_firstFault_16 : decode cX2_firstFault 16 = .ok (.getfield 15, 3) := by decide +kernel
theorem dX2_firstFault_19 : decode cX2_firstFault 19 = .ok (.iload_n 2, 1) := by decide +kernel
theorem dX2_firstFault_20 : decode cX2_firstFault 20 = .ok (.caload, 1) := by decide +kernel
theorem dX2_firstFault_21 : decode cX2_firstFault 21 = .ok (.invokevirtual 30, 3) := by decide +kernel
theorem dX2_firstFault_24 : decode cX2_firstFault 24 = .ok (.ifCond .ne 5, 3) := by decide +kernel
theorem dX2_firstFault_27 : decode cX2_firstFault 27 = .ok (.iload_n 2, 1) := by decide +kernel
theorem dX2_firstFault_28 : decode cX2_firstFault 28 = .ok (.ireturn, 1) := by decide +kernel
theorem dX2_firstFault_29 : decode cX2_firstFault 29 = .ok (.iinc 2 1, 3) := by decide +kernel
theorem dX2_firstFault_32 : decode cX2_firstFault 32 = .ok (.goto (-26), 3) := by decide +kernel
theorem dX2_firstFault_35 : decode cX2_firstFault 35 = .ok (.aload_n 1, 1) := by decide +kernel
theorem dX2_firstFault_36 : decode cX2_firstFault 36 = .ok (.invokevirtual 34, 3) := by decide +kernel
theorem dX2_firstFault_39 : decode cX2_firstFault 39 = .ok (.ifCond .eq 8, 3) := by decide +kernel
theorem dX2_firstFault_42 : decode cX2_firstFault 42 = .ok (.bipush (-6), 2) := by decide +kernel
theorem dX2_firstFault_44 : decode cX2_firstFault 44 = .ok (.goto 7, 3) := by decide +kernel
theorem dX2_firstFault_47 : decode cX2_firstFault 47 = .ok (.aload_n 0, 1) := by decide +kernel
theorem dX2_firstFault_48 : decode cX2_firstFault 48 = .ok (.getfield 9, 3) := by decide +kernel
theorem dX2_firstFault_51 : decode cX2_firstFault 51 = .ok (.ireturn, 1) := by decide +kernel
theorem dX3_init_0 : decode cX3_init 0 = .ok (.aload_n 0, 1) := by decide +kernel
theorem dX3_init_1 : decode cX3_init 1 = .ok (.invokespecial 3, 3) := by decide +kernel
theorem dX3_init_4 : decode cX3_init 4 = .ok (.aload_n 0, 1) := by decide +kernel
theorem dX3_init_5 : decode cX3_init 5 = .ok (.iconst 1, 1) := by decide +kernel
theorem dX3_init_6 : decode cX3_init 6 = .ok (.putfield 9, 3) := by decide +kernel
theorem dX3_init_9 : decode cX3_init 9 = .ok (.aload_n 0, 1) := by decide +kernel
theorem dX3_init_10 : decode cX3_init 10 = .ok (.bipush 60, 2) := by decide +kernel
theorem dX3_init_12 : decode cX3_init 12 = .ok (.putfield 15, 3) := by decide +kernel
theorem dX3_init_15 : decode cX3_init 15 = .ok (.aload_n 0, 1) := by decide +kernel
theorem dX3_init_16 : decode cX3_init 16 = .ok (.iconst 0, 1) := by decide +kernel
theorem dX3_init_17 : decode cX3_init 17 = .ok (.putfield 18, 3) := by decide +kernel
theorem dX3_init_20 : decode cX3_init 20 = .ok (.aload_n 0, 1) := by decide +kernel
theorem dX3_init_21 : decode cX3_init 21 = .ok (.bipush 10, 2) := by decide +kernel
theorem dX3_init_23 : decode cX3_init 23 = .ok (.newarray .int, 2) := by decide +kernel
theorem dX3_init_25 : decode cX3_init 25 = .ok (.putfield 21, 3) := by decide +kernel
theorem dX3_init_28 : decode cX3_init 28 = .ok (.aload_n 0, 1) := by decide +kernel
theorem dX3_init_29 : decode cX3_init 29 = .ok (.bipush 80, 2) := by decide +kernel
theorem dX3_init_31 : decode cX3_init 31 = .ok (.newarray .int, 2) := by decide +kernel
theorem dX3_init_33 : decode cX3_init 33 = .ok (.putfield 25, 3) := by decide +kernel
theorem dX3_init_36 : decode cX3_init 36 = .ok (.return_, 1) := by decide +kernel
theorem dX3_copyFrom_0 : decode cX3_copyFrom 0 = .ok (.aload_n 0, 1) := by decide +kernel
theorem dX3_copyFrom_1 : decode cX3_copyFrom 1 = .ok (.aload_n 1, 1) := by decide +kernel
theorem dX3_copyFrom_2 : decode cX3_copyFrom 2 = .ok (.getfield 9, 3) := by decide +kernel
theorem dX3_copyFrom_5 : decode cX3_copyFrom 5 = .ok (.putfield 9, 3) := by decide +kernel
theorem dX3_copyFrom_8 : decode cX3_copyFrom 8 = .ok (.aload_n 0, 1) := by decide +kernel
theorem dX3_copyFrom_9 : decode cX3_copyFrom 9 = .ok (.aload_n 1, 1) := by decide +kernel
theorem dX3_copyFrom_10 : decode cX3_copyFrom 10 = .ok (.getfield 15, 3) := by decide +kernel
theorem dX3_copyFrom_13 : decode cX3_copyFrom 13 = .ok (.putfield 15, 3) := by decide +kernel
theorem dX3_copyFrom_16 : decode cX3_copyFrom 16 = .ok (.aload_n 0, 1) := by decide +kernel
theorem dX3_copyFrom_17 : decode cX3_copyFrom 17 = .ok (.aload_n 1, 1) := by decide +kernel
theorem dX3_copyFrom_18 : decode cX3_copyFrom 18 = .ok (.getfield 18, 3) := by decide +kernel
theorem dX3_copyFrom_21 : decode cX3_copyFrom 21 = .ok (.putfield 18, 3) := by decide +kernel
theorem dX3_copyFrom_24 : decode cX3_copyFrom 24 = .ok (.aload_n 1, 1) := by decide +kernel
theorem dX3_copyFrom_25 : decode cX3_copyFrom 25 = .ok (.getfield 21, 3) := by decide +kernel
theorem dX3_copyFrom_28 : decode cX3_copyFrom 28 = .ok (.iconst 0, 1) := by decide +kernel
theorem dX3_copyFrom_29 : decode cX3_copyFrom 29 = .ok (.aload_n 0, 1) := by decide +kernel
theorem dX3_copyFrom_30 : decode cX3_copyFrom 30 = .ok (.getfield 21, 3) := by decide +kernel
theorem dX3_copyFrom_33 : decode cX3_copyFrom 33 = .ok (.iconst 0, 1) := by decide +kernel
theorem dX3_copyFrom_34 : decode cX3_copyFrom 34 = .ok (.bipush 10, 2) := by decide +kernel
theorem dX3_copyFrom_36 : decode cX3_copyFrom 36 = .ok (.invokestatic 28, 3) := by decide +kernel
theorem dX3_copyFrom_39 : decode cX3_copyFrom 39 = .ok (.aload_n 1, 1) := by decide +kernel
theorem dX3_copyFrom_40 : decode cX3_copyFrom 40 = .ok (.getfield 25, 3) := by decide +kernel
theorem dX3_copyFrom_43 : decode cX3_copyFrom 43 = .ok (.iconst 0, 1) := by decide +kernel
theorem dX3_copyFrom_44 : decode cX3_copyFrom 44 = .ok (.aload_n 0, 1) := by decide +kernel
theorem dX3_copyFrom_45 : decode cX3_copyFrom 45 = .ok (.getfield 25, 3) := by decide +kernel
theorem dX3_copyFrom_48 : decode cX3_copyFrom 48 = .ok (.iconst 0, 1) := by decide +kernel
theorem dX3_copyFrom_49 : decode cX3_copyFrom 49 = .ok (.bipush 80, 2) := by decide +kernel
theorem dX3_copyFrom_51 : decode cX3_copyFrom 51 = .ok (.invokestatic 28, 3) := by decide +kernel
theorem dX3_copyFrom_54 : decode cX3_copyFrom 54 = .ok (.return_, 1) := by decide +kernel
theorem dX3_hasRoom_0 : decode cX3_hasRoom 0 = .ok (.aload_n 0, 1) := by decide +kernel
theorem dX3_hasRoom_1 : decode cX3_hasRoom 1 = .ok (.getfield 21, 3) := by decide +kernel
theorem dX3_hasRoom_4 : decode cX3_hasRoom 4 = .ok (.iload_n 1, 1) := by decide +kernel
theorem dX3_hasRoom_5 : decode cX3_hasRoom 5 = .ok (.iaload, 1) := by decide +kernel
theorem dX3_hasRoom_6 : decode cX3_hasRoom 6 = .ok (.bipush 8, 2) := by decide +kernel
theorem dX3_hasRoom_8 : decode cX3_hasRoom 8 = .ok (.if_icmp .ge 7, 3) := by decide +kernel
theorem dX3_hasRoom_11 : decode cX3_hasRoom 11 = .ok (.iconst 1, 1) := by decide +kernel
theorem dX3_hasRoom_12 : decode cX3_hasRoom 12 = .ok (.goto 4, 3) := by decide +kernel
theorem dX3_hasRoom_15 : decode cX3_hasRoom 15 = .ok (.iconst 0, 1) := by decide +kernel
theorem dX3_hasRoom_16 : decode cX3_hasRoom 16 = .ok (.ireturn, 1) := by decide +kernel
theorem dX3_addMark_0 : decode cX3_addMark 0 = .ok (.aload_n 0, 1) := by decide +kernel
theorem dX3_addMark_1 : decode cX3_addMark 1 = .ok (.iload_n 1, 1) := by decide +kernel
theorem dX3_addMark_2 : decode cX3_addMark 2 = .ok (.invokevirtual 34, 3) := by decide +kernel
theorem dX3_addMark_5 : decode cX3_addMark 5 = .ok (.ifCond .ne 4, 3) := by decide +kernel
theorem dX3_addMark_8 : decode cX3_addMark 8 = .ok (.return_, 1) := by decide +kernel
theorem dX3_addMark_9 : decode cX3_addMark 9 = .ok (.aload_n 0, 1) := by decide +kernel
theorem dX3_addMark_10 : decode cX3_addMark 10 = .ok (.getfield 25, 3) := by decide +kernel
theorem dX3_addMark_13 : decode cX3_addMark 13 = .ok (.iload_n 1, 1) := by decide +kernel
theorem dX3_addMark_14 : decode cX3_addMark 14 = .ok (.bipush 8, 2) := by decide +kernel
theorem dX3_addMark_16 : decode cX3_addMark 16 = .ok (.imul, 1) := by decide +kernel
theorem dX3_addMark_17 : decode cX3_addMark 17 = .ok (.aload_n 0, 1) := by decide +kernel
theorem dX3_addMark_18 : decode cX3_addMark 18 = .ok (.getfield 21, 3) := by decide +kernel
theorem dX3_addMark_21 : decode cX3_addMark 21 = .ok (.iload_n 1, 1) := by decide +kernel
theorem dX3_addMark_22 : decode cX3_addMark 22 = .ok (.iaload, 1) := by decide +kernel
theorem dX3_addMark_23 : decode cX3_addMark 23 = .ok (.iadd, 1) := by decide +kernel
theorem dX3_addMark_24 : decode cX3_addMark 24 = .ok (.iload_n 2, 1) := by decide +kernel
theorem dX3_addMark_25 : decode cX3_addMark 25 = .ok (.iconst 5, 1) := by decide +kernel
theorem dX3_addMark_26 : decode cX3_addMark 26 = .ok (.ishl, 1) := by decide +kernel
theorem dX3_addMark_27 : decode cX3_addMark 27 = .ok (.iload_n 3, 1) := by decide +kernel
theorem dX3_addMark_28 : decode cX3_addMark 28 = .ok (.iconst 1, 1) := by decide +kernel
theorem dX3_addMark_29 : decode cX3_addMark 29 = .ok (.ishl, 1) := by decide +kernel
theorem dX3_addMark_30 : decode cX3_addMark 30 = .ok (.ior, 1) := by decide +kernel
theorem dX3_addMark_31 : decode cX3_addMark 31 = .ok (.iastore, 1) := by decide +kernel
theorem dX3_addMark_32 : decode cX3_addMark 32 = .ok (.aload_n 0, 1) := by decide +kernel
theorem dX3_addMark_33 : decode cX3_addMark 33 = .ok (.getfield 21, 3) := by decide +kernel
theorem dX3_addMark_36 : decode cX3_addMark 36 = .ok (.iload_n 1, 1) := by decide +kernel
theorem dX3_addMark_37 : decode cX3_addMark 37 = .ok (.dup2, 1) := by decide +kernel
theorem dX3_addMark_38 : decode cX3_addMark 38 = .ok (.iaload, 1) := by decide +kernel
theorem dX3_addMark_39 : decode cX3_addMark 39 = .ok (.iconst 1, 1) := by decide +kernel
theorem dX3_addMark_40 : decode cX3_addMark 40 = .ok (.iadd, 1) := by decide +kernel
theorem dX3_addMark_41 : decode cX3_addMark 41 = .ok (.iastore, 1) := by decide +kernel
theorem dX3_addMark_42 : decode cX3_addMark 42 = .ok (.return_, 1) := by decide +kernel
theorem dX3_valueAt_0 : decode cX3_valueAt 0 = .ok (.aload_n 0, 1) := by decide +kernel
theorem dX3_valueAt_1 : decode cX3_valueAt 1 = .ok (.getfield 25, 3) := by decide +kernel
theorem dX3_valueAt_4 : decode cX3_valueAt 4 = .ok (.iload_n 1, 1) := by decide +kernel
theorem dX3_valueAt_5 : decode cX3_valueAt 5 = .ok (.bipush 8, 2) := by decide +kernel
theorem dX3_valueAt_7 : decode cX3_valueAt 7 = .ok (.imul, 1) := by decide +kernel
theorem dX3_valueAt_8 : decode cX3_valueAt 8 = .ok (.iload_n 2, 1) := by decide +kernel
theorem dX3_valueAt_9 : decode cX3_valueAt 9 = .ok (.iadd, 1) := by decide +kernel
theorem dX3_valueAt_10 : decode cX3_valueAt 10 = .ok (.iaload, 1) := by decide +kernel
theorem dX3_valueAt_11 : decode cX3_valueAt 11 = .ok (.iconst 5, 1) := by decide +kernel
theorem dX3_valueAt_12 : decode cX3_valueAt 12 = .ok (.ishr, 1) := by decide +kernel
theorem dX3_valueAt_13 : decode cX3_valueAt 13 = .ok (.ireturn, 1) := by decide +kernel
theorem dX3_strengthAt_0 : decode cX3_strengthAt 0 = .ok (.aload_n 0, 1) := by decide +kernel
theorem dX3_strengthAt_1 : decode cX3_strengthAt 1 = .ok (.getfield 25, 3) := by decide +kernel
theorem dX3_strengthAt_4 : decode cX3_strengthAt 4 = .ok (.iload_n 1, 1) := by decide +kernel
theorem dX3_strengthAt_5 : decode cX3_strengthAt 5 = .ok (.bipush 8, 2) := by decide +kernel
theorem dX3_strengthAt_7 : decode cX3_strengthAt 7 = .ok (.imul, 1) := by decide +kernel
theorem dX3_strengthAt_8 : decode cX3_strengthAt 8 = .ok (.iload_n 2, 1) := by decide +kernel
theorem dX3_strengthAt_9 : decode cX3_strengthAt 9 = .ok (.iadd, 1) := by decide +kernel
theorem dX3_strengthAt_10 : decode cX3_strengthAt 10 = .ok (.iaload, 1) := by decide +kernel
theorem dX3_strengthAt_11 : decode cX3_strengthAt 11 = .ok (.iconst 1, 1) := by decide +kernel
theorem dX3_strengthAt_12 : decode cX3_strengthAt 12 = .ok (.ishr, 1) := by decide +kernel
theorem dX3_strengthAt_13 : decode cX3_strengthAt 13 = .ok (.bipush 15, 2) := by decide +kernel
theorem dX3_strengthAt_15 : decode cX3_strengthAt 15 = .ok (.iand, 1) := by decide +kernel
theorem dX3_strengthAt_16 : decode cX3_strengthAt 16 = .ok (.ireturn, 1) := by decide +kernel
theorem dX3_isStruck_0 : decode cX3_isStruck 0 = .ok (.aload_n 0, 1) := by decide +kernel
theorem dX3_isStruck_1 : decode cX3_isStruck 1 = .ok (.getfield 25, 3) := by decide +kernel
theorem dX3_isStruck_4 : decode cX3_isStruck 4 = .ok (.iload_n 1, 1) := by decide +kernel
theorem dX3_isStruck_5 : decode cX3_isStruck 5 = .ok (.bipush 8, 2) := by decide +kernel
theorem dX3_isStruck_7 : decode cX3_isStruck 7 = .ok (.imul, 1) := by decide +kernel
theorem dX3_isStruck_8 : decode cX3_isStruck 8 = .ok (.iload_n 2, 1) := by decide +kernel
theorem dX3_isStruck_9 : decode cX3_isStruck 9 = .ok (.iadd, 1) := by decide +kernel
theorem dX3_isStruck_10 : decode cX3_isStruck 10 = .ok (.iaload, 1) := by decide +kernel
theorem dX3_isStruck_11 : decode cX3_isStruck 11 = .ok (.iconst 1, 1) := by decide +kernel
theorem dX3_isStruck_12 : decode cX3_isStruck 12 = .ok (.iand, 1) := by decide +kernel
theorem dX3_isStruck_13 : decode cX3_isStruck 13 = .ok (.ifCond .eq 7, 3) := by decide +kernel
theorem dX3_isStruck_16 : decode cX3_isStruck 16 = .ok (.iconst 1, 1) := by decide +kernel
theorem dX3_isStruck_17 : decode cX3_isStruck 17 = .ok (.goto 4, 3) := by decide +kernel
theorem dX3_isStruck_20 : decode cX3_isStruck 20 = .ok (.iconst 0, 1) := by decide +kernel
theorem dX3_isStruck_21 : decode cX3_isStruck 21 = .ok (.ireturn, 1) := by decide +kernel
theorem dX3_isReadable_0 : decode cX3_isReadable 0 = .ok (.aload_n 0, 1) := by decide +kernel
theorem dX3_isReadable_1 : decode cX3_isReadable 1 = .ok (.getfield 25, 3) := by decide +kernel
theorem dX3_isReadable_4 : decode cX3_isReadable 4 = .ok (.iload_n 1, 1) := by decide +kernel
theorem dX3_isReadable_5 : decode cX3_isReadable 5 = .ok (.bipush 8, 2) := by decide +kernel
theorem dX3_isReadable_7 : decode cX3_isReadable 7 = .ok (.imul, 1) := by decide +kernel
theorem dX3_isReadable_8 : decode cX3_isReadable 8 = .ok (.iload_n 2, 1) := by decide +kernel
theorem dX3_isReadable_9 : decode cX3_isReadable 9 = .ok (.iadd, 1) := by decide +kernel
theorem dX3_isReadable_10 : decode cX3_isReadable 10 = .ok (.iaload, 1) := by decide +kernel
theorem dX3_isReadable_11 : decode cX3_isReadable 11 = .ok (.istore 4, 2) := by decide +kernel
theorem dX3_isReadable_13 : decode cX3_isReadable 13 = .ok (.iload 4, 2) := by decide +kernel
theorem dX3_isReadable_15 : decode cX3_isReadable 15 = .ok (.iconst 1, 1) := by decide +kernel
theorem dX3_isReadable_16 : decode cX3_isReadable 16 = .ok (.iand, 1) := by decide +kernel
theorem dX3_isReadable_17 : decode cX3_isReadable 17 = .ok (.ifCond .ne 18, 3) := by decide +kernel
theorem dX3_isReadable_20 : decode cX3_isReadable 20 = .ok (.iload 4, 2) := by decide +kernel
theorem dX3_isReadable_22 : decode cX3_isReadable 22 = .ok (.iconst 1, 1) := by decide +kernel
theorem dX3_isReadable_23 : decode cX3_isReadable 23 = .ok (.ishr, 1) := by decide +kernel
theorem dX3_isReadable_24 : decode cX3_isReadable 24 = .ok (.bipush 15, 2) := by decide +kernel
theorem dX3_isReadable_26 : decode cX3_isReadable 26 = .ok (.iand, 1) := by decide +kernel
theorem dX3_isReadable_27 : decode cX3_isReadable 27 = .ok (.iload_n 3, 1) := by decide +kernel
theorem dX3_isReadable_28 : decode cX3_isReadable 28 = .ok (.if_icmp .lt 7, 3) := by decide +kernel
theorem dX3_isReadable_31 : decode cX3_isReadable 31 = .ok (.iconst 1, 1) := by decide +kernel
theorem dX3_isReadable_32 : decode cX3_isReadable 32 = .ok (.goto 4, 3) := by decide +kernel
theorem dX3_isReadable_35 : decode cX3_isReadable 35 = .ok (.iconst 0, 1) := by decide +kernel
theorem dX3_isReadable_36 : decode cX3_isReadable 36 = .ok (.ireturn, 1) := by decide +kernel
theorem dX3_strikeUpTo_0 : decode cX3_strikeUpTo 0 = .ok (.iconst 0, 1) := by decide +kernel
theorem dX3_strikeUpTo_1 : decode cX3_strikeUpTo 1 = .ok (.istore_n 3, 1) := by decide +kernel
theorem dX3_strikeUpTo_2 : decode cX3_strikeUpTo 2 = .ok (.iconst 0, 1) := by decide +kernel
theorem dX3_strikeUpTo_3 : decode cX3_strikeUpTo 3 = .ok (.istore 4, 2) := by decide +kernel
theorem dX3_strikeUpTo_5 : decode cX3_strikeUpTo 5 = .ok (.iload 4, 2) := by decide +kernel
theorem dX3_strikeUpTo_7 : decode cX3_strikeUpTo 7 = .ok (.aload_n 0, 1) := by decide +kernel
theorem dX3_strikeUpTo_8 : decode cX3_strikeUpTo 8 = .ok (.getfield 21, 3) := by decide +kernel
theorem dX3_strikeUpTo_11 : decode cX3_strikeUpTo 11 = .ok (.iload_n 1, 1) := by decide +kernel
theorem dX3_strikeUpTo_12 : decode cX3_strikeUpTo 12 = .ok (.iaload, 1) := by decide +kernel
theorem dX3_strikeUpTo_13 : decode cX3_strikeUpTo 13 = .ok (.if_icmp .ge 49, 3) := by decide +kernel
theorem dX3_strikeUpTo_16 : decode cX3_strikeUpTo 16 = .ok (.aload_n 0, 1) := by decide +kernel
theorem dX3_strikeUpTo_17 : decode cX3_strikeUpTo 17 = .ok (.iload_n 1, 1) := by decide +kernel
theorem dX3_strikeUpTo_18 : decode cX3_strikeUpTo 18 = .ok (.iload 4, 2) := by decide +kernel
theorem dX3_strikeUpTo_20 : decode cX3_strikeUpTo 20 = .ok (.invokevirtual 38, 3) := by decide +kernel
theorem dX3_strikeUpTo_23 : decode cX3_strikeUpTo 23 = .ok (.ifCond .ne 33, 3) := by decide +kernel
theorem dX3_strikeUpTo_26 : decode cX3_strikeUpTo 26 = .ok (.aload_n 0, 1) := by decide +kernel
theorem dX3_strikeUpTo_27 : decode cX3_strikeUpTo 27 = .ok (.iload_n 1, 1) := by decide +kernel
theorem dX3_strikeUpTo_28 : decode cX3_strikeUpTo 28 = .ok (.iload 4, 2) := by decide +kernel
theorem dX3_strikeUpTo_30 : decode cX3_strikeUpTo 30 = .ok (.invokevirtual 42, 3) := by decide +kernel
theorem dX3_strikeUpTo_33 : decode cX3_strikeUpTo 33 = .ok (.iload_n 2, 1) := by decide +kernel
theorem dX3_strikeUpTo_34 : decode cX3_strikeUpTo 34 = .ok (.if_icmp .gt 22, 3) := by decide +kernel
theorem dX3_strikeUpTo_37 : decode cX3_strikeUpTo 37 = .ok (.aload_n 0, 1) := by decide +kernel
theorem dX3_strikeUpTo_38 : decode cX3_strikeUpTo 38 = .ok (.getfield 25, 3) := by decide +kernel
theorem dX3_strikeUpTo_41 : decode cX3_strikeUpTo 41 = .ok (.iload_n 1, 1) := by decide +kernel
theorem dX3_strikeUpTo_42 : decode cX3_strikeUpTo 42 = .ok (.bipush 8, 2) := by decide +kernel
theorem dX3_strikeUpTo_44 : decode cX3_strikeUpTo 44 = .ok (.imul, 1) := by decide +kernel
theorem dX3_strikeUpTo_45 : decode cX3_strikeUpTo 45 = .ok (.iload 4, 2) := by decide +kernel
theorem dX3_strikeUpTo_47 : decode cX3_strikeUpTo 47 = .ok (.iadd, 1) := by decide +kernel
theorem dX3_strikeUpTo_48 : decode cX3_strikeUpTo 48 = .ok (.dup2, 1) := by decide +kernel
theorem dX3_strikeUpTo_49 : decode cX3_strikeUpTo 49 = .ok (.iaload, 1) := by decide +kernel
theorem dX3_strikeUpTo_50 : decode cX3_strikeUpTo 50 = .ok (.iconst 1, 1) := by decide +kernel
theorem dX3_strikeUpTo_51 : decode cX3_strikeUpTo 51 = .ok (.ior, 1) := by decide +kernel
theorem dX3_strikeUpTo_52 : decode cX3_strikeUpTo 52 = .ok (.iastore, 1) := by decide +kernel
theorem dX3_strikeUpTo_53 : decode cX3_strikeUpTo 53 = .ok (.iinc 3 1, 3) := by decide +kernel
theorem dX3_strikeUpTo_56 : decode cX3_strikeUpTo 56 = .ok (.iinc 4 1, 3) := by decide +kernel
theorem dX3_strikeUpTo_59 : decode cX3_strikeUpTo 59 = .ok (.goto (-54), 3) := by decide +kernel
theorem dX3_strikeUpTo_62 : decode cX3_strikeUpTo 62 = .ok (.iload_n 3, 1) := by decide +kernel
theorem dX3_strikeUpTo_63 : decode cX3_strikeUpTo 63 = .ok (.ireturn, 1) := by decide +kernel
theorem dX3_lastReadable_0 : decode cX3_lastReadable 0 = .ok (.aload_n 0, 1) := by decide +kernel
theorem dX3_lastReadable_1 : decode cX3_lastReadable 1 = .ok (.getfield 21, 3) := by decide +kernel
theorem dX3_lastReadable_4 : decode cX3_lastReadable 4 = .ok (.iload_n 1, 1) := by decide +kernel
theorem dX3_lastReadable_5 : decode cX3_lastReadable 5 = .ok (.iaload, 1) := by decide +kernel
theorem dX3_lastReadable_6 : decode cX3_lastReadable 6 = .ok (.iconst 1, 1) := by decide +kernel
theorem dX3_lastReadable_7 : decode cX3_lastReadable 7 = .ok (.isub, 1) := by decide +kernel
theorem dX3_lastReadable_8 : decode cX3_lastReadable 8 = .ok (.istore_n 3, 1) := by decide +kernel
theorem dX3_lastReadable_9 : decode cX3_lastReadable 9 = .ok (.iload_n 3, 1) := by decide +kernel
theorem dX3_lastReadable_10 : decode cX3_lastReadable 10 = .ok (.ifCond .lt 21, 3) := by decide +kernel
theorem dX3_lastReadable_13 : decode cX3_lastReadable 13 = .ok (.aload_n 0, 1) := by decide +kernel
theorem dX3_lastReadable_14 : decode cX3_lastReadable 14 = .ok (.iload_n 1, 1) := by decide +kernel
theorem dX3_lastReadable_15 : decode cX3_lastReadable 15 = .ok (.iload_n 3, 1) := by decide +kernel
theorem dX3_lastReadable_16 : decode cX3_lastReadable 16 = .ok (.iload_n 2, 1) := by decide +kernel
theorem dX3_lastReadable_17 : decode cX3_lastReadable 17 = .ok (.invokevirtual 46, 3) := by decide +kernel
theorem dX3_lastReadable_20 : decode cX3_lastReadable 20 = .ok (.ifCond .eq 5, 3) := by decide +kernel
theorem dX3_lastReadable_23 : decode cX3_lastReadable 23 = .ok (.iload_n 3, 1) := by decide +kernel
theorem dX3_lastReadable_24 : decode cX3_lastReadable 24 = .ok (.ireturn, 1) := by decide +kernel
theorem dX3_lastReadable_25 : decode cX3_lastReadable 25 = .ok (.iinc 3 (-1), 3) := by decide +kernel
theorem dX3_lastReadable_28 : decode cX3_lastReadable 28 = .ok (.goto (-19), 3) := by decide +kernel
theorem dX3_lastReadable_31 : decode cX3_lastReadable 31 = .ok (.bipush (-6), 2) := by decide +kernel
theorem dX3_lastReadable_33 : decode cX3_lastReadable 33 = .ok (.ireturn, 1) := by decide +kernel
theorem dX3_readableMarks_0 : decode cX3_readableMarks 0 = .ok (.iconst 0, 1) := by decide +kernel
theorem dX3_readableMarks_1 : decode cX3_readableMarks 1 = .ok (.istore_n 3, 1) := by decide +kernel
theorem dX3_readableMarks_2 : decode cX3_readableMarks 2 = .ok (.iconst 0, 1) := by decide +kernel
theorem dX3_readableMarks_3 : decode cX3_readableMarks 3 = .ok (.istore 4, 2) := by decide +kernel
theorem dX3_readableMarks_5 : decode cX3_readableMarks 5 = .ok (.iload 4, 2) := by decide +kernel
theorem dX3_readableMarks_7 : decode cX3_readableMarks 7 = .ok (.aload_n 0, 1) := by decide +kernel
theorem dX3_readableMarks_8 : decode cX3_readableMarks 8 = .ok (.getfield 21, 3) := by decide +kernel
theorem dX3_readableMarks_11 : decode cX3_readableMarks 11 = .ok (.iload_n 1, 1) := by decide +kernel
theorem dX3_readableMarks_12 : decode cX3_readableMarks 12 = .ok (.iaload, 1) := by decide +kernel
theorem dX3_readableMarks_13 : decode cX3_readableMarks 13 = .ok (.if_icmp .ge 23, 3) := by decide +kernel
theorem dX3_readableMarks_16 : decode cX3_readableMarks 16 = .ok (.aload_n 0, 1) := by decide +kernel
theorem dX3_readableMarks_17 : decode cX3_readableMarks 17 = .ok (.iload_n 1, 1) := by decide +kernel
theorem dX3_readableMarks_18 : decode cX3_readableMarks 18 = .ok (.iload 4, 2) := by decide +kernel
theorem dX3_readableMarks_20 : decode cX3_readableMarks 20 = .ok (.iload_n 2, 1) := by decide +kernel
theorem dX3_readableMarks_21 : decode cX3_readableMarks 21 = .ok (.invokevirtual 46, 3) := by decide +kernel
theorem dX3_readableMarks_24 : decode cX3_readableMarks 24 = .ok (.ifCond .eq 6, 3) := by decide +kernel
theorem dX3_readableMarks_27 : decode cX3_readableMarks 27 = .ok (.iinc 3 1, 3) := by decide +kernel
theorem dX3_readableMarks_30 : decode cX3_readableMarks 30 = .ok (.iinc 4 1, 3) := by decide +kernel
theorem dX3_readableMarks_33 : decode cX3_readableMarks 33 = .ok (.goto (-28), 3) := by decide +kernel
theorem dX3_readableMarks_36 : decode cX3_readableMarks 36 = .ok (.iload_n 3, 1) := by decide +kernel
theorem dX3_readableMarks_37 : decode cX3_readableMarks 37 = .ok (.ireturn, 1) := by decide +kernel
theorem dX3_strongestReadable_0 : decode cX3_strongestReadable 0 = .ok (.iconst 0, 1) := by decide +kernel
theorem dX3_strongestReadable_1 : decode cX3_strongestReadable 1 = .ok (.istore_n 3, 1) := by decide +kernel
theorem dX3_strongestReadable_2 : decode cX3_strongestReadable 2 = .ok (.iconst 0, 1) := by decide +kernel
theorem dX3_strongestReadable_3 : decode cX3_strongestReadable 3 = .ok (.istore 4, 2) := by decide +kernel
theorem dX3_strongestReadable_5 : decode cX3_strongestReadable 5 = .ok (.iload 4, 2) := by decide +kernel
theorem dX3_strongestReadable_7 : decode cX3_strongestReadable 7 = .ok (.aload_n 0, 1) := by decide +kernel
theorem dX3_strongestReadable_8 : decode cX3_strongestReadable 8 = .ok (.getfield 21, 3) := by decide +kernel
theorem dX3_strongestReadable_11 : decode cX3_strongestReadable 11 = .ok (.iload_n 1, 1) := by decide +kernel
theorem dX3_strongestReadable_12 : decode cX3_strongestReadable 12 = .ok (.iaload, 1) := by decide +kernel
theorem dX3_strongestReadable_13 : decode cX3_strongestReadable 13 = .ok (.if_icmp .ge 32, 3) := by decide +kernel
theorem dX3_strongestReadable_16 : decode cX3_strongestReadable 16 = .ok (.aload_n 0, 1) := by decide +kernel
theorem dX3_strongestReadable_17 : decode cX3_strongestReadable 17 = .ok (.iload_n 1, 1) := by decide +kernel
theorem dX3_strongestReadable_18 : decode cX3_strongestReadable 18 = .ok (.iload 4, 2) := by decide +kernel
theorem dX3_strongestReadable_20 : decode cX3_strongestReadable 20 = .ok (.iload_n 2, 1) := by decide +kernel
theorem dX3_strongestReadable_21 : decode cX3_strongestReadable 21 = .ok (.invokevirtual 46, 3) := by decide +kernel
theorem dX3_strongestReadable_24 : decode cX3_strongestReadable 24 = .ok (.ifCond .eq 15, 3) := by decide +kernel
theorem dX3_strongestReadable_27 : decode cX3_strongestReadable 27 = .ok (.iload_n 3, 1) := by decide +kernel
theorem dX3_strongestReadable_28 : decode cX3_strongestReadable 28 = .ok (.aload_n 0, 1) := by decide +kernel
theorem dX3_strongestReadable_29 : decode cX3_strongestReadable 29 = .ok (.iload_n 1, 1) := by decide +kernel
theorem dX3_strongestReadable_30 : decode cX3_strongestReadable 30 = .ok (.iload 4, 2) := by decide +kernel
theorem dX3_strongestReadable_32 : decode cX3_strongestReadable 32 = .ok (.invokevirtual 42, 3) := by decide +kernel
theorem dX3_strongestReadable_35 : decode cX3_strongestReadable 35 = .ok (.invokestatic 50, 3) := by decide +kernel
theorem dX3_strongestReadable_38 : decode cX3_strongestReadable 38 = .ok (.istore_n 3, 1) := by decide +kernel
theorem dX3_strongestReadable_39 : decode cX3_strongestReadable 39 = .ok (.iinc 4 1, 3) := by decide +kernel
theorem dX3_strongestReadable_42 : decode cX3_strongestReadable 42 = .ok (.goto (-37), 3) := by decide +kernel
theorem dX3_strongestReadable_45 : decode cX3_strongestReadable 45 = .ok (.iload_n 3, 1) := by decide +kernel
theorem dX3_strongestReadable_46 : decode cX3_strongestReadable 46 = .ok (.ireturn, 1) := by decide +kernel
theorem dX3_kindOf_0 : decode cX3_kindOf 0 = .ok (.aload_n 0, 1) := by decide +kernel
theorem dX3_kindOf_1 : decode cX3_kindOf 1 = .ok (.iload_n 1, 1) := by decide +kernel
theorem dX3_kindOf_2 : decode cX3_kindOf 2 = .ok (.iload_n 2, 1) := by decide +kernel
theorem dX3_kindOf_3 : decode cX3_kindOf 3 = .ok (.invokevirtual 55, 3) := by decide +kernel
theorem dX3_kindOf_6 : decode cX3_kindOf 6 = .ok (.istore 4, 2) := by decide +kernel
theorem dX3_kindOf_8 : decode cX3_kindOf 8 = .ok (.iload 4, 2) := by decide +kernel
theorem dX3_kindOf_10 : decode cX3_kindOf 10 = .ok (.ifCond .ge 5, 3) := by decide +kernel
theorem dX3_kindOf_13 : decode cX3_kindOf 13 = .ok (.iconst 0, 1) := by decide +kernel
theorem dX3_kindOf_14 : decode cX3_kindOf 14 = .ok (.ireturn, 1) := by decide +kernel
theorem dX3_kindOf_15 : decode cX3_kindOf 15 = .ok (.aload_n 0, 1) := by decide +kernel
theorem dX3_kindOf_16 : decode cX3_kindOf 16 = .ok (.iload_n 1, 1) := by decide +kernel
theorem dX3_kindOf_17 : decode cX3_kindOf 17 = .ok (.iload 4, 2) := by decide +kernel
theorem dX3_kindOf_19 : decode cX3_kindOf 19 = .ok (.invokevirtual 58, 3) := by decide +kernel
theorem dX3_kindOf_22 : decode cX3_kindOf 22 = .ok (.istore 5, 2) := by decide +kernel
end
section
theorem dX7_readOne_164 : decode cX7_readOne 164 = .ok (.aload_n 0, 1) := by decide +kernel
theorem dX7_readOne_165 : decode cX7_readOne 165 = .ok (.dup, 1) := by decide +kernel
theorem dX7_readOne_166 : decode cX7_readOne 166 = .ok (.getfield 180, 3) := by decide +kernel
theorem dX7_readOne_169 : decode cX7_readOne 169 = .ok (.iconst 1, 1) := by decide +kernel
theorem dX7_readOne_170 : decode cX7_readOne 170 = .ok (.iadd, 1) := by decide +kernel
theorem dX7_readOne_171 : decode cX7_readOne 171 = .ok (.putfield 180, 3) := by decide +kernel
theorem dX7_readOne_174 : decode cX7_readOne 174 = .ok (.return_, 1) := by decide +kernel
theorem dX7_faultOf_0 : decode cX7_faultOf 0 = .ok (.aload_n 0, 1) := by decide +kernel
theorem dX7_faultOf_1 : decode cX7_faultOf 1 = .ok (.iconst 0, 1) := by decide +kernel
theorem dX7_faultOf_2 : decode cX7_faultOf 2 = .ok (.putfield 168, 3) := by decide +kernel
theorem dX7_faultOf_5 : decode cX7_faultOf 5 = .ok (.aload_n 0, 1) := by decide +kernel
theorem dX7_faultOf_6 : decode cX7_faultOf 6 = .ok (.iconst 0, 1) := by decide +kernel
theorem dX7_faultOf_7 : decode cX7_faultOf 7 = .ok (.putfield 180, 3) := by decide +kernel
theorem dX7_faultOf_10 : decode cX7_faultOf 10 = .ok (.aload_n 0, 1) := by decide +kernel
theorem dX7_faultOf_11 : decode cX7_faultOf 11 = .ok (.iconst 0, 1) := by decide +kernel
theorem dX7_faultOf_12 : decode cX7_faultOf 12 = .ok (.putfield 174, 3) := by decide +kernel
theorem dX7_faultOf_15 : decode cX7_faultOf 15 = .ok (.aload_n 0, 1) := by decide +kernel
theorem dX7_faultOf_16 : decode cX7_faultOf 16 = .ok (.invokevirtual 189, 3) := by decide +kernel
theorem dX7_faultOf_19 : decode cX7_faultOf 19 = .ok (.aload_n 0, 1) := by decide +kernel
theorem dX7_faultOf_20 : decode cX7_faultOf 20 = .ok (.getfield 174, 3) := by decide +kernel
theorem dX7_faultOf_23 : decode cX7_faultOf 23 = .ok (.ifCond .ne 56, 3) := by decide +kernel
theorem dX7_faultOf_26 : decode cX7_faultOf 26 = .ok (.aload_n 0, 1) := by decide +kernel
theorem dX7_faultOf_27 : decode cX7_faultOf 27 = .ok (.getfield 168, 3) := by decide +kernel
theorem dX7_faultOf_30 : decode cX7_faultOf 30 = .ok (.aload_n 0, 1) := by decide +kernel
theorem dX7_faultOf_31 : decode cX7_faultOf 31 = .ok (.getfield 156, 3) := by decide +kernel
theorem dX7_faultOf_34 : decode cX7_faultOf 34 = .ok (.if_icmp .ge 45, 3) := by decide +kernel
theorem dX7_faultOf_37 : decode cX7_faultOf 37 = .ok (.aload_n 0, 1) := by decide +kernel
theorem dX7_faultOf_38 : decode cX7_faultOf 38 = .ok (.aload_n 0, 1) := by decide +kernel
theorem dX7_faultOf_39 : decode cX7_faultOf 39 = .ok (.invokevirtual 171, 3) := by decide +kernel
theorem dX7_faultOf_42 : decode cX7_faultOf 42 = .ok (.bipush 59, 2) := by decide +kernel
theorem dX7_faultOf_44 : decode cX7_faultOf 44 = .ok (.if_icmp .eq 7, 3) := by decide +kernel
theorem dX7_faultOf_47 : decode cX7_faultOf 47 = .ok (.iconst 1, 1) := by decide +kernel
theorem dX7_faultOf_48 : decode cX7_faultOf 48 = .ok (.goto 4, 3) := by decide +kernel
theorem dX7_faultOf_51 : decode cX7_faultOf 51 = .ok (.iconst 0, 1) := by decide +kernel
theorem dX7_faultOf_52 : decode cX7_faultOf 52 = .ok (.putfield 174, 3) := by decide +kernel
theorem dX7_faultOf_55 : decode cX7_faultOf 55 = .ok (.aload_n 0, 1) := by decide +kernel
theorem dX7_faultOf_56 : decode cX7_faultOf 56 = .ok (.getfield 174, 3) := by decide +kernel
theorem dX7_faultOf_59 : decode cX7_faultOf 59 = .ok (.ifCond .ne (-40), 3) := by decide +kernel
theorem dX7_faultOf_62 : decode cX7_faultOf 62 = .ok (.aload_n 0, 1) := by decide +kernel
theorem dX7_faultOf_63 : decode cX7_faultOf 63 = .ok (.dup, 1) := by decide +kernel
theorem dX7_faultOf_64 : decode cX7_faultOf 64 = .ok (.getfield 168, 3) := by decide +kernel
theorem dX7_faultOf_67 : decode cX7_faultOf 67 = .ok (.iconst 1, 1) := by decide +kernel
theorem dX7_faultOf_68 : decode cX7_faultOf 68 = .ok (.iadd, 1) := by decide +kernel
theorem dX7_faultOf_69 : decode cX7_faultOf 69 = .ok (.putfield 168, 3) := by decide +kernel
theorem dX7_faultOf_72 : decode cX7_faultOf 72 = .ok (.aload_n 0, 1) := by decide +kernel
theorem dX7_faultOf_73 : decode cX7_faultOf 73 = .ok (.invokevirtual 189, 3) := by decide +kernel
theorem dX7_faultOf_76 : decode cX7_faultOf 76 = .ok (.goto (-57), 3) := by decide +kernel
theorem dX7_faultOf_79 : decode cX7_faultOf 79 = .ok (.aload_n 0, 1) := by decide +kernel
theorem dX7_faultOf_80 : decode cX7_faultOf 80 = .ok (.getfield 174, 3) := by decide +kernel
theorem dX7_faultOf_83 : decode cX7_faultOf 83 = .ok (.ifCond .eq 10, 3) := by decide +kernel
theorem dX7_faultOf_86 : decode cX7_faultOf 86 = .ok (.aload_n 0, 1) := by decide +kernel
theorem dX7_faultOf_87 : decode cX7_faultOf 87 = .ok (.getfield 168, 3) := by decide +kernel
theorem dX7_faultOf_90 : decode cX7_faultOf 90 = .ok (.goto 5, 3) := by decide +kernel
theorem dX7_faultOf_93 : decode cX7_faultOf 93 = .ok (.bipush (-6), 2) := by decide +kernel
theorem dX7_faultOf_95 : decode cX7_faultOf 95 = .ok (.ireturn, 1) := by decide +kernel
theorem dX7_put_0 : decode cX7_put 0 = .ok (.iconst 0, 1) := by decide +kernel
theorem dX7_put_1 : decode cX7_put 1 = .ok (.istore_n 3, 1) := by decide +kernel
theorem dX7_put_2 : decode cX7_put 2 = .ok (.lload_n 1, 1) := by decide +kernel
theorem dX7_put_3 : decode cX7_put 3 = .ok (.lstore 4, 2) := by decide +kernel
theorem dX7_put_5 : decode cX7_put 5 = .ok (.lload 4, 2) := by decide +kernel
theorem dX7_put_7 : decode cX7_put 7 = .ok (.ldc2_w 192, 3) := by decide +kernel
theorem dX7_put_10 : decode cX7_put 10 = .ok (.land, 1) := by decide +kernel
theorem dX7_put_11 : decode cX7_put 11 = .ok (.lconst 0, 1) := by decide +kernel
theorem dX7_put_12 : decode cX7_put 12 = .ok (.lcmp, 1) := by decide +kernel
theorem dX7_put_13 : decode cX7_put 13 = .ok (.ifCond .eq 36, 3) := by decide +kernel
theorem dX7_put_16 : decode cX7_put 16 = .ok (.lload 4, 2) := by decide +kernel
theorem dX7_put_18 : decode cX7_put 18 = .ok (.ldc2_w 192, 3) := by decide +kernel
theorem dX7_put_21 : decode cX7_put 21 = .ok (.land, 1) := by decide +kernel
theorem dX7_put_22 : decode cX7_put 22 = .ok (.l2i, 1) := by decide +kernel
theorem dX7_put_23 : decode cX7_put 23 = .ok (.bipush 33, 2) := by decide +kernel
theorem dX7_put_25 : decode cX7_put 25 = .ok (.bipush 126, 2) := by decide +kernel
theorem dX7_put_27 : decode cX7_put 27 = .ok (.invokestatic 43, 3) := by decide +kernel
theorem dX7_put_30 : decode cX7_put 30 = .ok (.ifCond .ne 6, 3) := by decide +kernel
theorem dX7_put_33 : decode cX7_put 33 = .ok (.bipush (-2), 2) := by decide +kernel
theorem dX7_put_35 : decode cX7_put 35 = .ok (.ireturn, 1) := by decide +kernel
theorem dX7_put_36 : decode cX7_put 36 = .ok (.iinc 3 1, 3) := by decide +kernel
theorem dX7_put_39 : decode cX7_put 39 = .ok (.lload 4, 2) := by decide +kernel
theorem dX7_put_41 : decode cX7_put 41 = .ok (.bipush 8, 2) := by decide +kernel
theorem dX7_put_43 : decode cX7_put 43 = .ok (.lushr, 1) := by decide +kernel
theorem dX7_put_44 : decode cX7_put 44 = .ok (.lstore 4, 2) := by decide +kernel
theorem dX7_put_46 : decode cX7_put 46 = .ok (.goto (-41), 3) := by decide +kernel
theorem dX7_put_49 : decode cX7_put 49 = .ok (.lload 4, 2) := by decide +kernel
theorem dX7_put_51 : decode cX7_put 51 = .ok (.lconst 0, 1) := by decide +kernel
theorem dX7_put_52 : decode cX7_put 52 = .ok (.lcmp, 1) := by decide +kernel
theorem dX7_put_53 : decode cX7_put 53 = .ok (.ifCond .ne 7, 3) := by decide +kernel
theorem dX7_put_56 : decode cX7_put 56 = .ok (.iload_n 3, 1) := by decide +kernel
theorem dX7_put_57 : decode cX7_put 57 = .ok (.ifCond .ne 6, 3) := by decide +kernel
theorem dX7_put_60 : decode cX7_put 60 = .ok (.bipush (-2), 2) := by decide +kernel
theorem dX7_put_62 : decode cX7_put 62 = .ok (.ireturn, 1) := by decide +kernel
theorem dX7_put_63 : decode cX7_put 63 = .ok (.aload_n 0, 1) := by decide +kernel
theorem dX7_put_64 : decode cX7_put 64 = .ok (.getfield 156, 3) := by decide +kernel
theorem dX7_put_67 : decode cX7_put 67 = .ok (.iload_n 3, 1) := by decide +kernel
theorem dX7_put_68 : decode cX7_put 68 = .ok (.iadd, 1) := by decide +kernel
theorem dX7_put_69 : decode cX7_put 69 = .ok (.bipush 80, 2) := by decide +kernel
theorem dX7_put_71 : decode cX7_put 71 = .ok (.if_icmp .le 6, 3) := by decide +kernel
theorem dX7_put_74 : decode cX7_put 74 = .ok (.bipush (-4), 2) := by decide +kernel
theorem dX7_put_76 : decode cX7_put 76 = .ok (.ireturn, 1) := by decide +kernel
theorem dX7_put_77 : decode cX7_put 77 = .ok (.lload_n 1, 1) := by decide +kernel
theorem dX7_put_78 : decode cX7_put 78 = .ok (.lstore 4, 2) := by decide +kernel
theorem dX7_put_80 : decode cX7_put 80 = .ok (.iload_n 3, 1) := by decide +kernel
theorem dX7_put_81 : decode cX7_put 81 = .ok (.iconst 1, 1) := by decide +kernel
theorem dX7_put_82 : decode cX7_put 82 = .ok (.isub, 1) := by decide +kernel
theorem dX7_put_83 : decode cX7_put 83 = .ok (.istore 6, 2) := by decide +kernel
theorem dX7_put_85 : decode cX7_put 85 = .ok (.iload 6, 2) := by decide +kernel
theorem dX7_put_87 : decode cX7_put 87 = .ok (.ifCond .lt 35, 3) := by decide +kernel
theorem dX7_put_90 : decode cX7_put 90 = .ok (.aload_n 0, 1) := by decide +kernel
theorem dX7_put_91 : decode cX7_put 91 = .ok (.getfield 26, 3) := by decide +kernel
theorem dX7_put_94 : decode cX7_put 94 = .ok (.aload_n 0, 1) := by decide +kernel
theorem dX7_put_95 : decode cX7_put 95 = .ok (.getfield 156, 3) := by decide +kernel
theorem dX7_put_98 : decode cX7_put 98 = .ok (.iload 6, 2) := by decide +kernel
theorem dX7_put_100 : decode cX7_put 100 = .ok (.iadd, 1) := by decide +kernel
theorem dX7_put_101 : decode cX7_put 101 = .ok (.lload 4, 2) := by decide +kernel
theorem dX7_put_103 : decode cX7_put 103 = .ok (.ldc2_w 192, 3) := by decide +kernel
theorem dX7_put_106 : decode cX7_put 106 = .ok (.land, 1) := by decide +kernel
theorem dX7_put_107 : decode cX7_put 107 = .ok (.l2i, 1) := by decide +kernel
theorem dX7_put_108 : decode cX7_put 108 = .ok (.iastore, 1) := by decide +kernel
theorem dX7_put_109 : decode cX7_put 109 = .ok (.lload 4, 2) := by decide +kernel
theorem dX7_put_111 : decode cX7_put 111 = .ok (.bipush 8, 2) := by decide +kernel
theorem dX7_put_113 : decode cX7_put 113 = .ok (.lushr, 1) := by decide +kernel
theorem dX7_put_114 : decode cX7_put 114 = .ok (.lstore 4, 2) := by decide +kernel
theorem dX7_put_116 : decode cX7_put 116 = .ok (.iinc 6 (-1), 3) := by decide +kernel
theorem dX7_put_119 : decode cX7_put 119 = .ok (.goto (-34), 3) := by decide +kernel
theorem dX7_put_122 : decode cX7_put 122 = .ok (.aload_n 0, 1) := by decide +kernel
theorem dX7_put_123 : decode cX7_put 123 = .ok (.dup, 1) := by decide +kernel
theorem dX7_put_124 : decode cX7_put 124 = .ok (.getfield 156, 3) := by decide +kernel
theorem dX7_put_127 : decode cX7_put 127 = .ok (.iload_n 3, 1) := by decide +kernel
theorem dX7_put_128 : decode cX7_put 128 = .ok (.iadd, 1) := by decide +kernel
theorem dX7_put_129 : decode cX7_put 129 = .ok (.putfield 156, 3) := by decide +kernel
theorem dX7_put_132 : decode cX7_put 132 = .ok (.aload_n 0, 1) := by decide +kernel
theorem dX7_put_133 : decode cX7_put 133 = .ok (.getfield 156, 3) := by decide +kernel
theorem dX7_put_136 : decode cX7_put 136 = .ok (.ireturn, 1) := by decide +kernel
theorem dX7_wipe_0 : decode cX7_wipe 0 = .ok (.aload_n 0, 1) := by decide +kernel
theorem dX7_wipe_1 : decode cX7_wipe 1 = .ok (.getfield 156, 3) := by decide +kernel
theorem dX7_wipe_4 : decode cX7_wipe 4 = .ok (.istore_n 1, 1) := by decide +kernel
theorem dX7_wipe_5 : decode cX7_wipe 5 = .ok (.aload_n 0, 1) := by decide +kernel
theorem dX7_wipe_6 : decode cX7_wipe 6 = .ok (.iconst 0, 1) := by decide +kernel
theorem dX7_wipe_7 : decode cX7_wipe 7 = .ok (.putfield 156, 3) := by decide +kernel
theorem dX7_wipe_10 : decode cX7_wipe 10 = .ok (.iload_n 1, 1) := by decide +kernel
theorem dX7_wipe_11 : decode cX7_wipe 11 = .ok (.ireturn, 1) := by decide +kernel
theorem dX7_fault_0 : decode cX7_fault 0 = .ok (.aload_n 0, 1) := by decide +kernel
theorem dX7_fault_1 : decode cX7_fault 1 = .ok (.invokevirtual 194, 3) := by decide +kernel
theorem dX7_fault_4 : decode cX7_fault 4 = .ok (.ireturn, 1) := by decide +kernel
theorem dX7_carry_0 : decode cX7_carry 0 = .ok (.aload_n 0, 1) := by decide +kernel
theorem dX7_carry_1 : decode cX7_carry 1 = .ok (.getfield 32, 3) := by decide +kernel
theorem dX7_carry_4 : decode cX7_carry 4 = .ok (.iload_n 1, 1) := by decide +kernel
theorem dX7_carry_5 : decode cX7_carry 5 = .ok (.iaload, 1) := by decide +kernel
theorem dX7_carry_6 : decode cX7_carry 6 = .ok (.lookupswitch 76 #[(115, 55), (119, 26)], 26) := by decide +kernel
theorem dX7_carry_32 : decode cX7_carry 32 = .ok (.aload_n 0, 1) := by decide +kernel
theorem dX7_carry_33 : decode cX7_carry 33 = .ok (.aload_n 0, 1) := by decide +kernel
theorem dX7_carry_34 : decode cX7_carry 34 = .ok (.getfield 32, 3) := by decide +kernel
theorem dX7_carry_37 : decode cX7_carry 37 = .ok (.iload_n 1, 1) := by decide +kernel
theorem dX7_carry_38 : decode cX7_carry 38 = .ok (.iconst 1, 1) := by decide +kernel
theorem dX7_carry_39 : decode cX7_carry 39 = .ok (.iadd, 1) := by decide +kernel
theorem dX7_carry_40 : decode cX7_carry 40 = .ok (.iaload, 1) := by decide +kernel
theorem dX7_carry_41 : decode cX7_carry 41 = .ok (.aload_n 0, 1) := by decide +kernel
theorem dX7_carry_42 : decode cX7_carry 42 = .ok (.getfield 32, 3) := by decide +kernel
theorem dX7_carry_45 : decode cX7_carry 45 = .ok (.iload_n 1, 1) := by decide +kernel
theorem dX7_carry_46 : decode cX7_carry 46 = .ok (.iconst 2, 1) := by decide +kernel
theorem dX7_carry_47 : decode cX7_carry 47 = .ok (.iadd, 1) := by decide +kernel
theorem dX7_carry_48 : decode cX7_carry 48 = .ok (.iaload, 1) := by decide +kernel
theorem dX7_carry_49 : decode cX7_carry 49 = .ok (.aload_n 0, 1) := by decide +kernel
theorem dX7_carry_50 : decode cX7_carry 50 = .ok (.getfield 32, 3) := by decide +kernel
theorem dX7_carry_53 : decode cX7_carry 53 = .ok (.iload_n 1, 1) := by decide +kernel
theorem dX7_carry_54 : decode cX7_carry 54 = .ok (.iconst 3, 1) := by decide +kernel
theorem dX7_carry_55 : decode cX7_carry 55 = .ok (.iadd, 1) := by decide +kernel
theorem dX7_carry_56 : decode cX7_carry 56 = .ok (.iaload, 1) := by decide +kernel
theorem dX7_carry_57 : decode cX7_carry 57 = .ok (.invokevirtual 197, 3) := by decide +kernel
theorem dX7_carry_60 : decode cX7_carry 60 = .ok (.ireturn, 1) := by decide +kernel
theorem dX7_carry_61 : decode cX7_carry 61 = .ok (.aload_n 0, 1) := by decide +kernel
theorem dX7_carry_62 : decode cX7_carry 62 = .ok (.aload_n 0, 1) := by decide +kernel
theorem dX7_carry_63 : decode cX7_carry 63 = .ok (.getfield 32, 3) := by decide +kernel
theorem dX7_carry_66 : decode cX7_carry 66 = .ok (.iload_n 1, 1) := by decide +kernel
theorem dX7_carry_67 : decode cX7_carry 67 = .ok (.iconst 1, 1) := by decide +kernel
theorem dX7_carry_68 : decode cX7_carry 68 = .ok (.iadd, 1) := by decide +kernel
theorem dX7_carry_69 : decode cX7_carry 69 = .ok (.iaload, 1) := by decide +kernel
theorem dX7_carry_70 : decode cX7_carry 70 = .ok (.aload_n 0, 1) := by decide +kernel
theorem dX7_carry_71 : decode cX7_carry 71 = .ok (.getfield 32, 3) := by decide +kernel
theorem dX7_carry_74 : decode cX7_carry 74 = .ok (.iload_n 1, 1) := by decide +kernel
theorem dX7_carry_75 : decode cX7_carry 75 = .ok (.iconst 3, 1) := by decide +kernel
theorem dX7_carry_76 : decode cX7_carry 76 = .ok (.iadd, 1) := by decide +kernel
theorem dX7_carry_77 : decode cX7_carry 77 = .ok (.iaload, 1) := by decide +kernel
theorem dX7_carry_78 : decode cX7_carry 78 = .ok (.invokevirtual 200, 3) := by decide +kernel
theorem dX7_carry_81 : decode cX7_carry 81 = .ok (.ireturn, 1) := by decide +kernel
theorem dX7_carry_82 : decode cX7_carry 82 = .ok (.aload_n 0, 1) := by decide +kernel
theorem dX7_carry_83 : decode cX7_carry 83 = .ok (.aload_n 0, 1) := by decide +kernel
theorem dX7_carry_84 : decode cX7_carry 84 = .ok (.getfield 32, 3) := by decide +kernel
theorem dX7_carry_87 : decode cX7_carry 87 = .ok (.iload_n 1, 1) := by decide +kernel
theorem dX7_carry_88 : decode cX7_carry 88 = .ok (.iaload, 1) := by decide +kernel
theorem dX7_carry_89 : decode cX7_carry 89 = .ok (.bipush 116, 2) := by decide +kernel
theorem dX7_carry_91 : decode cX7_carry 91 = .ok (.if_icmp .ne 7, 3) := by decide +kernel
theorem dX7_carry_94 : decode cX7_carry 94 = .ok (.iconst 0, 1) := by decide +kernel
theorem dX7_carry_95 : decode cX7_carry 95 = .ok (.goto 4, 3) := by decide +kernel
theorem dX7_carry_98 : decode cX7_carry 98 = .ok (.iconst 1, 1) := by decide +kernel
theorem dX7_carry_99 : decode cX7_carry 99 = .ok (.invokevirtual 203, 3) := by decide +kernel
theorem dX7_carry_102 : decode cX7_carry 102 = .ok (.ireturn, 1) := by decide +kernel
theorem dX7_carryOut_0 : decode cX7_carryOut 0 = .ok (.aload_n 0, 1) := by decide +kernel
theorem dX7_carryOut_1 : decode cX7_carryOut 1 = .ok (.invokevirtual 194, 3) := by decide +kernel
theorem dX7_carryOut_4 : decode cX7_carryOut 4 = .ok (.bipush (-6), 2) := by decide +kernel
theorem dX7_carryOut_6 : decode cX7_carryOut 6 = .ok (.if_icmp .eq 6, 3) := by decide +kernel
theorem dX7_carryOut_9 : decode cX7_carryOut 9 = .ok (.bipush (-3), 2) := by decide +kernel
theorem dX7_carryOut_11 : decode cX7_carryOut 11 = .ok (.ireturn, 1) := by decide +kernel
theorem dX7_carryOut_12 : decode cX7_carryOut 12 = .ok (.aload_n 0, 1) := by decide +kernel
theorem dX7_carryOut_13 : decode cX7_carryOut 13 = .ok (.invokevirtual 47, 3) := by decide +kernel
theorem dX7_carryOut_16 : decode cX7_carryOut 16 = .ok (.aload_n 0, 1) := by decide +kernel
theorem dX7_carryOut_17 : decode cX7_carryOut 17 = .ok (.iconst 1, 1) := by decide +kernel
theorem dX7_carryOut_18 : decode cX7_carryOut 18 = .ok (.putfield 35, 3) := by decide +kernel
theorem dX7_carryOut_21 : decode cX7_carryOut 21 = .ok (.iconst 0, 1) := by decide +kernel
theorem dX7_carryOut_22 : decode cX7_carryOut 22 = .ok (.istore_n 1, 1) := by decide +kernel
theorem dX7_carryOut_23 : decode cX7_carryOut 23 = .ok (.iload_n 1, 1) := by decide +kernel
theorem dX7_carryOut_24 : decode cX7_carryOut 24 = .ok (.aload_n 0, 1) := by decide +kernel
theorem dX7_carryOut_25 : decode cX7_carryOut 25 = .ok (.getfield 180, 3) := by decide +kernel
theorem dX7_carryOut_28 : decode cX7_carryOut 28 = .ok (.if_icmp .ge 19, 3) := by decide +kernel
theorem dX7_carryOut_31 : decode cX7_carryOut 31 = .ok (.aload_n 0, 1) := by decide +kernel
theorem dX7_carryOut_32 : decode cX7_carryOut 32 = .ok (.iconst 4, 1) := by decide +kernel
theorem dX7_carryOut_33 : decode cX7_carryOut 33 = .ok (.iload_n 1, 1) := by decide +kernel
theorem dX7_carryOut_34 : decode cX7_carryOut 34 = .ok (.imul, 1) := by decide +kernel
theorem dX7_carryOut_35 : decode cX7_carryOut 35 = .ok (.invokevirtual 206, 3) := by decide +kernel
theorem dX7_carryOut_38 : decode cX7_carryOut 38 = .ok (.ifCond .lt 9, 3) := by decide +kernel
theorem dX7_carryOut_41 : decode cX7_carryOut 41 = .ok (.iinc 1 1, 3) := by decide +kernel
theorem dX7_carryOut_44 : decode cX7_carryOut 44 = .ok (.goto (-21), 3) := by decide +kernel
theorem dX7_carryOut_47 : decode cX7_carryOut 47 = .ok (.aload_n 0, 1) := by decide +kernel
theorem dX7_carryOut_48 : decode cX7_carryOut 48 = .ok (.iconst 0, 1) := by decide +kernel
theorem dX7_carryOut_49 : decode cX7_carryOut 49 = .ok (.putfield 35, 3) := by decide +kernel
theorem dX7_carryOut_52 : decode cX7_carryOut 52 = .ok (.aload_n 0, 1) := by decide +kernel
theorem dX7_carryOut_53 : decode cX7_carryOut 53 = .ok (.iconst 0, 1) := by decide +kernel
theorem dX7_carryOut_54 : decode cX7_carryOut 54 = .ok (.putfield 156, 3) := by decide +kernel
theorem dX7_carryOut_57 : decode cX7_carryOut 57 = .ok (.iload_n 1, 1) := by decide +kernel
theorem dX7_carryOut_58 : decode cX7_carryOut 58 = .ok (.ireturn, 1) := by decide +kernel
theorem dX7_undo_0 : decode cX7_undo 0 = .ok (.aload_n 0, 1) := by decide +kernel
theorem dX7_undo_1 : decode cX7_undo 1 = .ok (.getfield 39, 3) := by decide +kernel
theorem dX7_undo_4 : decode cX7_undo 4 = .ok (.ifCond .ne 6, 3) := by decide +kernel
theorem dX7_undo_7 : decode cX7_undo 7 = .ok (.bipush (-5), 2) := by decide +kernel
theorem dX7_undo_9 : decode cX7_undo 9 = .ok (.ireturn, 1) := by decide +kernel
theorem dX7_undo_10 : decode cX7_undo 10 = .ok (.aload_n 0, 1) := by decide +kernel
theorem dX7_undo_11 : decode cX7_undo 11 = .ok (.dup, 1) := by decide +kernel
theorem dX7_undo_12 : decode cX7_undo 12 = .ok (.getfield 39, 3) := by decide +kernel
theorem dX7_undo_15 : decode cX7_undo 15 = .ok (.iconst 1, 1) := by decide +kernel
theorem dX7_undo_16 : decode cX7_undo 16 = .ok (.isub, 1) := by decide +kernel
theorem dX7_undo_17 : decode cX7_undo 17 = .ok (.putfield 39, 3) := by decide +kernel
theorem dX7_undo_20 : decode cX7_undo 20 = .ok (.iconst 0, 1) := by decide +kernel
theorem dX7_undo_21 : decode cX7_undo 21 = .ok (.istore_n 1, 1) := by decide +kernel
theorem dX7_undo_22 : decode cX7_undo 22 = .ok (.iload_n 1, 1) := by decide +kernel
theorem dX7_undo_23 : decode cX7_undo 23 = .ok (.sipush 470, 3) := by decide +kernel
theorem dX7_undo_26 : decode cX7_undo 26 = .ok (.if_icmp .ge 30, 3) := by decide +kernel
theorem dX7_undo_29 : decode cX7_undo 29 = .ok (.aload_n 0, 1) := by decide +kernel
theorem dX7_undo_30 : decode cX7_undo 30 = .ok (.getfield 7, 3) := by decide +kernel
theorem dX7_undo_33 : decode cX7_undo 33 = .ok (.iload_n 1, 1) := by decide +kernel
theorem dX7_undo_34 : decode cX7_undo 34 = .ok (.aload_n 0, 1) := by decide +kernel
theorem dX7_undo_35 : decode cX7_undo 35 = .ok (.getfield 16, 3) := by decide +kernel
theorem dX7_undo_38 : decode cX7_undo 38 = .ok (.aload_n 0, 1) := by decide +kernel
theorem dX7_undo_39 : decode cX7_undo 39 = .ok (.getfield 39, 3) := by decide +kernel
theorem dX7_undo_42 : decode cX7_undo 42 = .ok (.sipush 470, 3) := by decide +kernel
theorem dX7_undo_45 : decode cX7_undo 45 = .ok (.imul, 1) := by decide +kernel
theorem dX7_undo_46 : decode cX7_undo 46 = .ok (.iload_n 1, 1) := by decide +kernel
theorem dX7_undo_47 : decode cX7_undo 47 = .ok (.iadd, 1) := by decide +kernel
theorem dX7_undo_48 : decode cX7_undo 48 = .ok (.iaload, 1) := by decide +kernel
theorem dX7_undo_49 : decode cX7_undo 49 = .ok (.iastore, 1) := by decide +kernel
theorem dX7_undo_50 : decode cX7_undo 50 = .ok (.iinc 1 1, 3) := by decide +kernel
theorem dX7_undo_53 : decode cX7_undo 53 = .ok (.goto (-31), 3) := by decide +kernel
theorem dX7_undo_56 : decode cX7_undo 56 = .ok (.aload_n 0, 1) := by decide +kernel
theorem dX7_undo_57 : decode cX7_undo 57 = .ok (.getfield 39, 3) := by decide +kernel
theorem dX7_undo_60 : decode cX7_undo 60 = .ok (.ireturn, 1) := by decide +kernel
theorem dX7_save_0 : decode cX7_save 0 = .ok (.iload_n 1, 1) := by decide +kernel
theorem dX7_save_1 : decode cX7_save 1 = .ok (.iconst 0, 1) := by decide +kernel
theorem dX7_save_2 : decode cX7_save 2 = .ok (.iconst 1, 1) := by decide +kernel
theorem dX7_save_3 : decode cX7_save 3 = .ok (.invokestatic 43, 3) := by decide +kernel
theorem dX7_save_6 : decode cX7_save 6 = .ok (.ifCond .ne 6, 3) := by decide +kernel
theorem dX7_save_9 : decode cX7_save 9 = .ok (.bipush (-2), 2) := by decide +kernel
theorem dX7_save_11 : decode cX7_save 11 = .ok (.ireturn, 1) := by decide +kernel
theorem dX7_save_12 : decode cX7_save 12 = .ok (.iconst 0, 1) := by decide +kernel
theorem dX7_save_13 : decode cX7_save 13 = .ok (.istore_n 2, 1) := by decide +kernel
theorem dX7_save_14 : decode cX7_save 14 = .ok (.iload_n 2, 1) := by decide +kernel
theorem dX7_save_15 : decode cX7_save 15 = .ok (.sipush 470, 3) := by decide +kernel
theorem dX7_save_18 : decode cX7_save 18 = .ok (.if_icmp .ge 27, 3) := by decide +kernel
theorem dX7_save_21 : decode cX7_save 21 = .ok (.aload_n 0, 1) := by decide +kernel
theorem dX7_save_22 : decode cX7_save 22 = .ok (.getfield 19, 3) := by decide +kernel
theorem dX7_save_25 : decode cX7_save 25 = .ok (.iload_n 1, 1) := by decide +kernel
theorem dX7_save_26 : decode cX7_save 26 = .ok (.sipush 470, 3) := by decide +kernel
theorem dX7_save_29 : decode cX7_save 29 = .ok (.imul, 1) := by decide +kernel
theorem dX7_save_30 : decode cX7_save 30 = .ok (.iload_n 2, 1) := by decide +kernel
theorem dX7_save_31 : decode cX7_save 31 = .ok (.iadd, 1) := by decide +kernel
theorem dX7_save_32 : decode cX7_save 32 = .ok (.aload_n 0, 1) := by decide +kernel
theorem dX7_save_33 : decode cX7_save 33 = .ok (.getfield 7, 3) := by decide +kernel
theorem dX7_save_36 : decode cX7_save 36 = .ok (.iload_n 2, 1) := by decide +kernel
theorem dX7_save_37 : decode cX7_save 37 = .ok (.iaload, 1) := by decide +kernel
theorem dX7_save_38 : decode cX7_save 38 = .ok (.iastore, 1) := by decide +kernel
theorem dX7_save_39 : decode cX7_save 39 = .ok (.iinc 2 1, 3) := by decide +kernel
theorem dX7_save_42 : decode cX7_save 42 = .ok (.goto (-28), 3) := by decide +kernel
theorem dX7_save_45 : decode cX7_save 45 = .ok (.aload_n 0, 1) := by decide +kernel
theorem dX7_save_46 : decode cX7_save 46 = .ok (.getfield 22, 3) := by decide +kernel
theorem dX7_save_49 : decode cX7_save 49 = .ok (.iload_n 1, 1) := by decide +kernel
theorem dX7_save_50 : decode cX7_save 50 = .ok (.iconst 1, 1) := by decide +kernel
theorem dX7_save_51 : decode cX7_save 51 = .ok (.bastore, 1) := by decide +kernel
theorem dX7_save_52 : decode cX7_save 52 = .ok (.aload_n 0, 1) := by decide +kernel
theorem dX7_save_53 : decode cX7_save 53 = .ok (.invokevirtual 148, 3) := by decide +kernel
theorem dX7_save_56 : decode cX7_save 56 = .ok (.ireturn, 1) := by decide +kernel
theorem dX7_restore_0 : decode cX7_restore 0 = .ok (.iload_n 1, 1) := by decide +kernel
theorem dX7_restore_1 : decode cX7_restore 1 = .ok (.iconst 0, 1) := by decide +kernel
theorem dX7_restore_2 : decode cX7_restore 2 = .ok (.iconst 1, 1) := by decide +kernel
theorem dX7_restore_3 : decode cX7_restore 3 = .ok (.invokestatic 43, 3) := by decide +kernel
theorem dX7_restore_6 : decode cX7_restore 6 = .ok (.ifCond .ne 6, 3) := by decide +kernel
theorem dX7_restore_9 : decode cX7_restore 9 = .ok (.bipush (-2), 2) := by decide +kernel
theorem dX7_restore_11 : decode cX7_restore 11 = .ok (.ireturn, 1) := by decide +kernel
theorem dX7_restore_12 : decode cX7_restore 12 = .ok (.aload_n 0, 1) := by decide +kernel
theorem dX7_restore_13 : decode cX7_restore 13 = .ok (.getfield 22, 3) := by decide +kernel
theorem dX7_restore_16 : decode cX7_restore 16 = .ok (.iload_n 1, 1) := by decide +kernel
theorem dX7_restore_17 : decode cX7_restore 17 = .ok (.baload, 1) := by decide +kernel
theorem dX7_restore_18 : decode cX7_restore 18 = .ok (.ifCond .ne 6, 3) := by decide +kernel
theorem dX7_restore_21 : decode cX7_restore 21 = .ok (.bipush (-5), 2) := by decide +kernel
theorem dX7_restore_23 : decode cX7_restore 23 = .ok (.ireturn, 1) := by decide +kernel
theorem dX7_restore_24 : decode cX7_restore 24 = .ok (.aload_n 0, 1) := by decide +kernel
theorem dX7_restore_25 : decode cX7_restore 25 = .ok (.invokevirtual 47, 3) := by decide +kernel
theorem dX7_restore_28 : decode cX7_restore 28 = .ok (.iconst 0, 1) := by decide +kernel
theorem dX7_restore_29 : decode cX7_restore 29 = .ok (.istore_n 2, 1) := by decide +kernel
theorem dX7_restore_30 : decode cX7_restore 30 = .ok (.iload_n 2, 1) := by decide +kernel
theorem dX7_restore_31 : decode cX7_restore 31 = .ok (.sipush 470, 3) := by decide +kernel
theorem dX7_restore_34 : decode cX7_restore 34 = .ok (.if_icmp .ge 27, 3) := by decide +kernel
theorem dX7_restore_37 : decode cX7_restore 37 = .ok (.aload_n 0, 1) := by decide +kernel
theorem dX7_restore_38 : decode cX7_restore 38 = .ok (.getfield 7, 3) := by decide +kernel
theorem dX7_restore_41 : decode cX7_restore 41 = .ok (.iload_n 2, 1) := by decide +kernel
theorem dX7_restore_42 : decode cX7_restore 42 = .ok (.aload_n 0, 1) := by decide +kernel
theorem dX7_restore_43 : decode cX7_restore 43 = .ok (.getfield 19, 3) := by decide +kernel
theorem dX7_restore_46 : decode cX7_restore 46 = .ok (.iload_n 1, 1) := by decide +kernel
theorem dX7_restore_47 : decode cX7_restore 47 = .ok (.sipush 470, 3) := by decide +kernel
theorem dX7_restore_50 : decode cX7_restore 50 = .ok (.imul, 1) := by decide +kernel
theorem dX7_restore_51 : decode cX7_restore 51 = .ok (.iload_n 2, 1) := by decide +kernel
theorem dX7_restore_52 : decode cX7_restore 52 = .ok (.iadd, 1) := by decide +kernel
theorem dX7_restore_53 : decode cX7_restore 53 = .ok (.iaload, 1) := by decide +kernel
theorem dX7_restore_54 : decode cX7_restore 54 = .ok (.iastore, 1) := by decide +kernel
theorem dX7_restore_55 : decode cX7_restore 55 = .ok (.iinc 2 1, 3) := by decide +kernel
theorem dX7_restore_58 : decode cX7_restore 58 = .ok (.goto (-28), 3) := by decide +kernel
theorem dX7_restore_61 : decode cX7_restore 61 = .ok (.aload_n 0, 1) := by decide +kernel
theorem dX7_restore_62 : decode cX7_restore 62 = .ok (.invokevirtual 148, 3) := by decide +kernel
theorem dX7_restore_65 : decode cX7_restore 65 = .ok (.ireturn, 1) := by decide +kernel
end
section
theorem dL_law_0 : decode cL_law 0 = .ok (.new 7, 3) := by decide +kernel
theorem dL_law_3 : decode cL_law 3 = .ok (.dup, 1) := by decide +kernel
theorem dL_law_4 : decode cL_law 4 = .ok (.invokespecial 9, 3) := by decide +kernel
theorem dL_law_7 : decode cL_law 7 = .ok (.astore_n 1, 1) := by decide +kernel
theorem dL_law_8 : decode cL_law 8 = .ok (.new 10, 3) := by decide +kernel
theorem dL_law_11 : decode cL_law 11 = .ok (.dup, 1) := by decide +kernel
theorem dL_law_12 : decode cL_law 12 = .ok (.invokespecial 12, 3) := by decide +kernel
theorem dL_law_15 : decode cL_law 15 = .ok (.astore_n 2, 1) := by decide +kernel
theorem dL_law_16 : decode cL_law 16 = .ok (.iconst 0, 1) := by decide +kernel
theorem dL_law_17 : decode cL_law 17 = .ok (.istore_n 3, 1) := by decide +kernel
theorem dL_law_18 : decode cL_law 18 = .ok (.iload_n 3, 1) := by decide +kernel
theorem dL_law_19 : decode cL_law 19 = .ok (.aload_n 0, 1) := by decide +kernel
theorem dL_law_20 : decode cL_law 20 = .ok (.arraylength, 1) := by decide +kernel
theorem dL_law_21 : decode cL_law 21 = .ok (.iconst 5, 1) := by decide +kernel
theorem dL_law_22 : decode cL_law 22 = .ok (.isub, 1) := by decide +kernel
theorem dL_law_23 : decode cL_law 23 = .ok (.if_icmp .gt 896, 3) := by decide +kernel
theorem dL_law_26 : decode cL_law 26 = .ok (.aload_n 0, 1) := by decide +kernel
theorem dL_law_27 : decode cL_law 27 = .ok (.iload_n 3, 1) := by decide +kernel
theorem dL_law_28 : decode cL_law 28 = .ok (.iaload, 1) := by decide +kernel
theorem dL_law_29 : decode cL_law 29 = .ok (.bipush 31, 2) := by decide +kernel
theorem dL_law_31 : decode cL_law 31 = .ok (.iand, 1) := by decide +kernel
theorem dL_law_32 : decode cL_law 32 = .ok (.tableswitch 881 0 24 #[116, 149, 182, 215, 258, 291, 324, 377, 400, 433, 476, 529, 562, 585, 618, 641, 664, 687, 730, 783, 796, 809, 822, 835, 858], 116) := by decide +kernel
theorem dL_law_148 : decode cL_law 148 = .ok (.aload_n 1, 1) := by decide +kernel
theorem dL_law_149 : decode cL_law 149 = .ok (.aload_n 0, 1) := by decide +kernel
theorem dL_law_150 : decode cL_law 150 = .ok (.iload_n 3, 1) := by decide +kernel
theorem dL_law_151 : decode cL_law 151 = .ok (.iconst 1, 1) := by decide +kernel
theorem dL_law_152 : decode cL_law 152 = .ok (.iadd, 1) := by decide +kernel
theorem dL_law_153 : decode cL_law 153 = .ok (.iaload, 1) := by decide +kernel
theorem dL_law_154 : decode cL_law 154 = .ok (.aload_n 0, 1) := by decide +kernel
theorem dL_law_155 : decode cL_law 155 = .ok (.iload_n 3, 1) := by decide +kernel
theorem dL_law_156 : decode cL_law 156 = .ok (.iconst 2, 1) := by decide +kernel
theorem dL_law_157 : decode cL_law 157 = .ok (.iadd, 1) := by decide +kernel
theorem dL_law_158 : decode cL_law 158 = .ok (.iaload, 1) := by decide +kernel
theorem dL_law_159 : decode cL_law 159 = .ok (.invokevirtual 13, 3) := by decide +kernel
theorem dL_law_162 : decode cL_law 162 = .ok (.aload_n 2, 1) := by decide +kernel
theorem dL_law_163 : decode cL_law 163 = .ok (.aload_n 0, 1) := by decide +kernel
theorem dL_law_164 : decode cL_law 164 = .ok (.iload_n 3, 1) := by decide +kernel
theorem dL_law_165 : decode cL_law 165 = .ok (.iconst 1, 1) := by decide +kernel
theorem dL_law_166 : decode cL_law 166 = .ok (.iadd, 1) := by decide +kernel
theorem dL_law_167 : decode cL_law 167 = .ok (.iaload, 1) := by decide +kernel
theorem dL_law_168 : decode cL_law 168 = .ok (.aload_n 0, 1) := by decide +kernel
theorem dL_law_169 : decode cL_law 169 = .ok (.iload_n 3, 1) := by decide +kernel
theorem dL_law_170 : decode cL_law 170 = .ok (.iconst 2, 1) := by decide +kernel
theorem dL_law_171 : decode cL_law 171 = .ok (.iadd, 1) := by decide +kernel
theorem dL_law_172 : decode cL_law 172 = .ok (.iaload, 1) := by decide +kernel
theorem dL_law_173 : decode cL_law 173 = .ok (.invokevirtual 17, 3) := by decide +kernel
theorem dL_law_176 : decode cL_law 176 = .ok (.if_icmp .eq 737, 3) := by decide +kernel
theorem dL_law_179 : decode cL_law 179 = .ok (.iconst 0, 1) := by decide +kernel
theorem dL_law_180 : decode cL_law 180 = .ok (.ireturn, 1) := by decide +kernel
theorem dL_law_181 : decode cL_law 181 = .ok (.aload_n 1, 1) := by decide +kernel
theorem dL_law_182 : decode cL_law 182 = .ok (.aload_n 0, 1) := by decide +kernel
theorem dL_law_183 : decode cL_law 183 = .ok (.iload_n 3, 1) := by decide +kernel
theorem dL_law_184 : decode cL_law 184 = .ok (.iconst 1, 1) := by decide +kernel
theorem dL_law_185 : decode cL_law 185 = .ok (.iadd, 1) := by decide +kernel
theorem dL_law_186 : decode cL_law 186 = .ok (.iaload, 1) := by decide +kernel
theorem dL_law_187 : decode cL_law 187 = .ok (.aload_n 0, 1) := by decide +kernel
theorem dL_law_188 : decode cL_law 188 = .ok (.iload_n 3, 1) := by decide +kernel
theorem dL_law_189 : decode cL_law 189 = .ok (.iconst 2, 1) := by decide +kernel
theorem dL_law_190 : decode cL_law 190 = .ok (.iadd, 1) := by decide +kernel
theorem dL_law_191 : decode cL_law 191 = .ok (.iaload, 1) := by decide +kernel
theorem dL_law_192 : decode cL_law 192 = .ok (.invokevirtual 18, 3) := by decide +kernel
theorem dL_law_195 : decode cL_law 195 = .ok (.aload_n 2, 1) := by decide +kernel
theorem dL_law_196 : decode cL_law 196 = .ok (.aload_n 0, 1) := by decide +kernel
theorem dL_law_197 : decode cL_law 197 = .ok (.iload_n 3, 1) := by decide +kernel
theorem dL_law_198 : decode cL_law 198 = .ok (.iconst 1, 1) := by decide +kernel
theorem dL_law_199 : decode cL_law 199 = .ok (.iadd, 1) := by decide +kernel
theorem dL_law_200 : decode cL_law 200 = .ok (.iaload, 1) := by decide +kernel
theorem dL_law_201 : decode cL_law 201 = .ok (.aload_n 0, 1) := by decide +kernel
theorem dL_law_202 : decode cL_law 202 = .ok (.iload_n 3, 1) := by decide +kernel
theorem dL_law_203 : decode cL_law 203 = .ok (.iconst 2, 1) := by decide +kernel
theorem dL_law_204 : decode cL_law 204 = .ok (.iadd, 1) := by decide +kernel
theorem dL_law_205 : decode cL_law 205 = .ok (.iaload, 1) := by decide +kernel
theorem dL_law_206 : decode cL_law 206 = .ok (.invokevirtual 21, 3) := by decide +kernel
theorem dL_law_209 : decode cL_law 209 = .ok (.if_icmp .eq 704, 3) := by decide +kernel
theorem dL_law_212 : decode cL_law 212 = .ok (.iconst 0, 1) := by decide +kernel
theorem dL_law_213 : decode cL_law 213 = .ok (.ireturn, 1) := by decide +kernel
theorem dL_law_214 : decode cL_law 214 = .ok (.aload_n 1, 1) := by decide +kernel
theorem dL_law_215 : decode cL_law 215 = .ok (.aload_n 0, 1) := by decide +kernel
theorem dL_law_216 : decode cL_law 216 = .ok (.iload_n 3, 1) := by decide +kernel
theorem dL_law_217 : decode cL_law 217 = .ok (.iconst 1, 1) := by decide +kernel
theorem dL_law_218 : decode cL_law 218 = .ok (.iadd, 1) := by decide +kernel
theorem dL_law_219 : decode cL_law 219 = .ok (.iaload, 1) := by decide +kernel
theorem dL_law_220 : decode cL_law 220 = .ok (.aload_n 0, 1) := by decide +kernel
theorem dL_law_221 : decode cL_law 221 = .ok (.iload_n 3, 1) := by decide +kernel
theorem dL_law_222 : decode cL_law 222 = .ok (.iconst 2, 1) := by decide +kernel
theorem dL_law_223 : decode cL_law 223 = .ok (.iadd, 1) := by decide +kernel
theorem dL_law_224 : decode cL_law 224 = .ok (.iaload, 1) := by decide +kernel
theorem dL_law_225 : decode cL_law 225 = .ok (.invokevirtual 22, 3) := by decide +kernel
theorem dL_law_228 : decode cL_law 228 = .ok (.aload_n 2, 1) := by decide +kernel
theorem dL_law_229 : decode cL_law 229 = .ok (.aload_n 0, 1) := by decide +kernel
theorem dL_law_230 : decode cL_law 230 = .ok (.iload_n 3, 1) := by decide +kernel
theorem dL_law_231 : decode cL_law 231 = .ok (.iconst 1, 1) := by decide +kernel
theorem dL_law_232 : decode cL_law 232 = .ok (.iadd, 1) := by decide +kernel
theorem dL_law_233 : decode cL_law 233 = .ok (.iaload, 1) := by decide +kernel
theorem dL_law_234 : decode cL_law 234 = .ok (.aload_n 0, 1) := by decide +kernel
theorem dL_law_235 : decode cL_law 235 = .ok (.iload_n 3, 1) := by decide +kernel
theorem dL_law_236 : decode cL_law 236 = .ok (.iconst 2, 1) := by decide +kernel
theorem dL_law_237 : decode cL_law 237 = .ok (.iadd, 1) := by decide +kernel
theorem dL_law_238 : decode cL_law 238 = .ok (.iaload, 1) := by decide +kernel
theorem dL_law_239 : decode cL_law 239 = .ok (.invokevirtual 25, 3) := by decide +kernel
theorem dL_law_242 : decode cL_law 242 = .ok (.if_icmp .eq 671, 3) := by decide +kernel
theorem dL_law_245 : decode cL_law 245 = .ok (.iconst 0, 1) := by decide +kernel
theorem dL_law_246 : decode cL_law 246 = .ok (.ireturn, 1) := by decide +kernel
theorem dL_law_247 : decode cL_law 247 = .ok (.aload_n 1, 1) := by decide +kernel
theorem dL_law_248 : decode cL_law 248 = .ok (.aload_n 0, 1) := by decide +kernel
theorem dL_law_249 : decode cL_law 249 = .ok (.iload_n 3, 1) := by decide +kernel
theorem dL_law_250 : decode cL_law 250 = .ok (.iconst 1, 1) := by decide +kernel
theorem dL_law_251 : decode cL_law 251 = .ok (.iadd, 1) := by decide +kernel
theorem dL_law_252 : decode cL_law 252 = .ok (.iaload, 1) := by decide +kernel
theorem dL_law_253 : decode cL_law 253 = .ok (.aload_n 0, 1) := by decide +kernel
theorem dL_law_254 : decode cL_law 254 = .ok (.iload_n 3, 1) := by decide +kernel
theorem dL_law_255 : decode cL_law 255 = .ok (.iconst 2, 1) := by decide +kernel
theorem dL_law_256 : decode cL_law 256 = .ok (.iadd, 1) := by decide +kernel
theorem dL_law_257 : decode cL_law 257 = .ok (.iaload, 1) := by decide +kernel
theorem dL_law_258 : decode cL_law 258 = .ok (.aload_n 0, 1) := by decide +kernel
theorem dL_law_259 : decode cL_law 259 = .ok (.iload_n 3, 1) := by decide +kernel
theorem dL_law_260 : decode cL_law 260 = .ok (.iconst 3, 1) := by decide +kernel
theorem dL_law_261 : decode cL_law 261 = .ok (.iadd, 1) := by decide +kernel
theorem dL_law_262 : decode cL_law 262 = .ok (.iaload, 1) := by decide +kernel
theorem dL_law_263 : decode cL_law 263 = .ok (.invokevirtual 26, 3) := by decide +kernel
theorem dL_law_266 : decode cL_law 266 = .ok (.aload_n 2, 1) := by decide +kernel
theorem dL_law_267 : decode cL_law 267 = .ok (.aload_n 0, 1) := by decide +kernel
theorem dL_law_268 : decode cL_law 268 = .ok (.iload_n 3, 1) := by decide +kernel
theorem dL_law_269 : decode cL_law 269 = .ok (.iconst 1, 1) := by decide +kernel
theorem dL_law_270 : decode cL_law 270 = .ok (.iadd, 1) := by decide +kernel
theorem dL_law_271 : decode cL_law 271 = .ok (.iaload, 1) := by decide +kernel
theorem dL_law_272 : decode cL_law 272 = .ok (.aload_n 0, 1) := by decide +kernel
theorem dL_law_273 : decode cL_law 273 = .ok (.iload_n 3, 1) := by decide +kernel
theorem dL_law_274 : decode cL_law 274 = .ok (.iconst 2, 1) := by decide +kernel
theorem dL_law_275 : decode cL_law 275 = .ok (.iadd, 1) := by decide +kernel
theorem dL_law_276 : decode cL_law 276 = .ok (.iaload, 1) := by decide +kernel
theorem dL_law_277 : decode cL_law 277 = .ok (.aload_n 0, 1) := by decide +kernel
theorem dL_law_278 : decode cL_law 278 = .ok (.iload_n 3, 1) := by decide +kernel
theorem dL_law_279 : decode cL_law 279 = .ok (.iconst 3, 1) := by decide +kernel
theorem dL_law_280 : decode cL_law 280 = .ok (.iadd, 1) := by decide +kernel
theorem dL_law_281 : decode cL_law 281 = .ok (.iaload, 1) := by decide +kernel
theorem dL_law_282 : decode cL_law 282 = .ok (.invokevirtual 30, 3) := by decide +kernel
theorem dL_law_285 : decode cL_law 285 = .ok (.if_icmp .eq 628, 3) := by decide +kernel
theorem dL_law_288 : decode cL_law 288 = .ok (.iconst 0, 1) := by decide +kernel
theorem dL_law_289 : decode cL_law 289 = .ok (.ireturn, 1) := by decide +kernel
theorem dL_law_290 : decode cL_law 290 = .ok (.aload_n 1, 1) := by decide +kernel
theorem dL_law_291 : decode cL_law 291 = .ok (.aload_n 0, 1) := by decide +kernel
theorem dL_law_292 : decode cL_law 292 = .ok (.iload_n 3, 1) := by decide +kernel
theorem dL_law_293 : decode cL_law 293 = .ok (.iconst 1, 1) := by decide +kernel
theorem dL_law_294 : decode cL_law 294 = .ok (.iadd, 1) := by decide +kernel
theorem dL_law_295 : decode cL_law 295 = .ok (.iaload, 1) := by decide +kernel
theorem dL_law_296 : decode cL_law 296 = .ok (.aload_n 0, 1) := by decide +kernel
theorem dL_law_297 : decode cL_law 297 = .ok (.iload_n 3, 1) := by decide +kernel
theorem dL_law_298 : decode cL_law 298 = .ok (.iconst 2, 1) := by decide +kernel
theorem dL_law_299 : decode cL_law 299 = .ok (.iadd, 1) := by decide +kernel
theorem dL_law_300 : decode cL_law 300 = .ok (.iaload, 1) := by decide +kernel
theorem dL_law_301 : decode cL_law 301 = .ok (.invokevirtual 31, 3) := by decide +kernel
theorem dL_law_304 : decode cL_law 304 = .ok (.aload_n 2, 1) := by decide +kernel
theorem dL_law_305 : decode cL_law 305 = .ok (.aload_n 0, 1) := by decide +kernel
theorem dL_law_306 : decode cL_law 306 = .ok (.iload_n 3, 1) := by decide +kernel
theorem dL_law_307 : decode cL_law 307 = .ok (.iconst 1, 1) := by decide +kernel
theorem dL_law_308 : decode cL_law 308 = .ok (.iadd, 1) := by decide +kernel
theorem dL_law_309 : decode cL_law 309 = .ok (.iaload, 1) := by decide +kernel
theorem dL_law_310 : decode cL_law 310 = .ok (.aload_n 0, 1) := by decide +kernel
theorem dL_law_311 : decode cL_law 311 = .ok (.iload_n 3, 1) := by decide +kernel
theorem dL_law_312 : decode cL_law 312 = .ok (.iconst 2, 1) := by decide +kernel
theorem dL_law_313 : decode cL_law 313 = .ok (.iadd, 1) := by decide +kernel
theorem dL_law_314 : decode cL_law 314 = .ok (.iaload, 1) := by decide +kernel
theorem dL_law_315 : decode cL_law 315 = .ok (.invokevirtual 34, 3) := by decide +kernel
theorem dL_law_318 : decode cL_law 318 = .ok (.if_icmp .eq 595, 3) := by decide +kernel
theorem dL_law_321 : decode cL_law 321 = .ok (.iconst 0, 1) := by decide +kernel
theorem dL_law_322 : decode cL_law 322 = .ok (.ireturn, 1) := by decide +kernel
theorem dL_law_323 : decode cL_law 323 = .ok (.aload_n 1, 1) := by decide +kernel
theorem dL_law_324 : decode cL_law 324 = .ok (.aload_n 0, 1) := by decide +kernel
theorem dL_law_325 : decode cL_law 325 = .ok (.iload_n 3, 1) := by decide +kernel
theorem dL_law_326 : decode cL_law 326 = .ok (.iconst 1, 1) := by decide +kernel
theorem dL_law_327 : decode cL_law 327 = .ok (.iadd, 1) := by decide +kernel
theorem dL_law_328 : decode cL_law 328 = .ok (.iaload, 1) := by decide +kernel
theorem dL_law_329 : decode cL_law 329 = .ok (.aload_n 0, 1) := by decide +kernel
theorem dL_law_330 : decode cL_law 330 = .ok (.iload_n 3, 1) := by decide +kernel
theorem dL_law_331 : decode cL_law 331 = .ok (.iconst 2, 1) := by decide +kernel
theorem dL_law_332 : decode cL_law 332 = .ok (.iadd, 1) := by decide +kernel
theorem dL_law_333 : decode cL_law 333 = .ok (.iaload, 1) := by decide +kernel
theorem dL_law_334 : decode cL_law 334 = .ok (.invokevirtual 35, 3) := by decide +kernel
theorem dL_law_337 : decode cL_law 337 = .ok (.aload_n 2, 1) := by decide +kernel
theorem dL_law_338 : decode cL_law 338 = .ok (.aload_n 0, 1) := by decide +kernel
theorem dL_law_339 : decode cL_law 339 = .ok (.iload_n 3, 1) := by decide +kernel
theorem dL_law_340 : decode cL_law 340 = .ok (.iconst 1, 1) := by decide +kernel
theorem dL_law_341 : decode cL_law 341 = .ok (.iadd, 1) := by decide +kernel
theorem dL_law_342 : decode cL_law 342 = .ok (.iaload, 1) := by decide +kernel
theorem dL_law_343 : decode cL_law 343 = .ok (.aload_n 0, 1) := by decide +kernel
theorem dL_law_344 : decode cL_law 344 = .ok (.iload_n 3, 1) := by decide +kernel
theorem dL_law_345 : decode cL_law 345 = .ok (.iconst 2, 1) := by decide +kernel
theorem dL_law_346 : decode cL_law 346 = .ok (.iadd, 1) := by decide +kernel
theorem dL_law_347 : decode cL_law 347 = .ok (.iaload, 1) := by decide +kernel
theorem dL_law_348 : decode cL_law 348 = .ok (.invokevirtual 38, 3) := by decide +kernel
theorem dL_law_351 : decode cL_law 351 = .ok (.if_icmp .eq 562, 3) := by decide +kernel
theorem dL_law_354 : decode cL_law 354 = .ok (.iconst 0, 1) := by decide +kernel
theorem dL_law_355 : decode cL_law 355 = .ok (.ireturn, 1) := by decide +kernel
theorem dL_law_356 : decode cL_law 356 = .ok (.aload_n 1, 1) := by decide +kernel
theorem dL_law_357 : decode cL_law 357 = .ok (.aload_n 0, 1) := by decide +kernel
theorem dL_law_358 : decode cL_law 358 = .ok (.iload_n 3, 1) := by decide +kernel
theorem dL_law_359 : decode cL_law 359 = .ok (.iconst 1, 1) := by decide +kernel
theorem dL_law_360 : decode cL_law 360 = .ok (.iadd, 1) := by decide +kernel
theorem dL_law_361 : decode cL_law 361 = .ok (.iaload, 1) := by decide +kernel
theorem dL_law_362 : decode cL_law 362 = .ok (.aload_n 0, 1) := by decide +kernel
theorem dL_law_363 : decode cL_law 363 = .ok (.iload_n 3, 1) := by decide +kernel
theorem dL_law_364 : decode cL_law 364 = .ok (.iconst 2, 1) := by decide +kernel
theorem dL_law_365 : decode cL_law 365 = .ok (.iadd, 1) := by decide +kernel
theorem dL_law_366 : decode cL_law 366 = .ok (.iaload, 1) := by decide +kernel
theorem dL_law_367 : decode cL_law 367 = .ok (.aload_n 0, 1) := by decide +kernel
theorem dL_law_368 : decode cL_law 368 = .ok (.iload_n 3, 1) := by decide +kernel
theorem dL_law_369 : decode cL_law 369 = .ok (.iconst 3, 1) := by decide +kernel
theorem dL_law_370 : decode cL_law 370 = .ok (.iadd, 1) := by decide +kernel
theorem dL_law_371 : decode cL_law 371 = .ok (.iaload, 1) := by decide +kernel
theorem dL_law_372 : decode cL_law 372 = .ok (.aload_n 0, 1) := by decide +kernel
theorem dL_law_373 : decode cL_law 373 = .ok (.iload_n 3, 1) := by decide +kernel
theorem dL_law_374 : decode cL_law 374 = .ok (.iconst 4, 1) := by decide +kernel
theorem dL_law_375 : decode cL_law 375 = .ok (.iadd, 1) := by decide +kernel
theorem dL_law_376 : decode cL_law 376 = .ok (.iaload, 1) := by decide +kernel
theorem dL_law_377 : decode cL_law 377 = .ok (.invokevirtual 39, 3) := by decide +kernel
theorem dL_law_380 : decode cL_law 380 = .ok (.aload_n 2, 1) := by decide +kernel
theorem dL_law_381 : decode cL_law 381 = .ok (.aload_n 0, 1) := by decide +kernel
theorem dL_law_382 : decode cL_law 382 = .ok (.iload_n 3, 1) := by decide +kernel
theorem dL_law_383 : decode cL_law 383 = .ok (.iconst 1, 1) := by decide +kernel
theorem dL_law_384 : decode cL_law 384 = .ok (.iadd, 1) := by decide +kernel
theorem dL_law_385 : decode cL_law 385 = .ok (.iaload, 1) := by decide +kernel
theorem dL_law_386 : decode cL_law 386 = .ok (.aload_n 0, 1) := by decide +kernel
theorem dL_law_387 : decode cL_law 387 = .ok (.iload_n 3, 1) := by decide +kernel
theorem dL_law_388 : decode cL_law 388 = .ok (.iconst 2, 1) := by decide +kernel
theorem dL_law_389 : decode cL_law 389 = .ok (.iadd, 1) := by decide +kernel
theorem dL_law_390 : decode cL_law 390 = .ok (.iaload, 1) := by decide +kernel
theorem dL_law_391 : decode cL_law 391 = .ok (.aload_n 0, 1) := by decide +kernel
theorem dL_law_392 : decode cL_law 392 = .ok (.iload_n 3, 1) := by decide +kernel
theorem dL_law_393 : decode cL_law 393 = .ok (.iconst 3, 1) := by decide +kernel
theorem dL_law_394 : decode cL_law 394 = .ok (.iadd, 1) := by decide +kernel
theorem dL_law_395 : decode cL_law 395 = .ok (.iaload, 1) := by decide +kernel
theorem dL_law_396 : decode cL_law 396 = .ok (.aload_n 0, 1) := by decide +kernel
theorem dL_law_397 : decode cL_law 397 = .ok (.iload_n 3, 1) := by decide +kernel
theorem dL_law_398 : decode cL_law 398 = .ok (.iconst 4, 1) := by decide +kernel
theorem dL_law_399 : decode cL_law 399 = .ok (.iadd, 1) := by decide +kernel
theorem dL_law_400 : decode cL_law 400 = .ok (.iaload, 1) := by decide +kernel
theorem dL_law_401 : decode cL_law 401 = .ok (.invokevirtual 43, 3) := by decide +kernel
theorem dL_law_404 : decode cL_law 404 = .ok (.if_icmp .eq 509, 3) := by decide +kernel
theorem dL_law_407 : decode cL_law 407 = .ok (.iconst 0, 1) := by decide +kernel
theorem dL_law_408 : decode cL_law 408 = .ok (.ireturn, 1) := by decide +kernel
theorem dL_law_409 : decode cL_law 409 = .ok (.aload_n 1, 1) := by decide +kernel
theorem dL_law_410 : decode cL_law 410 = .ok (.aload_n 0, 1) := by decide +kernel
theorem dL_law_411 : decode cL_law 411 = .ok (.iload_n 3, 1) := by decide +kernel
theorem dL_law_412 : decode cL_law 412 = .ok (.iconst 1, 1) := by decide +kernel
theorem dL_law_413 : decode cL_law 413 = .ok (.iadd, 1) := by decide +kernel
theorem dL_law_414 : decode cL_law 414 = .ok (.iaload, 1) := by decide +kernel
theorem dL_law_415 : decode cL_law 415 = .ok (.invokevirtual 44, 3) := by decide +kernel
theorem dL_law_418 : decode cL_law 418 = .ok (.aload_n 2, 1) := by decide +kernel
theorem dL_law_419 : decode cL_law 419 = .ok (.aload_n 0, 1) := by decide +kernel
theorem dL_law_420 : decode cL_law 420 = .ok (.iload_n 3, 1) := by decide +kernel
theorem dL_law_421 : decode cL_law 421 = .ok (.iconst 1, 1) := by decide +kernel
theorem dL_law_422 : decode cL_law 422 = .ok (.iadd, 1) := by decide +kernel
theorem dL_law_423 : decode cL_law 423 = .ok (.iaload, 1) := by decide +kernel
theorem dL_law_424 : decode cL_law 424 = .ok (.invokevirtual 48, 3) := by decide +kernel
theorem dL_law_427 : decode cL_law 427 = .ok (.if_icmp .eq 486, 3) := by decide +kernel
theorem dL_law_430 : decode cL_law 430 = .ok (.iconst 0, 1) := by decide +kernel
theorem dL_law_431 : decode cL_law 431 = .ok (.ireturn, 1) := by decide +kernel
theorem dL_law_432 : decode cL_law 432 = .ok (.aload_n 1, 1) := by decide +kernel
theorem dL_law_433 : decode cL_law 433 = .ok (.aload_n 0, 1) := by decide +kernel
theorem dL_law_434 : decode cL_law 434 = .ok (.iload_n 3, 1) := by decide +kernel
theorem dL_law_435 : decode cL_law 435 = .ok (.iconst 1, 1) := by decide +kernel
theorem dL_law_436 : decode cL_law 436 = .ok (.iadd, 1) := by decide +kernel
theorem dL_law_437 : decode cL_law 437 = .ok (.iaload, 1) := by decide +kernel
theorem dL_law_438 : decode cL_law 438 = .ok (.aload_n 0, 1) := by decide +kernel
theorem dL_law_439 : decode cL_law 439 = .ok (.iload_n 3, 1) := by decide +kernel
theorem dL_law_440 : decode cL_law 440 = .ok (.iconst 2, 1) := by decide +kernel
theorem dL_law_441 : decode cL_law 441 = .ok (.iadd, 1) := by decide +kernel
theorem dL_law_442 : decode cL_law 442 = .ok (.iaload, 1) := by decide +kernel
theorem dL_law_443 : decode cL_law 443 = .ok (.invokevirtual 49, 3) := by decide +kernel
theorem dL_law_446 : decode cL_law 446 = .ok (.aload_n 2, 1) := by decide +kernel
theorem dL_law_447 : decode cL_law 447 = .ok (.aload_n 0, 1) := by decide +kernel
theorem dL_law_448 : decode cL_law 448 = .ok (.iload_n 3, 1) := by decide +kernel
theorem dL_law_449 : decode cL_law 449 = .ok (.iconst 1, 1) := by decide +kernel
theorem dL_law_450 : decode cL_law 450 = .ok (.iadd, 1) := by decide +kernel
theorem dL_law_451 : decode cL_law 451 = .ok (.iaload, 1) := by decide +kernel
theorem dL_law_452 : decode cL_law 452 = .ok (.aload_n 0, 1) := by decide +kernel
theorem dL_law_453 : decode cL_law 453 = .ok (.iload_n 3, 1) := by decide +kernel
theorem dL_law_454 : decode cL_law 454 = .ok (.iconst 2, 1) := by decide +kernel
theorem dL_law_455 : decode cL_law 455 = .ok (.iadd, 1) := by decide +kernel
theorem dL_law_456 : decode cL_law 456 = .ok (.iaload, 1) := by decide +kernel
theorem dL_law_457 : decode cL_law 457 = .ok (.invokevirtual 52, 3) := by decide +kernel
theorem dL_law_460 : decode cL_law 460 = .ok (.if_icmp .eq 453, 3) := by decide +kernel
theorem dL_law_463 : decode cL_law 463 = .ok (.iconst 0, 1) := by decide +kernel
theorem dL_law_464 : decode cL_law 464 = .ok (.ireturn, 1) := by decide +kernel
theorem dL_law_465 : decode cL_law 465 = .ok (.aload_n 1, 1) := by decide +kernel
theorem dL_law_466 : decode cL_law 466 = .ok (.aload_n 0, 1) := by decide +kernel
theorem dL_law_467 : decode cL_law 467 = .ok (.iload_n 3, 1) := by decide +kernel
theorem dL_law_468 : decode cL_law 468 = .ok (.iconst 1, 1) := by decide +kernel
theorem dL_law_469 : decode cL_law 469 = .ok (.iadd, 1) := by decide +kernel
theorem dL_law_470 : decode cL_law 470 = .ok (.iaload, 1) := by decide +kernel
theorem dL_law_471 : decode cL_law 471 = .ok (.aload_n 0, 1) := by decide +kernel
theorem dL_law_472 : decode cL_law 472 = .ok (.iload_n 3, 1) := by decide +kernel
theorem dL_law_473 : decode cL_law 473 = .ok (.iconst 2, 1) := by decide +kernel
theorem dL_law_474 : decode cL_law 474 = .ok (.iadd, 1) := by decide +kernel
theorem dL_law_475 : decode cL_law 475 = .ok (.iaload, 1) := by decide +kernel
theorem dL_law_476 : decode cL_law 476 = .ok (.aload_n 0, 1) := by decide +kernel
theorem dL_law_477 : decode cL_law 477 = .ok (.iload_n 3, 1) := by decide +kernel
theorem dL_law_478 : decode cL_law 478 = .ok (.iconst 3, 1) := by decide +kernel
theorem dL_law_479 : decode cL_law 479 = .ok (.iadd, 1) := by decide +kernel
theorem dL_law_480 : decode cL_law 480 = .ok (.iaload, 1) := by decide +kernel
theorem dL_law_481 : decode cL_law 481 = .ok (.invokevirtual 53, 3) := by decide +kernel
theorem dL_law_484 : decode cL_law 484 = .ok (.aload_n 2, 1) := by decide +kernel
theorem dL_law_485 : decode cL_law 485 = .ok (.aload_n 0, 1) := by decide +kernel
theorem dL_law_486 : decode cL_law 486 = .ok (.iload_n 3, 1) := by decide +kernel
theorem dL_law_487 : decode cL_law 487 = .ok (.iconst 1, 1) := by decide +kernel
theorem dL_law_488 : decode cL_law 488 = .ok (.iadd, 1) := by decide +kernel
theorem dL_law_489 : decode cL_law 489 = .ok (.iaload, 1) := by decide +kernel
theorem dL_law_490 : decode cL_law 490 = .ok (.aload_n 0, 1) := by decide +kernel
theorem dL_law_491 : decode cL_law 491 = .ok (.iload_n 3, 1) := by decide +kernel
theorem dL_law_492 : decode cL_law 492 = .ok (.iconst 2, 1) := by decide +kernel
theorem dL_law_493 : decode cL_law 493 = .ok (.iadd, 1) := by decide +kernel
theorem dL_law_494 : decode cL_law 494 = .ok (.iaload, 1) := by decide +kernel
theorem dL_law_495 : decode cL_law 495 = .ok (.aload_n 0, 1) := by decide +kernel
theorem dL_law_496 : decode cL_law 496 = .ok (.iload_n 3, 1) := by decide +kernel
theorem dL_law_497 : decode cL_law 497 = .ok (.iconst 3, 1) := by decide +kernel
theorem dL_law_498 : decode cL_law 498 = .ok (.iadd, 1) := by decide +kernel
theorem dL_law_499 : decode cL_law 499 = .ok (.iaload, 1) := by decide +kernel
theorem dL_law_500 : decode cL_law 500 = .ok (.invokevirtual 56, 3) := by decide +kernel
theorem dL_law_503 : decode cL_law 503 = .ok (.if_icmp .eq 410, 3) := by decide +kernel
theorem dL_law_506 : decode cL_law 506 = .ok (.iconst 0, 1) := by decide +kernel
theorem dL_law_507 : decode cL_law 507 = .ok (.ireturn, 1) := by decide +kernel
theorem dL_law_508 : decode cL_law 508 = .ok (.aload_n 1, 1) := by decide +kernel
theorem dL_law_509 : decode cL_law 509 = .ok (.aload_n 0, 1) := by decide +kernel
theorem dL_law_510 : decode cL_law 510 = .ok (.iload_n 3, 1) := by decide +kernel
theorem dL_law_511 : decode cL_law 511 = .ok (.iconst 1, 1) := by decide +kernel
theorem dL_law_512 : decode cL_law 512 = .ok (.iadd, 1) := by decide +kernel
theorem dL_law_513 : decode cL_law 513 = .ok (.iaload, 1) := by decide +kernel
theorem dL_law_514 : decode cL_law 514 = .ok (.aload_n 0, 1) := by decide +kernel
theorem dL_law_515 : decode cL_law 515 = .ok (.iload_n 3, 1) := by decide +kernel
theorem dL_law_516 : decode cL_law 516 = .ok (.iconst 2, 1) := by decide +kernel
theorem dL_law_517 : decode cL_law 517 = .ok (.iadd, 1) := by decide +kernel
theorem dL_law_518 : decode cL_law 518 = .ok (.iaload, 1) := by decide +kernel
theorem dL_law_519 : decode cL_law 519 = .ok (.aload_n 0, 1) := by decide +kernel
theorem dL_law_520 : decode cL_law 520 = .ok (.iload_n 3, 1) := by decide +kernel
theorem dL_law_521 : decode cL_law 521 = .ok (.iconst 3, 1) := by decide +kernel
theorem dL_law_522 : decode cL_law 522 = .ok (.iadd, 1) := by decide +kernel
theorem dL_law_523 : decode cL_law 523 = .ok (.iaload, 1) := by decide +kernel
theorem dL_law_524 : decode cL_law 524 = .ok (.aload_n 0, 1) := by decide +kernel
theorem dL_law_525 : decode cL_law 525 = .ok (.iload_n 3, 1) := by decide +kernel
theorem dL_law_526 : decode cL_law 526 = .ok (.iconst 4, 1) := by decide +kernel
theorem dL_law_527 : decode cL_law 527 = .ok (.iadd, 1) := by decide +kernel
theorem dL_law_528 : decode cL_law 528 = .ok (.iaload, 1) := by decide +kernel
theorem dL_law_529 : decode cL_law 529 = .ok (.invokevirtual 57, 3) := by decide +kernel
theorem dL_law_532 : decode cL_law 532 = .ok (.aload_n 2, 1) := by decide +kernel
theorem dL_law_533 : decode cL_law 533 = .ok (.aload_n 0, 1) := by decide +kernel
theorem dL_law_534 : decode cL_law 534 = .ok (.iload_n 3, 1) := by decide +kernel
theorem dL_law_535 : decode cL_law 535 = .ok (.iconst 1, 1) := by decide +kernel
theorem dL_law_536 : decode cL_law 536 = .ok (.iadd, 1) := by decide +kernel
theorem dL_law_537 : decode cL_law 537 = .ok (.iaload, 1) := by decide +kernel
theorem dL_law_538 : decode cL_law 538 = .ok (.aload_n 0, 1) := by decide +kernel
theorem dL_law_539 : decode cL_law 539 = .ok (.iload_n 3, 1) := by decide +kernel
theorem dL_law_540 : decode cL_law 540 = .ok (.iconst 2, 1) := by decide +kernel
theorem dL_law_541 : decode cL_law 541 = .ok (.iadd, 1) := by decide +kernel
theorem dL_law_542 : decode cL_law 542 = .ok (.iaload, 1) := by decide +kernel
theorem dL_law_543 : decode cL_law 543 = .ok (.aload_n 0, 1) := by decide +kernel
theorem dL_law_544 : decode cL_law 544 = .ok (.iload_n 3, 1) := by decide +kernel
theorem dL_law_545 : decode cL_law 545 = .ok (.iconst 3, 1) := by decide +kernel
theorem dL_law_546 : decode cL_law 546 = .ok (.iadd, 1) := by decide +kernel
theorem dL_law_547 : decode cL_law 547 = .ok (.iaload, 1) := by decide +kernel
theorem dL_law_548 : decode cL_law 548 = .ok (.aload_n 0, 1) := by decide +kernel
theorem dL_law_549 : decode cL_law 549 = .ok (.iload_n 3, 1) := by decide +kernel
theorem dL_law_550 : decode cL_law 550 = .ok (.iconst 4, 1) := by decide +kernel
theorem dL_law_551 : decode cL_law 551 = .ok (.iadd, 1) := by decide +kernel
theorem dL_law_552 : decode cL_law 552 = .ok (.iaload, 1) := by decide +kernel
theorem dL_law_553 : decode cL_law 553 = .ok (.invokevirtual 60, 3) := by decide +kernel
theorem dL_law_556 : decode cL_law 556 = .ok (.if_icmp .eq 357, 3) := by decide +kernel
theorem dL_law_559 : decode cL_law 559 = .ok (.iconst 0, 1) := by decide +kernel
theorem dL_law_560 : decode cL_law 560 = .ok (.ireturn, 1) := by decide +kernel
theorem dL_law_561 : decode cL_law 561 = .ok (.aload_n 1, 1) := by decide +kernel
theorem dL_law_562 : decode cL_law 562 = .ok (.aload_n 0, 1) := by decide +kernel
theorem dL_law_563 : decode cL_law 563 = .ok (.iload_n 3, 1) := by decide +kernel
theorem dL_law_564 : decode cL_law 564 = .ok (.iconst 1, 1) := by decide +kernel
theorem dL_law_565 : decode cL_law 565 = .ok (.iadd, 1) := by decide +kernel
theorem dL_law_566 : decode cL_law 566 = .ok (.iaload, 1) := by decide +kernel
theorem dL_law_567 : decode cL_law 567 = .ok (.aload_n 0, 1) := by decide +kernel
theorem dL_law_568 : decode cL_law 568 = .ok (.iload_n 3, 1) := by decide +kernel
theorem dL_law_569 : decode cL_law 569 = .ok (.iconst 2, 1) := by decide +kernel
theorem dL_law_570 : decode cL_law 570 = .ok (.iadd, 1) := by decide +kernel
theorem dL_law_571 : decode cL_law 571 = .ok (.iaload, 1) := by decide +kernel
theorem dL_law_572 : decode cL_law 572 = .ok (.invokevirtual 61, 3) := by decide +kernel
theorem dL_law_575 : decode cL_law 575 = .ok (.aload_n 2, 1) := by decide +kernel
theorem dL_law_576 : decode cL_law 576 = .ok (.aload_n 0, 1) := by decide +kernel
theorem dL_law_577 : decode cL_law 577 = .ok (.iload_n 3, 1) := by decide +kernel
theorem dL_law_578 : decode cL_law 578 = .ok (.iconst 1, 1) := by decide +kernel
theorem dL_law_579 : decode cL_law 579 = .ok (.iadd, 1) := by decide +kernel
theorem dL_law_580 : decode cL_law 580 = .ok (.iaload, 1) := by decide +kernel
theorem dL_law_581 : decode cL_law 581 = .ok (.aload_n 0, 1) := by decide +kernel
theorem dL_law_582 : decode cL_law 582 = .ok (.iload_n 3, 1) := by decide +kernel
theorem dL_law_583 : decode cL_law 583 = .ok (.iconst 2, 1) := by decide +kernel
theorem dL_law_584 : decode cL_law 584 = .ok (.iadd, 1) := by decide +kernel
theorem dL_law_585 : decode cL_law 585 = .ok (.iaload, 1) := by decide +kernel
theorem dL_law_586 : decode cL_law 586 = .ok (.invokevirtual 64, 3) := by decide +kernel
theorem dL_law_589 : decode cL_law 589 = .ok (.if_icmp .eq 324, 3) := by decide +kernel
theorem dL_law_592 : decode cL_law 592 = .ok (.iconst 0, 1) := by decide +kernel
theorem dL_law_593 : decode cL_law 593 = .ok (.ireturn, 1) := by decide +kernel
theorem dL_law_594 : decode cL_law 594 = .ok (.aload_n 1, 1) := by decide +kernel
theorem dL_law_595 : decode cL_law 595 = .ok (.aload_n 0, 1) := by decide +kernel
theorem dL_law_596 : decode cL_law 596 = .ok (.iload_n 3, 1) := by decide +kernel
theorem dL_law_597 : decode cL_law 597 = .ok (.iconst 1, 1) := by decide +kernel
theorem dL_law_598 : decode cL_law 598 = .ok (.iadd, 1) := by decide +kernel
theorem dL_law_599 : decode cL_law 599 = .ok (.iaload, 1) := by decide +kernel
theorem dL_law_600 : decode cL_law 600 = .ok (.invokevirtual 65, 3) := by decide +kernel
theorem dL_law_603 : decode cL_law 603 = .ok (.aload_n 2, 1) := by decide +kernel
theorem dL_law_604 : decode cL_law 604 = .ok (.aload_n 0, 1) := by decide +kernel
theorem dL_law_605 : decode cL_law 605 = .ok (.iload_n 3, 1) := by decide +kernel
theorem dL_law_606 : decode cL_law 606 = .ok (.iconst 1, 1) := by decide +kernel
theorem dL_law_607 : decode cL_law 607 = .ok (.iadd, 1) := by decide +kernel
theorem dL_law_608 : decode cL_law 608 = .ok (.iaload, 1) := by decide +kernel
theorem dL_law_609 : decode cL_law 609 = .ok (.invokevirtual 68, 3) := by decide +kernel
theorem dL_law_612 : decode cL_law 612 = .ok (.if_icmp .eq 301, 3) := by decide +kernel
theorem dL_law_615 : decode cL_law 615 = .ok (.iconst 0, 1) := by decide +kernel
theorem dL_law_616 : decode cL_law 616 = .ok (.ireturn, 1) := by decide +kernel
theorem dL_law_617 : decode cL_law 617 = .ok (.aload_n 1, 1) := by decide +kernel
theorem dL_law_618 : decode cL_law 618 = .ok (.aload_n 0, 1) := by decide +kernel
theorem dL_law_619 : decode cL_law 619 = .ok (.iload_n 3, 1) := by decide +kernel
theorem dL_law_620 : decode cL_law 620 = .ok (.iconst 1, 1) := by decide +kernel
theorem dL_law_621 : decode cL_law 621 = .ok (.iadd, 1) := by decide +kernel
theorem dL_law_622 : decode cL_law 622 = .ok (.iaload, 1) := by decide +kernel
theorem dL_law_623 : decode cL_law 623 = .ok (.aload_n 0, 1) := by decide +kernel
theorem dL_law_624 : decode cL_law 624 = .ok (.iload_n 3, 1) := by decide +kernel
theorem dL_law_625 : decode cL_law 625 = .ok (.iconst 2, 1) := by decide +kernel
theorem dL_law_626 : decode cL_law 626 = .ok (.iadd, 1) := by decide +kernel
theorem dL_law_627 : decode cL_law 627 = .ok (.iaload, 1) := by decide +kernel
theorem dL_law_628 : decode cL_law 628 = .ok (.invokevirtual 69, 3) := by decide +kernel
theorem dL_law_631 : decode cL_law 631 = .ok (.aload_n 2, 1) := by decide +kernel
theorem dL_law_632 : decode cL_law 632 = .ok (.aload_n 0, 1) := by decide +kernel
theorem dL_law_633 : decode cL_law 633 = .ok (.iload_n 3, 1) := by decide +kernel
theorem dL_law_634 : decode cL_law 634 = .ok (.iconst 1, 1) := by decide +kernel
theorem dL_law_635 : decode cL_law 635 = .ok (.iadd, 1) := by decide +kernel
theorem dL_law_636 : decode cL_law 636 = .ok (.iaload, 1) := by decide +kernel
theorem dL_law_637 : decode cL_law 637 = .ok (.aload_n 0, 1) := by decide +kernel
theorem dL_law_638 : decode cL_law 638 = .ok (.iload_n 3, 1) := by decide +kernel
theorem dL_law_639 : decode cL_law 639 = .ok (.iconst 2, 1) := by decide +kernel
theorem dL_law_640 : decode cL_law 640 = .ok (.iadd, 1) := by decide +kernel
theorem dL_law_641 : decode cL_law 641 = .ok (.iaload, 1) := by decide +kernel
theorem dL_law_642 : decode cL_law 642 = .ok (.invokevirtual 72, 3) := by decide +kernel
theorem dL_law_645 : decode cL_law 645 = .ok (.if_icmp .eq 268, 3) := by decide +kernel
theorem dL_law_648 : decode cL_law 648 = .ok (.iconst 0, 1) := by decide +kernel
theorem dL_law_649 : decode cL_law 649 = .ok (.ireturn, 1) := by decide +kernel
theorem dL_law_650 : decode cL_law 650 = .ok (.aload_n 1, 1) := by decide +kernel
theorem dL_law_651 : decode cL_law 651 = .ok (.aload_n 0, 1) := by decide +kernel
theorem dL_law_652 : decode cL_law 652 = .ok (.iload_n 3, 1) := by decide +kernel
theorem dL_law_653 : decode cL_law 653 = .ok (.iconst 1, 1) := by decide +kernel
theorem dL_law_654 : decode cL_law 654 = .ok (.iadd, 1) := by decide +kernel
theorem dL_law_655 : decode cL_law 655 = .ok (.iaload, 1) := by decide +kernel
theorem dL_law_656 : decode cL_law 656 = .ok (.invokevirtual 73, 3) := by decide +kernel
theorem dL_law_659 : decode cL_law 659 = .ok (.aload_n 2, 1) := by decide +kernel
theorem dL_law_660 : decode cL_law 660 = .ok (.aload_n 0, 1) := by decide +kernel
theorem dL_law_661 : decode cL_law 661 = .ok (.iload_n 3, 1) := by decide +kernel
theorem dL_law_662 : decode cL_law 662 = .ok (.iconst 1, 1) := by decide +kernel
theorem dL_law_663 : decode cL_law 663 = .ok (.iadd, 1) := by decide +kernel
theorem dL_law_664 : decode cL_law 664 = .ok (.iaload, 1) := by decide +kernel
theorem dL_law_665 : decode cL_law 665 = .ok (.invokevirtual 76, 3) := by decide +kernel
theorem dL_law_668 : decode cL_law 668 = .ok (.if_icmp .eq 245, 3) := by decide +kernel
theorem dL_law_671 : decode cL_law 671 = .ok (.iconst 0, 1) := by decide +kernel
theorem dL_law_672 : decode cL_law 672 = .ok (.ireturn, 1) := by decide +kernel
theorem dL_law_673 : decode cL_law 673 = .ok (.aload_n 1, 1) := by decide +kernel
theorem dL_law_674 : decode cL_law 674 = .ok (.aload_n 0, 1) := by decide +kernel
theorem dL_law_675 : decode cL_law 675 = .ok (.iload_n 3, 1) := by decide +kernel
theorem dL_law_676 : decode cL_law 676 = .ok (.iconst 1, 1) := by decide +kernel
theorem dL_law_677 : decode cL_law 677 = .ok (.iadd, 1) := by decide +kernel
theorem dL_law_678 : decode cL_law 678 = .ok (.iaload, 1) := by decide +kernel
theorem dL_law_679 : decode cL_law 679 = .ok (.invokevirtual 77, 3) := by decide +kernel
theorem dL_law_682 : decode cL_law 682 = .ok (.aload_n 2, 1) := by decide +kernel
theorem dL_law_683 : decode cL_law 683 = .ok (.aload_n 0, 1) := by decide +kernel
theorem dL_law_684 : decode cL_law 684 = .ok (.iload_n 3, 1) := by decide +kernel
theorem dL_law_685 : decode cL_law 685 = .ok (.iconst 1, 1) := by decide +kernel
theorem dL_law_686 : decode cL_law 686 = .ok (.iadd, 1) := by decide +kernel
theorem dL_law_687 : decode cL_law 687 = .ok (.iaload, 1) := by decide +kernel
theorem dL_law_688 : decode cL_law 688 = .ok (.invokevirtual 80, 3) := by decide +kernel
theorem dL_law_691 : decode cL_law 691 = .ok (.if_icmp .eq 222, 3) := by decide +kernel
theorem dL_law_694 : decode cL_law 694 = .ok (.iconst 0, 1) := by decide +kernel
theorem dL_law_695 : decode cL_law 695 = .ok (.ireturn, 1) := by decide +kernel
theorem dL_law_696 : decode cL_law 696 = .ok (.aload_n 1, 1) := by decide +kernel
theorem dL_law_697 : decode cL_law 697 = .ok (.aload_n 0, 1) := by decide +kernel
theorem dL_law_698 : decode cL_law 698 = .ok (.iload_n 3, 1) := by decide +kernel
theorem dL_law_699 : decode cL_law 699 = .ok (.iconst 1, 1) := by decide +kernel
theorem dL_law_700 : decode cL_law 700 = .ok (.iadd, 1) := by decide +kernel
theorem dL_law_701 : decode cL_law 701 = .ok (.iaload, 1) := by decide +kernel
theorem dL_law_702 : decode cL_law 702 = .ok (.invokevirtual 81, 3) := by decide +kernel
theorem dL_law_705 : decode cL_law 705 = .ok (.aload_n 2, 1) := by decide +kernel
theorem dL_law_706 : decode cL_law 706 = .ok (.aload_n 0, 1) := by decide +kernel
theorem dL_law_707 : decode cL_law 707 = .ok (.iload_n 3, 1) := by decide +kernel
theorem dL_law_708 : decode cL_law 708 = .ok (.iconst 1, 1) := by decide +kernel
theorem dL_law_709 : decode cL_law 709 = .ok (.iadd, 1) := by decide +kernel
theorem dL_law_710 : decode cL_law 710 = .ok (.iaload, 1) := by decide +kernel
theorem dL_law_711 : decode cL_law 711 = .ok (.invokevirtual 84, 3) := by decide +kernel
theorem dL_law_714 : decode cL_law 714 = .ok (.if_icmp .eq 199, 3) := by decide +kernel
theorem dL_law_717 : decode cL_law 717 = .ok (.iconst 0, 1) := by decide +kernel
theorem dL_law_718 : decode cL_law 718 = .ok (.ireturn, 1) := by decide +kernel
theorem dL_law_719 : decode cL_law 719 = .ok (.aload_n 1, 1) := by decide +kernel
theorem dL_law_720 : decode cL_law 720 = .ok (.aload_n 0, 1) := by decide +kernel
theorem dL_law_721 : decode cL_law 721 = .ok (.iload_n 3, 1) := by decide +kernel
theorem dL_law_722 : decode cL_law 722 = .ok (.iconst 1, 1) := by decide +kernel
theorem dL_law_723 : decode cL_law 723 = .ok (.iadd, 1) := by decide +kernel
theorem dL_law_724 : decode cL_law 724 = .ok (.iaload, 1) := by decide +kernel
theorem dL_law_725 : decode cL_law 725 = .ok (.aload_n 0, 1) := by decide +kernel
theorem dL_law_726 : decode cL_law 726 = .ok (.iload_n 3, 1) := by decide +kernel
theorem dL_law_727 : decode cL_law 727 = .ok (.iconst 2, 1) := by decide +kernel
theorem dL_law_728 : decode cL_law 728 = .ok (.iadd, 1) := by decide +kernel
theorem dL_law_729 : decode cL_law 729 = .ok (.iaload, 1) := by decide +kernel
theorem dL_law_730 : decode cL_law 730 = .ok (.aload_n 0, 1) := by decide +kernel
theorem dL_law_731 : decode cL_law 731 = .ok (.iload_n 3, 1) := by decide +kernel
theorem dL_law_732 : decode cL_law 732 = .ok (.iconst 3, 1) := by decide +kernel
theorem dL_law_733 : decode cL_law 733 = .ok (.iadd, 1) := by decide +kernel
theorem dL_law_734 : decode cL_law 734 = .ok (.iaload, 1) := by decide +kernel
theorem dL_law_735 : decode cL_law 735 = .ok (.invokevirtual 85, 3) := by decide +kernel
theorem dL_law_738 : decode cL_law 738 = .ok (.aload_n 2, 1) := by decide +kernel
theorem dL_law_739 : decode cL_law 739 = .ok (.aload_n 0, 1) := by decide +kernel
theorem dL_law_740 : decode cL_law 740 = .ok (.iload_n 3, 1) := by decide +kernel
theorem dL_law_741 : decode cL_law 741 = .ok (.iconst 1, 1) := by decide +kernel
theorem dL_law_742 : decode cL_law 742 = .ok (.iadd, 1) := by decide +kernel
theorem dL_law_743 : decode cL_law 743 = .ok (.iaload, 1) := by decide +kernel
theorem dL_law_744 : decode cL_law 744 = .ok (.aload_n 0, 1) := by decide +kernel
theorem dL_law_745 : decode cL_law 745 = .ok (.iload_n 3, 1) := by decide +kernel
theorem dL_law_746 : decode cL_law 746 = .ok (.iconst 2, 1) := by decide +kernel
theorem dL_law_747 : decode cL_law 747 = .ok (.iadd, 1) := by decide +kernel
theorem dL_law_748 : decode cL_law 748 = .ok (.iaload, 1) := by decide +kernel
theorem dL_law_749 : decode cL_law 749 = .ok (.aload_n 0, 1) := by decide +kernel
theorem dL_law_750 : decode cL_law 750 = .ok (.iload_n 3, 1) := by decide +kernel
theorem dL_law_751 : decode cL_law 751 = .ok (.iconst 3, 1) := by decide +kernel
theorem dL_law_752 : decode cL_law 752 = .ok (.iadd, 1) := by decide +kernel
theorem dL_law_753 : decode cL_law 753 = .ok (.iaload, 1) := by decide +kernel
theorem dL_law_754 : decode cL_law 754 = .ok (.invokevirtual 88, 3) := by decide +kernel
theorem dL_law_757 : decode cL_law 757 = .ok (.if_icmp .eq 156, 3) := by decide +kernel
theorem dL_law_760 : decode cL_law 760 = .ok (.iconst 0, 1) := by decide +kernel
theorem dL_law_761 : decode cL_law 761 = .ok (.ireturn, 1) := by decide +kernel
theorem dL_law_762 : decode cL_law 762 = .ok (.aload_n 1, 1) := by decide +kernel
theorem dL_law_763 : decode cL_law 763 = .ok (.aload_n 0, 1) := by decide +kernel
theorem dL_law_764 : decode cL_law 764 = .ok (.iload_n 3, 1) := by decide +kernel
theorem dL_law_765 : decode cL_law 765 = .ok (.iconst 1, 1) := by decide +kernel
theorem dL_law_766 : decode cL_law 766 = .ok (.iadd, 1) := by decide +kernel
theorem dL_law_767 : decode cL_law 767 = .ok (.iaload, 1) := by decide +kernel
theorem dL_law_768 : decode cL_law 768 = .ok (.i2l, 1) := by decide +kernel
theorem dL_law_769 : decode cL_law 769 = .ok (.bipush 32, 2) := by decide +kernel
theorem dL_law_771 : decode cL_law 771 = .ok (.lshl, 1) := by decide +kernel
theorem dL_law_772 : decode cL_law 772 = .ok (.aload_n 0, 1) := by decide +kernel
theorem dL_law_773 : decode cL_law 773 = .ok (.iload_n 3, 1) := by decide +kernel
theorem dL_law_774 : decode cL_law 774 = .ok (.iconst 2, 1) := by decide +kernel
theorem dL_law_775 : decode cL_law 775 = .ok (.iadd, 1) := by decide +kernel
theorem dL_law_776 : decode cL_law 776 = .ok (.iaload, 1) := by decide +kernel
theorem dL_law_777 : decode cL_law 777 = .ok (.i2l, 1) := by decide +kernel
theorem dL_law_778 : decode cL_law 778 = .ok (.ldc2_w 89, 3) := by decide +kernel
theorem dL_law_781 : decode cL_law 781 = .ok (.land, 1) := by decide +kernel
theorem dL_law_782 : decode cL_law 782 = .ok (.lor, 1) := by decide +kernel
theorem dL_law_783 : decode cL_law 783 = .ok (.invokevirtual 91, 3) := by decide +kernel
theorem dL_law_786 : decode cL_law 786 = .ok (.aload_n 2, 1) := by decide +kernel
theorem dL_law_787 : decode cL_law 787 = .ok (.aload_n 0, 1) := by decide +kernel
theorem dL_law_788 : decode cL_law 788 = .ok (.iload_n 3, 1) := by decide +kernel
theorem dL_law_789 : decode cL_law 789 = .ok (.iconst 1, 1) := by decide +kernel
theorem dL_law_790 : decode cL_law 790 = .ok (.iadd, 1) := by decide +kernel
theorem dL_law_791 : decode cL_law 791 = .ok (.iaload, 1) := by decide +kernel
theorem dL_law_792 : decode cL_law 792 = .ok (.i2l, 1) := by decide +kernel
theorem dL_law_793 : decode cL_law 793 = .ok (.bipush 32, 2) := by decide +kernel
theorem dL_law_795 : decode cL_law 795 = .ok (.lshl, 1) := by decide +kernel
theorem dL_law_796 : decode cL_law 796 = .ok (.aload_n 0, 1) := by decide +kernel
theorem dL_law_797 : decode cL_law 797 = .ok (.iload_n 3, 1) := by decide +kernel
theorem dL_law_798 : decode cL_law 798 = .ok (.iconst 2, 1) := by decide +kernel
theorem dL_law_799 : decode cL_law 799 = .ok (.iadd, 1) := by decide +kernel
theorem dL_law_800 : decode cL_law 800 = .ok (.iaload, 1) := by decide +kernel
theorem dL_law_801 : decode cL_law 801 = .ok (.i2l, 1) := by decide +kernel
theorem dL_law_802 : decode cL_law 802 = .ok (.ldc2_w 89, 3) := by decide +kernel
theorem dL_law_805 : decode cL_law 805 = .ok (.land, 1) := by decide +kernel
theorem dL_law_806 : decode cL_law 806 = .ok (.lor, 1) := by decide +kernel
theorem dL_law_807 : decode cL_law 807 = .ok (.invokevirtual 95, 3) := by decide +kernel
theorem dL_law_810 : decode cL_law 810 = .ok (.if_icmp .eq 103, 3) := by decide +kernel
theorem dL_law_813 : decode cL_law 813 = .ok (.iconst 0, 1) := by decide +kernel
theorem dL_law_814 : decode cL_law 814 = .ok (.ireturn, 1) := by decide +kernel
theorem dL_law_815 : decode cL_law 815 = .ok (.aload_n 1, 1) := by decide +kernel
theorem dL_law_816 : decode cL_law 816 = .ok (.invokevirtual 96, 3) := by decide +kernel
theorem dL_law_819 : decode cL_law 819 = .ok (.aload_n 2, 1) := by decide +kernel
theorem dL_law_820 : decode cL_law 820 = .ok (.invokevirtual 100, 3) := by decide +kernel
theorem dL_law_823 : decode cL_law 823 = .ok (.if_icmp .eq 90, 3) := by decide +kernel
theorem dL_law_826 : decode cL_law 826 = .ok (.iconst 0, 1) := by decide +kernel
theorem dL_law_827 : decode cL_law 827 = .ok (.ireturn, 1) := by decide +kernel
theorem dL_law_828 : decode cL_law 828 = .ok (.aload_n 1, 1) := by decide +kernel
theorem dL_law_829 : decode cL_law 829 = .ok (.invokevirtual 101, 3) := by decide +kernel
theorem dL_law_832 : decode cL_law 832 = .ok (.aload_n 2, 1) := by decide +kernel
theorem dL_law_833 : decode cL_law 833 = .ok (.invokevirtual 104, 3) := by decide +kernel
theorem dL_law_836 : decode cL_law 836 = .ok (.if_icmp .eq 77, 3) := by decide +kernel
theorem dL_law_839 : decode cL_law 839 = .ok (.iconst 0, 1) := by decide +kernel
theorem dL_law_840 : decode cL_law 840 = .ok (.ireturn, 1) := by decide +kernel
theorem dL_law_841 : decode cL_law 841 = .ok (.aload_n 1, 1) := by decide +kernel
theorem dL_law_842 : decode cL_law 842 = .ok (.invokevirtual 105, 3) := by decide +kernel
theorem dL_law_845 : decode cL_law 845 = .ok (.aload_n 2, 1) := by decide +kernel
theorem dL_law_846 : decode cL_law 846 = .ok (.invokevirtual 108, 3) := by decide +kernel
theorem dL_law_849 : decode cL_law 849 = .ok (.if_icmp .eq 64, 3) := by decide +kernel
theorem dL_law_852 : decode cL_law 852 = .ok (.iconst 0, 1) := by decide +kernel
theorem dL_law_853 : decode cL_law 853 = .ok (.ireturn, 1) := by decide +kernel
theorem dL_law_854 : decode cL_law 854 = .ok (.aload_n 1, 1) := by decide +kernel
theorem dL_law_855 : decode cL_law 855 = .ok (.invokevirtual 109, 3) := by decide +kernel
theorem dL_law_858 : decode cL_law 858 = .ok (.aload_n 2, 1) := by decide +kernel
theorem dL_law_859 : decode cL_law 859 = .ok (.invokevirtual 112, 3) := by decide +kernel
theorem dL_law_862 : decode cL_law 862 = .ok (.if_icmp .eq 51, 3) := by decide +kernel
theorem dL_law_865 : decode cL_law 865 = .ok (.iconst 0, 1) := by decide +kernel
theorem dL_law_866 : decode cL_law 866 = .ok (.ireturn, 1) := by decide +kernel
theorem dL_law_867 : decode cL_law 867 = .ok (.aload_n 1, 1) := by decide +kernel
theorem dL_law_868 : decode cL_law 868 = .ok (.aload_n 0, 1) := by decide +kernel
theorem dL_law_869 : decode cL_law 869 = .ok (.iload_n 3, 1) := by decide +kernel
theorem dL_law_870 : decode cL_law 870 = .ok (.iconst 1, 1) := by decide +kernel
theorem dL_law_871 : decode cL_law 871 = .ok (.iadd, 1) := by decide +kernel
theorem dL_law_872 : decode cL_law 872 = .ok (.iaload, 1) := by decide +kernel
theorem dL_law_873 : decode cL_law 873 = .ok (.invokevirtual 113, 3) := by decide +kernel
theorem dL_law_876 : decode cL_law 876 = .ok (.aload_n 2, 1) := by decide +kernel
theorem dL_law_877 : decode cL_law 877 = .ok (.aload_n 0, 1) := by decide +kernel
theorem dL_law_878 : decode cL_law 878 = .ok (.iload_n 3, 1) := by decide +kernel
theorem dL_law_879 : decode cL_law 879 = .ok (.iconst 1, 1) := by decide +kernel
theorem dL_law_880 : decode cL_law 880 = .ok (.iadd, 1) := by decide +kernel
theorem dL_law_881 : decode cL_law 881 = .ok (.iaload, 1) := by decide +kernel
theorem dL_law_882 : decode cL_law 882 = .ok (.invokevirtual 116, 3) := by decide +kernel
theorem dL_law_885 : decode cL_law 885 = .ok (.if_icmp .eq 28, 3) := by decide +kernel
theorem dL_law_888 : decode cL_law 888 = .ok (.iconst 0, 1) := by decide +kernel
theorem dL_law_889 : decode cL_law 889 = .ok (.ireturn, 1) := by decide +kernel
theorem dL_law_890 : decode cL_law 890 = .ok (.aload_n 1, 1) := by decide +kernel
theorem dL_law_891 : decode cL_law 891 = .ok (.aload_n 0, 1) := by decide +kernel
theorem dL_law_892 : decode cL_law 892 = .ok (.iload_n 3, 1) := by decide +kernel
theorem dL_law_893 : decode cL_law 893 = .ok (.iconst 1, 1) := by decide +kernel
theorem dL_law_894 : decode cL_law 894 = .ok (.iadd, 1) := by decide +kernel
theorem dL_law_895 : decode cL_law 895 = .ok (.iaload, 1) := by decide +kernel
theorem dL_law_896 : decode cL_law 896 = .ok (.invokevirtual 117, 3) := by decide +kernel
theorem dL_law_899 : decode cL_law 899 = .ok (.aload_n 2, 1) := by decide +kernel
theorem dL_law_900 : decode cL_law 900 = .ok (.aload_n 0, 1) := by decide +kernel
theorem dL_law_901 : decode cL_law 901 = .ok (.iload_n 3, 1) := by decide +kernel
theorem dL_law_902 : decode cL_law 902 = .ok (.iconst 1, 1) := by decide +kernel
theorem dL_law_903 : decode cL_law 903 = .ok (.iadd, 1) := by decide +kernel
theorem dL_law_904 : decode cL_law 904 = .ok (.iaload, 1) := by decide +kernel
theorem dL_law_905 : decode cL_law 905 = .ok (.invokevirtual 120, 3) := by decide +kernel
theorem dL_law_908 : decode cL_law 908 = .ok (.if_icmp .eq 5, 3) := by decide +kernel
theorem dL_law_911 : decode cL_law 911 = .ok (.iconst 0, 1) := by decide +kernel
theorem dL_law_912 : decode cL_law 912 = .ok (.ireturn, 1) := by decide +kernel
theorem dL_law_913 : decode cL_law 913 = .ok (.iinc 3 5, 3) := by decide +kernel
theorem dL_law_916 : decode cL_law 916 = .ok (.goto (-898), 3) := by decide +kernel
theorem dL_law_919 : decode cL_law 919 = .ok (.iconst 1, 1) := by decide +kernel
theorem dL_law_920 : decode cL_law 920 = .ok (.ireturn, 1) := by decide +kernel
end
section
theorem dX3_kindOf_24 : decode cX3_kindOf 24 = .ok (.aload_n 0, 1) := by decide +kernel
theorem dX3_kindOf_25 : decode cX3_kindOf 25 = .ok (.iload_n 1, 1) := by decide +kernel
theorem dX3_kindOf_26 : decode cX3_kindOf 26 = .ok (.iload 4, 2) := by decide +kernel
theorem dX3_kindOf_28 : decode cX3_kindOf 28 = .ok (.invokevirtual 42, 3) := by decide +kernel
theorem dX3_kindOf_31 : decode cX3_kindOf 31 = .ok (.iload_n 3, 1) := by decide +kernel
theorem dX3_kindOf_32 : decode cX3_kindOf 32 = .ok (.iadd, 1) := by decide +kernel
theorem dX3_kindOf_33 : decode cX3_kindOf 33 = .ok (.istore 6, 2) := by decide +kernel
theorem dX3_kindOf_35 : decode cX3_kindOf 35 = .ok (.iconst 0, 1) := by decide +kernel
theorem dX3_kindOf_36 : decode cX3_kindOf 36 = .ok (.istore 7, 2) := by decide +kernel
theorem dX3_kindOf_38 : decode cX3_kindOf 38 = .ok (.iload 7, 2) := by decide +kernel
theorem dX3_kindOf_40 : decode cX3_kindOf 40 = .ok (.iload 4, 2) := by decide +kernel
theorem dX3_kindOf_42 : decode cX3_kindOf 42 = .ok (.if_icmp .ge 46, 3) := by decide +kernel
theorem dX3_kindOf_45 : decode cX3_kindOf 45 = .ok (.aload_n 0, 1) := by decide +kernel
theorem dX3_kindOf_46 : decode cX3_kindOf 46 = .ok (.iload_n 1, 1) := by decide +kernel
theorem dX3_kindOf_47 : decode cX3_kindOf 47 = .ok (.iload 7, 2) := by decide +kernel
theorem dX3_kindOf_49 : decode cX3_kindOf 49 = .ok (.iload_n 2, 1) := by decide +kernel
theorem dX3_kindOf_50 : decode cX3_kindOf 50 = .ok (.invokevirtual 46, 3) := by decide +kernel
theorem dX3_kindOf_53 : decode cX3_kindOf 53 = .ok (.ifCond .eq 29, 3) := by decide +kernel
theorem dX3_kindOf_56 : decode cX3_kindOf 56 = .ok (.aload_n 0, 1) := by decide +kernel
theorem dX3_kindOf_57 : decode cX3_kindOf 57 = .ok (.iload_n 1, 1) := by decide +kernel
theorem dX3_kindOf_58 : decode cX3_kindOf 58 = .ok (.iload 7, 2) := by decide +kernel
theorem dX3_kindOf_60 : decode cX3_kindOf 60 = .ok (.invokevirtual 58, 3) := by decide +kernel
theorem dX3_kindOf_63 : decode cX3_kindOf 63 = .ok (.iload 5, 2) := by decide +kernel
theorem dX3_kindOf_65 : decode cX3_kindOf 65 = .ok (.if_icmp .eq 17, 3) := by decide +kernel
theorem dX3_kindOf_68 : decode cX3_kindOf 68 = .ok (.aload_n 0, 1) := by decide +kernel
theorem dX3_kindOf_69 : decode cX3_kindOf 69 = .ok (.iload_n 1, 1) := by decide +kernel
theorem dX3_kindOf_70 : decode cX3_kindOf 70 = .ok (.iload 7, 2) := by decide +kernel
theorem dX3_kindOf_72 : decode cX3_kindOf 72 = .ok (.invokevirtual 42, 3) := by decide +kernel
theorem dX3_kindOf_75 : decode cX3_kindOf 75 = .ok (.iload 6, 2) := by decide +kernel
theorem dX3_kindOf_77 : decode cX3_kindOf 77 = .ok (.if_icmp .le 5, 3) := by decide +kernel
theorem dX3_kindOf_80 : decode cX3_kindOf 80 = .ok (.iconst 2, 1) := by decide +kernel
theorem dX3_kindOf_81 : decode cX3_kindOf 81 = .ok (.ireturn, 1) := by decide +kernel
theorem dX3_kindOf_82 : decode cX3_kindOf 82 = .ok (.iinc 7 1, 3) := by decide +kernel
theorem dX3_kindOf_85 : decode cX3_kindOf 85 = .ok (.goto (-47), 3) := by decide +kernel
theorem dX3_kindOf_88 : decode cX3_kindOf 88 = .ok (.iconst 1, 1) := by decide +kernel
theorem dX3_kindOf_89 : decode cX3_kindOf 89 = .ok (.ireturn, 1) := by decide +kernel
theorem dX3_allMarks_0 : decode cX3_allMarks 0 = .ok (.iconst 0, 1) := by decide +kernel
theorem dX3_allMarks_1 : decode cX3_allMarks 1 = .ok (.istore_n 1, 1) := by decide +kernel
theorem dX3_allMarks_2 : decode cX3_allMarks 2 = .ok (.iconst 0, 1) := by decide +kernel
theorem dX3_allMarks_3 : decode cX3_allMarks 3 = .ok (.istore_n 2, 1) := by decide +kernel
theorem dX3_allMarks_4 : decode cX3_allMarks 4 = .ok (.iload_n 2, 1) := by decide +kernel
theorem dX3_allMarks_5 : decode cX3_allMarks 5 = .ok (.bipush 10, 2) := by decide +kernel
theorem dX3_allMarks_7 : decode cX3_allMarks 7 = .ok (.if_icmp .ge 18, 3) := by decide +kernel
theorem dX3_allMarks_10 : decode cX3_allMarks 10 = .ok (.iload_n 1, 1) := by decide +kernel
theorem dX3_allMarks_11 : decode cX3_allMarks 11 = .ok (.aload_n 0, 1) := by decide +kernel
theorem dX3_allMarks_12 : decode cX3_allMarks 12 = .ok (.getfield 21, 3) := by decide +kernel
theorem dX3_allMarks_15 : decode cX3_allMarks 15 = .ok (.iload_n 2, 1) := by decide +kernel
theorem dX3_allMarks_16 : decode cX3_allMarks 16 = .ok (.iaload, 1) := by decide +kernel
theorem dX3_allMarks_17 : decode cX3_allMarks 17 = .ok (.iadd, 1) := by decide +kernel
theorem dX3_allMarks_18 : decode cX3_allMarks 18 = .ok (.istore_n 1, 1) := by decide +kernel
theorem dX3_allMarks_19 : decode cX3_allMarks 19 = .ok (.iinc 2 1, 3) := by decide +kernel
theorem dX3_allMarks_22 : decode cX3_allMarks 22 = .ok (.goto (-18), 3) := by decide +kernel
theorem dX3_allMarks_25 : decode cX3_allMarks 25 = .ok (.iload_n 1, 1) := by decide +kernel
theorem dX3_allMarks_26 : decode cX3_allMarks 26 = .ok (.ireturn, 1) := by decide +kernel
theorem dX3_struckMarks_0 : decode cX3_struckMarks 0 = .ok (.iconst 0, 1) := by decide +kernel
theorem dX3_struckMarks_1 : decode cX3_struckMarks 1 = .ok (.istore_n 1, 1) := by decide +kernel
theorem dX3_struckMarks_2 : decode cX3_struckMarks 2 = .ok (.iconst 0, 1) := by decide +kernel
theorem dX3_struckMarks_3 : decode cX3_struckMarks 3 = .ok (.istore_n 2, 1) := by decide +kernel
theorem dX3_struckMarks_4 : decode cX3_struckMarks 4 = .ok (.iload_n 2, 1) := by decide +kernel
theorem dX3_struckMarks_5 : decode cX3_struckMarks 5 = .ok (.bipush 10, 2) := by decide +kernel
theorem dX3_struckMarks_7 : decode cX3_struckMarks 7 = .ok (.if_icmp .ge 39, 3) := by decide +kernel
theorem dX3_struckMarks_10 : decode cX3_struckMarks 10 = .ok (.iconst 0, 1) := by decide +kernel
theorem dX3_struckMarks_11 : decode cX3_struckMarks 11 = .ok (.istore_n 3, 1) := by decide +kernel
theorem dX3_struckMarks_12 : decode cX3_struckMarks 12 = .ok (.iload_n 3, 1) := by decide +kernel
theorem dX3_struckMarks_13 : decode cX3_struckMarks 13 = .ok (.aload_n 0, 1) := by decide +kernel
theorem dX3_struckMarks_14 : decode cX3_struckMarks 14 = .ok (.getfield 21, 3) := by decide +kernel
theorem dX3_struckMarks_17 : decode cX3_struckMarks 17 = .ok (.iload_n 2, 1) := by decide +kernel
theorem dX3_struckMarks_18 : decode cX3_struckMarks 18 = .ok (.iaload, 1) := by decide +kernel
theorem dX3_struckMarks_19 : decode cX3_struckMarks 19 = .ok (.if_icmp .ge 21, 3) := by decide +kernel
theorem dX3_struckMarks_22 : decode cX3_struckMarks 22 = .ok (.aload_n 0, 1) := by decide +kernel
theorem dX3_struckMarks_23 : decode cX3_struckMarks 23 = .ok (.iload_n 2, 1) := by decide +kernel
theorem dX3_struckMarks_24 : decode cX3_struckMarks 24 = .ok (.iload_n 3, 1) := by decide +kernel
theorem dX3_struckMarks_25 : decode cX3_struckMarks 25 = .ok (.invokevirtual 38, 3) := by decide +kernel
theorem dX3_struckMarks_28 : decode cX3_struckMarks 28 = .ok (.ifCond .eq 6, 3) := by decide +kernel
theorem dX3_struckMarks_31 : decode cX3_struckMarks 31 = .ok (.iinc 1 1, 3) := by decide +kernel
theorem dX3_struckMarks_34 : decode cX3_struckMarks 34 = .ok (.iinc 3 1, 3) := by decide +kernel
theorem dX3_struckMarks_37 : decode cX3_struckMarks 37 = .ok (.goto (-25), 3) := by decide +kernel
theorem dX3_struckMarks_40 : decode cX3_struckMarks 40 = .ok (.iinc 2 1, 3) := by decide +kernel
theorem dX3_struckMarks_43 : decode cX3_struckMarks 43 = .ok (.goto (-39), 3) := by decide +kernel
theorem dX3_struckMarks_46 : decode cX3_struckMarks 46 = .ok (.iload_n 1, 1) := by decide +kernel
theorem dX3_struckMarks_47 : decode cX3_struckMarks 47 = .ok (.ireturn, 1) := by decide +kernel
end
section
theorem dX4_init_0 : decode cX4_init 0 = .ok (.aload_n 0, 1) := by decide +kernel
theorem dX4_init_1 : decode cX4_init 1 = .ok (.invokespecial 3, 3) := by decide +kernel
theorem dX4_init_4 : decode cX4_init 4 = .ok (.aload_n 0, 1) := by decide +kernel
theorem dX4_init_5 : decode cX4_init 5 = .ok (.iconst 5, 1) := by decide +kernel
theorem dX4_init_6 : decode cX4_init 6 = .ok (.anewarray 9, 3) := by decide +kernel
theorem dX4_init_9 : decode cX4_init 9 = .ok (.putfield 11, 3) := by decide +kernel
theorem dX4_init_12 : decode cX4_init 12 = .ok (.aload_n 0, 1) := by decide +kernel
theorem dX4_init_13 : decode cX4_init 13 = .ok (.iconst 2, 1) := by decide +kernel
theorem dX4_init_14 : decode cX4_init 14 = .ok (.newarray .int, 2) := by decide +kernel
theorem dX4_init_16 : decode cX4_init 16 = .ok (.dup, 1) := by decide +kernel
theorem dX4_init_17 : decode cX4_init 17 = .ok (.iconst 0, 1) := by decide +kernel
theorem dX4_init_18 : decode cX4_init 18 = .ok (.iconst 2, 1) := by decide +kernel
theorem dX4_init_19 : decode cX4_init 19 = .ok (.iastore, 1) := by decide +kernel
theorem dX4_init_20 : decode cX4_init 20 = .ok (.dup, 1) := by decide +kernel
theorem dX4_init_21 : decode cX4_init 21 = .ok (.iconst 1, 1) := by decide +kernel
theorem dX4_init_22 : decode cX4_init 22 = .ok (.iconst 1, 1) := by decide +kernel
theorem dX4_init_23 : decode cX4_init 23 = .ok (.iastore, 1) := by decide +kernel
theorem dX4_init_24 : decode cX4_init 24 = .ok (.putfield 17, 3) := by decide +kernel
theorem dX4_init_27 : decode cX4_init 27 = .ok (.aload_n 0, 1) := by decide +kernel
theorem dX4_init_28 : decode cX4_init 28 = .ok (.iconst 0, 1) := by decide +kernel
theorem dX4_init_29 : decode cX4_init 29 = .ok (.putfield 21, 3) := by decide +kernel
theorem dX4_init_32 : decode cX4_init 32 = .ok (.aload_n 0, 1) := by decide +kernel
theorem dX4_init_33 : decode cX4_init 33 = .ok (.iconst 4, 1) := by decide +kernel
theorem dX4_init_34 : decode cX4_init 34 = .ok (.putfield 25, 3) := by decide +kernel
theorem dX4_init_37 : decode cX4_init 37 = .ok (.aload_n 0, 1) := by decide +kernel
theorem dX4_init_38 : decode cX4_init 38 = .ok (.iconst 5, 1) := by decide +kernel
theorem dX4_init_39 : decode cX4_init 39 = .ok (.newarray .int, 2) := by decide +kernel
theorem dX4_init_41 : decode cX4_init 41 = .ok (.putfield 28, 3) := by decide +kernel
theorem dX4_init_44 : decode cX4_init 44 = .ok (.iconst 0, 1) := by decide +kernel
theorem dX4_init_45 : decode cX4_init 45 = .ok (.istore_n 1, 1) := by decide +kernel
theorem dX4_init_46 : decode cX4_init 46 = .ok (.iload_n 1, 1) := by decide +kernel
theorem dX4_init_47 : decode cX4_init 47 = .ok (.iconst 5, 1) := by decide +kernel
theorem dX4_init_48 : decode cX4_init 48 = .ok (.if_icmp .ge 22, 3) := by decide +kernel
theorem dX4_init_51 : decode cX4_init 51 = .ok (.aload_n 0, 1) := by decide +kernel
theorem dX4_init_52 : decode cX4_init 52 = .ok (.getfield 11, 3) := by decide +kernel
theorem dX4_init_55 : decode cX4_init 55 = .ok (.iload_n 1, 1) := by decide +kernel
theorem dX4_init_56 : decode cX4_init 56 = .ok (.new 9, 3) := by decide +kernel
theorem dX4_init_59 : decode cX4_init 59 = .ok (.dup, 1) := by decide +kernel
theorem dX4_init_60 : decode cX4_init 60 = .ok (.invokespecial 31, 3) := by decide +kernel
theorem dX4_init_63 : decode cX4_init 63 = .ok (.aastore, 1) := by decide +kernel
theorem dX4_init_64 : decode cX4_init 64 = .ok (.iinc 1 1, 3) := by decide +kernel
theorem dX4_init_67 : decode cX4_init 67 = .ok (.goto (-21), 3) := by decide +kernel
theorem dX4_init_70 : decode cX4_init 70 = .ok (.return_, 1) := by decide +kernel
theorem dX4_copyFrom_0 : decode cX4_copyFrom 0 = .ok (.iconst 0, 1) := by decide +kernel
theorem dX4_copyFrom_1 : decode cX4_copyFrom 1 = .ok (.istore_n 2, 1) := by decide +kernel
theorem dX4_copyFrom_2 : decode cX4_copyFrom 2 = .ok (.iload_n 2, 1) := by decide +kernel
theorem dX4_copyFrom_3 : decode cX4_copyFrom 3 = .ok (.iconst 5, 1) := by decide +kernel
theorem dX4_copyFrom_4 : decode cX4_copyFrom 4 = .ok (.if_icmp .ge 24, 3) := by decide +kernel
theorem dX4_copyFrom_7 : decode cX4_copyFrom 7 = .ok (.aload_n 0, 1) := by decide +kernel
theorem dX4_copyFrom_8 : decode cX4_copyFrom 8 = .ok (.getfield 11, 3) := by decide +kernel
theorem dX4_copyFrom_11 : decode cX4_copyFrom 11 = .ok (.iload_n 2, 1) := by decide +kernel
theorem dX4_copyFrom_12 : decode cX4_copyFrom 12 = .ok (.aaload, 1) := by decide +kernel
theorem dX4_copyFrom_13 : decode cX4_copyFrom 13 = .ok (.aload_n 1, 1) := by decide +kernel
theorem dX4_copyFrom_14 : decode cX4_copyFrom 14 = .ok (.getfield 11, 3) := by decide +kernel
theorem dX4_copyFrom_17 : decode cX4_copyFrom 17 = .ok (.iload_n 2, 1) := by decide +kernel
theorem dX4_copyFrom_18 : decode cX4_copyFrom 18 = .ok (.aaload, 1) := by decide +kernel
theorem dX4_copyFrom_19 : decode cX4_copyFrom 19 = .ok (.invokevirtual 32, 3) := by decide +kernel
theorem dX4_copyFrom_22 : decode cX4_copyFrom 22 = .ok (.iinc 2 1, 3) := by decide +kernel
theorem dX4_copyFrom_25 : decode cX4_copyFrom 25 = .ok (.goto (-23), 3) := by decide +kernel
theorem dX4_copyFrom_28 : decode cX4_copyFrom 28 = .ok (.aload_n 0, 1) := by decide +kernel
theorem dX4_copyFrom_29 : decode cX4_copyFrom 29 = .ok (.getfield 17, 3) := by decide +kernel
theorem dX4_copyFrom_32 : decode cX4_copyFrom 32 = .ok (.iconst 0, 1) := by decide +kernel
theorem dX4_copyFrom_33 : decode cX4_copyFrom 33 = .ok (.aload_n 1, 1) := by decide +kernel
theorem dX4_copyFrom_34 : decode cX4_copyFrom 34 = .ok (.getfield 17, 3) := by decide +kernel
theorem dX4_copyFrom_37 : decode cX4_copyFrom 37 = .ok (.iconst 0, 1) := by decide +kernel
theorem dX4_copyFrom_38 : decode cX4_copyFrom 38 = .ok (.iaload, 1) := by decide +kernel
theorem dX4_copyFrom_39 : decode cX4_copyFrom 39 = .ok (.iastore, 1) := by decide +kernel
theorem dX4_copyFrom_40 : decode cX4_copyFrom 40 = .ok (.aload_n 0, 1) := by decide +kernel
theorem dX4_copyFrom_41 : decode cX4_copyFrom 41 = .ok (.getfield 17, 3) := by decide +kernel
theorem dX4_copyFrom_44 : decode cX4_copyFrom 44 = .ok (.iconst 1, 1) := by decide +kernel
theorem dX4_copyFrom_45 : decode cX4_copyFrom 45 = .ok (.aload_n 1, 1) := by decide +kernel
theorem dX4_copyFrom_46 : decode cX4_copyFrom 46 = .ok (.getfield 17, 3) := by decide +kernel
theorem dX4_copyFrom_49 : decode cX4_copyFrom 49 = .ok (.iconst 1, 1) := by decide +kernel
theorem dX4_copyFrom_50 : decode cX4_copyFrom 50 = .ok (.iaload, 1) := by decide +kernel
theorem dX4_copyFrom_51 : decode cX4_copyFrom 51 = .ok (.iastore, 1) := by decide +kernel
theorem dX4_copyFrom_52 : decode cX4_copyFrom 52 = .ok (.aload_n 0, 1) := by decide +kernel
theorem dX4_copyFrom_53 : decode cX4_copyFrom 53 = .ok (.aload_n 1, 1) := by decide +kernel
theorem dX4_copyFrom_54 : decode cX4_copyFrom 54 = .ok (.getfield 21, 3) := by decide +kernel
theorem dX4_copyFrom_57 : decode cX4_copyFrom 57 = .ok (.putfield 21, 3) := by decide +kernel
theorem dX4_copyFrom_60 : decode cX4_copyFrom 60 = .ok (.aload_n 0, 1) := by decide +kernel
theorem dX4_copyFrom_61 : decode cX4_copyFrom 61 = .ok (.aload_n 1, 1) := by decide +kernel
theorem dX4_copyFrom_62 : decode cX4_copyFrom 62 = .ok (.getfield 25, 3) := by decide +kernel
theorem dX4_copyFrom_65 : decode cX4_copyFrom 65 = .ok (.putfield 25, 3) := by decide +kernel
theorem dX4_copyFrom_68 : decode cX4_copyFrom 68 = .ok (.return_, 1) := by decide +kernel
theorem dX4_isStackEmpty_0 : decode cX4_isStackEmpty 0 = .ok (.aload_n 0, 1) := by decide +kernel
theorem dX4_isStackEmpty_1 : decode cX4_isStackEmpty 1 = .ok (.getfield 21, 3) := by decide +kernel
theorem dX4_isStackEmpty_4 : decode cX4_isStackEmpty 4 = .ok (.aload_n 0, 1) := by decide +kernel
theorem dX4_isStackEmpty_5 : decode cX4_isStackEmpty 5 = .ok (.getfield 25, 3) := by decide +kernel
theorem dX4_isStackEmpty_8 : decode cX4_isStackEmpty 8 = .ok (.if_icmp .le 7, 3) := by decide +kernel
theorem dX4_isStackEmpty_11 : decode cX4_isStackEmpty 11 = .ok (.iconst 1, 1) := by decide +kernel
theorem dX4_isStackEmpty_12 : decode cX4_isStackEmpty 12 = .ok (.goto 4, 3) := by decide +kernel
theorem dX4_isStackEmpty_15 : decode cX4_isStackEmpty 15 = .ok (.iconst 0, 1) := by decide +kernel
theorem dX4_isStackEmpty_16 : decode cX4_isStackEmpty 16 = .ok (.ireturn, 1) := by decide +kernel
theorem dX4_isInStack_0 : decode cX4_isInStack 0 = .ok (.iload_n 1, 1) := by decide +kernel
theorem dX4_isInStack_1 : decode cX4_isInStack 1 = .ok (.aload_n 0, 1) := by decide +kernel
theorem dX4_isInStack_2 : decode cX4_isInStack 2 = .ok (.getfield 21, 3) := by decide +kernel
theorem dX4_isInStack_5 : decode cX4_isInStack 5 = .ok (.if_icmp .lt 15, 3) := by decide +kernel
theorem dX4_isInStack_8 : decode cX4_isInStack 8 = .ok (.iload_n 1, 1) := by decide +kernel
theorem dX4_isInStack_9 : decode cX4_isInStack 9 = .ok (.aload_n 0, 1) := by decide +kernel
theorem dX4_isInStack_10 : decode cX4_isInStack 10 = .ok (.getfield 25, 3) := by decide +kernel
theorem dX4_isInStack_13 : decode cX4_isInStack 13 = .ok (.if_icmp .gt 7, 3) := by decide +kernel
theorem dX4_isInStack_16 : decode cX4_isInStack 16 = .ok (.iconst 1, 1) := by decide +kernel
theorem dX4_isInStack_17 : decode cX4_isInStack 17 = .ok (.goto 4, 3) := by decide +kernel
theorem dX4_isInStack_20 : decode cX4_isInStack 20 = .ok (.iconst 0, 1) := by decide +kernel
theorem dX4_isInStack_21 : decode cX4_isInStack 21 = .ok (.ireturn, 1) := by decide +kernel
theorem dX4_stack_0 : decode cX4_stack 0 = .ok (.iconst 0, 1) := by decide +kernel
theorem dX4_stack_1 : decode cX4_stack 1 = .ok (.istore_n 1, 1) := by decide +kernel
theorem dX4_stack_2 : decode cX4_stack 2 = .ok (.iconst 0, 1) := by decide +kernel
theorem dX4_stack_3 : decode cX4_stack 3 = .ok (.istore_n 2, 1) := by decide +kernel
theorem dX4_stack_4 : decode cX4_stack 4 = .ok (.iload_n 2, 1) := by decide +kernel
theorem dX4_stack_5 : decode cX4_stack 5 = .ok (.iconst 5, 1) := by decide +kernel
theorem dX4_stack_6 : decode cX4_stack 6 = .ok (.if_icmp .ge 23, 3) := by decide +kernel
theorem dX4_stack_9 : decode cX4_stack 9 = .ok (.aload_n 0, 1) := by decide +kernel
theorem dX4_stack_10 : decode cX4_stack 10 = .ok (.iload_n 2, 1) := by decide +kernel
theorem dX4_stack_11 : decode cX4_stack 11 = .ok (.invokevirtual 36, 3) := by decide +kernel
theorem dX4_stack_14 : decode cX4_stack 14 = .ok (.ifCond .eq 9, 3) := by decide +kernel
theorem dX4_stack_17 : decode cX4_stack 17 = .ok (.iload_n 1, 1) := by decide +kernel
theorem dX4_stack_18 : decode cX4_stack 18 = .ok (.iconst 1, 1) := by decide +kernel
theorem dX4_stack_19 : decode cX4_stack 19 = .ok (.iload_n 2, 1) := by decide +kernel
theorem dX4_stack_20 : decode cX4_stack 20 = .ok (.ishl, 1) := by decide +kernel
theorem dX4_stack_21 : decode cX4_stack 21 = .ok (.ior, 1) := by decide +kernel
theorem dX4_stack_22 : decode cX4_stack 22 = .ok (.istore_n 1, 1) := by decide +kernel
theorem dX4_stack_23 : decode cX4_stack 23 = .ok (.iinc 2 1, 3) := by decide +kernel
theorem dX4_stack_26 : decode cX4_stack 26 = .ok (.goto (-22), 3) := by decide +kernel
theorem dX4_stack_29 : decode cX4_stack 29 = .ok (.iload_n 1, 1) := by decide +kernel
theorem dX4_stack_30 : decode cX4_stack 30 = .ok (.ireturn, 1) := by decide +kernel
theorem dX4_noteIfApart_0 : decode cX4_noteIfApart 0 = .ok (.aload_n 0, 1) := by decide +kernel
theorem dX4_noteIfApart_1 : decode cX4_noteIfApart 1 = .ok (.iload_n 1, 1) := by decide +kernel
theorem dX4_noteIfApart_2 : decode cX4_noteIfApart 2 = .ok (.invokevirtual 36, 3) := by decide +kernel
theorem dX4_noteIfApart_5 : decode cX4_noteIfApart 5 = .ok (.ifCond .ne 20, 3) := by decide +kernel
theorem dX4_noteIfApart_8 : decode cX4_noteIfApart 8 = .ok (.aload_n 0, 1) := by decide +kernel
theorem dX4_noteIfApart_9 : decode cX4_noteIfApart 9 = .ok (.getfield 11, 3) := by decide +kernel
theorem dX4_noteIfApart_12 : decode cX4_noteIfApart 12 = .ok (.iload_n 1, 1) := by decide +kernel
theorem dX4_noteIfApart_13 : decode cX4_noteIfApart 13 = .ok (.aaload, 1) := by decide +kernel
theorem dX4_noteIfApart_14 : decode cX4_noteIfApart 14 = .ok (.dup, 1) := by decide +kernel
theorem dX4_noteIfApart_15 : decode cX4_noteIfApart 15 = .ok (.getfield 40, 3) := by decide +kernel
theorem dX4_noteIfApart_18 : decode cX4_noteIfApart 18 = .ok (.iconst 1, 1) := by decide +kernel
theorem dX4_noteIfApart_19 : decode cX4_noteIfApart 19 = .ok (.iload_n 2, 1) := by decide +kernel
theorem dX4_noteIfApart_20 : decode cX4_noteIfApart 20 = .ok (.ishl, 1) := by decide +kernel
theorem dX4_noteIfApart_21 : decode cX4_noteIfApart 21 = .ok (.ior, 1) := by decide +kernel
theorem dX4_noteIfApart_22 : decode cX4_noteIfApart 22 = .ok (.putfield 40, 3) := by decide +kernel
theorem dX4_noteIfApart_25 : decode cX4_noteIfApart 25 = .ok (.return_, 1) := by decide +kernel
theorem dX4_measure_0 : decode cX4_measure 0 = .ok (.iload_n 1, 1) := by decide +kernel
theorem dX4_measure_1 : decode cX4_measure 1 = .ok (.istore_n 2, 1) := by decide +kernel
theorem dX4_measure_2 : decode cX4_measure 2 = .ok (.iconst 0, 1) := by decide +kernel
theorem dX4_measure_3 : decode cX4_measure 3 = .ok (.istore_n 3, 1) := by decide +kernel
theorem dX4_measure_4 : decode cX4_measure 4 = .ok (.iload_n 3, 1) := by decide +kernel
theorem dX4_measure_5 : decode cX4_measure 5 = .ok (.iconst 5, 1) := by decide +kernel
theorem dX4_measure_6 : decode cX4_measure 6 = .ok (.if_icmp .ge 75, 3) := by decide +kernel
theorem dX4_measure_9 : decode cX4_measure 9 = .ok (.aload_n 0, 1) := by decide +kernel
theorem dX4_measure_10 : decode cX4_measure 10 = .ok (.getfield 28, 3) := by decide +kernel
theorem dX4_measure_13 : decode cX4_measure 13 = .ok (.iload_n 3, 1) := by decide +kernel
theorem dX4_measure_14 : decode cX4_measure 14 = .ok (.iconst 0, 1) := by decide +kernel
theorem dX4_measure_15 : decode cX4_measure 15 = .ok (.iastore, 1) := by decide +kernel
theorem dX4_measure_16 : decode cX4_measure 16 = .ok (.aload_n 0, 1) := by decide +kernel
theorem dX4_measure_17 : decode cX4_measure 17 = .ok (.iload_n 3, 1) := by decide +kernel
theorem dX4_measure_18 : decode cX4_measure 18 = .ok (.invokevirtual 36, 3) := by decide +kernel
theorem dX4_measure_21 : decode cX4_measure 21 = .ok (.ifCond .eq 54, 3) := by decide +kernel
theorem dX4_measure_24 : decode cX4_measure 24 = .ok (.aload_n 0, 1) := by decide +kernel
theorem dX4_measure_25 : decode cX4_measure 25 = .ok (.getfield 28, 3) := by decide +kernel
theorem dX4_measure_28 : decode cX4_measure 28 = .ok (.iload_n 3, 1) := by decide +kernel
theorem dX4_measure_29 : decode cX4_measure 29 = .ok (.iload_n 2, 1) := by decide +kernel
theorem dX4_measure_30 : decode cX4_measure 30 = .ok (.iastore, 1) := by decide +kernel
theorem dX4_measure_31 : decode cX4_measure 31 = .ok (.aload_n 0, 1) := by decide +kernel
theorem dX4_measure_32 : decode cX4_measure 32 = .ok (.getfield 11, 3) := by decide +kernel
theorem dX4_measure_35 : decode cX4_measure 35 = .ok (.iload_n 3, 1) := by decide +kernel
theorem dX4_measure_36 : decode cX4_measure 36 = .ok (.aaload, 1) := by decide +kernel
theorem dX4_measure_37 : decode cX4_measure 37 = .ok (.getfield 43, 3) := by decide +kernel
theorem dX4_measure_40 : decode cX4_measure 40 = .ok (.ifCond .le 7, 3) := by decide +kernel
theorem dX4_measure_43 : decode cX4_measure 43 = .ok (.iconst 1, 1) := by decide +kernel
theorem dX4_measure_44 : decode cX4_measure 44 = .ok (.goto 4, 3) := by decide +kernel
theorem dX4_measure_47 : decode cX4_measure 47 = .ok (.iconst 0, 1) := by decide +kernel
theorem dX4_measure_48 : decode cX4_measure 48 = .ok (.istore 4, 2) := by decide +kernel
theorem dX4_measure_50 : decode cX4_measure 50 = .ok (.iload 4, 2) := by decide +kernel
theorem dX4_measure_52 : decode cX4_measure 52 = .ok (.ifCond .eq 21, 3) := by decide +kernel
theorem dX4_measure_55 : decode cX4_measure 55 = .ok (.iconst 0, 1) := by decide +kernel
theorem dX4_measure_56 : decode cX4_measure 56 = .ok (.iload_n 2, 1) := by decide +kernel
theorem dX4_measure_57 : decode cX4_measure 57 = .ok (.aload_n 0, 1) := by decide +kernel
theorem dX4_measure_58 : decode cX4_measure 58 = .ok (.getfield 11, 3) := by decide +kernel
theorem dX4_measure_61 : decode cX4_measure 61 = .ok (.iload_n 3, 1) := by decide +kernel
theorem dX4_measure_62 : decode cX4_measure 62 = .ok (.aaload, 1) := by decide +kernel
theorem dX4_measure_63 : decode cX4_measure 63 = .ok (.getfield 46, 3) := by decide +kernel
theorem dX4_measure_66 : decode cX4_measure 66 = .ok (.isub, 1) := by decide +kernel
theorem dX4_measure_67 : decode cX4_measure 67 = .ok (.invokestatic 49, 3) := by decide +kernel
theorem dX4_measure_70 : decode cX4_measure 70 = .ok (.goto 4, 3) := by decide +kernel
theorem dX4_measure_73 : decode cX4_measure 73 = .ok (.iconst 0, 1) := by decide +kernel
theorem dX4_measure_74 : decode cX4_measure 74 = .ok (.istore_n 2, 1) := by decide +kernel
theorem dX4_measure_75 : decode cX4_measure 75 = .ok (.iinc 3 1, 3) := by decide +kernel
theorem dX4_measure_78 : decode cX4_measure 78 = .ok (.goto (-74), 3) := by decide +kernel
theorem dX4_measure_81 : decode cX4_measure 81 = .ok (.return_, 1) := by decide +kernel
theorem dX4_wearCarbons_0 : decode cX4_wearCarbons 0 = .ok (.iconst 0, 1) := by decide +kernel
theorem dX4_wearCarbons_1 : decode cX4_wearCarbons 1 = .ok (.istore_n 1, 1) := by decide +kernel
theorem dX4_wearCarbons_2 : decode cX4_wearCarbons 2 = .ok (.iload_n 1, 1) := by decide +kernel
theorem dX4_wearCarbons_3 : decode cX4_wearCarbons 3 = .ok (.iconst 4, 1) := by decide +kernel
theorem dX4_wearCarbons_4 : decode cX4_wearCarbons 4 = .ok (.if_icmp .ge 44, 3) := by decide +kernel
theorem dX4_wearCarbons_7 : decode cX4_wearCarbons 7 = .ok (.aload_n 0, 1) := by decide +kernel
theorem dX4_wearCarbons_8 : decode cX4_wearCarbons 8 = .ok (.getfield 28, 3) := by decide +kernel
theorem dX4_wearCarbons_11 : decode cX4_wearCarbons 11 = .ok (.iload_n 1, 1) := by decide +kernel
theorem dX4_wearCarbons_12 : decode cX4_wearCarbons 12 = .ok (.iaload, 1) := by decide +kernel
theorem dX4_wearCarbons_13 : decode cX4_wearCarbons 13 = .ok (.ifCond .le 29, 3) := by decide +kernel
theorem dX4_wearCarbons_16 : decode cX4_wearCarbons 16 = .ok (.aload_n 0, 1) := by decide +kernel
theorem dX4_wearCarbons_17 : decode cX4_wearCarbons 17 = .ok (.getfield 28, 3) := by decide +kernel
theorem dX4_wearCarbons_20 : decode cX4_wearCarbons 20 = .ok (.iload_n 1, 1) := by decide +kernel
theorem dX4_wearCarbons_21 : decode cX4_wearCarbons 21 = .ok (.iconst 1, 1) := by decide +kernel
theorem dX4_wearCarbons_22 : decode cX4_wearCarbons 22 = .ok (.iadd, 1) := by decide +kernel
theorem dX4_wearCarbons_23 : decode cX4_wearCarbons 23 = .ok (.iaload, 1) := by decide +kernel
theorem dX4_wearCarbons_24 : decode cX4_wearCarbons 24 = .ok (.ifCond .le 18, 3) := by decide +kernel
theorem dX4_wearCarbons_27 : decode cX4_wearCarbons 27 = .ok (.aload_n 0, 1) := by decide +kernel
theorem dX4_wearCarbons_28 : decode cX4_wearCarbons 28 = .ok (.getfield 11, 3) := by decide +kernel
theorem dX4_wearCarbons_31 : decode cX4_wearCarbons 31 = .ok (.iload_n 1, 1) := by decide +kernel
theorem dX4_wearCarbons_32 : decode cX4_wearCarbons 32 = .ok (.aaload, 1) := by decide +kernel
theorem dX4_wearCarbons_33 : decode cX4_wearCarbons 33 = .ok (.dup, 1) := by decide +kernel
theorem dX4_wearCarbons_34 : decode cX4_wearCarbons 34 = .ok (.getfield 43, 3) := by decide +kernel
theorem dX4_wearCarbons_37 : decode cX4_wearCarbons 37 = .ok (.iconst 1, 1) := by decide +kernel
theorem dX4_wearCarbons_38 : decode cX4_wearCarbons 38 = .ok (.isub, 1) := by decide +kernel
theorem dX4_wearCarbons_39 : decode cX4_wearCarbons 39 = .ok (.putfield 43, 3) := by decide +kernel
theorem dX4_wearCarbons_42 : decode cX4_wearCarbons 42 = .ok (.iinc 1 1, 3) := by decide +kernel
theorem dX4_wearCarbons_45 : decode cX4_wearCarbons 45 = .ok (.goto (-43), 3) := by decide +kernel
theorem dX4_wearCarbons_48 : decode cX4_wearCarbons 48 = .ok (.return_, 1) := by decide +kernel
theorem dX4_refusalToWrite_0 : decode cX4_refusalToWrite 0 = .ok (.iload_n 1, 1) := by decide +kernel
theorem dX4_refusalToWrite_1 : decode cX4_refusalToWrite 1 = .ok (.invokestatic 55, 3) := by decide +kernel
theorem dX4_refusalToWrite_4 : decode cX4_refusalToWrite 4 = .ok (.ifCond .ne 5, 3) := by decide +kernel
theorem dX4_refusalToWrite_7 : decode cX4_refusalToWrite 7 = .ok (.iconst (-1), 1) := by decide +kernel
theorem dX4_refusalToWrite_8 : decode cX4_refusalToWrite 8 = .ok (.ireturn, 1) := by decide +kernel
theorem dX4_refusalToWrite_9 : decode cX4_refusalToWrite 9 = .ok (.iload_n 2, 1) := by decide +kernel
theorem dX4_refusalToWrite_10 : decode cX4_refusalToWrite 10 = .ok (.invokestatic 58, 3) := by decide +kernel
theorem dX4_refusalToWrite_13 : decode cX4_refusalToWrite 13 = .ok (.ifCond .eq 10, 3) := by decide +kernel
theorem dX4_refusalToWrite_16 : decode cX4_refusalToWrite 16 = .ok (.iload_n 3, 1) := by decide +kernel
theorem dX4_refusalToWrite_17 : decode cX4_refusalToWrite 17 = .ok (.invokestatic 61, 3) := by decide +kernel
theorem dX4_refusalToWrite_20 : decode cX4_refusalToWrite 20 = .ok (.ifCond .ne 6, 3) := by decide +kernel
theorem dX4_refusalToWrite_23 : decode cX4_refusalToWrite 23 = .ok (.bipush (-2), 2) := by decide +kernel
theorem dX4_refusalToWrite_25 : decode cX4_refusalToWrite 25 = .ok (.ireturn, 1) := by decide +kernel
theorem dX4_refusalToWrite_26 : decode cX4_refusalToWrite 26 = .ok (.aload_n 0, 1) := by decide +kernel
theorem dX4_refusalToWrite_27 : decode cX4_refusalToWrite 27 = .ok (.invokevirtual 64, 3) := by decide +kernel
theorem dX4_refusalToWrite_30 : decode cX4_refusalToWrite 30 = .ok (.ifCond .eq 6, 3) := by decide +kernel
theorem dX4_refusalToWrite_33 : decode cX4_refusalToWrite 33 = .ok (.bipush (-5), 2) := by decide +kernel
theorem dX4_refusalToWrite_35 : decode cX4_refusalToWrite 35 = .ok (.ireturn, 1) := by decide +kernel
theorem dX4_refusalToWrite_36 : decode cX4_refusalToWrite 36 = .ok (.aload_n 0, 1) := by decide +kernel
theorem dX4_refusalToWrite_37 : decode cX4_refusalToWrite 37 = .ok (.iload_n 3, 1) := by decide +kernel
theorem dX4_refusalToWrite_38 : decode cX4_refusalToWrite 38 = .ok (.invokevirtual 68, 3) := by decide +kernel
theorem dX4_refusalToWrite_41 : decode cX4_refusalToWrite 41 = .ok (.iconst 0, 1) := by decide +kernel
theorem dX4_refusalToWrite_42 : decode cX4_refusalToWrite 42 = .ok (.istore 4, 2) := by decide +kernel
theorem dX4_refusalToWrite_44 : decode cX4_refusalToWrite 44 = .ok (.iload 4, 2) := by decide +kernel
theorem dX4_refusalToWrite_46 : decode cX4_refusalToWrite 46 = .ok (.iconst 5, 1) := by decide +kernel
theorem dX4_refusalToWrite_47 : decode cX4_refusalToWrite 47 = .ok (.if_icmp .ge 36, 3) := by decide +kernel
theorem dX4_refusalToWrite_50 : decode cX4_refusalToWrite 50 = .ok (.aload_n 0, 1) := by decide +kernel
theorem dX4_refusalToWrite_51 : decode cX4_refusalToWrite 51 = .ok (.getfield 28, 3) := by decide +kernel
theorem dX4_refusalToWrite_54 : decode cX4_refusalToWrite 54 = .ok (.iload 4, 2) := by decide +kernel
theorem dX4_refusalToWrite_56 : decode cX4_refusalToWrite 56 = .ok (.iaload, 1) := by decide +kernel
theorem dX4_refusalToWrite_57 : decode cX4_refusalToWrite 57 = .ok (.ifCond .le 20, 3) := by decide +kernel
theorem dX4_refusalToWrite_60 : decode cX4_refusalToWrite 60 = .ok (.aload_n 0, 1) := by decide +kernel
theorem dX4_refusalToWrite_61 : decode cX4_refusalToWrite 61 = .ok (.getfield 11, 3) := by decide +kernel
theorem dX4_refusalToWrite_64 : decode cX4_refusalToWrite 64 = .ok (.iload 4, 2) := by decide +kernel
theorem dX4_refusalToWrite_66 : decode cX4_refusalToWrite 66 = .ok (.aaload, 1) := by decide +kernel
theorem dX4_refusalToWrite_67 : decode cX4_refusalToWrite 67 = .ok (.iload_n 1, 1) := by decide +kernel
theorem dX4_refusalToWrite_68 : decode cX4_refusalToWrite 68 = .ok (.invokevirtual 72, 3) := by decide +kernel
theorem dX4_refusalToWrite_71 : decode cX4_refusalToWrite 71 = .ok (.ifCond .ne 6, 3) := by decide +kernel
theorem dX4_refusalToWrite_74 : decode cX4_refusalToWrite 74 = .ok (.bipush (-4), 2) := by decide +kernel
theorem dX4_refusalToWrite_76 : decode cX4_refusalToWrite 76 = .ok (.ireturn, 1) := by decide +kernel
theorem dX4_refusalToWrite_77 : decode cX4_refusalToWrite 77 = .ok (.iinc 4 1, 3) := by decide +kernel
theorem dX4_refusalToWrite_80 : decode cX4_refusalToWrite 80 = .ok (.goto (-36), 3) := by decide +kernel
theorem dX4_refusalToWrite_83 : decode cX4_refusalToWrite 83 = .ok (.iconst 0, 1) := by decide +kernel
theorem dX4_refusalToWrite_84 : decode cX4_refusalToWrite 84 = .ok (.ireturn, 1) := by decide +kernel
theorem dX4_pressValue_0 : decode cX4_pressValue 0 = .ok (.iconst 0, 1) := by decide +kernel
theorem dX4_pressValue_1 : decode cX4_pressValue 1 = .ok (.istore 4, 2) := by decide +kernel
theorem dX4_pressValue_3 : decode cX4_pressValue 3 = .ok (.aload_n 0, 1) := by decide +kernel
theorem dX4_pressValue_4 : decode cX4_pressValue 4 = .ok (.iload_n 3, 1) := by decide +kernel
theorem dX4_pressValue_5 : decode cX4_pressValue 5 = .ok (.invokevirtual 68, 3) := by decide +kernel
theorem dX4_pressValue_8 : decode cX4_pressValue 8 = .ok (.iconst 0, 1) := by decide +kernel
theorem dX4_pressValue_9 : decode cX4_pressValue 9 = .ok (.istore 5, 2) := by decide +kernel
theorem dX4_pressValue_11 : decode cX4_pressValue 11 = .ok (.iload 5, 2) := by decide +kernel
theorem dX4_pressValue_13 : decode cX4_pressValue 13 = .ok (.iconst 5, 1) := by decide +kernel
theorem dX4_pressValue_14 : decode cX4_pressValue 14 = .ok (.if_icmp .ge 41, 3) := by decide +kernel
theorem dX4_pressValue_17 : decode cX4_pressValue 17 = .ok (.aload_n 0, 1) := by decide +kernel
theorem dX4_pressValue_18 : decode cX4_pressValue 18 = .ok (.getfield 28, 3) := by decide +kernel
theorem dX4_pressValue_21 : decode cX4_pressValue 21 = .ok (.iload 5, 2) := by decide +kernel
theorem dX4_pressValue_23 : decode cX4_pressValue 23 = .ok (.iaload, 1) := by decide +kernel
theorem dX4_pressValue_24 : decode cX4_pressValue 24 = .ok (.ifCond .le 25, 3) := by decide +kernel
theorem dX4_pressValue_27 : decode cX4_pressValue 27 = .ok (.aload_n 0, 1) := by decide +kernel
theorem dX4_pressValue_28 : decode cX4_pressValue 28 = .ok (.getfield 11, 3) := by decide +kernel
theorem dX4_pressValue_31 : decode cX4_pressValue 31 = .ok (.iload 5, 2) := by decide +kernel
theorem dX4_pressValue_33 : decode cX4_pressValue 33 = .ok (.aaload, 1) := by decide +kernel
theorem dX4_pressValue_34 : decode cX4_pressValue 34 = .ok (.iload_n 1, 1) := by decide +kernel
theorem dX4_pressValue_35 : decode cX4_pressValue 35 = .ok (.iload_n 2, 1) := by decide +kernel
theorem dX4_pressValue_36 : decode cX4_pressValue 36 = .ok (.aload_n 0, 1) := by decide +kernel
theorem dX4_pressValue_37 : decode cX4_pressValue 37 = .ok (.getfield 28, 3) := by decide +kernel
theorem dX4_pressValue_40 : decode cX4_pressValue 40 = .ok (.iload 5, 2) := by decide +kernel
theorem dX4_pressValue_42 : decode cX4_pressValue 42 = .ok (.iaload, 1) := by decide +kernel
theorem dX4_pressValue_43 : decode cX4_pressValue 43 = .ok (.invokevirtual 75, 3) := by decide +kernel
theorem dX4_pressValue_46 : decode cX4_pressValue 46 = .ok (.iinc 4 1, 3) := by decide +kernel
theorem dX4_pressValue_49 : decode cX4_pressValue 49 = .ok (.iinc 5 1, 3) := by decide +kernel
theorem dX4_pressValue_52 : decode cX4_pressValue 52 = .ok (.goto (-41), 3) := by decide +kernel
theorem dX4_pressValue_55 : decode cX4_pressValue 55 = .ok (.aload_n 0, 1) := by decide +kernel
theorem dX4_pressValue_56 : decode cX4_pressValue 56 = .ok (.invokevirtual 79, 3) := by decide +kernel
theorem dX4_pressValue_59 : decode cX4_pressValue 59 = .ok (.iload 4, 2) := by decide +kernel
theorem dX4_pressValue_61 : decode cX4_pressValue 61 = .ok (.ireturn, 1) := by decide +kernel
theorem dX4_refusalToStrike_0 : decode cX4_refusalToStrike 0 = .ok (.iload_n 1, 1) := by decide +kernel
theorem dX4_refusalToStrike_1 : decode cX4_refusalToStrike 1 = .ok (.invokestatic 55, 3) := by decide +kernel
theorem dX4_refusalToStrike_4 : decode cX4_refusalToStrike 4 = .ok (.ifCond .ne 5, 3) := by decide +kernel
theorem dX4_refusalToStrike_7 : decode cX4_refusalToStrike 7 = .ok (.iconst (-1), 1) := by decide +kernel
theorem dX4_refusalToStrike_8 : decode cX4_refusalToStrike 8 = .ok (.ireturn, 1) := by decide +kernel
theorem dX4_refusalToStrike_9 : decode cX4_refusalToStrike 9 = .ok (.iload_n 2, 1) := by decide +kernel
theorem dX4_refusalToStrike_10 : decode cX4_refusalToStrike 10 = .ok (.invokestatic 61, 3) := by decide +kernel
theorem dX4_refusalToStrike_13 : decode cX4_refusalToStrike 13 = .ok (.ifCond .ne 6, 3) := by decide +kernel
theorem dX4_refusalToStrike_16 : decode cX4_refusalToStrike 16 = .ok (.bipush (-2), 2) := by decide +kernel
theorem dX4_refusalToStrike_18 : decode cX4_refusalToStrike 18 = .ok (.ireturn, 1) := by decide +kernel
theorem dX4_refusalToStrike_19 : decode cX4_refusalToStrike 19 = .ok (.aload_n 0, 1) := by decide +kernel
theorem dX4_refusalToStrike_20 : decode cX4_refusalToStrike 20 = .ok (.invokevirtual 64, 3) := by decide +kernel
theorem dX4_refusalToStrike_23 : decode cX4_refusalToStrike 23 = .ok (.ifCond .eq 8, 3) := by decide +kernel
theorem dX4_refusalToStrike_26 : decode cX4_refusalToStrike 26 = .ok (.bipush (-5), 2) := by decide +kernel
theorem dX4_refusalToStrike_28 : decode cX4_refusalToStrike 28 = .ok (.goto 4, 3) := by decide +kernel
theorem dX4_refusalToStrike_31 : decode cX4_refusalToStrike 31 = .ok (.iconst 0, 1) := by decide +kernel
theorem dX4_refusalToStrike_32 : decode cX4_refusalToStrike 32 = .ok (.ireturn, 1) := by decide +kernel
theorem dX4_pressStroke_0 : decode cX4_pressStroke 0 = .ok (.iconst 0, 1) := by decide +kernel
theorem dX4_pressStroke_1 : decode cX4_pressStroke 1 = .ok (.istore_n 3, 1) := by decide +kernel
theorem dX4_pressStroke_2 : decode cX4_pressStroke 2 = .ok (.aload_n 0, 1) := by decide +kernel
theorem dX4_pressStroke_3 : decode cX4_pressStroke 3 = .ok (.iload_n 2, 1) := by decide +kernel
theorem dX4_pressStroke_4 : decode cX4_pressStroke 4 = .ok (.invokevirtual 68, 3) := by decide +kernel
theorem dX4_pressStroke_7 : decode cX4_pressStroke 7 = .ok (.iconst 0, 1) := by decide +kernel
theorem dX4_pressStroke_8 : decode cX4_pressStroke 8 = .ok (.istore 4, 2) := by decide +kernel
theorem dX4_pressStroke_10 : decode cX4_pressStroke 10 = .ok (.iload 4, 2) := by decide +kernel
theorem dX4_pressStroke_12 : decode cX4_pressStroke 12 = .ok (.iconst 5, 1) := by decide +kernel
theorem dX4_pressStroke_13 : decode cX4_pressStroke 13 = .ok (.if_icmp .ge 30, 3) := by decide +kernel
theorem dX4_pressStroke_16 : decode cX4_pressStroke 16 = .ok (.iload_n 3, 1) := by decide +kernel
theorem dX4_pressStroke_17 : decode cX4_pressStroke 17 = .ok (.aload_n 0, 1) := by decide +kernel
theorem dX4_pressStroke_18 : decode cX4_pressStroke 18 = .ok (.getfield 11, 3) := by decide +kernel
theorem dX4_pressStroke_21 : decode cX4_pressStroke 21 = .ok (.iload 4, 2) := by decide +kernel
theorem dX4_pressStroke_23 : decode cX4_pressStroke 23 = .ok (.aaload, 1) := by decide +kernel
theorem dX4_pressStroke_24 : decode cX4_pressStroke 24 = .ok (.iload_n 1, 1) := by decide +kernel
theorem dX4_pressStroke_25 : decode cX4_pressStroke 25 = .ok (.aload_n 0, 1) := by decide +kernel
theorem dX4_pressStroke_26 : decode cX4_pressStroke 26 = .ok (.getfield 28, 3) := by decide +kernel
theorem dX4_pressStroke_29 : decode cX4_pressStroke 29 = .ok (.iload 4, 2) := by decide +kernel
theorem dX4_pressStroke_31 : decode cX4_pressStroke 31 = .ok (.iaload, 1) := by decide +kernel
theorem dX4_pressStroke_32 : decode cX4_pressStroke 32 = .ok (.invokevirtual 82, 3) := by decide +kernel
theorem dX4_pressStroke_35 : decode cX4_pressStroke 35 = .ok (.iadd, 1) := by decide +kernel
theorem dX4_pressStroke_36 : decode cX4_pressStroke 36 = .ok (.istore_n 3, 1) := by decide +kernel
theorem dX4_pressStroke_37 : decode cX4_pressStroke 37 = .ok (.iinc 4 1, 3) := by decide +kernel
theorem dX4_pressStroke_40 : decode cX4_pressStroke 40 = .ok (.goto (-30), 3) := by decide +kernel
theorem dX4_pressStroke_43 : decode cX4_pressStroke 43 = .ok (.aload_n 0, 1) := by decide +kernel
theorem dX4_pressStroke_44 : decode cX4_pressStroke 44 = .ok (.invokevirtual 79, 3) := by decide +kernel
theorem dX4_pressStroke_47 : decode cX4_pressStroke 47 = .ok (.iload_n 3, 1) := by decide +kernel
theorem dX4_pressStroke_48 : decode cX4_pressStroke 48 = .ok (.ireturn, 1) := by decide +kernel
theorem dX4_refusalToTear_0 : decode cX4_refusalToTear 0 = .ok (.iload_n 1, 1) := by decide +kernel
theorem dX4_refusalToTear_1 : decode cX4_refusalToTear 1 = .ok (.ifCond .eq 11, 3) := by decide +kernel
theorem dX4_refusalToTear_4 : decode cX4_refusalToTear 4 = .ok (.iload_n 1, 1) := by decide +kernel
theorem dX4_refusalToTear_5 : decode cX4_refusalToTear 5 = .ok (.iconst 1, 1) := by decide +kernel
theorem dX4_refusalToTear_6 : decode cX4_refusalToTear 6 = .ok (.if_icmp .eq 6, 3) := by decide +kernel
theorem dX4_refusalToTear_9 : decode cX4_refusalToTear 9 = .ok (.bipush (-2), 2) := by decide +kernel
theorem dX4_refusalToTear_11 : decode cX4_refusalToTear 11 = .ok (.ireturn, 1) := by decide +kernel
theorem dX4_refusalToTear_12 : decode cX4_refusalToTear 12 = .ok (.aload_n 0, 1) := by decide +kernel
theorem dX4_refusalToTear_13 : decode cX4_refusalToTear 13 = .ok (.invokevirtual 64, 3) := by decide +kernel
theorem dX4_refusalToTear_16 : decode cX4_refusalToTear 16 = .ok (.ifCond .eq 8, 3) := by decide +kernel
theorem dX4_refusalToTear_19 : decode cX4_refusalToTear 19 = .ok (.bipush (-5), 2) := by decide +kernel
theorem dX4_refusalToTear_21 : decode cX4_refusalToTear 21 = .ok (.goto 4, 3) := by decide +kernel
theorem dX4_refusalToTear_24 : decode cX4_refusalToTear 24 = .ok (.iconst 0, 1) := by decide +kernel
theorem dX4_refusalToTear_25 : decode cX4_refusalToTear 25 = .ok (.ireturn, 1) := by decide +kernel
theorem dX4_tearOff_0 : decode cX4_tearOff 0 = .ok (.iload_n 1, 1) := by decide +kernel
theorem dX4_tearOff_1 : decode cX4_tearOff 1 = .ok (.ifCond .ne 20, 3) := by decide +kernel
theorem dX4_tearOff_4 : decode cX4_tearOff 4 = .ok (.aload_n 0, 1) := by decide +kernel
theorem dX4_tearOff_5 : decode cX4_tearOff 5 = .ok (.dup, 1) := by decide +kernel
theorem dX4_tearOff_6 : decode cX4_tearOff 6 = .ok (.getfield 21, 3) := by decide +kernel
theorem dX4_tearOff_9 : decode cX4_tearOff 9 = .ok (.iconst 1, 1) := by decide +kernel
theorem dX4_tearOff_10 : decode cX4_tearOff 10 = .ok (.iadd, 1) := by decide +kernel
theorem dX4_tearOff_11 : decode cX4_tearOff 11 = .ok (.putfield 21, 3) := by decide +kernel
theorem dX4_tearOff_14 : decode cX4_tearOff 14 = .ok (.aload_n 0, 1) := by decide +kernel
theorem dX4_tearOff_15 : decode cX4_tearOff 15 = .ok (.getfield 21, 3) := by decide +kernel
theorem dX4_tearOff_18 : decode cX4_tearOff 18 = .ok (.iconst 1, 1) := by decide +kernel
theorem dX4_tearOff_19 : decode cX4_tearOff 19 = .ok (.isub, 1) := by decide +kernel
theorem dX4_tearOff_20 : decode cX4_tearOff 20 = .ok (.ireturn, 1) := by decide +kernel
theorem dX4_tearOff_21 : decode cX4_tearOff 21 = .ok (.aload_n 0, 1) := by decide +kernel
theorem dX4_tearOff_22 : decode cX4_tearOff 22 = .ok (.dup, 1) := by decide +kernel
theorem dX4_tearOff_23 : decode cX4_tearOff 23 = .ok (.getfield 25, 3) := by decide +kernel
theorem dX4_tearOff_26 : decode cX4_tearOff 26 = .ok (.iconst 1, 1) := by decide +kernel
theorem dX4_tearOff_27 : decode cX4_tearOff 27 = .ok (.isub, 1) := by decide +kernel
theorem dX4_tearOff_28 : decode cX4_tearOff 28 = .ok (.putfield 25, 3) := by decide +kernel
theorem dX4_tearOff_31 : decode cX4_tearOff 31 = .ok (.aload_n 0, 1) := by decide +kernel
theorem dX4_tearOff_32 : decode cX4_tearOff 32 = .ok (.getfield 25, 3) := by decide +kernel
theorem dX4_tearOff_35 : decode cX4_tearOff 35 = .ok (.iconst 1, 1) := by decide +kernel
theorem dX4_tearOff_36 : decode cX4_tearOff 36 = .ok (.iadd, 1) := by decide +kernel
theorem dX4_tearOff_37 : decode cX4_tearOff 37 = .ok (.ireturn, 1) := by decide +kernel
theorem dX4_kindOf_0 : decode cX4_kindOf 0 = .ok (.aload_n 0, 1) := by decide +kernel
theorem dX4_kindOf_1 : decode cX4_kindOf 1 = .ok (.getfield 11, 3) := by decide +kernel
theorem dX4_kindOf_4 : decode cX4_kindOf 4 = .ok (.iload_n 1, 1) := by decide +kernel
theorem dX4_kindOf_5 : decode cX4_kindOf 5 = .ok (.aaload, 1) := by decide +kernel
theorem dX4_kindOf_6 : decode cX4_kindOf 6 = .ok (.iload_n 2, 1) := by decide +kernel
theorem dX4_kindOf_7 : decode cX4_kindOf 7 = .ok (.aload_n 0, 1) := by decide +kernel
theorem dX4_kindOf_8 : decode cX4_kindOf 8 = .ok (.getfield 17, 3) := by decide +kernel
theorem dX4_kindOf_11 : decode cX4_kindOf 11 = .ok (.iconst 0, 1) := by decide +kernel
theorem dX4_kindOf_12 : decode cX4_kindOf 12 = .ok (.iaload, 1) := by decide +kernel
theorem dX4_kindOf_13 : decode cX4_kindOf 13 = .ok (.aload_n 0, 1) := by decide +kernel
theorem dX4_kindOf_14 : decode cX4_kindOf 14 = .ok (.getfield 17, 3) := by decide +kernel
theorem dX4_kindOf_17 : decode cX4_kindOf 17 = .ok (.iconst 1, 1) := by decide +kernel
theorem dX4_kindOf_18 : decode cX4_kindOf 18 = .ok (.iaload, 1) := by decide +kernel
theorem dX4_kindOf_19 : decode cX4_kindOf 19 = .ok (.invokevirtual 85, 3) := by decide +kernel
theorem dX4_kindOf_22 : decode cX4_kindOf 22 = .ok (.ireturn, 1) := by decide +kernel
theorem dX4_fieldsThatAre_0 : decode cX4_fieldsThatAre 0 = .ok (.iconst 0, 1) := by decide +kernel
theorem dX4_fieldsThatAre_1 : decode cX4_fieldsThatAre 1 = .ok (.istore_n 3, 1) := by decide +kernel
theorem dX4_fieldsThatAre_2 : decode cX4_fieldsThatAre 2 = .ok (.iconst 0, 1) := by decide +kernel
theorem dX4_fieldsThatAre_3 : decode cX4_fieldsThatAre 3 = .ok (.istore 4, 2) := by decide +kernel
theorem dX4_fieldsThatAre_5 : decode cX4_fieldsThatAre 5 = .ok (.iload 4, 2) := by decide +kernel
theorem dX4_fieldsThatAre_7 : decode cX4_fieldsThatAre 7 = .ok (.bipush 10, 2) := by decide +kernel
theorem dX4_fieldsThatAre_9 : decode cX4_fieldsThatAre 9 = .ok (.if_icmp .ge 27, 3) := by decide +kernel
theorem dX4_fieldsThatAre_12 : decode cX4_fieldsThatAre 12 = .ok (.aload_n 0, 1) := by decide +kernel
theorem dX4_fieldsThatAre_13 : decode cX4_fieldsThatAre 13 = .ok (.iload_n 2, 1) := by decide +kernel
theorem dX4_fieldsThatAre_14 : decode cX4_fieldsThatAre 14 = .ok (.iload 4, 2) := by decide +kernel
theorem dX4_fieldsThatAre_16 : decode cX4_fieldsThatAre 16 = .ok (.invokevirtual 89, 3) := by decide +kernel
theorem dX4_fieldsThatAre_19 : decode cX4_fieldsThatAre 19 = .ok (.iload_n 1, 1) := by decide +kernel
theorem dX4_fieldsThatAre_20 : decode cX4_fieldsThatAre 20 = .ok (.if_icmp .ne 10, 3) := by decide +kernel
theorem dX4_fieldsThatAre_23 : decode cX4_fieldsThatAre 23 = .ok (.iload_n 3, 1) := by decide +kernel
theorem dX4_fieldsThatAre_24 : decode cX4_fieldsThatAre 24 = .ok (.iconst 1, 1) := by decide +kernel
theorem dX4_fieldsThatAre_25 : decode cX4_fieldsThatAre 25 = .ok (.iload 4, 2) := by decide +kernel
theorem dX4_fieldsThatAre_27 : decode cX4_fieldsThatAre 27 = .ok (.ishl, 1) := by decide +kernel
theorem dX4_fieldsThatAre_28 : decode cX4_fieldsThatAre 28 = .ok (.ior, 1) := by decide +kernel
theorem dX4_fieldsThatAre_29 : decode cX4_fieldsThatAre 29 = .ok (.istore_n 3, 1) := by decide +kernel
theorem dX4_fieldsThatAre_30 : decode cX4_fieldsThatAre 30 = .ok (.iinc 4 1, 3) := by decide +kernel
theorem dX4_fieldsThatAre_33 : decode cX4_fieldsThatAre 33 = .ok (.goto (-28), 3) := by decide +kernel
theorem dX4_fieldsThatAre_36 : decode cX4_fieldsThatAre 36 = .ok (.iload_n 3, 1) := by decide +kernel
theorem dX4_fieldsThatAre_37 : decode cX4_fieldsThatAre 37 = .ok (.ireturn, 1) := by decide +kernel
theorem dX4_readTheSame_0 : decode cX4_readTheSame 0 = .ok (.aload_n 0, 1) := by decide +kernel
theorem dX4_readTheSame_1 : decode cX4_readTheSame 1 = .ok (.iload_n 1, 1) := by decide +kernel
theorem dX4_readTheSame_2 : decode cX4_readTheSame 2 = .ok (.iload_n 3, 1) := by decide +kernel
theorem dX4_readTheSame_3 : decode cX4_readTheSame 3 = .ok (.invokevirtual 89, 3) := by decide +kernel
theorem dX4_readTheSame_6 : decode cX4_readTheSame 6 = .ok (.istore 4, 2) := by decide +kernel
theorem dX4_readTheSame_8 : decode cX4_readTheSame 8 = .ok (.iload 4, 2) := by decide +kernel
theorem dX4_readTheSame_10 : decode cX4_readTheSame 10 = .ok (.aload_n 0, 1) := by decide +kernel
theorem dX4_readTheSame_11 : decode cX4_readTheSame 11 = .ok (.iload_n 2, 1) := by decide +kernel
theorem dX4_readTheSame_12 : decode cX4_readTheSame 12 = .ok (.iload_n 3, 1) := by decide +kernel
theorem dX4_readTheSame_13 : decode cX4_readTheSame 13 = .ok (.invokevirtual 89, 3) := by decide +kernel
theorem dX4_readTheSame_16 : decode cX4_readTheSame 16 = .ok (.if_icmp .eq 5, 3) := by decide +kernel
theorem dX4_readTheSame_19 : decode cX4_readTheSame 19 = .ok (.iconst 0, 1) := by decide +kernel
theorem dX4_readTheSame_20 : decode cX4_readTheSame 20 = .ok (.ireturn, 1) := by decide +kernel
theorem dX4_readTheSame_21 : decode cX4_readTheSame 21 = .ok (.iload 4, 2) := by decide +kernel
theorem dX4_readTheSame_23 : decode cX4_readTheSame 23 = .ok (.iconst 1, 1) := by decide +kernel
theorem dX4_readTheSame_24 : decode cX4_readTheSame 24 = .ok (.if_icmp .ne 18, 3) := by decide +kernel
theorem dX4_readTheSame_27 : decode cX4_readTheSame 27 = .ok (.aload_n 0, 1) := by decide +kernel
theorem dX4_readTheSame_28 : decode cX4_readTheSame 28 = .ok (.iload_n 1, 1) := by decide +kernel
theorem dX4_readTheSame_29 : decode cX4_readTheSame 29 = .ok (.iload_n 3, 1) := by decide +kernel
theorem dX4_readTheSame_30 : decode cX4_readTheSame 30 = .ok (.invokevirtual 91, 3) := by decide +kernel
theorem dX4_readTheSame_33 : decode cX4_readTheSame 33 = .ok (.aload_n 0, 1) := by decide +kernel
theorem dX4_readTheSame_34 : decode cX4_readTheSame 34 = .ok (.iload_n 2, 1) := by decide +kernel
theorem dX4_readTheSame_35 : decode cX4_readTheSame 35 = .ok (.iload_n 3, 1) := by decide +kernel
theorem dX4_readTheSame_36 : decode cX4_readTheSame 36 = .ok (.invokevirtual 91, 3) := by decide +kernel
theorem dX4_readTheSame_39 : decode cX4_readTheSame 39 = .ok (.if_icmp .ne 7, 3) := by decide +kernel
theorem dX4_readTheSame_42 : decode cX4_readTheSame 42 = .ok (.iconst 1, 1) := by decide +kernel
theorem dX4_readTheSame_43 : decode cX4_readTheSame 43 = .ok (.goto 4, 3) := by decide +kernel
theorem dX4_readTheSame_46 : decode cX4_readTheSame 46 = .ok (.iconst 0, 1) := by decide +kernel
theorem dX4_readTheSame_47 : decode cX4_readTheSame 47 = .ok (.ireturn, 1) := by decide +kernel
theorem dX4_lastValue_0 : decode cX4_lastValue 0 = .ok (.aload_n 0, 1) := by decide +kernel
theorem dX4_lastValue_1 : decode cX4_lastValue 1 = .ok (.getfield 11, 3) := by decide +kernel
theorem dX4_lastValue_4 : decode cX4_lastValue 4 = .ok (.iload_n 1, 1) := by decide +kernel
theorem dX4_lastValue_5 : decode cX4_lastValue 5 = .ok (.aaload, 1) := by decide +kernel
theorem dX4_lastValue_6 : decode cX4_lastValue 6 = .ok (.iload_n 2, 1) := by decide +kernel
theorem dX4_lastValue_7 : decode cX4_lastValue 7 = .ok (.aload_n 0, 1) := by decide +kernel
theorem dX4_lastValue_8 : decode cX4_lastValue 8 = .ok (.getfield 17, 3) := by decide +kernel
theorem dX4_lastValue_11 : decode cX4_lastValue 11 = .ok (.iconst 0, 1) := by decide +kernel
theorem dX4_lastValue_12 : decode cX4_lastValue 12 = .ok (.iaload, 1) := by decide +kernel
theorem dX4_lastValue_13 : decode cX4_lastValue 13 = .ok (.invokevirtual 94, 3) := by decide +kernel
theorem dX4_lastValue_16 : decode cX4_lastValue 16 = .ok (.istore_n 3, 1) := by decide +kernel
theorem dX4_lastValue_17 : decode cX4_lastValue 17 = .ok (.iload_n 3, 1) := by decide +kernel
theorem dX4_lastValue_18 : decode cX4_lastValue 18 = .ok (.ifCond .ge 8, 3) := by decide +kernel
theorem dX4_lastValue_21 : decode cX4_lastValue 21 = .ok (.bipush (-6), 2) := by decide +kernel
theorem dX4_lastValue_23 : decode cX4_lastValue 23 = .ok (.goto 14, 3) := by decide +kernel
theorem dX4_lastValue_26 : decode cX4_lastValue 26 = .ok (.aload_n 0, 1) := by decide +kernel
theorem dX4_lastValue_27 : decode cX4_lastValue 27 = .ok (.getfield 11, 3) := by decide +kernel
theorem dX4_lastValue_30 : decode cX4_lastValue 30 = .ok (.iload_n 1, 1) := by decide +kernel
theorem dX4_lastValue_31 : decode cX4_lastValue 31 = .ok (.aaload, 1) := by decide +kernel
theorem dX4_lastValue_32 : decode cX4_lastValue 32 = .ok (.iload_n 2, 1) := by decide +kernel
theorem dX4_lastValue_33 : decode cX4_lastValue 33 = .ok (.iload_n 3, 1) := by decide +kernel
theorem dX4_lastValue_34 : decode cX4_lastValue 34 = .ok (.invokevirtual 97, 3) := by decide +kernel
theorem dX4_lastValue_37 : decode cX4_lastValue 37 = .ok (.ireturn, 1) := by decide +kernel
theorem dX4_lastStrength_0 : decode cX4_lastStrength 0 = .ok (.aload_n 0, 1) := by decide +kernel
theorem dX4_lastStrength_1 : decode cX4_lastStrength 1 = .ok (.getfield 11, 3) := by decide +kernel
theorem dX4_lastStrength_4 : decode cX4_lastStrength 4 = .ok (.iload_n 1, 1) := by decide +kernel
theorem dX4_lastStrength_5 : decode cX4_lastStrength 5 = .ok (.aaload, 1) := by decide +kernel
theorem dX4_lastStrength_6 : decode cX4_lastStrength 6 = .ok (.iload_n 2, 1) := by decide +kernel
theorem dX4_lastStrength_7 : decode cX4_lastStrength 7 = .ok (.aload_n 0, 1) := by decide +kernel
theorem dX4_lastStrength_8 : decode cX4_lastStrength 8 = .ok (.getfield 17, 3) := by decide +kernel
theorem dX4_lastStrength_11 : decode cX4_lastStrength 11 = .ok (.iconst 0, 1) := by decide +kernel
theorem dX4_lastStrength_12 : decode cX4_lastStrength 12 = .ok (.iaload, 1) := by decide +kernel
theorem dX4_lastStrength_13 : decode cX4_lastStrength 13 = .ok (.invokevirtual 94, 3) := by decide +kernel
theorem dX4_lastStrength_16 : decode cX4_lastStrength 16 = .ok (.istore_n 3, 1) := by decide +kernel
theorem dX4_lastStrength_17 : decode cX4_lastStrength 17 = .ok (.iload_n 3, 1) := by decide +kernel
theorem dX4_lastStrength_18 : decode cX4_lastStrength 18 = .ok (.ifCond .ge 8, 3) := by decide +kernel
theorem dX4_lastStrength_21 : decode cX4_lastStrength 21 = .ok (.bipush (-6), 2) := by decide +kernel
theorem dX4_lastStrength_23 : decode cX4_lastStrength 23 = .ok (.goto 14, 3) := by decide +kernel
theorem dX4_lastStrength_26 : decode cX4_lastStrength 26 = .ok (.aload_n 0, 1) := by decide +kernel
theorem dX4_lastStrength_27 : decode cX4_lastStrength 27 = .ok (.getfield 11, 3) := by decide +kernel
theorem dX4_lastStrength_30 : decode cX4_lastStrength 30 = .ok (.iload_n 1, 1) := by decide +kernel
theorem dX4_lastStrength_31 : decode cX4_lastStrength 31 = .ok (.aaload, 1) := by decide +kernel
theorem dX4_lastStrength_32 : decode cX4_lastStrength 32 = .ok (.iload_n 2, 1) := by decide +kernel
theorem dX4_lastStrength_33 : decode cX4_lastStrength 33 = .ok (.iload_n 3, 1) := by decide +kernel
theorem dX4_lastStrength_34 : decode cX4_lastStrength 34 = .ok (.invokevirtual 100, 3) := by decide +kernel
theorem dX4_lastStrength_37 : decode cX4_lastStrength 37 = .ok (.ireturn, 1) := by decide +kernel
theorem dX4_allMarks_0 : decode cX4_allMarks 0 = .ok (.iconst 0, 1) := by decide +kernel
theorem dX4_allMarks_1 : decode cX4_allMarks 1 = .ok (.istore_n 1, 1) := by decide +kernel
theorem dX4_allMarks_2 : decode cX4_allMarks 2 = .ok (.iconst 0, 1) := by decide +kernel
theorem dX4_allMarks_3 : decode cX4_allMarks 3 = .ok (.istore_n 2, 1) := by decide +kernel
theorem dX4_allMarks_4 : decode cX4_allMarks 4 = .ok (.iload_n 2, 1) := by decide +kernel
theorem dX4_allMarks_5 : decode cX4_allMarks 5 = .ok (.iconst 5, 1) := by decide +kernel
theorem dX4_allMarks_6 : decode cX4_allMarks 6 = .ok (.if_icmp .ge 21, 3) := by decide +kernel
theorem dX4_allMarks_9 : decode cX4_allMarks 9 = .ok (.iload_n 1, 1) := by decide +kernel
theorem dX4_allMarks_10 : decode cX4_allMarks 10 = .ok (.aload_n 0, 1) := by decide +kernel
theorem dX4_allMarks_11 : decode cX4_allMarks 11 = .ok (.getfield 11, 3) := by decide +kernel
theorem dX4_allMarks_14 : decode cX4_allMarks 14 = .ok (.iload_n 2, 1) := by decide +kernel
theorem dX4_allMarks_15 : decode cX4_allMarks 15 = .ok (.aaload, 1) := by decide +kernel
theorem dX4_allMarks_16 : decode cX4_allMarks 16 = .ok (.invokevirtual 103, 3) := by decide +kernel
theorem dX4_allMarks_19 : decode cX4_allMarks 19 = .ok (.iadd, 1) := by decide +kernel
theorem dX4_allMarks_20 : decode cX4_allMarks 20 = .ok (.istore_n 1, 1) := by decide +kernel
theorem dX4_allMarks_21 : decode cX4_allMarks 21 = .ok (.iinc 2 1, 3) := by decide +kernel
theorem dX4_allMarks_24 : decode cX4_allMarks 24 = .ok (.goto (-20), 3) := by decide +kernel
theorem dX4_allMarks_27 : decode cX4_allMarks 27 = .ok (.iload_n 1, 1) := by decide +kernel
theorem dX4_allMarks_28 : decode cX4_allMarks 28 = .ok (.ireturn, 1) := by decide +kernel
theorem dX4_wouldBeEmptied_0 : decode cX4_wouldBeEmptied 0 = .ok (.aload_n 0, 1) := by decide +kernel
theorem dX4_wouldBeEmptied_1 : decode cX4_wouldBeEmptied 1 = .ok (.iload_n 2, 1) := by decide +kernel
theorem dX4_wouldBeEmptied_2 : decode cX4_wouldBeEmptied 2 = .ok (.invokevirtual 68, 3) := by decide +kernel
theorem dX4_wouldBeEmptied_5 : decode cX4_wouldBeEmptied 5 = .ok (.iconst 0, 1) := by decide +kernel
theorem dX4_wouldBeEmptied_6 : decode cX4_wouldBeEmptied 6 = .ok (.istore_n 3, 1) := by decide +kernel
theorem dX4_wouldBeEmptied_7 : decode cX4_wouldBeEmptied 7 = .ok (.iload_n 3, 1) := by decide +kernel
theorem dX4_wouldBeEmptied_8 : decode cX4_wouldBeEmptied 8 = .ok (.iconst 5, 1) := by decide +kernel
theorem dX4_wouldBeEmptied_9 : decode cX4_wouldBeEmptied 9 = .ok (.if_icmp .ge 48, 3) := by decide +kernel
theorem dX4_wouldBeEmptied_12 : decode cX4_wouldBeEmptied 12 = .ok (.aload_n 0, 1) := by decide +kernel
theorem dX4_wouldBeEmptied_13 : decode cX4_wouldBeEmptied 13 = .ok (.getfield 11, 3) := by decide +kernel
theorem dX4_wouldBeEmptied_16 : decode cX4_wouldBeEmptied 16 = .ok (.iload_n 3, 1) := by decide +kernel
theorem dX4_wouldBeEmptied_17 : decode cX4_wouldBeEmptied 17 = .ok (.aaload, 1) := by decide +kernel
theorem dX4_wouldBeEmptied_18 : decode cX4_wouldBeEmptied 18 = .ok (.iload_n 1, 1) := by decide +kernel
theorem dX4_wouldBeEmptied_19 : decode cX4_wouldBeEmptied 19 = .ok (.aload_n 0, 1) := by decide +kernel
theorem dX4_wouldBeEmptied_20 : decode cX4_wouldBeEmptied 20 = .ok (.getfield 17, 3) := by decide +kernel
theorem dX4_wouldBeEmptied_23 : decode cX4_wouldBeEmptied 23 = .ok (.iconst 0, 1) := by decide +kernel
theorem dX4_wouldBeEmptied_24 : decode cX4_wouldBeEmptied 24 = .ok (.iaload, 1) := by decide +kernel
theorem dX4_wouldBeEmptied_25 : decode cX4_wouldBeEmptied 25 = .ok (.invokevirtual 107, 3) := by decide +kernel
theorem dX4_wouldBeEmptied_28 : decode cX4_wouldBeEmptied 28 = .ok (.istore 4, 2) := by decide +kernel
theorem dX4_wouldBeEmptied_30 : decode cX4_wouldBeEmptied 30 = .ok (.aload_n 0, 1) := by decide +kernel
theorem dX4_wouldBeEmptied_31 : decode cX4_wouldBeEmptied 31 = .ok (.iload_n 3, 1) := by decide +kernel
theorem dX4_wouldBeEmptied_32 : decode cX4_wouldBeEmptied 32 = .ok (.invokevirtual 36, 3) := by decide +kernel
theorem dX4_wouldBeEmptied_35 : decode cX4_wouldBeEmptied 35 = .ok (.ifCond .eq 16, 3) := by decide +kernel
theorem dX4_wouldBeEmptied_38 : decode cX4_wouldBeEmptied 38 = .ok (.iload 4, 2) := by decide +kernel
theorem dX4_wouldBeEmptied_40 : decode cX4_wouldBeEmptied 40 = .ok (.aload_n 0, 1) := by decide +kernel
theorem dX4_wouldBeEmptied_41 : decode cX4_wouldBeEmptied 41 = .ok (.getfield 28, 3) := by decide +kernel
theorem dX4_wouldBeEmptied_44 : decode cX4_wouldBeEmptied 44 = .ok (.iload_n 3, 1) := by decide +kernel
theorem dX4_wouldBeEmptied_45 : decode cX4_wouldBeEmptied 45 = .ok (.iaload, 1) := by decide +kernel
theorem dX4_wouldBeEmptied_46 : decode cX4_wouldBeEmptied 46 = .ok (.if_icmp .le 5, 3) := by decide +kernel
theorem dX4_wouldBeEmptied_49 : decode cX4_wouldBeEmptied 49 = .ok (.iconst 0, 1) := by decide +kernel
theorem dX4_wouldBeEmptied_50 : decode cX4_wouldBeEmptied 50 = .ok (.ireturn, 1) := by decide +kernel
theorem dX4_wouldBeEmptied_51 : decode cX4_wouldBeEmptied 51 = .ok (.iinc 3 1, 3) := by decide +kernel
theorem dX4_wouldBeEmptied_54 : decode cX4_wouldBeEmptied 54 = .ok (.goto (-47), 3) := by decide +kernel
theorem dX4_wouldBeEmptied_57 : decode cX4_wouldBeEmptied 57 = .ok (.iconst 1, 1) := by decide +kernel
theorem dX4_wouldBeEmptied_58 : decode cX4_wouldBeEmptied 58 = .ok (.ireturn, 1) := by decide +kernel
theorem dX4_pressesToTheLowest_0 : decode cX4_pressesToTheLowest 0 = .ok (.sipush 1000, 3) := by decide +kernel
theorem dX4_pressesToTheLowest_3 : decode cX4_pressesToTheLowest 3 = .ok (.istore_n 2, 1) := by decide +kernel
theorem dX4_pressesToTheLowest_4 : decode cX4_pressesToTheLowest 4 = .ok (.aload_n 0, 1) := by decide +kernel
theorem dX4_pressesToTheLowest_5 : decode cX4_pressesToTheLowest 5 = .ok (.iload_n 1, 1) := by decide +kernel
theorem dX4_pressesToTheLowest_6 : decode cX4_pressesToTheLowest 6 = .ok (.invokevirtual 68, 3) := by decide +kernel
theorem dX4_pressesToTheLowest_9 : decode cX4_pressesToTheLowest 9 = .ok (.iconst 0, 1) := by decide +kernel
theorem dX4_pressesToTheLowest_10 : decode cX4_pressesToTheLowest 10 = .ok (.istore_n 3, 1) := by decide +kernel
theorem dX4_pressesToTheLowest_11 : decode cX4_pressesToTheLowest 11 = .ok (.iload_n 3, 1) := by decide +kernel
theorem dX4_pressesToTheLowest_12 : decode cX4_pressesToTheLowest 12 = .ok (.iconst 5, 1) := by decide +kernel
theorem dX4_pressesToTheLowest_13 : decode cX4_pressesToTheLowest 13 = .ok (.if_icmp .ge 58, 3) := by decide +kernel
theorem dX4_pressesToTheLowest_16 : decode cX4_pressesToTheLowest 16 = .ok (.aload_n 0, 1) := by decide +kernel
theorem dX4_pressesToTheLowest_17 : decode cX4_pressesToTheLowest 17 = .ok (.iload_n 3, 1) := by decide +kernel
theorem dX4_pressesToTheLowest_18 : decode cX4_pressesToTheLowest 18 = .ok (.invokevirtual 36, 3) := by decide +kernel
theorem dX4_pressesToTheLowest_21 : decode cX4_pressesToTheLowest 21 = .ok (.ifCond .eq 14, 3) := by decide +kernel
theorem dX4_pressesToTheLowest_24 : decode cX4_pressesToTheLowest 24 = .ok (.aload_n 0, 1) := by decide +kernel
theorem dX4_pressesToTheLowest_25 : decode cX4_pressesToTheLowest 25 = .ok (.getfield 28, 3) := by decide +kernel
theorem dX4_pressesToTheLowest_28 : decode cX4_pressesToTheLowest 28 = .ok (.iload_n 3, 1) := by decide +kernel
theorem dX4_pressesToTheLowest_29 : decode cX4_pressesToTheLowest 29 = .ok (.iaload, 1) := by decide +kernel
theorem dX4_pressesToTheLowest_30 : decode cX4_pressesToTheLowest 30 = .ok (.ifCond .ne 5, 3) := by decide +kernel
theorem dX4_pressesToTheLowest_33 : decode cX4_pressesToTheLowest 33 = .ok (.iconst 0, 1) := by decide +kernel
theorem dX4_pressesToTheLowest_34 : decode cX4_pressesToTheLowest 34 = .ok (.ireturn, 1) := by decide +kernel
theorem dX4_pressesToTheLowest_35 : decode cX4_pressesToTheLowest 35 = .ok (.aload_n 0, 1) := by decide +kernel
theorem dX4_pressesToTheLowest_36 : decode cX4_pressesToTheLowest 36 = .ok (.iload_n 3, 1) := by decide +kernel
theorem dX4_pressesToTheLowest_37 : decode cX4_pressesToTheLowest 37 = .ok (.invokevirtual 36, 3) := by decide +kernel
theorem dX4_pressesToTheLowest_40 : decode cX4_pressesToTheLowest 40 = .ok (.ifCond .eq 25, 3) := by decide +kernel
theorem dX4_pressesToTheLowest_43 : decode cX4_pressesToTheLowest 43 = .ok (.iload_n 3, 1) := by decide +kernel
theorem dX4_pressesToTheLowest_44 : decode cX4_pressesToTheLowest 44 = .ok (.aload_n 0, 1) := by decide +kernel
theorem dX4_pressesToTheLowest_45 : decode cX4_pressesToTheLowest 45 = .ok (.getfield 25, 3) := by decide +kernel
theorem dX4_pressesToTheLowest_48 : decode cX4_pressesToTheLowest 48 = .ok (.if_icmp .ge 17, 3) := by decide +kernel
theorem dX4_pressesToTheLowest_51 : decode cX4_pressesToTheLowest 51 = .ok (.iload_n 2, 1) := by decide +kernel
theorem dX4_pressesToTheLowest_52 : decode cX4_pressesToTheLowest 52 = .ok (.aload_n 0, 1) := by decide +kernel
theorem dX4_pressesToTheLowest_53 : decode cX4_pressesToTheLowest 53 = .ok (.getfield 11, 3) := by decide +kernel
theorem dX4_pressesToTheLowest_56 : decode cX4_pressesToTheLowest 56 = .ok (.iload_n 3, 1) := by decide +kernel
theorem dX4_pressesToTheLowest_57 : decode cX4_pressesToTheLowest 57 = .ok (.aaload, 1) := by decide +kernel
theorem dX4_pressesToTheLowest_58 : decode cX4_pressesToTheLowest 58 = .ok (.getfield 43, 3) := by decide +kernel
theorem dX4_pressesToTheLowest_61 : decode cX4_pressesToTheLowest 61 = .ok (.invokestatic 110, 3) := by decide +kernel
theorem dX4_pressesToTheLowest_64 : decode cX4_pressesToTheLowest 64 = .ok (.istore_n 2, 1) := by decide +kernel
theorem dX4_pressesToTheLowest_65 : decode cX4_pressesToTheLowest 65 = .ok (.iinc 3 1, 3) := by decide +kernel
theorem dX4_pressesToTheLowest_68 : decode cX4_pressesToTheLowest 68 = .ok (.goto (-57), 3) := by decide +kernel
theorem dX4_pressesToTheLowest_71 : decode cX4_pressesToTheLowest 71 = .ok (.iload_n 2, 1) := by decide +kernel
theorem dX4_pressesToTheLowest_72 : decode cX4_pressesToTheLowest 72 = .ok (.ireturn, 1) := by decide +kernel
theorem dX5_init_0 : decode cX5_init 0 = .ok (.aload_n 0, 1) := by decide +kernel
theorem dX5_init_1 : decode cX5_init 1 = .ok (.invokespecial 3, 3) := by decide +kernel
theorem dX5_init_4 : decode cX5_init 4 = .ok (.aload_n 0, 1) := by decide +kernel
theorem dX5_init_5 : decode cX5_init 5 = .ok (.iconst 5, 1) := by decide +kernel
theorem dX5_init_6 : decode cX5_init 6 = .ok (.newarray .int, 2) := by decide +kernel
theorem dX5_init_8 : decode cX5_init 8 = .ok (.putfield 9, 3) := by decide +kernel
theorem dX5_init_11 : decode cX5_init 11 = .ok (.aload_n 0, 1) := by decide +kernel
theorem dX5_init_12 : decode cX5_init 12 = .ok (.iconst 5, 1) := by decide +kernel
theorem dX5_init_13 : decode cX5_init 13 = .ok (.newarray .int, 2) := by decide +kernel
theorem dX5_init_15 : decode cX5_init 15 = .ok (.putfield 15, 3) := by decide +kernel
theorem dX5_init_18 : decode cX5_init 18 = .ok (.return_, 1) := by decide +kernel
theorem dX5_takeIn_0 : decode cX5_takeIn 0 = .ok (.aload_n 0, 1) := by decide +kernel
theorem dX5_takeIn_1 : decode cX5_takeIn 1 = .ok (.iconst 0, 1) := by decide +kernel
theorem dX5_takeIn_2 : decode cX5_takeIn 2 = .ok (.putfield 18, 3) := by decide +kernel
theorem dX5_takeIn_5 : decode cX5_takeIn 5 = .ok (.aload_n 0, 1) := by decide +kernel
theorem dX5_takeIn_6 : decode cX5_takeIn 6 = .ok (.iconst 0, 1) := by decide +kernel
theorem dX5_takeIn_7 : decode cX5_takeIn 7 = .ok (.putfield 22, 3) := by decide +kernel
theorem dX5_takeIn_10 : decode cX5_takeIn 10 = .ok (.iconst 0, 1) := by decide +kernel
theorem dX5_takeIn_11 : decode cX5_takeIn 11 = .ok (.istore_n 3, 1) := by decide +kernel
theorem dX5_takeIn_12 : decode cX5_takeIn 12 = .ok (.iload_n 3, 1) := by decide +kernel
theorem dX5_takeIn_13 : decode cX5_takeIn 13 = .ok (.iconst 5, 1) := by decide +kernel
theorem dX5_takeIn_14 : decode cX5_takeIn 14 = .ok (.if_icmp .ge 47, 3) := by decide +kernel
theorem dX5_takeIn_17 : decode cX5_takeIn 17 = .ok (.aload_n 1, 1) := by decide +kernel
theorem dX5_takeIn_18 : decode cX5_takeIn 18 = .ok (.iload_n 3, 1) := by decide +kernel
theorem dX5_takeIn_19 : decode cX5_takeIn 19 = .ok (.iload_n 2, 1) := by decide +kernel
theorem dX5_takeIn_20 : decode cX5_takeIn 20 = .ok (.invokevirtual 25, 3) := by decide +kernel
theorem dX5_takeIn_23 : decode cX5_takeIn 23 = .ok (.iconst 1, 1) := by decide +kernel
theorem dX5_takeIn_24 : decode cX5_takeIn 24 = .ok (.if_icmp .ne 31, 3) := by decide +kernel
theorem dX5_takeIn_27 : decode cX5_takeIn 27 = .ok (.aload_n 0, 1) := by decide +kernel
theorem dX5_takeIn_28 : decode cX5_takeIn 28 = .ok (.dup, 1) := by decide +kernel
theorem dX5_takeIn_29 : decode cX5_takeIn 29 = .ok (.getfield 18, 3) := by decide +kernel
theorem dX5_takeIn_32 : decode cX5_takeIn 32 = .ok (.iconst 1, 1) := by decide +kernel
theorem dX5_takeIn_33 : decode cX5_takeIn 33 = .ok (.iload_n 3, 1) := by decide +kernel
theorem dX5_takeIn_34 : decode cX5_takeIn 34 = .ok (.ishl, 1) := by decide +kernel
theorem dX5_takeIn_35 : decode cX5_takeIn 35 = .ok (.ior, 1) := by decide +kernel
theorem dX5_takeIn_36 : decode cX5_takeIn 36 = .ok (.putfield 18, 3) := by decide +kernel
theorem dX5_takeIn_39 : decode cX5_takeIn 39 = .ok (.aload_n 0, 1) := by decide +kernel
theorem dX5_takeIn_40 : decode cX5_takeIn 40 = .ok (.aload_n 1, 1) := by decide +kernel
theorem dX5_takeIn_41 : decode cX5_takeIn 41 = .ok (.iload_n 3, 1) := by decide +kernel
theorem dX5_takeIn_42 : decode cX5_takeIn 42 = .ok (.iload_n 2, 1) := by decide +kernel
theorem dX5_takeIn_43 : decode cX5_takeIn 43 = .ok (.invokevirtual 31, 3) := by decide +kernel
theorem dX5_takeIn_46 : decode cX5_takeIn 46 = .ok (.aload_n 1, 1) := by decide +kernel
theorem dX5_takeIn_47 : decode cX5_takeIn 47 = .ok (.iload_n 3, 1) := by decide +kernel
theorem dX5_takeIn_48 : decode cX5_takeIn 48 = .ok (.iload_n 2, 1) := by decide +kernel
theorem dX5_takeIn_49 : decode cX5_takeIn 49 = .ok (.invokevirtual 34, 3) := by decide +kernel
theorem dX5_takeIn_52 : decode cX5_takeIn 52 = .ok (.invokevirtual 37, 3) := by decide +kernel
theorem dX5_takeIn_55 : decode cX5_takeIn 55 = .ok (.iinc 3 1, 3) := by decide +kernel
theorem dX5_takeIn_58 : decode cX5_takeIn 58 = .ok (.goto (-46), 3) := by decide +kernel
theorem dX5_takeIn_61 : decode cX5_takeIn 61 = .ok (.aload_n 0, 1) := by decide +kernel
theorem dX5_takeIn_62 : decode cX5_takeIn 62 = .ok (.invokevirtual 41, 3) := by decide +kernel
theorem dX5_takeIn_65 : decode cX5_takeIn 65 = .ok (.return_, 1) := by decide +kernel
theorem dX5_addVotes_0 : decode cX5_addVotes 0 = .ok (.iconst 0, 1) := by decide +kernel
theorem dX5_addVotes_1 : decode cX5_addVotes 1 = .ok (.istore_n 3, 1) := by decide +kernel
theorem dX5_addVotes_2 : decode cX5_addVotes 2 = .ok (.iload_n 3, 1) := by decide +kernel
theorem dX5_addVotes_3 : decode cX5_addVotes 3 = .ok (.aload_n 0, 1) := by decide +kernel
theorem dX5_addVotes_4 : decode cX5_addVotes 4 = .ok (.getfield 22, 3) := by decide +kernel
theorem dX5_addVotes_7 : decode cX5_addVotes 7 = .ok (.if_icmp .ge 30, 3) := by decide +kernel
theorem dX5_addVotes_10 : decode cX5_addVotes 10 = .ok (.aload_n 0, 1) := by decide +kernel
theorem dX5_addVotes_11 : decode cX5_addVotes 11 = .ok (.getfield 9, 3) := by decide +kernel
theorem dX5_addVotes_14 : decode cX5_addVotes 14 = .ok (.iload_n 3, 1) := by decide +kernel
theorem dX5_addVotes_15 : decode cX5_addVotes 15 = .ok (.iaload, 1) := by decide +kernel
theorem dX5_addVotes_16 : decode cX5_addVotes 16 = .ok (.iload_n 1, 1) := by decide +kernel
end
section
theorem dX5_addVotes_17 : decode cX5_addVotes 17 = .ok (.if_icmp .ne 14, 3) := by decide +kernel
theorem dX5_addVotes_20 : decode cX5_addVotes 20 = .ok (.aload_n 0, 1) := by decide +kernel
theorem dX5_addVotes_21 : decode cX5_addVotes 21 = .ok (.getfield 15, 3) := by decide +kernel
theorem dX5_addVotes_24 : decode cX5_addVotes 24 = .ok (.iload_n 3, 1) := by decide +kernel
theorem dX5_addVotes_25 : decode cX5_addVotes 25 = .ok (.dup2, 1) := by decide +kernel
theorem dX5_addVotes_26 : decode cX5_addVotes 26 = .ok (.iaload, 1) := by decide +kernel
theorem dX5_addVotes_27 : decode cX5_addVotes 27 = .ok (.iload_n 2, 1) := by decide +kernel
theorem dX5_addVotes_28 : decode cX5_addVotes 28 = .ok (.iadd, 1) := by decide +kernel
theorem dX5_addVotes_29 : decode cX5_addVotes 29 = .ok (.iastore, 1) := by decide +kernel
theorem dX5_addVotes_30 : decode cX5_addVotes 30 = .ok (.return_, 1) := by decide +kernel
theorem dX5_addVotes_31 : decode cX5_addVotes 31 = .ok (.iinc 3 1, 3) := by decide +kernel
theorem dX5_addVotes_34 : decode cX5_addVotes 34 = .ok (.goto (-32), 3) := by decide +kernel
theorem dX5_addVotes_37 : decode cX5_addVotes 37 = .ok (.aload_n 0, 1) := by decide +kernel
theorem dX5_addVotes_38 : decode cX5_addVotes 38 = .ok (.getfield 22, 3) := by decide +kernel
theorem dX5_addVotes_41 : decode cX5_addVotes 41 = .ok (.iconst 5, 1) := by decide +kernel
theorem dX5_addVotes_42 : decode cX5_addVotes 42 = .ok (.if_icmp .ge 33, 3) := by decide +kernel
theorem dX5_addVotes_45 : decode cX5_addVotes 45 = .ok (.aload_n 0, 1) := by decide +kernel
theorem dX5_addVotes_46 : decode cX5_addVotes 46 = .ok (.getfield 9, 3) := by decide +kernel
theorem dX5_addVotes_49 : decode cX5_addVotes 49 = .ok (.aload_n 0, 1) := by decide +kernel
theorem dX5_addVotes_50 : decode cX5_addVotes 50 = .ok (.getfield 22, 3) := by decide +kernel
theorem dX5_addVotes_53 : decode cX5_addVotes 53 = .ok (.iload_n 1, 1) := by decide +kernel
theorem dX5_addVotes_54 : decode cX5_addVotes 54 = .ok (.iastore, 1) := by decide +kernel
theorem dX5_addVotes_55 : decode cX5_addVotes 55 = .ok (.aload_n 0, 1) := by decide +kernel
theorem dX5_addVotes_56 : decode cX5_addVotes 56 = .ok (.getfield 15, 3) := by decide +kernel
theorem dX5_addVotes_59 : decode cX5_addVotes 59 = .ok (.aload_n 0, 1) := by decide +kernel
theorem dX5_addVotes_60 : decode cX5_addVotes 60 = .ok (.getfield 22, 3) := by decide +kernel
theorem dX5_addVotes_63 : decode cX5_addVotes 63 = .ok (.iload_n 2, 1) := by decide +kernel
theorem dX5_addVotes_64 : decode cX5_addVotes 64 = .ok (.iastore, 1) := by decide +kernel
theorem dX5_addVotes_65 : decode cX5_addVotes 65 = .ok (.aload_n 0, 1) := by decide +kernel
theorem dX5_addVotes_66 : decode cX5_addVotes 66 = .ok (.dup, 1) := by decide +kernel
theorem dX5_addVotes_67 : decode cX5_addVotes 67 = .ok (.getfield 22, 3) := by decide +kernel
theorem dX5_addVotes_70 : decode cX5_addVotes 70 = .ok (.iconst 1, 1) := by decide +kernel
theorem dX5_addVotes_71 : decode cX5_addVotes 71 = .ok (.iadd, 1) := by decide +kernel
theorem dX5_addVotes_72 : decode cX5_addVotes 72 = .ok (.putfield 22, 3) := by decide +kernel
theorem dX5_addVotes_75 : decode cX5_addVotes 75 = .ok (.return_, 1) := by decide +kernel
theorem dX5_findLeaders_0 : decode cX5_findLeaders 0 = .ok (.aload_n 0, 1) := by decide +kernel
theorem dX5_findLeaders_1 : decode cX5_findLeaders 1 = .ok (.iconst 0, 1) := by decide +kernel
theorem dX5_findLeaders_2 : decode cX5_findLeaders 2 = .ok (.putfield 44, 3) := by decide +kernel
theorem dX5_findLeaders_5 : decode cX5_findLeaders 5 = .ok (.aload_n 0, 1) := by decide +kernel
theorem dX5_findLeaders_6 : decode cX5_findLeaders 6 = .ok (.bipush (-6), 2) := by decide +kernel
theorem dX5_findLeaders_8 : decode cX5_findLeaders 8 = .ok (.putfield 47, 3) := by decide +kernel
theorem dX5_findLeaders_11 : decode cX5_findLeaders 11 = .ok (.aload_n 0, 1) := by decide +kernel
theorem dX5_findLeaders_12 : decode cX5_findLeaders 12 = .ok (.bipush (-6), 2) := by decide +kernel
theorem dX5_findLeaders_14 : decode cX5_findLeaders 14 = .ok (.putfield 50, 3) := by decide +kernel
theorem dX5_findLeaders_17 : decode cX5_findLeaders 17 = .ok (.aload_n 0, 1) := by decide +kernel
theorem dX5_findLeaders_18 : decode cX5_findLeaders 18 = .ok (.iconst 0, 1) := by decide +kernel
theorem dX5_findLeaders_19 : decode cX5_findLeaders 19 = .ok (.putfield 53, 3) := by decide +kernel
theorem dX5_findLeaders_22 : decode cX5_findLeaders 22 = .ok (.iconst 0, 1) := by decide +kernel
theorem dX5_findLeaders_23 : decode cX5_findLeaders 23 = .ok (.istore_n 1, 1) := by decide +kernel
theorem dX5_findLeaders_24 : decode cX5_findLeaders 24 = .ok (.iload_n 1, 1) := by decide +kernel
theorem dX5_findLeaders_25 : decode cX5_findLeaders 25 = .ok (.aload_n 0, 1) := by decide +kernel
theorem dX5_findLeaders_26 : decode cX5_findLeaders 26 = .ok (.getfield 22, 3) := by decide +kernel
theorem dX5_findLeaders_29 : decode cX5_findLeaders 29 = .ok (.if_icmp .ge 104, 3) := by decide +kernel
theorem dX5_findLeaders_32 : decode cX5_findLeaders 32 = .ok (.aload_n 0, 1) := by decide +kernel
theorem dX5_findLeaders_33 : decode cX5_findLeaders 33 = .ok (.getfield 9, 3) := by decide +kernel
theorem dX5_findLeaders_36 : decode cX5_findLeaders 36 = .ok (.iload_n 1, 1) := by decide +kernel
theorem dX5_findLeaders_37 : decode cX5_findLeaders 37 = .ok (.iaload, 1) := by decide +kernel
theorem dX5_findLeaders_38 : decode cX5_findLeaders 38 = .ok (.istore_n 2, 1) := by decide +kernel
theorem dX5_findLeaders_39 : decode cX5_findLeaders 39 = .ok (.aload_n 0, 1) := by decide +kernel
theorem dX5_findLeaders_40 : decode cX5_findLeaders 40 = .ok (.getfield 15, 3) := by decide +kernel
theorem dX5_findLeaders_43 : decode cX5_findLeaders 43 = .ok (.iload_n 1, 1) := by decide +kernel
theorem dX5_findLeaders_44 : decode cX5_findLeaders 44 = .ok (.iaload, 1) := by decide +kernel
theorem dX5_findLeaders_45 : decode cX5_findLeaders 45 = .ok (.aload_n 0, 1) := by decide +kernel
theorem dX5_findLeaders_46 : decode cX5_findLeaders 46 = .ok (.getfield 53, 3) := by decide +kernel
theorem dX5_findLeaders_49 : decode cX5_findLeaders 49 = .ok (.if_icmp .le 31, 3) := by decide +kernel
theorem dX5_findLeaders_52 : decode cX5_findLeaders 52 = .ok (.aload_n 0, 1) := by decide +kernel
theorem dX5_findLeaders_53 : decode cX5_findLeaders 53 = .ok (.aload_n 0, 1) := by decide +kernel
theorem dX5_findLeaders_54 : decode cX5_findLeaders 54 = .ok (.getfield 15, 3) := by decide +kernel
theorem dX5_findLeaders_57 : decode cX5_findLeaders 57 = .ok (.iload_n 1, 1) := by decide +kernel
theorem dX5_findLeaders_58 : decode cX5_findLeaders 58 = .ok (.iaload, 1) := by decide +kernel
theorem dX5_findLeaders_59 : decode cX5_findLeaders 59 = .ok (.putfield 53, 3) := by decide +kernel
theorem dX5_findLeaders_62 : decode cX5_findLeaders 62 = .ok (.aload_n 0, 1) := by decide +kernel
theorem dX5_findLeaders_63 : decode cX5_findLeaders 63 = .ok (.iconst 1, 1) := by decide +kernel
theorem dX5_findLeaders_64 : decode cX5_findLeaders 64 = .ok (.putfield 44, 3) := by decide +kernel
theorem dX5_findLeaders_67 : decode cX5_findLeaders 67 = .ok (.aload_n 0, 1) := by decide +kernel
theorem dX5_findLeaders_68 : decode cX5_findLeaders 68 = .ok (.iload_n 2, 1) := by decide +kernel
theorem dX5_findLeaders_69 : decode cX5_findLeaders 69 = .ok (.putfield 47, 3) := by decide +kernel
theorem dX5_findLeaders_72 : decode cX5_findLeaders 72 = .ok (.aload_n 0, 1) := by decide +kernel
theorem dX5_findLeaders_73 : decode cX5_findLeaders 73 = .ok (.iload_n 2, 1) := by decide +kernel
theorem dX5_findLeaders_74 : decode cX5_findLeaders 74 = .ok (.putfield 50, 3) := by decide +kernel
theorem dX5_findLeaders_77 : decode cX5_findLeaders 77 = .ok (.goto 50, 3) := by decide +kernel
theorem dX5_findLeaders_80 : decode cX5_findLeaders 80 = .ok (.aload_n 0, 1) := by decide +kernel
theorem dX5_findLeaders_81 : decode cX5_findLeaders 81 = .ok (.getfield 15, 3) := by decide +kernel
theorem dX5_findLeaders_84 : decode cX5_findLeaders 84 = .ok (.iload_n 1, 1) := by decide +kernel
theorem dX5_findLeaders_85 : decode cX5_findLeaders 85 = .ok (.iaload, 1) := by decide +kernel
theorem dX5_findLeaders_86 : decode cX5_findLeaders 86 = .ok (.aload_n 0, 1) := by decide +kernel
theorem dX5_findLeaders_87 : decode cX5_findLeaders 87 = .ok (.getfield 53, 3) := by decide +kernel
theorem dX5_findLeaders_90 : decode cX5_findLeaders 90 = .ok (.if_icmp .ne 37, 3) := by decide +kernel
theorem dX5_findLeaders_93 : decode cX5_findLeaders 93 = .ok (.aload_n 0, 1) := by decide +kernel
theorem dX5_findLeaders_94 : decode cX5_findLeaders 94 = .ok (.dup, 1) := by decide +kernel
theorem dX5_findLeaders_95 : decode cX5_findLeaders 95 = .ok (.getfield 44, 3) := by decide +kernel
theorem dX5_findLeaders_98 : decode cX5_findLeaders 98 = .ok (.iconst 1, 1) := by decide +kernel
theorem dX5_findLeaders_99 : decode cX5_findLeaders 99 = .ok (.iadd, 1) := by decide +kernel
theorem dX5_findLeaders_100 : decode cX5_findLeaders 100 = .ok (.putfield 44, 3) := by decide +kernel
theorem dX5_findLeaders_103 : decode cX5_findLeaders 103 = .ok (.aload_n 0, 1) := by decide +kernel
theorem dX5_findLeaders_104 : decode cX5_findLeaders 104 = .ok (.aload_n 0, 1) := by decide +kernel
theorem dX5_findLeaders_105 : decode cX5_findLeaders 105 = .ok (.getfield 47, 3) := by decide +kernel
theorem dX5_findLeaders_108 : decode cX5_findLeaders 108 = .ok (.iload_n 2, 1) := by decide +kernel
theorem dX5_findLeaders_109 : decode cX5_findLeaders 109 = .ok (.invokestatic 56, 3) := by decide +kernel
theorem dX5_findLeaders_112 : decode cX5_findLeaders 112 = .ok (.putfield 47, 3) := by decide +kernel
theorem dX5_findLeaders_115 : decode cX5_findLeaders 115 = .ok (.aload_n 0, 1) := by decide +kernel
theorem dX5_findLeaders_116 : decode cX5_findLeaders 116 = .ok (.aload_n 0, 1) := by decide +kernel
theorem dX5_findLeaders_117 : decode cX5_findLeaders 117 = .ok (.getfield 50, 3) := by decide +kernel
theorem dX5_findLeaders_120 : decode cX5_findLeaders 120 = .ok (.iload_n 2, 1) := by decide +kernel
theorem dX5_findLeaders_121 : decode cX5_findLeaders 121 = .ok (.invokestatic 61, 3) := by decide +kernel
theorem dX5_findLeaders_124 : decode cX5_findLeaders 124 = .ok (.putfield 50, 3) := by decide +kernel
theorem dX5_findLeaders_127 : decode cX5_findLeaders 127 = .ok (.iinc 1 1, 3) := by decide +kernel
theorem dX5_findLeaders_130 : decode cX5_findLeaders 130 = .ok (.goto (-106), 3) := by decide +kernel
theorem dX5_findLeaders_133 : decode cX5_findLeaders 133 = .ok (.return_, 1) := by decide +kernel
end
section
theorem dX6_init_0 : decode cX6_init 0 = .ok (.aload_n 0, 1) := by decide +kernel
theorem dX6_init_1 : decode cX6_init 1 = .ok (.invokespecial 1, 3) := by decide +kernel
theorem dX6_init_4 : decode cX6_init 4 = .ok (.aload_n 0, 1) := by decide +kernel
theorem dX6_init_5 : decode cX6_init 5 = .ok (.new 7, 3) := by decide +kernel
theorem dX6_init_8 : decode cX6_init 8 = .ok (.dup, 1) := by decide +kernel
theorem dX6_init_9 : decode cX6_init 9 = .ok (.invokespecial 9, 3) := by decide +kernel
theorem dX6_init_12 : decode cX6_init 12 = .ok (.putfield 10, 3) := by decide +kernel
theorem dX6_init_15 : decode cX6_init 15 = .ok (.aload_n 0, 1) := by decide +kernel
theorem dX6_init_16 : decode cX6_init 16 = .ok (.new 7, 3) := by decide +kernel
theorem dX6_init_19 : decode cX6_init 19 = .ok (.dup, 1) := by decide +kernel
theorem dX6_init_20 : decode cX6_init 20 = .ok (.invokespecial 9, 3) := by decide +kernel
theorem dX6_init_23 : decode cX6_init 23 = .ok (.putfield 16, 3) := by decide +kernel
theorem dX6_init_26 : decode cX6_init 26 = .ok (.aload_n 0, 1) := by decide +kernel
theorem dX6_init_27 : decode cX6_init 27 = .ok (.new 19, 3) := by decide +kernel
theorem dX6_init_30 : decode cX6_init 30 = .ok (.dup, 1) := by decide +kernel
theorem dX6_init_31 : decode cX6_init 31 = .ok (.invokespecial 21, 3) := by decide +kernel
theorem dX6_init_34 : decode cX6_init 34 = .ok (.putfield 22, 3) := by decide +kernel
theorem dX6_init_37 : decode cX6_init 37 = .ok (.aload_n 0, 1) := by decide +kernel
theorem dX6_init_38 : decode cX6_init 38 = .ok (.new 26, 3) := by decide +kernel
theorem dX6_init_41 : decode cX6_init 41 = .ok (.dup, 1) := by decide +kernel
theorem dX6_init_42 : decode cX6_init 42 = .ok (.invokespecial 28, 3) := by decide +kernel
theorem dX6_init_45 : decode cX6_init 45 = .ok (.putfield 29, 3) := by decide +kernel
theorem dX6_init_48 : decode cX6_init 48 = .ok (.aload_n 0, 1) := by decide +kernel
theorem dX6_init_49 : decode cX6_init 49 = .ok (.iconst 2, 1) := by decide +kernel
theorem dX6_init_50 : decode cX6_init 50 = .ok (.anewarray 7, 3) := by decide +kernel
theorem dX6_init_53 : decode cX6_init 53 = .ok (.putfield 33, 3) := by decide +kernel
theorem dX6_init_56 : decode cX6_init 56 = .ok (.aload_n 0, 1) := by decide +kernel
theorem dX6_init_57 : decode cX6_init 57 = .ok (.iconst 2, 1) := by decide +kernel
theorem dX6_init_58 : decode cX6_init 58 = .ok (.newarray .boolean, 2) := by decide +kernel
theorem dX6_init_60 : decode cX6_init 60 = .ok (.putfield 37, 3) := by decide +kernel
theorem dX6_init_63 : decode cX6_init 63 = .ok (.aload_n 0, 1) := by decide +kernel
theorem dX6_init_64 : decode cX6_init 64 = .ok (.new 41, 3) := by decide +kernel
theorem dX6_init_67 : decode cX6_init 67 = .ok (.dup, 1) := by decide +kernel
theorem dX6_init_68 : decode cX6_init 68 = .ok (.invokespecial 43, 3) := by decide +kernel
theorem dX6_init_71 : decode cX6_init 71 = .ok (.putfield 44, 3) := by decide +kernel
theorem dX6_init_74 : decode cX6_init 74 = .ok (.aload_n 0, 1) := by decide +kernel
theorem dX6_init_75 : decode cX6_init 75 = .ok (.new 48, 3) := by decide +kernel
theorem dX6_init_78 : decode cX6_init 78 = .ok (.dup, 1) := by decide +kernel
theorem dX6_init_79 : decode cX6_init 79 = .ok (.invokespecial 50, 3) := by decide +kernel
theorem dX6_init_82 : decode cX6_init 82 = .ok (.putfield 51, 3) := by decide +kernel
theorem dX6_init_85 : decode cX6_init 85 = .ok (.iconst 0, 1) := by decide +kernel
theorem dX6_init_86 : decode cX6_init 86 = .ok (.istore_n 1, 1) := by decide +kernel
theorem dX6_init_87 : decode cX6_init 87 = .ok (.iload_n 1, 1) := by decide +kernel
theorem dX6_init_88 : decode cX6_init 88 = .ok (.iconst 2, 1) := by decide +kernel
theorem dX6_init_89 : decode cX6_init 89 = .ok (.if_icmp .ge 22, 3) := by decide +kernel
theorem dX6_init_92 : decode cX6_init 92 = .ok (.aload_n 0, 1) := by decide +kernel
theorem dX6_init_93 : decode cX6_init 93 = .ok (.getfield 33, 3) := by decide +kernel
theorem dX6_init_96 : decode cX6_init 96 = .ok (.iload_n 1, 1) := by decide +kernel
theorem dX6_init_97 : decode cX6_init 97 = .ok (.new 7, 3) := by decide +kernel
theorem dX6_init_100 : decode cX6_init 100 = .ok (.dup, 1) := by decide +kernel
theorem dX6_init_101 : decode cX6_init 101 = .ok (.invokespecial 9, 3) := by decide +kernel
theorem dX6_init_104 : decode cX6_init 104 = .ok (.aastore, 1) := by decide +kernel
theorem dX6_init_105 : decode cX6_init 105 = .ok (.iinc 1 1, 3) := by decide +kernel
theorem dX6_init_108 : decode cX6_init 108 = .ok (.goto (-21), 3) := by decide +kernel
theorem dX6_init_111 : decode cX6_init 111 = .ok (.return_, 1) := by decide +kernel
theorem dX6_set_0 : decode cX6_set 0 = .ok (.iload_n 1, 1) := by decide +kernel
theorem dX6_set_1 : decode cX6_set 1 = .ok (.iload_n 2, 1) := by decide +kernel
theorem dX6_set_2 : decode cX6_set 2 = .ok (.invokestatic 55, 3) := by decide +kernel
theorem dX6_set_5 : decode cX6_set 5 = .ok (.ifCond .ne 6, 3) := by decide +kernel
theorem dX6_set_8 : decode cX6_set 8 = .ok (.bipush (-2), 2) := by decide +kernel
theorem dX6_set_10 : decode cX6_set 10 = .ok (.ireturn, 1) := by decide +kernel
theorem dX6_set_11 : decode cX6_set 11 = .ok (.aload_n 0, 1) := by decide +kernel
theorem dX6_set_12 : decode cX6_set 12 = .ok (.getfield 29, 3) := by decide +kernel
theorem dX6_set_15 : decode cX6_set 15 = .ok (.aload_n 0, 1) := by decide +kernel
theorem dX6_set_16 : decode cX6_set 16 = .ok (.getfield 10, 3) := by decide +kernel
theorem dX6_set_19 : decode cX6_set 19 = .ok (.invokevirtual 59, 3) := by decide +kernel
theorem dX6_set_22 : decode cX6_set 22 = .ok (.aload_n 0, 1) := by decide +kernel
theorem dX6_set_23 : decode cX6_set 23 = .ok (.getfield 10, 3) := by decide +kernel
theorem dX6_set_26 : decode cX6_set 26 = .ok (.getfield 63, 3) := by decide +kernel
theorem dX6_set_29 : decode cX6_set 29 = .ok (.iload_n 1, 1) := by decide +kernel
theorem dX6_set_30 : decode cX6_set 30 = .ok (.iaload, 1) := by decide +kernel
theorem dX6_set_31 : decode cX6_set 31 = .ok (.istore_n 3, 1) := by decide +kernel
theorem dX6_set_32 : decode cX6_set 32 = .ok (.aload_n 0, 1) := by decide +kernel
theorem dX6_set_33 : decode cX6_set 33 = .ok (.getfield 10, 3) := by decide +kernel
theorem dX6_set_36 : decode cX6_set 36 = .ok (.getfield 63, 3) := by decide +kernel
theorem dX6_set_39 : decode cX6_set 39 = .ok (.iload_n 1, 1) := by decide +kernel
theorem dX6_set_40 : decode cX6_set 40 = .ok (.iload_n 2, 1) := by decide +kernel
theorem dX6_set_41 : decode cX6_set 41 = .ok (.iastore, 1) := by decide +kernel
theorem dX6_set_42 : decode cX6_set 42 = .ok (.iload_n 3, 1) := by decide +kernel
theorem dX6_set_43 : decode cX6_set 43 = .ok (.ireturn, 1) := by decide +kernel
theorem dX6_thickness_0 : decode cX6_thickness 0 = .ok (.iload_n 1, 1) := by decide +kernel
theorem dX6_thickness_1 : decode cX6_thickness 1 = .ok (.invokestatic 67, 3) := by decide +kernel
theorem dX6_thickness_4 : decode cX6_thickness 4 = .ok (.ifCond .ne 5, 3) := by decide +kernel
theorem dX6_thickness_7 : decode cX6_thickness 7 = .ok (.iconst (-1), 1) := by decide +kernel
theorem dX6_thickness_8 : decode cX6_thickness 8 = .ok (.ireturn, 1) := by decide +kernel
theorem dX6_thickness_9 : decode cX6_thickness 9 = .ok (.iload_n 2, 1) := by decide +kernel
theorem dX6_thickness_10 : decode cX6_thickness 10 = .ok (.iconst 0, 1) := by decide +kernel
theorem dX6_thickness_11 : decode cX6_thickness 11 = .ok (.iconst 4, 1) := by decide +kernel
theorem dX6_thickness_12 : decode cX6_thickness 12 = .ok (.invokestatic 71, 3) := by decide +kernel
theorem dX6_thickness_15 : decode cX6_thickness 15 = .ok (.ifCond .ne 6, 3) := by decide +kernel
theorem dX6_thickness_18 : decode cX6_thickness 18 = .ok (.bipush (-2), 2) := by decide +kernel
theorem dX6_thickness_20 : decode cX6_thickness 20 = .ok (.ireturn, 1) := by decide +kernel
theorem dX6_thickness_21 : decode cX6_thickness 21 = .ok (.aload_n 0, 1) := by decide +kernel
theorem dX6_thickness_22 : decode cX6_thickness 22 = .ok (.getfield 29, 3) := by decide +kernel
theorem dX6_thickness_25 : decode cX6_thickness 25 = .ok (.aload_n 0, 1) := by decide +kernel
theorem dX6_thickness_26 : decode cX6_thickness 26 = .ok (.getfield 10, 3) := by decide +kernel
theorem dX6_thickness_29 : decode cX6_thickness 29 = .ok (.invokevirtual 59, 3) := by decide +kernel
theorem dX6_thickness_32 : decode cX6_thickness 32 = .ok (.aload_n 0, 1) := by decide +kernel
theorem dX6_thickness_33 : decode cX6_thickness 33 = .ok (.getfield 10, 3) := by decide +kernel
theorem dX6_thickness_36 : decode cX6_thickness 36 = .ok (.getfield 75, 3) := by decide +kernel
theorem dX6_thickness_39 : decode cX6_thickness 39 = .ok (.iload_n 1, 1) := by decide +kernel
theorem dX6_thickness_40 : decode cX6_thickness 40 = .ok (.aaload, 1) := by decide +kernel
theorem dX6_thickness_41 : decode cX6_thickness 41 = .ok (.getfield 79, 3) := by decide +kernel
theorem dX6_thickness_44 : decode cX6_thickness 44 = .ok (.istore_n 3, 1) := by decide +kernel
theorem dX6_thickness_45 : decode cX6_thickness 45 = .ok (.aload_n 0, 1) := by decide +kernel
theorem dX6_thickness_46 : decode cX6_thickness 46 = .ok (.getfield 10, 3) := by decide +kernel
theorem dX6_thickness_49 : decode cX6_thickness 49 = .ok (.getfield 75, 3) := by decide +kernel
theorem dX6_thickness_52 : decode cX6_thickness 52 = .ok (.iload_n 1, 1) := by decide +kernel
theorem dX6_thickness_53 : decode cX6_thickness 53 = .ok (.aaload, 1) := by decide +kernel
theorem dX6_thickness_54 : decode cX6_thickness 54 = .ok (.iload_n 2, 1) := by decide +kernel
theorem dX6_thickness_55 : decode cX6_thickness 55 = .ok (.putfield 79, 3) := by decide +kernel
theorem dX6_thickness_58 : decode cX6_thickness 58 = .ok (.iload_n 3, 1) := by decide +kernel
theorem dX6_thickness_59 : decode cX6_thickness 59 = .ok (.ireturn, 1) := by decide +kernel
theorem dX6_carbon_0 : decode cX6_carbon 0 = .ok (.iload_n 1, 1) := by decide +kernel
theorem dX6_carbon_1 : decode cX6_carbon 1 = .ok (.invokestatic 67, 3) := by decide +kernel
theorem dX6_carbon_4 : decode cX6_carbon 4 = .ok (.ifCond .ne 5, 3) := by decide +kernel
theorem dX6_carbon_7 : decode cX6_carbon 7 = .ok (.iconst (-1), 1) := by decide +kernel
theorem dX6_carbon_8 : decode cX6_carbon 8 = .ok (.ireturn, 1) := by decide +kernel
theorem dX6_carbon_9 : decode cX6_carbon 9 = .ok (.iload_n 2, 1) := by decide +kernel
theorem dX6_carbon_10 : decode cX6_carbon 10 = .ok (.iconst 0, 1) := by decide +kernel
theorem dX6_carbon_11 : decode cX6_carbon 11 = .ok (.sipush 300, 3) := by decide +kernel
theorem dX6_carbon_14 : decode cX6_carbon 14 = .ok (.invokestatic 71, 3) := by decide +kernel
theorem dX6_carbon_17 : decode cX6_carbon 17 = .ok (.ifCond .ne 6, 3) := by decide +kernel
theorem dX6_carbon_20 : decode cX6_carbon 20 = .ok (.bipush (-2), 2) := by decide +kernel
theorem dX6_carbon_22 : decode cX6_carbon 22 = .ok (.ireturn, 1) := by decide +kernel
theorem dX6_carbon_23 : decode cX6_carbon 23 = .ok (.aload_n 0, 1) := by decide +kernel
theorem dX6_carbon_24 : decode cX6_carbon 24 = .ok (.getfield 10, 3) := by decide +kernel
theorem dX6_carbon_27 : decode cX6_carbon 27 = .ok (.iload_n 1, 1) := by decide +kernel
theorem dX6_carbon_28 : decode cX6_carbon 28 = .ok (.invokevirtual 85, 3) := by decide +kernel
theorem dX6_carbon_31 : decode cX6_carbon 31 = .ok (.ifCond .ne 6, 3) := by decide +kernel
theorem dX6_carbon_34 : decode cX6_carbon 34 = .ok (.bipush (-5), 2) := by decide +kernel
theorem dX6_carbon_36 : decode cX6_carbon 36 = .ok (.ireturn, 1) := by decide +kernel
theorem dX6_carbon_37 : decode cX6_carbon 37 = .ok (.aload_n 0, 1) := by decide +kernel
theorem dX6_carbon_38 : decode cX6_carbon 38 = .ok (.getfield 29, 3) := by decide +kernel
theorem dX6_carbon_41 : decode cX6_carbon 41 = .ok (.aload_n 0, 1) := by decide +kernel
theorem dX6_carbon_42 : decode cX6_carbon 42 = .ok (.getfield 10, 3) := by decide +kernel
theorem dX6_carbon_45 : decode cX6_carbon 45 = .ok (.invokevirtual 59, 3) := by decide +kernel
theorem dX6_carbon_48 : decode cX6_carbon 48 = .ok (.aload_n 0, 1) := by decide +kernel
theorem dX6_carbon_49 : decode cX6_carbon 49 = .ok (.getfield 10, 3) := by decide +kernel
theorem dX6_carbon_52 : decode cX6_carbon 52 = .ok (.getfield 75, 3) := by decide +kernel
theorem dX6_carbon_55 : decode cX6_carbon 55 = .ok (.iload_n 1, 1) := by decide +kernel
theorem dX6_carbon_56 : decode cX6_carbon 56 = .ok (.aaload, 1) := by decide +kernel
theorem dX6_carbon_57 : decode cX6_carbon 57 = .ok (.getfield 88, 3) := by decide +kernel
theorem dX6_carbon_60 : decode cX6_carbon 60 = .ok (.istore_n 3, 1) := by decide +kernel
theorem dX6_carbon_61 : decode cX6_carbon 61 = .ok (.aload_n 0, 1) := by decide +kernel
theorem dX6_carbon_62 : decode cX6_carbon 62 = .ok (.getfield 10, 3) := by decide +kernel
theorem dX6_carbon_65 : decode cX6_carbon 65 = .ok (.getfield 75, 3) := by decide +kernel
theorem dX6_carbon_68 : decode cX6_carbon 68 = .ok (.iload_n 1, 1) := by decide +kernel
theorem dX6_carbon_69 : decode cX6_carbon 69 = .ok (.aaload, 1) := by decide +kernel
theorem dX6_carbon_70 : decode cX6_carbon 70 = .ok (.iload_n 2, 1) := by decide +kernel
theorem dX6_carbon_71 : decode cX6_carbon 71 = .ok (.putfield 88, 3) := by decide +kernel
theorem dX6_carbon_74 : decode cX6_carbon 74 = .ok (.iload_n 3, 1) := by decide +kernel
theorem dX6_carbon_75 : decode cX6_carbon 75 = .ok (.ireturn, 1) := by decide +kernel
theorem dX6_write_0 : decode cX6_write 0 = .ok (.aload_n 0, 1) := by decide +kernel
theorem dX6_write_1 : decode cX6_write 1 = .ok (.getfield 10, 3) := by decide +kernel
theorem dX6_write_4 : decode cX6_write 4 = .ok (.iload_n 1, 1) := by decide +kernel
theorem dX6_write_5 : decode cX6_write 5 = .ok (.iload_n 2, 1) := by decide +kernel
theorem dX6_write_6 : decode cX6_write 6 = .ok (.iload_n 3, 1) := by decide +kernel
theorem dX6_write_7 : decode cX6_write 7 = .ok (.invokevirtual 91, 3) := by decide +kernel
theorem dX6_write_10 : decode cX6_write 10 = .ok (.istore 4, 2) := by decide +kernel
theorem dX6_write_12 : decode cX6_write 12 = .ok (.iload 4, 2) := by decide +kernel
theorem dX6_write_14 : decode cX6_write 14 = .ok (.ifCond .eq 6, 3) := by decide +kernel
theorem dX6_write_17 : decode cX6_write 17 = .ok (.iload 4, 2) := by decide +kernel
theorem dX6_write_19 : decode cX6_write 19 = .ok (.ireturn, 1) := by decide +kernel
theorem dX6_write_20 : decode cX6_write 20 = .ok (.aload_n 0, 1) := by decide +kernel
theorem dX6_write_21 : decode cX6_write 21 = .ok (.getfield 29, 3) := by decide +kernel
theorem dX6_write_24 : decode cX6_write 24 = .ok (.aload_n 0, 1) := by decide +kernel
theorem dX6_write_25 : decode cX6_write 25 = .ok (.getfield 10, 3) := by decide +kernel
theorem dX6_write_28 : decode cX6_write 28 = .ok (.invokevirtual 59, 3) := by decide +kernel
theorem dX6_write_31 : decode cX6_write 31 = .ok (.aload_n 0, 1) := by decide +kernel
theorem dX6_write_32 : decode cX6_write 32 = .ok (.getfield 10, 3) := by decide +kernel
theorem dX6_write_35 : decode cX6_write 35 = .ok (.iload_n 1, 1) := by decide +kernel
theorem dX6_write_36 : decode cX6_write 36 = .ok (.iload_n 2, 1) := by decide +kernel
theorem dX6_write_37 : decode cX6_write 37 = .ok (.iload_n 3, 1) := by decide +kernel
theorem dX6_write_38 : decode cX6_write 38 = .ok (.invokevirtual 95, 3) := by decide +kernel
theorem dX6_write_41 : decode cX6_write 41 = .ok (.ireturn, 1) := by decide +kernel
theorem dX6_strike_0 : decode cX6_strike 0 = .ok (.aload_n 0, 1) := by decide +kernel
theorem dX6_strike_1 : decode cX6_strike 1 = .ok (.getfield 10, 3) := by decide +kernel
theorem dX6_strike_4 : decode cX6_strike 4 = .ok (.iload_n 1, 1) := by decide +kernel
theorem dX6_strike_5 : decode cX6_strike 5 = .ok (.iload_n 2, 1) := by decide +kernel
theorem dX6_strike_6 : decode cX6_strike 6 = .ok (.invokevirtual 98, 3) := by decide +kernel
theorem dX6_strike_9 : decode cX6_strike 9 = .ok (.istore_n 3, 1) := by decide +kernel
theorem dX6_strike_10 : decode cX6_strike 10 = .ok (.iload_n 3, 1) := by decide +kernel
theorem dX6_strike_11 : decode cX6_strike 11 = .ok (.ifCond .eq 5, 3) := by decide +kernel
theorem dX6_strike_14 : decode cX6_strike 14 = .ok (.iload_n 3, 1) := by decide +kernel
theorem dX6_strike_15 : decode cX6_strike 15 = .ok (.ireturn, 1) := by decide +kernel
theorem dX6_strike_16 : decode cX6_strike 16 = .ok (.aload_n 0, 1) := by decide +kernel
theorem dX6_strike_17 : decode cX6_strike 17 = .ok (.getfield 29, 3) := by decide +kernel
theorem dX6_strike_20 : decode cX6_strike 20 = .ok (.aload_n 0, 1) := by decide +kernel
theorem dX6_strike_21 : decode cX6_strike 21 = .ok (.getfield 10, 3) := by decide +kernel
theorem dX6_strike_24 : decode cX6_strike 24 = .ok (.invokevirtual 59, 3) := by decide +kernel
theorem dX6_strike_27 : decode cX6_strike 27 = .ok (.aload_n 0, 1) := by decide +kernel
theorem dX6_strike_28 : decode cX6_strike 28 = .ok (.getfield 10, 3) := by decide +kernel
theorem dX6_strike_31 : decode cX6_strike 31 = .ok (.iload_n 1, 1) := by decide +kernel
theorem dX6_strike_32 : decode cX6_strike 32 = .ok (.iload_n 2, 1) := by decide +kernel
theorem dX6_strike_33 : decode cX6_strike 33 = .ok (.invokevirtual 102, 3) := by decide +kernel
theorem dX6_strike_36 : decode cX6_strike 36 = .ok (.ireturn, 1) := by decide +kernel
theorem dX6_paint_0 : decode cX6_paint 0 = .ok (.iload_n 1, 1) := by decide +kernel
theorem dX6_paint_1 : decode cX6_paint 1 = .ok (.invokestatic 67, 3) := by decide +kernel
theorem dX6_paint_4 : decode cX6_paint 4 = .ok (.ifCond .eq 10, 3) := by decide +kernel
theorem dX6_paint_7 : decode cX6_paint 7 = .ok (.iload_n 2, 1) := by decide +kernel
theorem dX6_paint_8 : decode cX6_paint 8 = .ok (.invokestatic 105, 3) := by decide +kernel
theorem dX6_paint_11 : decode cX6_paint 11 = .ok (.ifCond .ne 5, 3) := by decide +kernel
theorem dX6_paint_14 : decode cX6_paint 14 = .ok (.iconst (-1), 1) := by decide +kernel
theorem dX6_paint_15 : decode cX6_paint 15 = .ok (.ireturn, 1) := by decide +kernel
theorem dX6_paint_16 : decode cX6_paint 16 = .ok (.aload_n 0, 1) := by decide +kernel
theorem dX6_paint_17 : decode cX6_paint 17 = .ok (.getfield 10, 3) := by decide +kernel
theorem dX6_paint_20 : decode cX6_paint 20 = .ok (.iload_n 1, 1) := by decide +kernel
theorem dX6_paint_21 : decode cX6_paint 21 = .ok (.invokevirtual 85, 3) := by decide +kernel
theorem dX6_paint_24 : decode cX6_paint 24 = .ok (.ifCond .eq 17, 3) := by decide +kernel
theorem dX6_paint_27 : decode cX6_paint 27 = .ok (.iload_n 1, 1) := by decide +kernel
theorem dX6_paint_28 : decode cX6_paint 28 = .ok (.aload_n 0, 1) := by decide +kernel
theorem dX6_paint_29 : decode cX6_paint 29 = .ok (.getfield 10, 3) := by decide +kernel
theorem dX6_paint_32 : decode cX6_paint 32 = .ok (.getfield 108, 3) := by decide +kernel
theorem dX6_paint_35 : decode cX6_paint 35 = .ok (.if_icmp .eq 6, 3) := by decide +kernel
theorem dX6_paint_38 : decode cX6_paint 38 = .ok (.bipush (-5), 2) := by decide +kernel
theorem dX6_paint_40 : decode cX6_paint 40 = .ok (.ireturn, 1) := by decide +kernel
theorem dX6_paint_41 : decode cX6_paint 41 = .ok (.aload_n 0, 1) := by decide +kernel
theorem dX6_paint_42 : decode cX6_paint 42 = .ok (.getfield 29, 3) := by decide +kernel
theorem dX6_paint_45 : decode cX6_paint 45 = .ok (.aload_n 0, 1) := by decide +kernel
theorem dX6_paint_46 : decode cX6_paint 46 = .ok (.getfield 10, 3) := by decide +kernel
theorem dX6_paint_49 : decode cX6_paint 49 = .ok (.invokevirtual 59, 3) := by decide +kernel
theorem dX6_paint_52 : decode cX6_paint 52 = .ok (.aload_n 0, 1) := by decide +kernel
theorem dX6_paint_53 : decode cX6_paint 53 = .ok (.getfield 10, 3) := by decide +kernel
theorem dX6_paint_56 : decode cX6_paint 56 = .ok (.iload_n 1, 1) := by decide +kernel
theorem dX6_paint_57 : decode cX6_paint 57 = .ok (.iload_n 2, 1) := by decide +kernel
theorem dX6_paint_58 : decode cX6_paint 58 = .ok (.invokevirtual 111, 3) := by decide +kernel
theorem dX6_paint_61 : decode cX6_paint 61 = .ok (.aload_n 0, 1) := by decide +kernel
theorem dX6_paint_62 : decode cX6_paint 62 = .ok (.getfield 10, 3) := by decide +kernel
theorem dX6_paint_65 : decode cX6_paint 65 = .ok (.getfield 75, 3) := by decide +kernel
theorem dX6_paint_68 : decode cX6_paint 68 = .ok (.iload_n 1, 1) := by decide +kernel
theorem dX6_paint_69 : decode cX6_paint 69 = .ok (.aaload, 1) := by decide +kernel
theorem dX6_paint_70 : decode cX6_paint 70 = .ok (.iload_n 2, 1) := by decide +kernel
theorem dX6_paint_71 : decode cX6_paint 71 = .ok (.bipush 9, 2) := by decide +kernel
theorem dX6_paint_73 : decode cX6_paint 73 = .ok (.invokevirtual 115, 3) := by decide +kernel
theorem dX6_paint_76 : decode cX6_paint 76 = .ok (.ireturn, 1) := by decide +kernel
theorem dX6_amend_0 : decode cX6_amend 0 = .ok (.iload_n 1, 1) := by decide +kernel
theorem dX6_amend_1 : decode cX6_amend 1 = .ok (.invokestatic 67, 3) := by decide +kernel
theorem dX6_amend_4 : decode cX6_amend 4 = .ok (.ifCond .eq 10, 3) := by decide +kernel
theorem dX6_amend_7 : decode cX6_amend 7 = .ok (.iload_n 2, 1) := by decide +kernel
theorem dX6_amend_8 : decode cX6_amend 8 = .ok (.invokestatic 105, 3) := by decide +kernel
theorem dX6_amend_11 : decode cX6_amend 11 = .ok (.ifCond .ne 5, 3) := by decide +kernel
theorem dX6_amend_14 : decode cX6_amend 14 = .ok (.iconst (-1), 1) := by decide +kernel
theorem dX6_amend_15 : decode cX6_amend 15 = .ok (.ireturn, 1) := by decide +kernel
theorem dX6_amend_16 : decode cX6_amend 16 = .ok (.iload_n 3, 1) := by decide +kernel
theorem dX6_amend_17 : decode cX6_amend 17 = .ok (.invokestatic 118, 3) := by decide +kernel
theorem dX6_amend_20 : decode cX6_amend 20 = .ok (.ifCond .eq 11, 3) := by decide +kernel
theorem dX6_amend_23 : decode cX6_amend 23 = .ok (.iload 4, 2) := by decide +kernel
theorem dX6_amend_25 : decode cX6_amend 25 = .ok (.invokestatic 121, 3) := by decide +kernel
theorem dX6_amend_28 : decode cX6_amend 28 = .ok (.ifCond .ne 6, 3) := by decide +kernel
theorem dX6_amend_31 : decode cX6_amend 31 = .ok (.bipush (-2), 2) := by decide +kernel
theorem dX6_amend_33 : decode cX6_amend 33 = .ok (.ireturn, 1) := by decide +kernel
theorem dX6_amend_34 : decode cX6_amend 34 = .ok (.aload_n 0, 1) := by decide +kernel
theorem dX6_amend_35 : decode cX6_amend 35 = .ok (.getfield 10, 3) := by decide +kernel
theorem dX6_amend_38 : decode cX6_amend 38 = .ok (.iload_n 1, 1) := by decide +kernel
theorem dX6_amend_39 : decode cX6_amend 39 = .ok (.invokevirtual 85, 3) := by decide +kernel
theorem dX6_amend_42 : decode cX6_amend 42 = .ok (.ifCond .eq 6, 3) := by decide +kernel
theorem dX6_amend_45 : decode cX6_amend 45 = .ok (.bipush (-5), 2) := by decide +kernel
theorem dX6_amend_47 : decode cX6_amend 47 = .ok (.ireturn, 1) := by decide +kernel
theorem dX6_amend_48 : decode cX6_amend 48 = .ok (.aload_n 0, 1) := by decide +kernel
theorem dX6_amend_49 : decode cX6_amend 49 = .ok (.getfield 10, 3) := by decide +kernel
theorem dX6_amend_52 : decode cX6_amend 52 = .ok (.getfield 75, 3) := by decide +kernel
theorem dX6_amend_55 : decode cX6_amend 55 = .ok (.iload_n 1, 1) := by decide +kernel
theorem dX6_amend_56 : decode cX6_amend 56 = .ok (.aaload, 1) := by decide +kernel
theorem dX6_amend_57 : decode cX6_amend 57 = .ok (.iload_n 2, 1) := by decide +kernel
theorem dX6_amend_58 : decode cX6_amend 58 = .ok (.invokevirtual 124, 3) := by decide +kernel
theorem dX6_amend_61 : decode cX6_amend 61 = .ok (.ifCond .ne 6, 3) := by decide +kernel
theorem dX6_amend_64 : decode cX6_amend 64 = .ok (.bipush (-4), 2) := by decide +kernel
theorem dX6_amend_66 : decode cX6_amend 66 = .ok (.ireturn, 1) := by decide +kernel
theorem dX6_amend_67 : decode cX6_amend 67 = .ok (.aload_n 0, 1) := by decide +kernel
theorem dX6_amend_68 : decode cX6_amend 68 = .ok (.getfield 29, 3) := by decide +kernel
theorem dX6_amend_71 : decode cX6_amend 71 = .ok (.aload_n 0, 1) := by decide +kernel
theorem dX6_amend_72 : decode cX6_amend 72 = .ok (.getfield 10, 3) := by decide +kernel
theorem dX6_amend_75 : decode cX6_amend 75 = .ok (.invokevirtual 59, 3) := by decide +kernel
theorem dX6_amend_78 : decode cX6_amend 78 = .ok (.aload_n 0, 1) := by decide +kernel
theorem dX6_amend_79 : decode cX6_amend 79 = .ok (.getfield 10, 3) := by decide +kernel
theorem dX6_amend_82 : decode cX6_amend 82 = .ok (.iload_n 1, 1) := by decide +kernel
theorem dX6_amend_83 : decode cX6_amend 83 = .ok (.iload_n 2, 1) := by decide +kernel
theorem dX6_amend_84 : decode cX6_amend 84 = .ok (.invokevirtual 111, 3) := by decide +kernel
theorem dX6_amend_87 : decode cX6_amend 87 = .ok (.aload_n 0, 1) := by decide +kernel
theorem dX6_amend_88 : decode cX6_amend 88 = .ok (.getfield 10, 3) := by decide +kernel
theorem dX6_amend_91 : decode cX6_amend 91 = .ok (.getfield 75, 3) := by decide +kernel
theorem dX6_amend_94 : decode cX6_amend 94 = .ok (.iload_n 1, 1) := by decide +kernel
theorem dX6_amend_95 : decode cX6_amend 95 = .ok (.aaload, 1) := by decide +kernel
theorem dX6_amend_96 : decode cX6_amend 96 = .ok (.iload_n 2, 1) := by decide +kernel
theorem dX6_amend_97 : decode cX6_amend 97 = .ok (.iload_n 3, 1) := by decide +kernel
theorem dX6_amend_98 : decode cX6_amend 98 = .ok (.iload 4, 2) := by decide +kernel
theorem dX6_amend_100 : decode cX6_amend 100 = .ok (.invokevirtual 127, 3) := by decide +kernel
theorem dX6_amend_103 : decode cX6_amend 103 = .ok (.aload_n 0, 1) := by decide +kernel
theorem dX6_amend_104 : decode cX6_amend 104 = .ok (.getfield 10, 3) := by decide +kernel
theorem dX6_amend_107 : decode cX6_amend 107 = .ok (.getfield 75, 3) := by decide +kernel
theorem dX6_amend_110 : decode cX6_amend 110 = .ok (.iload_n 1, 1) := by decide +kernel
theorem dX6_amend_111 : decode cX6_amend 111 = .ok (.aaload, 1) := by decide +kernel
theorem dX6_amend_112 : decode cX6_amend 112 = .ok (.getfield 131, 3) := by decide +kernel
theorem dX6_amend_115 : decode cX6_amend 115 = .ok (.iload_n 2, 1) := by decide +kernel
theorem dX6_amend_116 : decode cX6_amend 116 = .ok (.iaload, 1) := by decide +kernel
theorem dX6_amend_117 : decode cX6_amend 117 = .ok (.ireturn, 1) := by decide +kernel
theorem dX6_tear_0 : decode cX6_tear 0 = .ok (.aload_n 0, 1) := by decide +kernel
theorem dX6_tear_1 : decode cX6_tear 1 = .ok (.getfield 10, 3) := by decide +kernel
theorem dX6_tear_4 : decode cX6_tear 4 = .ok (.iload_n 1, 1) := by decide +kernel
theorem dX6_tear_5 : decode cX6_tear 5 = .ok (.invokevirtual 134, 3) := by decide +kernel
theorem dX6_tear_8 : decode cX6_tear 8 = .ok (.istore_n 2, 1) := by decide +kernel
theorem dX6_tear_9 : decode cX6_tear 9 = .ok (.iload_n 2, 1) := by decide +kernel
theorem dX6_tear_10 : decode cX6_tear 10 = .ok (.ifCond .eq 5, 3) := by decide +kernel
theorem dX6_tear_13 : decode cX6_tear 13 = .ok (.iload_n 2, 1) := by decide +kernel
theorem dX6_tear_14 : decode cX6_tear 14 = .ok (.ireturn, 1) := by decide +kernel
theorem dX6_tear_15 : decode cX6_tear 15 = .ok (.aload_n 0, 1) := by decide +kernel
theorem dX6_tear_16 : decode cX6_tear 16 = .ok (.getfield 29, 3) := by decide +kernel
theorem dX6_tear_19 : decode cX6_tear 19 = .ok (.aload_n 0, 1) := by decide +kernel
theorem dX6_tear_20 : decode cX6_tear 20 = .ok (.getfield 10, 3) := by decide +kernel
theorem dX6_tear_23 : decode cX6_tear 23 = .ok (.invokevirtual 59, 3) := by decide +kernel
theorem dX6_tear_26 : decode cX6_tear 26 = .ok (.aload_n 0, 1) := by decide +kernel
theorem dX6_tear_27 : decode cX6_tear 27 = .ok (.getfield 10, 3) := by decide +kernel
theorem dX6_tear_30 : decode cX6_tear 30 = .ok (.iload_n 1, 1) := by decide +kernel
theorem dX6_tear_31 : decode cX6_tear 31 = .ok (.invokevirtual 138, 3) := by decide +kernel
theorem dX6_tear_34 : decode cX6_tear 34 = .ok (.ireturn, 1) := by decide +kernel
theorem dX6_ofSheet_0 : decode cX6_ofSheet 0 = .ok (.iload_n 1, 1) := by decide +kernel
theorem dX6_ofSheet_1 : decode cX6_ofSheet 1 = .ok (.invokestatic 67, 3) := by decide +kernel
theorem dX6_ofSheet_4 : decode cX6_ofSheet 4 = .ok (.ifCond .ne 5, 3) := by decide +kernel
theorem dX6_ofSheet_7 : decode cX6_ofSheet 7 = .ok (.iconst (-1), 1) := by decide +kernel
theorem dX6_ofSheet_8 : decode cX6_ofSheet 8 = .ok (.ireturn, 1) := by decide +kernel
theorem dX6_ofSheet_9 : decode cX6_ofSheet 9 = .ok (.aload_n 0, 1) := by decide +kernel
theorem dX6_ofSheet_10 : decode cX6_ofSheet 10 = .ok (.getfield 10, 3) := by decide +kernel
theorem dX6_ofSheet_13 : decode cX6_ofSheet 13 = .ok (.getfield 75, 3) := by decide +kernel
theorem dX6_ofSheet_16 : decode cX6_ofSheet 16 = .ok (.iload_n 1, 1) := by decide +kernel
theorem dX6_ofSheet_17 : decode cX6_ofSheet 17 = .ok (.aaload, 1) := by decide +kernel
theorem dX6_ofSheet_18 : decode cX6_ofSheet 18 = .ok (.astore_n 3, 1) := by decide +kernel
theorem dX6_ofSheet_19 : decode cX6_ofSheet 19 = .ok (.iload_n 2, 1) := by decide +kernel
theorem dX6_ofSheet_20 : decode cX6_ofSheet 20 = .ok (.tableswitch 110 0 7 #[48, 53, 58, 75, 80, 85, 95, 105], 48) := by decide +kernel
theorem dX6_ofSheet_68 : decode cX6_ofSheet 68 = .ok (.aload_n 3, 1) := by decide +kernel
theorem dX6_ofSheet_69 : decode cX6_ofSheet 69 = .ok (.getfield 79, 3) := by decide +kernel
theorem dX6_ofSheet_72 : decode cX6_ofSheet 72 = .ok (.ireturn, 1) := by decide +kernel
theorem dX6_ofSheet_73 : decode cX6_ofSheet 73 = .ok (.aload_n 3, 1) := by decide +kernel
theorem dX6_ofSheet_74 : decode cX6_ofSheet 74 = .ok (.getfield 88, 3) := by decide +kernel
theorem dX6_ofSheet_77 : decode cX6_ofSheet 77 = .ok (.ireturn, 1) := by decide +kernel
theorem dX6_ofSheet_78 : decode cX6_ofSheet 78 = .ok (.aload_n 0, 1) := by decide +kernel
theorem dX6_ofSheet_79 : decode cX6_ofSheet 79 = .ok (.getfield 10, 3) := by decide +kernel
theorem dX6_ofSheet_82 : decode cX6_ofSheet 82 = .ok (.iload_n 1, 1) := by decide +kernel
theorem dX6_ofSheet_83 : decode cX6_ofSheet 83 = .ok (.invokevirtual 85, 3) := by decide +kernel
theorem dX6_ofSheet_86 : decode cX6_ofSheet 86 = .ok (.ifCond .eq 7, 3) := by decide +kernel
theorem dX6_ofSheet_89 : decode cX6_ofSheet 89 = .ok (.iconst 0, 1) := by decide +kernel
theorem dX6_ofSheet_90 : decode cX6_ofSheet 90 = .ok (.goto 4, 3) := by decide +kernel
theorem dX6_ofSheet_93 : decode cX6_ofSheet 93 = .ok (.iconst 1, 1) := by decide +kernel
theorem dX6_ofSheet_94 : decode cX6_ofSheet 94 = .ok (.ireturn, 1) := by decide +kernel
theorem dX6_ofSheet_95 : decode cX6_ofSheet 95 = .ok (.aload_n 3, 1) := by decide +kernel
theorem dX6_ofSheet_96 : decode cX6_ofSheet 96 = .ok (.invokevirtual 141, 3) := by decide +kernel
theorem dX6_ofSheet_99 : decode cX6_ofSheet 99 = .ok (.ireturn, 1) := by decide +kernel
theorem dX6_ofSheet_100 : decode cX6_ofSheet 100 = .ok (.aload_n 3, 1) := by decide +kernel
theorem dX6_ofSheet_101 : decode cX6_ofSheet 101 = .ok (.invokevirtual 145, 3) := by decide +kernel
theorem dX6_ofSheet_104 : decode cX6_ofSheet 104 = .ok (.ireturn, 1) := by decide +kernel
theorem dX6_ofSheet_105 : decode cX6_ofSheet 105 = .ok (.aload_n 0, 1) := by decide +kernel
theorem dX6_ofSheet_106 : decode cX6_ofSheet 106 = .ok (.getfield 10, 3) := by decide +kernel
theorem dX6_ofSheet_109 : decode cX6_ofSheet 109 = .ok (.iconst 1, 1) := by decide +kernel
theorem dX6_ofSheet_110 : decode cX6_ofSheet 110 = .ok (.iload_n 1, 1) := by decide +kernel
theorem dX6_ofSheet_111 : decode cX6_ofSheet 111 = .ok (.invokevirtual 148, 3) := by decide +kernel
theorem dX6_ofSheet_114 : decode cX6_ofSheet 114 = .ok (.ireturn, 1) := by decide +kernel
theorem dX6_ofSheet_115 : decode cX6_ofSheet 115 = .ok (.aload_n 0, 1) := by decide +kernel
theorem dX6_ofSheet_116 : decode cX6_ofSheet 116 = .ok (.getfield 10, 3) := by decide +kernel
theorem dX6_ofSheet_119 : decode cX6_ofSheet 119 = .ok (.iconst 2, 1) := by decide +kernel
theorem dX6_ofSheet_120 : decode cX6_ofSheet 120 = .ok (.iload_n 1, 1) := by decide +kernel
theorem dX6_ofSheet_121 : decode cX6_ofSheet 121 = .ok (.invokevirtual 148, 3) := by decide +kernel
theorem dX6_ofSheet_124 : decode cX6_ofSheet 124 = .ok (.ireturn, 1) := by decide +kernel
theorem dX6_ofSheet_125 : decode cX6_ofSheet 125 = .ok (.aload_n 3, 1) := by decide +kernel
theorem dX6_ofSheet_126 : decode cX6_ofSheet 126 = .ok (.getfield 151, 3) := by decide +kernel
theorem dX6_ofSheet_129 : decode cX6_ofSheet 129 = .ok (.ireturn, 1) := by decide +kernel
theorem dX6_ofSheet_130 : decode cX6_ofSheet 130 = .ok (.bipush (-2), 2) := by decide +kernel
theorem dX6_ofSheet_132 : decode cX6_ofSheet 132 = .ok (.ireturn, 1) := by decide +kernel
theorem dX6_reading_0 : decode cX6_reading 0 = .ok (.iload_n 1, 1) := by decide +kernel
theorem dX6_reading_1 : decode cX6_reading 1 = .ok (.invokestatic 67, 3) := by decide +kernel
theorem dX6_reading_4 : decode cX6_reading 4 = .ok (.ifCond .eq 10, 3) := by decide +kernel
theorem dX6_reading_7 : decode cX6_reading 7 = .ok (.iload_n 2, 1) := by decide +kernel
theorem dX6_reading_8 : decode cX6_reading 8 = .ok (.invokestatic 105, 3) := by decide +kernel
theorem dX6_reading_11 : decode cX6_reading 11 = .ok (.ifCond .ne 5, 3) := by decide +kernel
theorem dX6_reading_14 : decode cX6_reading 14 = .ok (.iconst (-1), 1) := by decide +kernel
theorem dX6_reading_15 : decode cX6_reading 15 = .ok (.ireturn, 1) := by decide +kernel
theorem dX6_reading_16 : decode cX6_reading 16 = .ok (.aload_n 0, 1) := by decide +kernel
theorem dX6_reading_17 : decode cX6_reading 17 = .ok (.getfield 10, 3) := by decide +kernel
theorem dX6_reading_20 : decode cX6_reading 20 = .ok (.getfield 75, 3) := by decide +kernel
theorem dX6_reading_23 : decode cX6_reading 23 = .ok (.iload_n 1, 1) := by decide +kernel
theorem dX6_reading_24 : decode cX6_reading 24 = .ok (.aaload, 1) := by decide +kernel
theorem dX6_reading_25 : decode cX6_reading 25 = .ok (.astore 4, 2) := by decide +kernel
theorem dX6_reading_27 : decode cX6_reading 27 = .ok (.aload 4, 2) := by decide +kernel
theorem dX6_reading_29 : decode cX6_reading 29 = .ok (.iload_n 2, 1) := by decide +kernel
theorem dX6_reading_30 : decode cX6_reading 30 = .ok (.aload_n 0, 1) := by decide +kernel
theorem dX6_reading_31 : decode cX6_reading 31 = .ok (.getfield 10, 3) := by decide +kernel
theorem dX6_reading_34 : decode cX6_reading 34 = .ok (.getfield 63, 3) := by decide +kernel
theorem dX6_reading_37 : decode cX6_reading 37 = .ok (.iconst 0, 1) := by decide +kernel
theorem dX6_reading_38 : decode cX6_reading 38 = .ok (.iaload, 1) := by decide +kernel
theorem dX6_reading_39 : decode cX6_reading 39 = .ok (.invokevirtual 154, 3) := by decide +kernel
theorem dX6_reading_42 : decode cX6_reading 42 = .ok (.istore 5, 2) := by decide +kernel
theorem dX6_reading_44 : decode cX6_reading 44 = .ok (.iload_n 3, 1) := by decide +kernel
theorem dX6_reading_45 : decode cX6_reading 45 = .ok (.tableswitch 107 0 4 #[35, 45, 64, 83, 91], 35) := by decide +kernel
theorem dX6_reading_80 : decode cX6_reading 80 = .ok (.aload_n 0, 1) := by decide +kernel
theorem dX6_reading_81 : decode cX6_reading 81 = .ok (.getfield 10, 3) := by decide +kernel
theorem dX6_reading_84 : decode cX6_reading 84 = .ok (.iload_n 1, 1) := by decide +kernel
theorem dX6_reading_85 : decode cX6_reading 85 = .ok (.iload_n 2, 1) := by decide +kernel
theorem dX6_reading_86 : decode cX6_reading 86 = .ok (.invokevirtual 157, 3) := by decide +kernel
theorem dX6_reading_89 : decode cX6_reading 89 = .ok (.ireturn, 1) := by decide +kernel
theorem dX6_reading_90 : decode cX6_reading 90 = .ok (.iload 5, 2) := by decide +kernel
theorem dX6_reading_92 : decode cX6_reading 92 = .ok (.ifCond .ge 8, 3) := by decide +kernel
theorem dX6_reading_95 : decode cX6_reading 95 = .ok (.bipush (-6), 2) := by decide +kernel
theorem dX6_reading_97 : decode cX6_reading 97 = .ok (.goto 11, 3) := by decide +kernel
theorem dX6_reading_100 : decode cX6_reading 100 = .ok (.aload 4, 2) := by decide +kernel
theorem dX6_reading_102 : decode cX6_reading 102 = .ok (.iload_n 2, 1) := by decide +kernel
theorem dX6_reading_103 : decode cX6_reading 103 = .ok (.iload 5, 2) := by decide +kernel
theorem dX6_reading_105 : decode cX6_reading 105 = .ok (.invokevirtual 160, 3) := by decide +kernel
theorem dX6_reading_108 : decode cX6_reading 108 = .ok (.ireturn, 1) := by decide +kernel
theorem dX6_reading_109 : decode cX6_reading 109 = .ok (.iload 5, 2) := by decide +kernel
theorem dX6_reading_111 : decode cX6_reading 111 = .ok (.ifCond .ge 8, 3) := by decide +kernel
theorem dX6_reading_114 : decode cX6_reading 114 = .ok (.bipush (-6), 2) := by decide +kernel
theorem dX6_reading_116 : decode cX6_reading 116 = .ok (.goto 11, 3) := by decide +kernel
theorem dX6_reading_119 : decode cX6_reading 119 = .ok (.aload 4, 2) := by decide +kernel
theorem dX6_reading_121 : decode cX6_reading 121 = .ok (.iload_n 2, 1) := by decide +kernel
theorem dX6_reading_122 : decode cX6_reading 122 = .ok (.iload 5, 2) := by decide +kernel
theorem dX6_reading_124 : decode cX6_reading 124 = .ok (.invokevirtual 163, 3) := by decide +kernel
theorem dX6_reading_127 : decode cX6_reading 127 = .ok (.ireturn, 1) := by decide +kernel
theorem dX6_reading_128 : decode cX6_reading 128 = .ok (.aload 4, 2) := by decide +kernel
theorem dX6_reading_130 : decode cX6_reading 130 = .ok (.getfield 131, 3) := by decide +kernel
theorem dX6_reading_133 : decode cX6_reading 133 = .ok (.iload_n 2, 1) := by decide +kernel
theorem dX6_reading_134 : decode cX6_reading 134 = .ok (.iaload, 1) := by decide +kernel
theorem dX6_reading_135 : decode cX6_reading 135 = .ok (.ireturn, 1) := by decide +kernel
theorem dX6_reading_136 : decode cX6_reading 136 = .ok (.aload 4, 2) := by decide +kernel
theorem dX6_reading_138 : decode cX6_reading 138 = .ok (.iload_n 2, 1) := by decide +kernel
theorem dX6_reading_139 : decode cX6_reading 139 = .ok (.aload_n 0, 1) := by decide +kernel
theorem dX6_reading_140 : decode cX6_reading 140 = .ok (.getfield 10, 3) := by decide +kernel
theorem dX6_reading_143 : decode cX6_reading 143 = .ok (.getfield 63, 3) := by decide +kernel
theorem dX6_reading_146 : decode cX6_reading 146 = .ok (.iconst 0, 1) := by decide +kernel
theorem dX6_reading_147 : decode cX6_reading 147 = .ok (.iaload, 1) := by decide +kernel
theorem dX6_reading_148 : decode cX6_reading 148 = .ok (.invokevirtual 166, 3) := by decide +kernel
theorem dX6_reading_151 : decode cX6_reading 151 = .ok (.ireturn, 1) := by decide +kernel
theorem dX6_reading_152 : decode cX6_reading 152 = .ok (.bipush (-2), 2) := by decide +kernel
theorem dX6_reading_154 : decode cX6_reading 154 = .ok (.ireturn, 1) := by decide +kernel
theorem dX6_ofMark_0 : decode cX6_ofMark 0 = .ok (.iload_n 1, 1) := by decide +kernel
theorem dX6_ofMark_1 : decode cX6_ofMark 1 = .ok (.invokestatic 67, 3) := by decide +kernel
theorem dX6_ofMark_4 : decode cX6_ofMark 4 = .ok (.ifCond .eq 10, 3) := by decide +kernel
theorem dX6_ofMark_7 : decode cX6_ofMark 7 = .ok (.iload_n 2, 1) := by decide +kernel
theorem dX6_ofMark_8 : decode cX6_ofMark 8 = .ok (.invokestatic 105, 3) := by decide +kernel
theorem dX6_ofMark_11 : decode cX6_ofMark 11 = .ok (.ifCond .ne 5, 3) := by decide +kernel
theorem dX6_ofMark_14 : decode cX6_ofMark 14 = .ok (.iconst (-1), 1) := by decide +kernel
theorem dX6_ofMark_15 : decode cX6_ofMark 15 = .ok (.ireturn, 1) := by decide +kernel
theorem dX6_ofMark_16 : decode cX6_ofMark 16 = .ok (.aload_n 0, 1) := by decide +kernel
theorem dX6_ofMark_17 : decode cX6_ofMark 17 = .ok (.getfield 10, 3) := by decide +kernel
theorem dX6_ofMark_20 : decode cX6_ofMark 20 = .ok (.getfield 75, 3) := by decide +kernel
theorem dX6_ofMark_23 : decode cX6_ofMark 23 = .ok (.iload_n 1, 1) := by decide +kernel
theorem dX6_ofMark_24 : decode cX6_ofMark 24 = .ok (.aaload, 1) := by decide +kernel
theorem dX6_ofMark_25 : decode cX6_ofMark 25 = .ok (.astore 5, 2) := by decide +kernel
theorem dX6_ofMark_27 : decode cX6_ofMark 27 = .ok (.iload_n 3, 1) := by decide +kernel
theorem dX6_ofMark_28 : decode cX6_ofMark 28 = .ok (.ifCond .lt 14, 3) := by decide +kernel
theorem dX6_ofMark_31 : decode cX6_ofMark 31 = .ok (.iload_n 3, 1) := by decide +kernel
theorem dX6_ofMark_32 : decode cX6_ofMark 32 = .ok (.aload 5, 2) := by decide +kernel
theorem dX6_ofMark_34 : decode cX6_ofMark 34 = .ok (.getfield 131, 3) := by decide +kernel
theorem dX6_ofMark_37 : decode cX6_ofMark 37 = .ok (.iload_n 2, 1) := by decide +kernel
theorem dX6_ofMark_38 : decode cX6_ofMark 38 = .ok (.iaload, 1) := by decide +kernel
theorem dX6_ofMark_39 : decode cX6_ofMark 39 = .ok (.if_icmp .lt 5, 3) := by decide +kernel
theorem dX6_ofMark_42 : decode cX6_ofMark 42 = .ok (.iconst (-1), 1) := by decide +kernel
theorem dX6_ofMark_43 : decode cX6_ofMark 43 = .ok (.ireturn, 1) := by decide +kernel
theorem dX6_ofMark_44 : decode cX6_ofMark 44 = .ok (.iload 4, 2) := by decide +kernel
theorem dX6_ofMark_46 : decode cX6_ofMark 46 = .ok (.tableswitch 58 0 2 #[26, 34, 42], 26) := by decide +kernel
theorem dX6_ofMark_72 : decode cX6_ofMark 72 = .ok (.aload 5, 2) := by decide +kernel
theorem dX6_ofMark_74 : decode cX6_ofMark 74 = .ok (.iload_n 2, 1) := by decide +kernel
theorem dX6_ofMark_75 : decode cX6_ofMark 75 = .ok (.iload_n 3, 1) := by decide +kernel
theorem dX6_ofMark_76 : decode cX6_ofMark 76 = .ok (.invokevirtual 160, 3) := by decide +kernel
theorem dX6_ofMark_79 : decode cX6_ofMark 79 = .ok (.ireturn, 1) := by decide +kernel
theorem dX6_ofMark_80 : decode cX6_ofMark 80 = .ok (.aload 5, 2) := by decide +kernel
theorem dX6_ofMark_82 : decode cX6_ofMark 82 = .ok (.iload_n 2, 1) := by decide +kernel
theorem dX6_ofMark_83 : decode cX6_ofMark 83 = .ok (.iload_n 3, 1) := by decide +kernel
theorem dX6_ofMark_84 : decode cX6_ofMark 84 = .ok (.invokevirtual 163, 3) := by decide +kernel
theorem dX6_ofMark_87 : decode cX6_ofMark 87 = .ok (.ireturn, 1) := by decide +kernel
theorem dX6_ofMark_88 : decode cX6_ofMark 88 = .ok (.aload 5, 2) := by decide +kernel
theorem dX6_ofMark_90 : decode cX6_ofMark 90 = .ok (.iload_n 2, 1) := by decide +kernel
theorem dX6_ofMark_91 : decode cX6_ofMark 91 = .ok (.iload_n 3, 1) := by decide +kernel
theorem dX6_ofMark_92 : decode cX6_ofMark 92 = .ok (.invokevirtual 169, 3) := by decide +kernel
theorem dX6_ofMark_95 : decode cX6_ofMark 95 = .ok (.ifCond .eq 7, 3) := by decide +kernel
theorem dX6_ofMark_98 : decode cX6_ofMark 98 = .ok (.iconst 1, 1) := by decide +kernel
theorem dX6_ofMark_99 : decode cX6_ofMark 99 = .ok (.goto 4, 3) := by decide +kernel
theorem dX6_ofMark_102 : decode cX6_ofMark 102 = .ok (.iconst 0, 1) := by decide +kernel
theorem dX6_ofMark_103 : decode cX6_ofMark 103 = .ok (.ireturn, 1) := by decide +kernel
theorem dX6_ofMark_104 : decode cX6_ofMark 104 = .ok (.bipush (-2), 2) := by decide +kernel
theorem dX6_ofMark_106 : decode cX6_ofMark 106 = .ok (.ireturn, 1) := by decide +kernel
theorem dX6_together_0 : decode cX6_together 0 = .ok (.iload_n 1, 1) := by decide +kernel
theorem dX6_together_1 : decode cX6_together 1 = .ok (.invokestatic 105, 3) := by decide +kernel
theorem dX6_together_4 : decode cX6_together 4 = .ok (.ifCond .ne 5, 3) := by decide +kernel
theorem dX6_together_7 : decode cX6_together 7 = .ok (.iconst (-1), 1) := by decide +kernel
theorem dX6_together_8 : decode cX6_together 8 = .ok (.ireturn, 1) := by decide +kernel
theorem dX6_together_9 : decode cX6_together 9 = .ok (.aload_n 0, 1) := by decide +kernel
theorem dX6_together_10 : decode cX6_together 10 = .ok (.getfield 22, 3) := by decide +kernel
theorem dX6_together_13 : decode cX6_together 13 = .ok (.aload_n 0, 1) := by decide +kernel
theorem dX6_together_14 : decode cX6_together 14 = .ok (.getfield 10, 3) := by decide +kernel
theorem dX6_together_17 : decode cX6_together 17 = .ok (.iload_n 1, 1) := by decide +kernel
theorem dX6_together_18 : decode cX6_together 18 = .ok (.invokevirtual 172, 3) := by decide +kernel
theorem dX6_together_21 : decode cX6_together 21 = .ok (.iload_n 2, 1) := by decide +kernel
theorem dX6_together_22 : decode cX6_together 22 = .ok (.tableswitch 74 0 4 #[34, 42, 50, 58, 66], 34) := by decide +kernel
theorem dX6_together_56 : decode cX6_together 56 = .ok (.aload_n 0, 1) := by decide +kernel
theorem dX6_together_57 : decode cX6_together 57 = .ok (.getfield 22, 3) := by decide +kernel
theorem dX6_together_60 : decode cX6_together 60 = .ok (.getfield 176, 3) := by decide +kernel
theorem dX6_together_63 : decode cX6_together 63 = .ok (.ireturn, 1) := by decide +kernel
theorem dX6_together_64 : decode cX6_together 64 = .ok (.aload_n 0, 1) := by decide +kernel
theorem dX6_together_65 : decode cX6_together 65 = .ok (.getfield 22, 3) := by decide +kernel
theorem dX6_together_68 : decode cX6_together 68 = .ok (.getfield 179, 3) := by decide +kernel
theorem dX6_together_71 : decode cX6_together 71 = .ok (.ireturn, 1) := by decide +kernel
theorem dX6_together_72 : decode cX6_together 72 = .ok (.aload_n 0, 1) := by decide +kernel
theorem dX6_together_73 : decode cX6_together 73 = .ok (.getfield 22, 3) := by decide +kernel
theorem dX6_together_76 : decode cX6_together 76 = .ok (.getfield 182, 3) := by decide +kernel
theorem dX6_together_79 : decode cX6_together 79 = .ok (.ireturn, 1) := by decide +kernel
theorem dX6_together_80 : decode cX6_together 80 = .ok (.aload_n 0, 1) := by decide +kernel
theorem dX6_together_81 : decode cX6_together 81 = .ok (.getfield 22, 3) := by decide +kernel
theorem dX6_together_84 : decode cX6_together 84 = .ok (.getfield 185, 3) := by decide +kernel
theorem dX6_together_87 : decode cX6_together 87 = .ok (.ireturn, 1) := by decide +kernel
theorem dX6_together_88 : decode cX6_together 88 = .ok (.aload_n 0, 1) := by decide +kernel
theorem dX6_together_89 : decode cX6_together 89 = .ok (.getfield 22, 3) := by decide +kernel
theorem dX6_together_92 : decode cX6_together 92 = .ok (.getfield 188, 3) := by decide +kernel
theorem dX6_together_95 : decode cX6_together 95 = .ok (.ireturn, 1) := by decide +kernel
theorem dX6_together_96 : decode cX6_together 96 = .ok (.bipush (-2), 2) := by decide +kernel
theorem dX6_together_98 : decode cX6_together 98 = .ok (.ireturn, 1) := by decide +kernel
theorem dX6_count_0 : decode cX6_count 0 = .ok (.iload_n 1, 1) := by decide +kernel
theorem dX6_count_1 : decode cX6_count 1 = .ok (.tableswitch 167 0 9 #[55, 78, 101, 109, 117, 124, 131, 139, 147, 157], 55) := by decide +kernel
theorem dX6_count_56 : decode cX6_count 56 = .ok (.aload_n 0, 1) := by decide +kernel
theorem dX6_count_57 : decode cX6_count 57 = .ok (.getfield 10, 3) := by decide +kernel
theorem dX6_count_60 : decode cX6_count 60 = .ok (.invokevirtual 191, 3) := by decide +kernel
theorem dX6_count_63 : decode cX6_count 63 = .ok (.ifCond .eq 8, 3) := by decide +kernel
theorem dX6_count_66 : decode cX6_count 66 = .ok (.bipush (-6), 2) := by decide +kernel
theorem dX6_count_68 : decode cX6_count 68 = .ok (.goto 10, 3) := by decide +kernel
theorem dX6_count_71 : decode cX6_count 71 = .ok (.aload_n 0, 1) := by decide +kernel
theorem dX6_count_72 : decode cX6_count 72 = .ok (.getfield 10, 3) := by decide +kernel
theorem dX6_count_75 : decode cX6_count 75 = .ok (.getfield 108, 3) := by decide +kernel
theorem dX6_count_78 : decode cX6_count 78 = .ok (.ireturn, 1) := by decide +kernel
theorem dX6_count_79 : decode cX6_count 79 = .ok (.aload_n 0, 1) := by decide +kernel
theorem dX6_count_80 : decode cX6_count 80 = .ok (.getfield 10, 3) := by decide +kernel
theorem dX6_count_83 : decode cX6_count 83 = .ok (.invokevirtual 191, 3) := by decide +kernel
theorem dX6_count_86 : decode cX6_count 86 = .ok (.ifCond .eq 8, 3) := by decide +kernel
theorem dX6_count_89 : decode cX6_count 89 = .ok (.bipush (-6), 2) := by decide +kernel
theorem dX6_count_91 : decode cX6_count 91 = .ok (.goto 10, 3) := by decide +kernel
theorem dX6_count_94 : decode cX6_count 94 = .ok (.aload_n 0, 1) := by decide +kernel
theorem dX6_count_95 : decode cX6_count 95 = .ok (.getfield 10, 3) := by decide +kernel
theorem dX6_count_98 : decode cX6_count 98 = .ok (.getfield 195, 3) := by decide +kernel
theorem dX6_count_101 : decode cX6_count 101 = .ok (.ireturn, 1) := by decide +kernel
theorem dX6_count_102 : decode cX6_count 102 = .ok (.aload_n 0, 1) := by decide +kernel
theorem dX6_count_103 : decode cX6_count 103 = .ok (.getfield 10, 3) := by decide +kernel
theorem dX6_count_106 : decode cX6_count 106 = .ok (.invokevirtual 198, 3) := by decide +kernel
theorem dX6_count_109 : decode cX6_count 109 = .ok (.ireturn, 1) := by decide +kernel
theorem dX6_count_110 : decode cX6_count 110 = .ok (.aload_n 0, 1) := by decide +kernel
theorem dX6_count_111 : decode cX6_count 111 = .ok (.getfield 10, 3) := by decide +kernel
theorem dX6_count_114 : decode cX6_count 114 = .ok (.invokevirtual 201, 3) := by decide +kernel
theorem dX6_count_117 : decode cX6_count 117 = .ok (.ireturn, 1) := by decide +kernel
theorem dX6_count_118 : decode cX6_count 118 = .ok (.aload_n 0, 1) := by decide +kernel
theorem dX6_count_119 : decode cX6_count 119 = .ok (.iconst 1, 1) := by decide +kernel
theorem dX6_count_120 : decode cX6_count 120 = .ok (.iconst 1, 1) := by decide +kernel
theorem dX6_count_121 : decode cX6_count 121 = .ok (.invokevirtual 202, 3) := by decide +kernel
theorem dX6_count_124 : decode cX6_count 124 = .ok (.ireturn, 1) := by decide +kernel
theorem dX6_count_125 : decode cX6_count 125 = .ok (.aload_n 0, 1) := by decide +kernel
theorem dX6_count_126 : decode cX6_count 126 = .ok (.iconst 2, 1) := by decide +kernel
theorem dX6_count_127 : decode cX6_count 127 = .ok (.iconst 5, 1) := by decide +kernel
theorem dX6_count_128 : decode cX6_count 128 = .ok (.invokevirtual 202, 3) := by decide +kernel
theorem dX6_count_131 : decode cX6_count 131 = .ok (.ireturn, 1) := by decide +kernel
theorem dX6_count_132 : decode cX6_count 132 = .ok (.aload_n 0, 1) := by decide +kernel
theorem dX6_count_133 : decode cX6_count 133 = .ok (.getfield 44, 3) := by decide +kernel
theorem dX6_count_136 : decode cX6_count 136 = .ok (.getfield 205, 3) := by decide +kernel
theorem dX6_count_139 : decode cX6_count 139 = .ok (.ireturn, 1) := by decide +kernel
theorem dX6_count_140 : decode cX6_count 140 = .ok (.aload_n 0, 1) := by decide +kernel
theorem dX6_count_141 : decode cX6_count 141 = .ok (.getfield 29, 3) := by decide +kernel
theorem dX6_count_144 : decode cX6_count 144 = .ok (.getfield 208, 3) := by decide +kernel
theorem dX6_count_147 : decode cX6_count 147 = .ok (.ireturn, 1) := by decide +kernel
theorem dX6_count_148 : decode cX6_count 148 = .ok (.aload_n 0, 1) := by decide +kernel
theorem dX6_count_149 : decode cX6_count 149 = .ok (.getfield 10, 3) := by decide +kernel
theorem dX6_count_152 : decode cX6_count 152 = .ok (.getfield 63, 3) := by decide +kernel
theorem dX6_count_155 : decode cX6_count 155 = .ok (.iconst 0, 1) := by decide +kernel
theorem dX6_count_156 : decode cX6_count 156 = .ok (.iaload, 1) := by decide +kernel
theorem dX6_count_157 : decode cX6_count 157 = .ok (.ireturn, 1) := by decide +kernel
theorem dX6_count_158 : decode cX6_count 158 = .ok (.aload_n 0, 1) := by decide +kernel
theorem dX6_count_159 : decode cX6_count 159 = .ok (.getfield 10, 3) := by decide +kernel
theorem dX6_count_162 : decode cX6_count 162 = .ok (.getfield 63, 3) := by decide +kernel
theorem dX6_count_165 : decode cX6_count 165 = .ok (.iconst 1, 1) := by decide +kernel
theorem dX6_count_166 : decode cX6_count 166 = .ok (.iaload, 1) := by decide +kernel
theorem dX6_count_167 : decode cX6_count 167 = .ok (.ireturn, 1) := by decide +kernel
theorem dX6_count_168 : decode cX6_count 168 = .ok (.bipush (-2), 2) := by decide +kernel
theorem dX6_count_170 : decode cX6_count 170 = .ok (.ireturn, 1) := by decide +kernel
theorem dX6_differ_0 : decode cX6_differ 0 = .ok (.iload_n 1, 1) := by decide +kernel
theorem dX6_differ_1 : decode cX6_differ 1 = .ok (.invokestatic 67, 3) := by decide +kernel
theorem dX6_differ_4 : decode cX6_differ 4 = .ok (.ifCond .eq 10, 3) := by decide +kernel
theorem dX6_differ_7 : decode cX6_differ 7 = .ok (.iload_n 2, 1) := by decide +kernel
theorem dX6_differ_8 : decode cX6_differ 8 = .ok (.invokestatic 67, 3) := by decide +kernel
theorem dX6_differ_11 : decode cX6_differ 11 = .ok (.ifCond .ne 5, 3) := by decide +kernel
theorem dX6_differ_14 : decode cX6_differ 14 = .ok (.iconst (-1), 1) := by decide +kernel
theorem dX6_differ_15 : decode cX6_differ 15 = .ok (.ireturn, 1) := by decide +kernel
theorem dX6_differ_16 : decode cX6_differ 16 = .ok (.iconst 0, 1) := by decide +kernel
theorem dX6_differ_17 : decode cX6_differ 17 = .ok (.istore_n 3, 1) := by decide +kernel
theorem dX6_differ_18 : decode cX6_differ 18 = .ok (.iconst 0, 1) := by decide +kernel
theorem dX6_differ_19 : decode cX6_differ 19 = .ok (.istore 4, 2) := by decide +kernel
theorem dX6_differ_21 : decode cX6_differ 21 = .ok (.iload 4, 2) := by decide +kernel
theorem dX6_differ_23 : decode cX6_differ 23 = .ok (.bipush 10, 2) := by decide +kernel
theorem dX6_differ_25 : decode cX6_differ 25 = .ok (.if_icmp .ge 30, 3) := by decide +kernel
theorem dX6_differ_28 : decode cX6_differ 28 = .ok (.aload_n 0, 1) := by decide +kernel
theorem dX6_differ_29 : decode cX6_differ 29 = .ok (.getfield 10, 3) := by decide +kernel
theorem dX6_differ_32 : decode cX6_differ 32 = .ok (.iload_n 1, 1) := by decide +kernel
theorem dX6_differ_33 : decode cX6_differ 33 = .ok (.iload_n 2, 1) := by decide +kernel
theorem dX6_differ_34 : decode cX6_differ 34 = .ok (.iload 4, 2) := by decide +kernel
theorem dX6_differ_36 : decode cX6_differ 36 = .ok (.invokevirtual 211, 3) := by decide +kernel
theorem dX6_differ_39 : decode cX6_differ 39 = .ok (.ifCond .ne 10, 3) := by decide +kernel
theorem dX6_differ_42 : decode cX6_differ 42 = .ok (.iload_n 3, 1) := by decide +kernel
theorem dX6_differ_43 : decode cX6_differ 43 = .ok (.iconst 1, 1) := by decide +kernel
theorem dX6_differ_44 : decode cX6_differ 44 = .ok (.iload 4, 2) := by decide +kernel
theorem dX6_differ_46 : decode cX6_differ 46 = .ok (.ishl, 1) := by decide +kernel
theorem dX6_differ_47 : decode cX6_differ 47 = .ok (.ior, 1) := by decide +kernel
theorem dX6_differ_48 : decode cX6_differ 48 = .ok (.istore_n 3, 1) := by decide +kernel
theorem dX6_differ_49 : decode cX6_differ 49 = .ok (.iinc 4 1, 3) := by decide +kernel
theorem dX6_differ_52 : decode cX6_differ 52 = .ok (.goto (-31), 3) := by decide +kernel
theorem dX6_differ_55 : decode cX6_differ 55 = .ok (.iload_n 3, 1) := by decide +kernel
theorem dX6_differ_56 : decode cX6_differ 56 = .ok (.ireturn, 1) := by decide +kernel
theorem dX6_enoughFor_0 : decode cX6_enoughFor 0 = .ok (.iload_n 1, 1) := by decide +kernel
theorem dX6_enoughFor_1 : decode cX6_enoughFor 1 = .ok (.invokestatic 67, 3) := by decide +kernel
theorem dX6_enoughFor_4 : decode cX6_enoughFor 4 = .ok (.ifCond .ne 5, 3) := by decide +kernel
theorem dX6_enoughFor_7 : decode cX6_enoughFor 7 = .ok (.iconst (-1), 1) := by decide +kernel
theorem dX6_enoughFor_8 : decode cX6_enoughFor 8 = .ok (.ireturn, 1) := by decide +kernel
theorem dX6_enoughFor_9 : decode cX6_enoughFor 9 = .ok (.iconst 1, 1) := by decide +kernel
theorem dX6_enoughFor_10 : decode cX6_enoughFor 10 = .ok (.istore_n 2, 1) := by decide +kernel
theorem dX6_enoughFor_11 : decode cX6_enoughFor 11 = .ok (.iload_n 2, 1) := by decide +kernel
theorem dX6_enoughFor_12 : decode cX6_enoughFor 12 = .ok (.bipush 9, 2) := by decide +kernel
theorem dX6_enoughFor_14 : decode cX6_enoughFor 14 = .ok (.if_icmp .gt 40, 3) := by decide +kernel
theorem dX6_enoughFor_17 : decode cX6_enoughFor 17 = .ok (.aload_n 0, 1) := by decide +kernel
theorem dX6_enoughFor_18 : decode cX6_enoughFor 18 = .ok (.getfield 10, 3) := by decide +kernel
theorem dX6_enoughFor_21 : decode cX6_enoughFor 21 = .ok (.iload_n 2, 1) := by decide +kernel
theorem dX6_enoughFor_22 : decode cX6_enoughFor 22 = .ok (.invokevirtual 214, 3) := by decide +kernel
theorem dX6_enoughFor_25 : decode cX6_enoughFor 25 = .ok (.aload_n 0, 1) := by decide +kernel
theorem dX6_enoughFor_26 : decode cX6_enoughFor 26 = .ok (.getfield 10, 3) := by decide +kernel
theorem dX6_enoughFor_29 : decode cX6_enoughFor 29 = .ok (.getfield 218, 3) := by decide +kernel
theorem dX6_enoughFor_32 : decode cX6_enoughFor 32 = .ok (.iload_n 1, 1) := by decide +kernel
theorem dX6_enoughFor_33 : decode cX6_enoughFor 33 = .ok (.iaload, 1) := by decide +kernel
theorem dX6_enoughFor_34 : decode cX6_enoughFor 34 = .ok (.aload_n 0, 1) := by decide +kernel
theorem dX6_enoughFor_35 : decode cX6_enoughFor 35 = .ok (.getfield 10, 3) := by decide +kernel
theorem dX6_enoughFor_38 : decode cX6_enoughFor 38 = .ok (.getfield 63, 3) := by decide +kernel
theorem dX6_enoughFor_41 : decode cX6_enoughFor 41 = .ok (.iconst 0, 1) := by decide +kernel
theorem dX6_enoughFor_42 : decode cX6_enoughFor 42 = .ok (.iaload, 1) := by decide +kernel
theorem dX6_enoughFor_43 : decode cX6_enoughFor 43 = .ok (.if_icmp .lt 5, 3) := by decide +kernel
theorem dX6_enoughFor_46 : decode cX6_enoughFor 46 = .ok (.iload_n 2, 1) := by decide +kernel
theorem dX6_enoughFor_47 : decode cX6_enoughFor 47 = .ok (.ireturn, 1) := by decide +kernel
theorem dX6_enoughFor_48 : decode cX6_enoughFor 48 = .ok (.iinc 2 1, 3) := by decide +kernel
theorem dX6_enoughFor_51 : decode cX6_enoughFor 51 = .ok (.goto (-40), 3) := by decide +kernel
theorem dX6_enoughFor_54 : decode cX6_enoughFor 54 = .ok (.bipush (-6), 2) := by decide +kernel
theorem dX6_enoughFor_56 : decode cX6_enoughFor 56 = .ok (.ireturn, 1) := by decide +kernel
theorem dX6_strikeFor_0 : decode cX6_strikeFor 0 = .ok (.iload_n 1, 1) := by decide +kernel
theorem dX6_strikeFor_1 : decode cX6_strikeFor 1 = .ok (.invokestatic 105, 3) := by decide +kernel
theorem dX6_strikeFor_4 : decode cX6_strikeFor 4 = .ok (.ifCond .ne 5, 3) := by decide +kernel
theorem dX6_strikeFor_7 : decode cX6_strikeFor 7 = .ok (.iconst (-1), 1) := by decide +kernel
theorem dX6_strikeFor_8 : decode cX6_strikeFor 8 = .ok (.ireturn, 1) := by decide +kernel
theorem dX6_strikeFor_9 : decode cX6_strikeFor 9 = .ok (.aload_n 0, 1) := by decide +kernel
theorem dX6_strikeFor_10 : decode cX6_strikeFor 10 = .ok (.getfield 10, 3) := by decide +kernel
theorem dX6_strikeFor_13 : decode cX6_strikeFor 13 = .ok (.invokevirtual 191, 3) := by decide +kernel
theorem dX6_strikeFor_16 : decode cX6_strikeFor 16 = .ok (.ifCond .eq 6, 3) := by decide +kernel
theorem dX6_strikeFor_19 : decode cX6_strikeFor 19 = .ok (.bipush (-6), 2) := by decide +kernel
theorem dX6_strikeFor_21 : decode cX6_strikeFor 21 = .ok (.ireturn, 1) := by decide +kernel
end
section
theorem dX6_strikeFor_22 : decode cX6_strikeFor 22 = .ok (.iconst 1, 1) := by decide +kernel
theorem dX6_strikeFor_23 : decode cX6_strikeFor 23 = .ok (.istore_n 2, 1) := by decide +kernel
theorem dX6_strikeFor_24 : decode cX6_strikeFor 24 = .ok (.iload_n 2, 1) := by decide +kernel
theorem dX6_strikeFor_25 : decode cX6_strikeFor 25 = .ok (.bipush 9, 2) := by decide +kernel
theorem dX6_strikeFor_27 : decode cX6_strikeFor 27 = .ok (.if_icmp .gt 23, 3) := by decide +kernel
theorem dX6_strikeFor_30 : decode cX6_strikeFor 30 = .ok (.aload_n 0, 1) := by decide +kernel
theorem dX6_strikeFor_31 : decode cX6_strikeFor 31 = .ok (.getfield 10, 3) := by decide +kernel
theorem dX6_strikeFor_34 : decode cX6_strikeFor 34 = .ok (.iload_n 1, 1) := by decide +kernel
theorem dX6_strikeFor_35 : decode cX6_strikeFor 35 = .ok (.iload_n 2, 1) := by decide +kernel
theorem dX6_strikeFor_36 : decode cX6_strikeFor 36 = .ok (.invokevirtual 221, 3) := by decide +kernel
theorem dX6_strikeFor_39 : decode cX6_strikeFor 39 = .ok (.ifCond .eq 5, 3) := by decide +kernel
theorem dX6_strikeFor_42 : decode cX6_strikeFor 42 = .ok (.iload_n 2, 1) := by decide +kernel
theorem dX6_strikeFor_43 : decode cX6_strikeFor 43 = .ok (.ireturn, 1) := by decide +kernel
theorem dX6_strikeFor_44 : decode cX6_strikeFor 44 = .ok (.iinc 2 1, 3) := by decide +kernel
theorem dX6_strikeFor_47 : decode cX6_strikeFor 47 = .ok (.goto (-23), 3) := by decide +kernel
theorem dX6_strikeFor_50 : decode cX6_strikeFor 50 = .ok (.bipush (-6), 2) := by decide +kernel
theorem dX6_strikeFor_52 : decode cX6_strikeFor 52 = .ok (.ireturn, 1) := by decide +kernel
theorem dX6_lasts_0 : decode cX6_lasts 0 = .ok (.iload_n 1, 1) := by decide +kernel
theorem dX6_lasts_1 : decode cX6_lasts 1 = .ok (.invokestatic 121, 3) := by decide +kernel
theorem dX6_lasts_4 : decode cX6_lasts 4 = .ok (.ifCond .ne 6, 3) := by decide +kernel
theorem dX6_lasts_7 : decode cX6_lasts 7 = .ok (.bipush (-2), 2) := by decide +kernel
theorem dX6_lasts_9 : decode cX6_lasts 9 = .ok (.ireturn, 1) := by decide +kernel
theorem dX6_lasts_10 : decode cX6_lasts 10 = .ok (.aload_n 0, 1) := by decide +kernel
theorem dX6_lasts_11 : decode cX6_lasts 11 = .ok (.getfield 10, 3) := by decide +kernel
theorem dX6_lasts_14 : decode cX6_lasts 14 = .ok (.invokevirtual 191, 3) := by decide +kernel
theorem dX6_lasts_17 : decode cX6_lasts 17 = .ok (.ifCond .eq 6, 3) := by decide +kernel
theorem dX6_lasts_20 : decode cX6_lasts 20 = .ok (.bipush (-5), 2) := by decide +kernel
theorem dX6_lasts_22 : decode cX6_lasts 22 = .ok (.ireturn, 1) := by decide +kernel
theorem dX6_lasts_23 : decode cX6_lasts 23 = .ok (.aload_n 0, 1) := by decide +kernel
theorem dX6_lasts_24 : decode cX6_lasts 24 = .ok (.getfield 10, 3) := by decide +kernel
theorem dX6_lasts_27 : decode cX6_lasts 27 = .ok (.iload_n 1, 1) := by decide +kernel
theorem dX6_lasts_28 : decode cX6_lasts 28 = .ok (.invokevirtual 224, 3) := by decide +kernel
theorem dX6_lasts_31 : decode cX6_lasts 31 = .ok (.ireturn, 1) := by decide +kernel
theorem dX6_ifWritten_0 : decode cX6_ifWritten 0 = .ok (.aload_n 0, 1) := by decide +kernel
theorem dX6_ifWritten_1 : decode cX6_ifWritten 1 = .ok (.getfield 10, 3) := by decide +kernel
theorem dX6_ifWritten_4 : decode cX6_ifWritten 4 = .ok (.iload_n 1, 1) := by decide +kernel
theorem dX6_ifWritten_5 : decode cX6_ifWritten 5 = .ok (.iload_n 2, 1) := by decide +kernel
theorem dX6_ifWritten_6 : decode cX6_ifWritten 6 = .ok (.iload_n 3, 1) := by decide +kernel
theorem dX6_ifWritten_7 : decode cX6_ifWritten 7 = .ok (.invokevirtual 91, 3) := by decide +kernel
theorem dX6_ifWritten_10 : decode cX6_ifWritten 10 = .ok (.istore 4, 2) := by decide +kernel
theorem dX6_ifWritten_12 : decode cX6_ifWritten 12 = .ok (.iload 4, 2) := by decide +kernel
theorem dX6_ifWritten_14 : decode cX6_ifWritten 14 = .ok (.ifCond .eq 6, 3) := by decide +kernel
theorem dX6_ifWritten_17 : decode cX6_ifWritten 17 = .ok (.iload 4, 2) := by decide +kernel
theorem dX6_ifWritten_19 : decode cX6_ifWritten 19 = .ok (.ireturn, 1) := by decide +kernel
theorem dX6_ifWritten_20 : decode cX6_ifWritten 20 = .ok (.aload_n 0, 1) := by decide +kernel
theorem dX6_ifWritten_21 : decode cX6_ifWritten 21 = .ok (.getfield 16, 3) := by decide +kernel
theorem dX6_ifWritten_24 : decode cX6_ifWritten 24 = .ok (.aload_n 0, 1) := by decide +kernel
theorem dX6_ifWritten_25 : decode cX6_ifWritten 25 = .ok (.getfield 10, 3) := by decide +kernel
theorem dX6_ifWritten_28 : decode cX6_ifWritten 28 = .ok (.invokevirtual 227, 3) := by decide +kernel
theorem dX6_ifWritten_31 : decode cX6_ifWritten 31 = .ok (.aload_n 0, 1) := by decide +kernel
theorem dX6_ifWritten_32 : decode cX6_ifWritten 32 = .ok (.getfield 16, 3) := by decide +kernel
theorem dX6_ifWritten_35 : decode cX6_ifWritten 35 = .ok (.iload_n 1, 1) := by decide +kernel
theorem dX6_ifWritten_36 : decode cX6_ifWritten 36 = .ok (.iload_n 2, 1) := by decide +kernel
theorem dX6_ifWritten_37 : decode cX6_ifWritten 37 = .ok (.iload_n 3, 1) := by decide +kernel
theorem dX6_ifWritten_38 : decode cX6_ifWritten 38 = .ok (.invokevirtual 95, 3) := by decide +kernel
theorem dX6_ifWritten_41 : decode cX6_ifWritten 41 = .ok (.pop, 1) := by decide +kernel
theorem dX6_ifWritten_42 : decode cX6_ifWritten 42 = .ok (.aload_n 0, 1) := by decide +kernel
theorem dX6_ifWritten_43 : decode cX6_ifWritten 43 = .ok (.getfield 22, 3) := by decide +kernel
theorem dX6_ifWritten_46 : decode cX6_ifWritten 46 = .ok (.aload_n 0, 1) := by decide +kernel
theorem dX6_ifWritten_47 : decode cX6_ifWritten 47 = .ok (.getfield 16, 3) := by decide +kernel
theorem dX6_ifWritten_50 : decode cX6_ifWritten 50 = .ok (.iload_n 1, 1) := by decide +kernel
theorem dX6_ifWritten_51 : decode cX6_ifWritten 51 = .ok (.invokevirtual 172, 3) := by decide +kernel
theorem dX6_ifWritten_54 : decode cX6_ifWritten 54 = .ok (.aload_n 0, 1) := by decide +kernel
theorem dX6_ifWritten_55 : decode cX6_ifWritten 55 = .ok (.getfield 22, 3) := by decide +kernel
theorem dX6_ifWritten_58 : decode cX6_ifWritten 58 = .ok (.getfield 176, 3) := by decide +kernel
theorem dX6_ifWritten_61 : decode cX6_ifWritten 61 = .ok (.iconst 1, 1) := by decide +kernel
theorem dX6_ifWritten_62 : decode cX6_ifWritten 62 = .ok (.if_icmp .ne 13, 3) := by decide +kernel
theorem dX6_ifWritten_65 : decode cX6_ifWritten 65 = .ok (.aload_n 0, 1) := by decide +kernel
theorem dX6_ifWritten_66 : decode cX6_ifWritten 66 = .ok (.getfield 22, 3) := by decide +kernel
theorem dX6_ifWritten_69 : decode cX6_ifWritten 69 = .ok (.getfield 179, 3) := by decide +kernel
theorem dX6_ifWritten_72 : decode cX6_ifWritten 72 = .ok (.goto 5, 3) := by decide +kernel
theorem dX6_ifWritten_75 : decode cX6_ifWritten 75 = .ok (.bipush (-6), 2) := by decide +kernel
theorem dX6_ifWritten_77 : decode cX6_ifWritten 77 = .ok (.ireturn, 1) := by decide +kernel
theorem dX6_put_0 : decode cX6_put 0 = .ok (.lload_n 1, 1) := by decide +kernel
theorem dX6_put_1 : decode cX6_put 1 = .ok (.invokestatic 230, 3) := by decide +kernel
theorem dX6_put_4 : decode cX6_put 4 = .ok (.istore_n 3, 1) := by decide +kernel
theorem dX6_put_5 : decode cX6_put 5 = .ok (.iload_n 3, 1) := by decide +kernel
theorem dX6_put_6 : decode cX6_put 6 = .ok (.ifCond .ne 6, 3) := by decide +kernel
theorem dX6_put_9 : decode cX6_put 9 = .ok (.bipush (-2), 2) := by decide +kernel
theorem dX6_put_11 : decode cX6_put 11 = .ok (.ireturn, 1) := by decide +kernel
theorem dX6_put_12 : decode cX6_put 12 = .ok (.aload_n 0, 1) := by decide +kernel
theorem dX6_put_13 : decode cX6_put 13 = .ok (.getfield 44, 3) := by decide +kernel
theorem dX6_put_16 : decode cX6_put 16 = .ok (.getfield 205, 3) := by decide +kernel
theorem dX6_put_19 : decode cX6_put 19 = .ok (.iload_n 3, 1) := by decide +kernel
theorem dX6_put_20 : decode cX6_put 20 = .ok (.iadd, 1) := by decide +kernel
theorem dX6_put_21 : decode cX6_put 21 = .ok (.bipush 80, 2) := by decide +kernel
theorem dX6_put_23 : decode cX6_put 23 = .ok (.if_icmp .le 6, 3) := by decide +kernel
theorem dX6_put_26 : decode cX6_put 26 = .ok (.bipush (-4), 2) := by decide +kernel
theorem dX6_put_28 : decode cX6_put 28 = .ok (.ireturn, 1) := by decide +kernel
theorem dX6_put_29 : decode cX6_put 29 = .ok (.aload_n 0, 1) := by decide +kernel
theorem dX6_put_30 : decode cX6_put 30 = .ok (.getfield 44, 3) := by decide +kernel
theorem dX6_put_33 : decode cX6_put 33 = .ok (.lload_n 1, 1) := by decide +kernel
theorem dX6_put_34 : decode cX6_put 34 = .ok (.iload_n 3, 1) := by decide +kernel
theorem dX6_put_35 : decode cX6_put 35 = .ok (.invokevirtual 234, 3) := by decide +kernel
theorem dX6_put_38 : decode cX6_put 38 = .ok (.aload_n 0, 1) := by decide +kernel
theorem dX6_put_39 : decode cX6_put 39 = .ok (.getfield 44, 3) := by decide +kernel
theorem dX6_put_42 : decode cX6_put 42 = .ok (.getfield 205, 3) := by decide +kernel
theorem dX6_put_45 : decode cX6_put 45 = .ok (.ireturn, 1) := by decide +kernel
theorem dX6_wipe_0 : decode cX6_wipe 0 = .ok (.aload_n 0, 1) := by decide +kernel
theorem dX6_wipe_1 : decode cX6_wipe 1 = .ok (.getfield 44, 3) := by decide +kernel
theorem dX6_wipe_4 : decode cX6_wipe 4 = .ok (.getfield 205, 3) := by decide +kernel
theorem dX6_wipe_7 : decode cX6_wipe 7 = .ok (.istore_n 1, 1) := by decide +kernel
theorem dX6_wipe_8 : decode cX6_wipe 8 = .ok (.aload_n 0, 1) := by decide +kernel
theorem dX6_wipe_9 : decode cX6_wipe 9 = .ok (.getfield 44, 3) := by decide +kernel
theorem dX6_wipe_12 : decode cX6_wipe 12 = .ok (.iconst 0, 1) := by decide +kernel
theorem dX6_wipe_13 : decode cX6_wipe 13 = .ok (.putfield 205, 3) := by decide +kernel
theorem dX6_wipe_16 : decode cX6_wipe 16 = .ok (.iload_n 1, 1) := by decide +kernel
theorem dX6_wipe_17 : decode cX6_wipe 17 = .ok (.ireturn, 1) := by decide +kernel
theorem dX6_fault_0 : decode cX6_fault 0 = .ok (.aload_n 0, 1) := by decide +kernel
theorem dX6_fault_1 : decode cX6_fault 1 = .ok (.getfield 44, 3) := by decide +kernel
theorem dX6_fault_4 : decode cX6_fault 4 = .ok (.aload_n 0, 1) := by decide +kernel
theorem dX6_fault_5 : decode cX6_fault 5 = .ok (.getfield 51, 3) := by decide +kernel
theorem dX6_fault_8 : decode cX6_fault 8 = .ok (.invokevirtual 238, 3) := by decide +kernel
theorem dX6_fault_11 : decode cX6_fault 11 = .ok (.ireturn, 1) := by decide +kernel
theorem dX6_carryOut_0 : decode cX6_carryOut 0 = .ok (.aload_n 0, 1) := by decide +kernel
theorem dX6_carryOut_1 : decode cX6_carryOut 1 = .ok (.getfield 44, 3) := by decide +kernel
theorem dX6_carryOut_4 : decode cX6_carryOut 4 = .ok (.aload_n 0, 1) := by decide +kernel
theorem dX6_carryOut_5 : decode cX6_carryOut 5 = .ok (.getfield 51, 3) := by decide +kernel
theorem dX6_carryOut_8 : decode cX6_carryOut 8 = .ok (.invokevirtual 238, 3) := by decide +kernel
theorem dX6_carryOut_11 : decode cX6_carryOut 11 = .ok (.bipush (-6), 2) := by decide +kernel
theorem dX6_carryOut_13 : decode cX6_carryOut 13 = .ok (.if_icmp .eq 6, 3) := by decide +kernel
theorem dX6_carryOut_16 : decode cX6_carryOut 16 = .ok (.bipush (-3), 2) := by decide +kernel
theorem dX6_carryOut_18 : decode cX6_carryOut 18 = .ok (.ireturn, 1) := by decide +kernel
theorem dX6_carryOut_19 : decode cX6_carryOut 19 = .ok (.aload_n 0, 1) := by decide +kernel
theorem dX6_carryOut_20 : decode cX6_carryOut 20 = .ok (.getfield 29, 3) := by decide +kernel
theorem dX6_carryOut_23 : decode cX6_carryOut 23 = .ok (.aload_n 0, 1) := by decide +kernel
theorem dX6_carryOut_24 : decode cX6_carryOut 24 = .ok (.getfield 10, 3) := by decide +kernel
theorem dX6_carryOut_27 : decode cX6_carryOut 27 = .ok (.invokevirtual 59, 3) := by decide +kernel
theorem dX6_carryOut_30 : decode cX6_carryOut 30 = .ok (.aload_n 0, 1) := by decide +kernel
theorem dX6_carryOut_31 : decode cX6_carryOut 31 = .ok (.invokevirtual 242, 3) := by decide +kernel
theorem dX6_carryOut_34 : decode cX6_carryOut 34 = .ok (.istore_n 1, 1) := by decide +kernel
theorem dX6_carryOut_35 : decode cX6_carryOut 35 = .ok (.aload_n 0, 1) := by decide +kernel
theorem dX6_carryOut_36 : decode cX6_carryOut 36 = .ok (.getfield 44, 3) := by decide +kernel
theorem dX6_carryOut_39 : decode cX6_carryOut 39 = .ok (.iconst 0, 1) := by decide +kernel
theorem dX6_carryOut_40 : decode cX6_carryOut 40 = .ok (.putfield 205, 3) := by decide +kernel
theorem dX6_carryOut_43 : decode cX6_carryOut 43 = .ok (.iload_n 1, 1) := by decide +kernel
theorem dX6_carryOut_44 : decode cX6_carryOut 44 = .ok (.ireturn, 1) := by decide +kernel
theorem dX6_undo_0 : decode cX6_undo 0 = .ok (.aload_n 0, 1) := by decide +kernel
theorem dX6_undo_1 : decode cX6_undo 1 = .ok (.getfield 29, 3) := by decide +kernel
theorem dX6_undo_4 : decode cX6_undo 4 = .ok (.getfield 208, 3) := by decide +kernel
theorem dX6_undo_7 : decode cX6_undo 7 = .ok (.ifCond .ne 6, 3) := by decide +kernel
theorem dX6_undo_10 : decode cX6_undo 10 = .ok (.bipush (-5), 2) := by decide +kernel
theorem dX6_undo_12 : decode cX6_undo 12 = .ok (.ireturn, 1) := by decide +kernel
theorem dX6_undo_13 : decode cX6_undo 13 = .ok (.aload_n 0, 1) := by decide +kernel
theorem dX6_undo_14 : decode cX6_undo 14 = .ok (.getfield 29, 3) := by decide +kernel
theorem dX6_undo_17 : decode cX6_undo 17 = .ok (.aload_n 0, 1) := by decide +kernel
theorem dX6_undo_18 : decode cX6_undo 18 = .ok (.getfield 10, 3) := by decide +kernel
theorem dX6_undo_21 : decode cX6_undo 21 = .ok (.invokevirtual 245, 3) := by decide +kernel
theorem dX6_undo_24 : decode cX6_undo 24 = .ok (.aload_n 0, 1) := by decide +kernel
theorem dX6_undo_25 : decode cX6_undo 25 = .ok (.getfield 29, 3) := by decide +kernel
theorem dX6_undo_28 : decode cX6_undo 28 = .ok (.getfield 208, 3) := by decide +kernel
theorem dX6_undo_31 : decode cX6_undo 31 = .ok (.ireturn, 1) := by decide +kernel
theorem dX6_save_0 : decode cX6_save 0 = .ok (.iload_n 1, 1) := by decide +kernel
theorem dX6_save_1 : decode cX6_save 1 = .ok (.invokestatic 248, 3) := by decide +kernel
theorem dX6_save_4 : decode cX6_save 4 = .ok (.ifCond .ne 6, 3) := by decide +kernel
theorem dX6_save_7 : decode cX6_save 7 = .ok (.bipush (-2), 2) := by decide +kernel
theorem dX6_save_9 : decode cX6_save 9 = .ok (.ireturn, 1) := by decide +kernel
theorem dX6_save_10 : decode cX6_save 10 = .ok (.aload_n 0, 1) := by decide +kernel
theorem dX6_save_11 : decode cX6_save 11 = .ok (.getfield 33, 3) := by decide +kernel
theorem dX6_save_14 : decode cX6_save 14 = .ok (.iload_n 1, 1) := by decide +kernel
theorem dX6_save_15 : decode cX6_save 15 = .ok (.aaload, 1) := by decide +kernel
theorem dX6_save_16 : decode cX6_save 16 = .ok (.aload_n 0, 1) := by decide +kernel
theorem dX6_save_17 : decode cX6_save 17 = .ok (.getfield 10, 3) := by decide +kernel
theorem dX6_save_20 : decode cX6_save 20 = .ok (.invokevirtual 227, 3) := by decide +kernel
theorem dX6_save_23 : decode cX6_save 23 = .ok (.aload_n 0, 1) := by decide +kernel
theorem dX6_save_24 : decode cX6_save 24 = .ok (.getfield 37, 3) := by decide +kernel
theorem dX6_save_27 : decode cX6_save 27 = .ok (.iload_n 1, 1) := by decide +kernel
theorem dX6_save_28 : decode cX6_save 28 = .ok (.iconst 1, 1) := by decide +kernel
theorem dX6_save_29 : decode cX6_save 29 = .ok (.bastore, 1) := by decide +kernel
theorem dX6_save_30 : decode cX6_save 30 = .ok (.aload_n 0, 1) := by decide +kernel
theorem dX6_save_31 : decode cX6_save 31 = .ok (.getfield 10, 3) := by decide +kernel
theorem dX6_save_34 : decode cX6_save 34 = .ok (.invokevirtual 198, 3) := by decide +kernel
theorem dX6_save_37 : decode cX6_save 37 = .ok (.ireturn, 1) := by decide +kernel
theorem dX6_restore_0 : decode cX6_restore 0 = .ok (.iload_n 1, 1) := by decide +kernel
theorem dX6_restore_1 : decode cX6_restore 1 = .ok (.invokestatic 248, 3) := by decide +kernel
theorem dX6_restore_4 : decode cX6_restore 4 = .ok (.ifCond .ne 6, 3) := by decide +kernel
theorem dX6_restore_7 : decode cX6_restore 7 = .ok (.bipush (-2), 2) := by decide +kernel
theorem dX6_restore_9 : decode cX6_restore 9 = .ok (.ireturn, 1) := by decide +kernel
theorem dX6_restore_10 : decode cX6_restore 10 = .ok (.aload_n 0, 1) := by decide +kernel
theorem dX6_restore_11 : decode cX6_restore 11 = .ok (.getfield 37, 3) := by decide +kernel
theorem dX6_restore_14 : decode cX6_restore 14 = .ok (.iload_n 1, 1) := by decide +kernel
theorem dX6_restore_15 : decode cX6_restore 15 = .ok (.baload, 1) := by decide +kernel
theorem dX6_restore_16 : decode cX6_restore 16 = .ok (.ifCond .ne 6, 3) := by decide +kernel
theorem dX6_restore_19 : decode cX6_restore 19 = .ok (.bipush (-5), 2) := by decide +kernel
theorem dX6_restore_21 : decode cX6_restore 21 = .ok (.ireturn, 1) := by decide +kernel
theorem dX6_restore_22 : decode cX6_restore 22 = .ok (.aload_n 0, 1) := by decide +kernel
theorem dX6_restore_23 : decode cX6_restore 23 = .ok (.getfield 29, 3) := by decide +kernel
theorem dX6_restore_26 : decode cX6_restore 26 = .ok (.aload_n 0, 1) := by decide +kernel
theorem dX6_restore_27 : decode cX6_restore 27 = .ok (.getfield 10, 3) := by decide +kernel
theorem dX6_restore_30 : decode cX6_restore 30 = .ok (.invokevirtual 59, 3) := by decide +kernel
theorem dX6_restore_33 : decode cX6_restore 33 = .ok (.aload_n 0, 1) := by decide +kernel
theorem dX6_restore_34 : decode cX6_restore 34 = .ok (.getfield 10, 3) := by decide +kernel
theorem dX6_restore_37 : decode cX6_restore 37 = .ok (.aload_n 0, 1) := by decide +kernel
theorem dX6_restore_38 : decode cX6_restore 38 = .ok (.getfield 33, 3) := by decide +kernel
theorem dX6_restore_41 : decode cX6_restore 41 = .ok (.iload_n 1, 1) := by decide +kernel
theorem dX6_restore_42 : decode cX6_restore 42 = .ok (.aaload, 1) := by decide +kernel
theorem dX6_restore_43 : decode cX6_restore 43 = .ok (.invokevirtual 227, 3) := by decide +kernel
theorem dX6_restore_46 : decode cX6_restore 46 = .ok (.aload_n 0, 1) := by decide +kernel
theorem dX6_restore_47 : decode cX6_restore 47 = .ok (.getfield 10, 3) := by decide +kernel
theorem dX6_restore_50 : decode cX6_restore 50 = .ok (.invokevirtual 198, 3) := by decide +kernel
theorem dX6_restore_53 : decode cX6_restore 53 = .ok (.ireturn, 1) := by decide +kernel
theorem dX6_fieldsWithLeaders_0 : decode cX6_fieldsWithLeaders 0 = .ok (.iconst 0, 1) := by decide +kernel
theorem dX6_fieldsWithLeaders_1 : decode cX6_fieldsWithLeaders 1 = .ok (.istore_n 3, 1) := by decide +kernel
theorem dX6_fieldsWithLeaders_2 : decode cX6_fieldsWithLeaders 2 = .ok (.iconst 0, 1) := by decide +kernel
theorem dX6_fieldsWithLeaders_3 : decode cX6_fieldsWithLeaders 3 = .ok (.istore 4, 2) := by decide +kernel
theorem dX6_fieldsWithLeaders_5 : decode cX6_fieldsWithLeaders 5 = .ok (.iload 4, 2) := by decide +kernel
theorem dX6_fieldsWithLeaders_7 : decode cX6_fieldsWithLeaders 7 = .ok (.bipush 10, 2) := by decide +kernel
theorem dX6_fieldsWithLeaders_9 : decode cX6_fieldsWithLeaders 9 = .ok (.if_icmp .ge 44, 3) := by decide +kernel
theorem dX6_fieldsWithLeaders_12 : decode cX6_fieldsWithLeaders 12 = .ok (.aload_n 0, 1) := by decide +kernel
theorem dX6_fieldsWithLeaders_13 : decode cX6_fieldsWithLeaders 13 = .ok (.getfield 22, 3) := by decide +kernel
theorem dX6_fieldsWithLeaders_16 : decode cX6_fieldsWithLeaders 16 = .ok (.aload_n 0, 1) := by decide +kernel
theorem dX6_fieldsWithLeaders_17 : decode cX6_fieldsWithLeaders 17 = .ok (.getfield 10, 3) := by decide +kernel
theorem dX6_fieldsWithLeaders_20 : decode cX6_fieldsWithLeaders 20 = .ok (.iload 4, 2) := by decide +kernel
theorem dX6_fieldsWithLeaders_22 : decode cX6_fieldsWithLeaders 22 = .ok (.invokevirtual 172, 3) := by decide +kernel
theorem dX6_fieldsWithLeaders_25 : decode cX6_fieldsWithLeaders 25 = .ok (.aload_n 0, 1) := by decide +kernel
theorem dX6_fieldsWithLeaders_26 : decode cX6_fieldsWithLeaders 26 = .ok (.getfield 22, 3) := by decide +kernel
theorem dX6_fieldsWithLeaders_29 : decode cX6_fieldsWithLeaders 29 = .ok (.getfield 176, 3) := by decide +kernel
theorem dX6_fieldsWithLeaders_32 : decode cX6_fieldsWithLeaders 32 = .ok (.iload_n 1, 1) := by decide +kernel
theorem dX6_fieldsWithLeaders_33 : decode cX6_fieldsWithLeaders 33 = .ok (.iload_n 2, 1) := by decide +kernel
theorem dX6_fieldsWithLeaders_34 : decode cX6_fieldsWithLeaders 34 = .ok (.invokestatic 71, 3) := by decide +kernel
theorem dX6_fieldsWithLeaders_37 : decode cX6_fieldsWithLeaders 37 = .ok (.ifCond .eq 10, 3) := by decide +kernel
theorem dX6_fieldsWithLeaders_40 : decode cX6_fieldsWithLeaders 40 = .ok (.iload_n 3, 1) := by decide +kernel
theorem dX6_fieldsWithLeaders_41 : decode cX6_fieldsWithLeaders 41 = .ok (.iconst 1, 1) := by decide +kernel
theorem dX6_fieldsWithLeaders_42 : decode cX6_fieldsWithLeaders 42 = .ok (.iload 4, 2) := by decide +kernel
theorem dX6_fieldsWithLeaders_44 : decode cX6_fieldsWithLeaders 44 = .ok (.ishl, 1) := by decide +kernel
theorem dX6_fieldsWithLeaders_45 : decode cX6_fieldsWithLeaders 45 = .ok (.ior, 1) := by decide +kernel
theorem dX6_fieldsWithLeaders_46 : decode cX6_fieldsWithLeaders 46 = .ok (.istore_n 3, 1) := by decide +kernel
theorem dX6_fieldsWithLeaders_47 : decode cX6_fieldsWithLeaders 47 = .ok (.iinc 4 1, 3) := by decide +kernel
theorem dX6_fieldsWithLeaders_50 : decode cX6_fieldsWithLeaders 50 = .ok (.goto (-45), 3) := by decide +kernel
theorem dX6_fieldsWithLeaders_53 : decode cX6_fieldsWithLeaders 53 = .ok (.iload_n 3, 1) := by decide +kernel
theorem dX6_fieldsWithLeaders_54 : decode cX6_fieldsWithLeaders 54 = .ok (.ireturn, 1) := by decide +kernel
theorem dX6_carryOutThePad_0 : decode cX6_carryOutThePad 0 = .ok (.iconst 0, 1) := by decide +kernel
theorem dX6_carryOutThePad_1 : decode cX6_carryOutThePad 1 = .ok (.istore_n 1, 1) := by decide +kernel
theorem dX6_carryOutThePad_2 : decode cX6_carryOutThePad 2 = .ok (.aload_n 0, 1) := by decide +kernel
theorem dX6_carryOutThePad_3 : decode cX6_carryOutThePad 3 = .ok (.getfield 51, 3) := by decide +kernel
theorem dX6_carryOutThePad_6 : decode cX6_carryOutThePad 6 = .ok (.invokevirtual 251, 3) := by decide +kernel
theorem dX6_carryOutThePad_9 : decode cX6_carryOutThePad 9 = .ok (.iconst 0, 1) := by decide +kernel
theorem dX6_carryOutThePad_10 : decode cX6_carryOutThePad 10 = .ok (.istore_n 2, 1) := by decide +kernel
theorem dX6_carryOutThePad_11 : decode cX6_carryOutThePad 11 = .ok (.iload_n 2, 1) := by decide +kernel
theorem dX6_carryOutThePad_12 : decode cX6_carryOutThePad 12 = .ok (.aload_n 0, 1) := by decide +kernel
theorem dX6_carryOutThePad_13 : decode cX6_carryOutThePad 13 = .ok (.getfield 44, 3) := by decide +kernel
theorem dX6_carryOutThePad_16 : decode cX6_carryOutThePad 16 = .ok (.getfield 205, 3) := by decide +kernel
theorem dX6_carryOutThePad_19 : decode cX6_carryOutThePad 19 = .ok (.if_icmp .ge 48, 3) := by decide +kernel
theorem dX6_carryOutThePad_22 : decode cX6_carryOutThePad 22 = .ok (.aload_n 0, 1) := by decide +kernel
theorem dX6_carryOutThePad_23 : decode cX6_carryOutThePad 23 = .ok (.getfield 51, 3) := by decide +kernel
theorem dX6_carryOutThePad_26 : decode cX6_carryOutThePad 26 = .ok (.aload_n 0, 1) := by decide +kernel
theorem dX6_carryOutThePad_27 : decode cX6_carryOutThePad 27 = .ok (.getfield 44, 3) := by decide +kernel
theorem dX6_carryOutThePad_30 : decode cX6_carryOutThePad 30 = .ok (.getfield 254, 3) := by decide +kernel
theorem dX6_carryOutThePad_33 : decode cX6_carryOutThePad 33 = .ok (.iload_n 2, 1) := by decide +kernel
theorem dX6_carryOutThePad_34 : decode cX6_carryOutThePad 34 = .ok (.caload, 1) := by decide +kernel
theorem dX6_carryOutThePad_35 : decode cX6_carryOutThePad 35 = .ok (.invokevirtual 258, 3) := by decide +kernel
theorem dX6_carryOutThePad_38 : decode cX6_carryOutThePad 38 = .ok (.pop, 1) := by decide +kernel
theorem dX6_carryOutThePad_39 : decode cX6_carryOutThePad 39 = .ok (.aload_n 0, 1) := by decide +kernel
theorem dX6_carryOutThePad_40 : decode cX6_carryOutThePad 40 = .ok (.getfield 51, 3) := by decide +kernel
theorem dX6_carryOutThePad_43 : decode cX6_carryOutThePad 43 = .ok (.invokevirtual 262, 3) := by decide +kernel
theorem dX6_carryOutThePad_46 : decode cX6_carryOutThePad 46 = .ok (.ifCond .eq 15, 3) := by decide +kernel
theorem dX6_carryOutThePad_49 : decode cX6_carryOutThePad 49 = .ok (.aload_n 0, 1) := by decide +kernel
theorem dX6_carryOutThePad_50 : decode cX6_carryOutThePad 50 = .ok (.invokevirtual 265, 3) := by decide +kernel
theorem dX6_carryOutThePad_53 : decode cX6_carryOutThePad 53 = .ok (.ifCond .ne 5, 3) := by decide +kernel
theorem dX6_carryOutThePad_56 : decode cX6_carryOutThePad 56 = .ok (.iload_n 1, 1) := by decide +kernel
theorem dX6_carryOutThePad_57 : decode cX6_carryOutThePad 57 = .ok (.ireturn, 1) := by decide +kernel
theorem dX6_carryOutThePad_58 : decode cX6_carryOutThePad 58 = .ok (.iinc 1 1, 3) := by decide +kernel
theorem dX6_carryOutThePad_61 : decode cX6_carryOutThePad 61 = .ok (.iinc 2 1, 3) := by decide +kernel
theorem dX6_carryOutThePad_64 : decode cX6_carryOutThePad 64 = .ok (.goto (-53), 3) := by decide +kernel
theorem dX6_carryOutThePad_67 : decode cX6_carryOutThePad 67 = .ok (.iload_n 1, 1) := by decide +kernel
theorem dX6_carryOutThePad_68 : decode cX6_carryOutThePad 68 = .ok (.ireturn, 1) := by decide +kernel
theorem dX6_carriesOutOrder_0 : decode cX6_carriesOutOrder 0 = .ok (.aload_n 0, 1) := by decide +kernel
theorem dX6_carriesOutOrder_1 : decode cX6_carriesOutOrder 1 = .ok (.getfield 51, 3) := by decide +kernel
theorem dX6_carriesOutOrder_4 : decode cX6_carriesOutOrder 4 = .ok (.getfield 268, 3) := by decide +kernel
theorem dX6_carriesOutOrder_7 : decode cX6_carriesOutOrder 7 = .ok (.lookupswitch 139 #[(115, 89), (119, 25)], 25) := by decide +kernel
theorem dX6_carriesOutOrder_32 : decode cX6_carriesOutOrder 32 = .ok (.aload_n 0, 1) := by decide +kernel
theorem dX6_carriesOutOrder_33 : decode cX6_carriesOutOrder 33 = .ok (.getfield 10, 3) := by decide +kernel
theorem dX6_carriesOutOrder_36 : decode cX6_carriesOutOrder 36 = .ok (.aload_n 0, 1) := by decide +kernel
theorem dX6_carriesOutOrder_37 : decode cX6_carriesOutOrder 37 = .ok (.getfield 51, 3) := by decide +kernel
theorem dX6_carriesOutOrder_40 : decode cX6_carriesOutOrder 40 = .ok (.getfield 271, 3) := by decide +kernel
theorem dX6_carriesOutOrder_43 : decode cX6_carriesOutOrder 43 = .ok (.aload_n 0, 1) := by decide +kernel
theorem dX6_carriesOutOrder_44 : decode cX6_carriesOutOrder 44 = .ok (.getfield 51, 3) := by decide +kernel
theorem dX6_carriesOutOrder_47 : decode cX6_carriesOutOrder 47 = .ok (.getfield 274, 3) := by decide +kernel
theorem dX6_carriesOutOrder_50 : decode cX6_carriesOutOrder 50 = .ok (.aload_n 0, 1) := by decide +kernel
theorem dX6_carriesOutOrder_51 : decode cX6_carriesOutOrder 51 = .ok (.getfield 51, 3) := by decide +kernel
theorem dX6_carriesOutOrder_54 : decode cX6_carriesOutOrder 54 = .ok (.getfield 277, 3) := by decide +kernel
theorem dX6_carriesOutOrder_57 : decode cX6_carriesOutOrder 57 = .ok (.invokevirtual 91, 3) := by decide +kernel
theorem dX6_carriesOutOrder_60 : decode cX6_carriesOutOrder 60 = .ok (.ifCond .eq 5, 3) := by decide +kernel
theorem dX6_carriesOutOrder_63 : decode cX6_carriesOutOrder 63 = .ok (.iconst 0, 1) := by decide +kernel
theorem dX6_carriesOutOrder_64 : decode cX6_carriesOutOrder 64 = .ok (.ireturn, 1) := by decide +kernel
theorem dX6_carriesOutOrder_65 : decode cX6_carriesOutOrder 65 = .ok (.aload_n 0, 1) := by decide +kernel
theorem dX6_carriesOutOrder_66 : decode cX6_carriesOutOrder 66 = .ok (.getfield 10, 3) := by decide +kernel
theorem dX6_carriesOutOrder_69 : decode cX6_carriesOutOrder 69 = .ok (.aload_n 0, 1) := by decide +kernel
theorem dX6_carriesOutOrder_70 : decode cX6_carriesOutOrder 70 = .ok (.getfield 51, 3) := by decide +kernel
theorem dX6_carriesOutOrder_73 : decode cX6_carriesOutOrder 73 = .ok (.getfield 271, 3) := by decide +kernel
theorem dX6_carriesOutOrder_76 : decode cX6_carriesOutOrder 76 = .ok (.aload_n 0, 1) := by decide +kernel
theorem dX6_carriesOutOrder_77 : decode cX6_carriesOutOrder 77 = .ok (.getfield 51, 3) := by decide +kernel
theorem dX6_carriesOutOrder_80 : decode cX6_carriesOutOrder 80 = .ok (.getfield 274, 3) := by decide +kernel
theorem dX6_carriesOutOrder_83 : decode cX6_carriesOutOrder 83 = .ok (.aload_n 0, 1) := by decide +kernel
theorem dX6_carriesOutOrder_84 : decode cX6_carriesOutOrder 84 = .ok (.getfield 51, 3) := by decide +kernel
theorem dX6_carriesOutOrder_87 : decode cX6_carriesOutOrder 87 = .ok (.getfield 277, 3) := by decide +kernel
theorem dX6_carriesOutOrder_90 : decode cX6_carriesOutOrder 90 = .ok (.invokevirtual 95, 3) := by decide +kernel
theorem dX6_carriesOutOrder_93 : decode cX6_carriesOutOrder 93 = .ok (.pop, 1) := by decide +kernel
theorem dX6_carriesOutOrder_94 : decode cX6_carriesOutOrder 94 = .ok (.iconst 1, 1) := by decide +kernel
theorem dX6_carriesOutOrder_95 : decode cX6_carriesOutOrder 95 = .ok (.ireturn, 1) := by decide +kernel
theorem dX6_carriesOutOrder_96 : decode cX6_carriesOutOrder 96 = .ok (.aload_n 0, 1) := by decide +kernel
theorem dX6_carriesOutOrder_97 : decode cX6_carriesOutOrder 97 = .ok (.getfield 10, 3) := by decide +kernel
theorem dX6_carriesOutOrder_100 : decode cX6_carriesOutOrder 100 = .ok (.aload_n 0, 1) := by decide +kernel
theorem dX6_carriesOutOrder_101 : decode cX6_carriesOutOrder 101 = .ok (.getfield 51, 3) := by decide +kernel
theorem dX6_carriesOutOrder_104 : decode cX6_carriesOutOrder 104 = .ok (.getfield 271, 3) := by decide +kernel
theorem dX6_carriesOutOrder_107 : decode cX6_carriesOutOrder 107 = .ok (.aload_n 0, 1) := by decide +kernel
theorem dX6_carriesOutOrder_108 : decode cX6_carriesOutOrder 108 = .ok (.getfield 51, 3) := by decide +kernel
theorem dX6_carriesOutOrder_111 : decode cX6_carriesOutOrder 111 = .ok (.getfield 277, 3) := by decide +kernel
theorem dX6_carriesOutOrder_114 : decode cX6_carriesOutOrder 114 = .ok (.invokevirtual 98, 3) := by decide +kernel
theorem dX6_carriesOutOrder_117 : decode cX6_carriesOutOrder 117 = .ok (.ifCond .eq 5, 3) := by decide +kernel
theorem dX6_carriesOutOrder_120 : decode cX6_carriesOutOrder 120 = .ok (.iconst 0, 1) := by decide +kernel
theorem dX6_carriesOutOrder_121 : decode cX6_carriesOutOrder 121 = .ok (.ireturn, 1) := by decide +kernel
theorem dX6_carriesOutOrder_122 : decode cX6_carriesOutOrder 122 = .ok (.aload_n 0, 1) := by decide +kernel
theorem dX6_carriesOutOrder_123 : decode cX6_carriesOutOrder 123 = .ok (.getfield 10, 3) := by decide +kernel
theorem dX6_carriesOutOrder_126 : decode cX6_carriesOutOrder 126 = .ok (.aload_n 0, 1) := by decide +kernel
theorem dX6_carriesOutOrder_127 : decode cX6_carriesOutOrder 127 = .ok (.getfield 51, 3) := by decide +kernel
theorem dX6_carriesOutOrder_130 : decode cX6_carriesOutOrder 130 = .ok (.getfield 271, 3) := by decide +kernel
theorem dX6_carriesOutOrder_133 : decode cX6_carriesOutOrder 133 = .ok (.aload_n 0, 1) := by decide +kernel
theorem dX6_carriesOutOrder_134 : decode cX6_carriesOutOrder 134 = .ok (.getfield 51, 3) := by decide +kernel
theorem dX6_carriesOutOrder_137 : decode cX6_carriesOutOrder 137 = .ok (.getfield 277, 3) := by decide +kernel
theorem dX6_carriesOutOrder_140 : decode cX6_carriesOutOrder 140 = .ok (.invokevirtual 102, 3) := by decide +kernel
theorem dX6_carriesOutOrder_143 : decode cX6_carriesOutOrder 143 = .ok (.pop, 1) := by decide +kernel
theorem dX6_carriesOutOrder_144 : decode cX6_carriesOutOrder 144 = .ok (.iconst 1, 1) := by decide +kernel
theorem dX6_carriesOutOrder_145 : decode cX6_carriesOutOrder 145 = .ok (.ireturn, 1) := by decide +kernel
theorem dX6_carriesOutOrder_146 : decode cX6_carriesOutOrder 146 = .ok (.aload_n 0, 1) := by decide +kernel
theorem dX6_carriesOutOrder_147 : decode cX6_carriesOutOrder 147 = .ok (.getfield 51, 3) := by decide +kernel
theorem dX6_carriesOutOrder_150 : decode cX6_carriesOutOrder 150 = .ok (.getfield 268, 3) := by decide +kernel
theorem dX6_carriesOutOrder_153 : decode cX6_carriesOutOrder 153 = .ok (.bipush 116, 2) := by decide +kernel
theorem dX6_carriesOutOrder_155 : decode cX6_carriesOutOrder 155 = .ok (.if_icmp .ne 7, 3) := by decide +kernel
theorem dX6_carriesOutOrder_158 : decode cX6_carriesOutOrder 158 = .ok (.iconst 0, 1) := by decide +kernel
theorem dX6_carriesOutOrder_159 : decode cX6_carriesOutOrder 159 = .ok (.goto 4, 3) := by decide +kernel
theorem dX6_carriesOutOrder_162 : decode cX6_carriesOutOrder 162 = .ok (.iconst 1, 1) := by decide +kernel
theorem dX6_carriesOutOrder_163 : decode cX6_carriesOutOrder 163 = .ok (.istore_n 1, 1) := by decide +kernel
theorem dX6_carriesOutOrder_164 : decode cX6_carriesOutOrder 164 = .ok (.aload_n 0, 1) := by decide +kernel
theorem dX6_carriesOutOrder_165 : decode cX6_carriesOutOrder 165 = .ok (.getfield 10, 3) := by decide +kernel
theorem dX6_carriesOutOrder_168 : decode cX6_carriesOutOrder 168 = .ok (.iload_n 1, 1) := by decide +kernel
theorem dX6_carriesOutOrder_169 : decode cX6_carriesOutOrder 169 = .ok (.invokevirtual 134, 3) := by decide +kernel
theorem dX6_carriesOutOrder_172 : decode cX6_carriesOutOrder 172 = .ok (.ifCond .eq 5, 3) := by decide +kernel
theorem dX6_carriesOutOrder_175 : decode cX6_carriesOutOrder 175 = .ok (.iconst 0, 1) := by decide +kernel
theorem dX6_carriesOutOrder_176 : decode cX6_carriesOutOrder 176 = .ok (.ireturn, 1) := by decide +kernel
theorem dX6_carriesOutOrder_177 : decode cX6_carriesOutOrder 177 = .ok (.aload_n 0, 1) := by decide +kernel
theorem dX6_carriesOutOrder_178 : decode cX6_carriesOutOrder 178 = .ok (.getfield 10, 3) := by decide +kernel
theorem dX6_carriesOutOrder_181 : decode cX6_carriesOutOrder 181 = .ok (.iload_n 1, 1) := by decide +kernel
theorem dX6_carriesOutOrder_182 : decode cX6_carriesOutOrder 182 = .ok (.invokevirtual 138, 3) := by decide +kernel
theorem dX6_carriesOutOrder_185 : decode cX6_carriesOutOrder 185 = .ok (.pop, 1) := by decide +kernel
theorem dX6_carriesOutOrder_186 : decode cX6_carriesOutOrder 186 = .ok (.iconst 1, 1) := by decide +kernel
theorem dX6_carriesOutOrder_187 : decode cX6_carriesOutOrder 187 = .ok (.ireturn, 1) := by decide +kernel
theorem dX6_isWithin_0 : decode cX6_isWithin 0 = .ok (.iload_n 0, 1) := by decide +kernel
theorem dX6_isWithin_1 : decode cX6_isWithin 1 = .ok (.iload_n 1, 1) := by decide +kernel
theorem dX6_isWithin_2 : decode cX6_isWithin 2 = .ok (.if_icmp .lt 12, 3) := by decide +kernel
theorem dX6_isWithin_5 : decode cX6_isWithin 5 = .ok (.iload_n 0, 1) := by decide +kernel
theorem dX6_isWithin_6 : decode cX6_isWithin 6 = .ok (.iload_n 2, 1) := by decide +kernel
theorem dX6_isWithin_7 : decode cX6_isWithin 7 = .ok (.if_icmp .gt 7, 3) := by decide +kernel
theorem dX6_isWithin_10 : decode cX6_isWithin 10 = .ok (.iconst 1, 1) := by decide +kernel
theorem dX6_isWithin_11 : decode cX6_isWithin 11 = .ok (.goto 4, 3) := by decide +kernel
theorem dX6_isWithin_14 : decode cX6_isWithin 14 = .ok (.iconst 0, 1) := by decide +kernel
theorem dX6_isWithin_15 : decode cX6_isWithin 15 = .ok (.ireturn, 1) := by decide +kernel
theorem dX6_isSheet_0 : decode cX6_isSheet 0 = .ok (.iload_n 0, 1) := by decide +kernel
theorem dX6_isSheet_1 : decode cX6_isSheet 1 = .ok (.iconst 0, 1) := by decide +kernel
theorem dX6_isSheet_2 : decode cX6_isSheet 2 = .ok (.iconst 4, 1) := by decide +kernel
theorem dX6_isSheet_3 : decode cX6_isSheet 3 = .ok (.invokestatic 71, 3) := by decide +kernel
theorem dX6_isSheet_6 : decode cX6_isSheet 6 = .ok (.ireturn, 1) := by decide +kernel
theorem dX6_isField_0 : decode cX6_isField 0 = .ok (.iload_n 0, 1) := by decide +kernel
theorem dX6_isField_1 : decode cX6_isField 1 = .ok (.iconst 0, 1) := by decide +kernel
theorem dX6_isField_2 : decode cX6_isField 2 = .ok (.bipush 9, 2) := by decide +kernel
theorem dX6_isField_4 : decode cX6_isField 4 = .ok (.invokestatic 71, 3) := by decide +kernel
theorem dX6_isField_7 : decode cX6_isField 7 = .ok (.ireturn, 1) := by decide +kernel
theorem dX6_isValue_0 : decode cX6_isValue 0 = .ok (.iload_n 0, 1) := by decide +kernel
theorem dX6_isValue_1 : decode cX6_isValue 1 = .ok (.iconst 0, 1) := by decide +kernel
theorem dX6_isValue_2 : decode cX6_isValue 2 = .ok (.sipush 999, 3) := by decide +kernel
theorem dX6_isValue_5 : decode cX6_isValue 5 = .ok (.invokestatic 71, 3) := by decide +kernel
theorem dX6_isValue_8 : decode cX6_isValue 8 = .ok (.ireturn, 1) := by decide +kernel
theorem dX6_isPressure_0 : decode cX6_isPressure 0 = .ok (.iload_n 0, 1) := by decide +kernel
theorem dX6_isPressure_1 : decode cX6_isPressure 1 = .ok (.iconst 1, 1) := by decide +kernel
theorem dX6_isPressure_2 : decode cX6_isPressure 2 = .ok (.bipush 9, 2) := by decide +kernel
theorem dX6_isPressure_4 : decode cX6_isPressure 4 = .ok (.invokestatic 71, 3) := by decide +kernel
theorem dX6_isPressure_7 : decode cX6_isPressure 7 = .ok (.ireturn, 1) := by decide +kernel
theorem dX6_isSlot_0 : decode cX6_isSlot 0 = .ok (.iload_n 0, 1) := by decide +kernel
theorem dX6_isSlot_1 : decode cX6_isSlot 1 = .ok (.iconst 0, 1) := by decide +kernel
theorem dX6_isSlot_2 : decode cX6_isSlot 2 = .ok (.iconst 1, 1) := by decide +kernel
theorem dX6_isSlot_3 : decode cX6_isSlot 3 = .ok (.invokestatic 71, 3) := by decide +kernel
theorem dX6_isSlot_6 : decode cX6_isSlot 6 = .ok (.ireturn, 1) := by decide +kernel
theorem dX6_isSettingWith_0 : decode cX6_isSettingWith 0 = .ok (.iload_n 0, 1) := by decide +kernel
theorem dX6_isSettingWith_1 : decode cX6_isSettingWith 1 = .ok (.lookupswitch 42 #[(0, 27), (1, 35)], 27) := by decide +kernel
theorem dX6_isSettingWith_28 : decode cX6_isSettingWith 28 = .ok (.iload_n 1, 1) := by decide +kernel
theorem dX6_isSettingWith_29 : decode cX6_isSettingWith 29 = .ok (.iconst 1, 1) := by decide +kernel
theorem dX6_isSettingWith_30 : decode cX6_isSettingWith 30 = .ok (.bipush 9, 2) := by decide +kernel
theorem dX6_isSettingWith_32 : decode cX6_isSettingWith 32 = .ok (.invokestatic 71, 3) := by decide +kernel
theorem dX6_isSettingWith_35 : decode cX6_isSettingWith 35 = .ok (.ireturn, 1) := by decide +kernel
theorem dX6_isSettingWith_36 : decode cX6_isSettingWith 36 = .ok (.iload_n 1, 1) := by decide +kernel
theorem dX6_isSettingWith_37 : decode cX6_isSettingWith 37 = .ok (.iconst 0, 1) := by decide +kernel
theorem dX6_isSettingWith_38 : decode cX6_isSettingWith 38 = .ok (.iconst 5, 1) := by decide +kernel
theorem dX6_isSettingWith_39 : decode cX6_isSettingWith 39 = .ok (.invokestatic 71, 3) := by decide +kernel
theorem dX6_isSettingWith_42 : decode cX6_isSettingWith 42 = .ok (.ireturn, 1) := by decide +kernel
theorem dX6_isSettingWith_43 : decode cX6_isSettingWith 43 = .ok (.iconst 0, 1) := by decide +kernel
theorem dX6_isSettingWith_44 : decode cX6_isSettingWith 44 = .ok (.ireturn, 1) := by decide +kernel
end
section
theorem dX7_init_0 : decode cX7_init 0 = .ok (.aload_n 0, 1) := by decide +kernel
theorem dX7_init_1 : decode cX7_init 1 = .ok (.invokespecial 1, 3) := by decide +kernel
theorem dX7_init_4 : decode cX7_init 4 = .ok (.aload_n 0, 1) := by decide +kernel
theorem dX7_init_5 : decode cX7_init 5 = .ok (.sipush 470, 3) := by decide +kernel
theorem dX7_init_8 : decode cX7_init 8 = .ok (.newarray .int, 2) := by decide +kernel
theorem dX7_init_10 : decode cX7_init 10 = .ok (.putfield 7, 3) := by decide +kernel
theorem dX7_init_13 : decode cX7_init 13 = .ok (.aload_n 0, 1) := by decide +kernel
theorem dX7_init_14 : decode cX7_init 14 = .ok (.sipush 470, 3) := by decide +kernel
theorem dX7_init_17 : decode cX7_init 17 = .ok (.newarray .int, 2) := by decide +kernel
theorem dX7_init_19 : decode cX7_init 19 = .ok (.putfield 13, 3) := by decide +kernel
theorem dX7_init_22 : decode cX7_init 22 = .ok (.aload_n 0, 1) := by decide +kernel
theorem dX7_init_23 : decode cX7_init 23 = .ok (.sipush 2820, 3) := by decide +kernel
theorem dX7_init_26 : decode cX7_init 26 = .ok (.newarray .int, 2) := by decide +kernel
theorem dX7_init_28 : decode cX7_init 28 = .ok (.putfield 16, 3) := by decide +kernel
theorem dX7_init_31 : decode cX7_init 31 = .ok (.aload_n 0, 1) := by decide +kernel
theorem dX7_init_32 : decode cX7_init 32 = .ok (.sipush 940, 3) := by decide +kernel
theorem dX7_init_35 : decode cX7_init 35 = .ok (.newarray .int, 2) := by decide +kernel
theorem dX7_init_37 : decode cX7_init 37 = .ok (.putfield 19, 3) := by decide +kernel
theorem dX7_init_40 : decode cX7_init 40 = .ok (.aload_n 0, 1) := by decide +kernel
theorem dX7_init_41 : decode cX7_init 41 = .ok (.iconst 2, 1) := by decide +kernel
theorem dX7_init_42 : decode cX7_init 42 = .ok (.newarray .boolean, 2) := by decide +kernel
theorem dX7_init_44 : decode cX7_init 44 = .ok (.putfield 22, 3) := by decide +kernel
theorem dX7_init_47 : decode cX7_init 47 = .ok (.aload_n 0, 1) := by decide +kernel
theorem dX7_init_48 : decode cX7_init 48 = .ok (.bipush 80, 2) := by decide +kernel
theorem dX7_init_50 : decode cX7_init 50 = .ok (.newarray .int, 2) := by decide +kernel
theorem dX7_init_52 : decode cX7_init 52 = .ok (.putfield 26, 3) := by decide +kernel
theorem dX7_init_55 : decode cX7_init 55 = .ok (.aload_n 0, 1) := by decide +kernel
theorem dX7_init_56 : decode cX7_init 56 = .ok (.iconst 5, 1) := by decide +kernel
theorem dX7_init_57 : decode cX7_init 57 = .ok (.newarray .int, 2) := by decide +kernel
theorem dX7_init_59 : decode cX7_init 59 = .ok (.putfield 29, 3) := by decide +kernel
theorem dX7_init_62 : decode cX7_init 62 = .ok (.aload_n 0, 1) := by decide +kernel
theorem dX7_init_63 : decode cX7_init 63 = .ok (.sipush 320, 3) := by decide +kernel
theorem dX7_init_66 : decode cX7_init 66 = .ok (.newarray .int, 2) := by decide +kernel
theorem dX7_init_68 : decode cX7_init 68 = .ok (.putfield 32, 3) := by decide +kernel
theorem dX7_init_71 : decode cX7_init 71 = .ok (.aload_n 0, 1) := by decide +kernel
theorem dX7_init_72 : decode cX7_init 72 = .ok (.getfield 7, 3) := by decide +kernel
theorem dX7_init_75 : decode cX7_init 75 = .ok (.iconst 0, 1) := by decide +kernel
theorem dX7_init_76 : decode cX7_init 76 = .ok (.iconst 2, 1) := by decide +kernel
theorem dX7_init_77 : decode cX7_init 77 = .ok (.iastore, 1) := by decide +kernel
theorem dX7_init_78 : decode cX7_init 78 = .ok (.aload_n 0, 1) := by decide +kernel
theorem dX7_init_79 : decode cX7_init 79 = .ok (.getfield 7, 3) := by decide +kernel
theorem dX7_init_82 : decode cX7_init 82 = .ok (.iconst 1, 1) := by decide +kernel
theorem dX7_init_83 : decode cX7_init 83 = .ok (.iconst 1, 1) := by decide +kernel
theorem dX7_init_84 : decode cX7_init 84 = .ok (.iastore, 1) := by decide +kernel
theorem dX7_init_85 : decode cX7_init 85 = .ok (.aload_n 0, 1) := by decide +kernel
theorem dX7_init_86 : decode cX7_init 86 = .ok (.getfield 7, 3) := by decide +kernel
theorem dX7_init_89 : decode cX7_init 89 = .ok (.iconst 3, 1) := by decide +kernel
theorem dX7_init_90 : decode cX7_init 90 = .ok (.iconst 4, 1) := by decide +kernel
theorem dX7_init_91 : decode cX7_init 91 = .ok (.iastore, 1) := by decide +kernel
theorem dX7_init_92 : decode cX7_init 92 = .ok (.iconst 0, 1) := by decide +kernel
theorem dX7_init_93 : decode cX7_init 93 = .ok (.istore_n 1, 1) := by decide +kernel
theorem dX7_init_94 : decode cX7_init 94 = .ok (.iload_n 1, 1) := by decide +kernel
theorem dX7_init_95 : decode cX7_init 95 = .ok (.iconst 5, 1) := by decide +kernel
theorem dX7_init_96 : decode cX7_init 96 = .ok (.if_icmp .ge 29, 3) := by decide +kernel
theorem dX7_init_99 : decode cX7_init 99 = .ok (.aload_n 0, 1) := by decide +kernel
theorem dX7_init_100 : decode cX7_init 100 = .ok (.getfield 7, 3) := by decide +kernel
theorem dX7_init_103 : decode cX7_init 103 = .ok (.iconst 4, 1) := by decide +kernel
theorem dX7_init_104 : decode cX7_init 104 = .ok (.iload_n 1, 1) := by decide +kernel
theorem dX7_init_105 : decode cX7_init 105 = .ok (.iadd, 1) := by decide +kernel
theorem dX7_init_106 : decode cX7_init 106 = .ok (.iconst 1, 1) := by decide +kernel
theorem dX7_init_107 : decode cX7_init 107 = .ok (.iastore, 1) := by decide +kernel
theorem dX7_init_108 : decode cX7_init 108 = .ok (.aload_n 0, 1) := by decide +kernel
theorem dX7_init_109 : decode cX7_init 109 = .ok (.getfield 7, 3) := by decide +kernel
theorem dX7_init_112 : decode cX7_init 112 = .ok (.bipush 9, 2) := by decide +kernel
theorem dX7_init_114 : decode cX7_init 114 = .ok (.iload_n 1, 1) := by decide +kernel
theorem dX7_init_115 : decode cX7_init 115 = .ok (.iadd, 1) := by decide +kernel
theorem dX7_init_116 : decode cX7_init 116 = .ok (.bipush 60, 2) := by decide +kernel
theorem dX7_init_118 : decode cX7_init 118 = .ok (.iastore, 1) := by decide +kernel
theorem dX7_init_119 : decode cX7_init 119 = .ok (.iinc 1 1, 3) := by decide +kernel
theorem dX7_init_122 : decode cX7_init 122 = .ok (.goto (-28), 3) := by decide +kernel
theorem dX7_init_125 : decode cX7_init 125 = .ok (.return_, 1) := by decide +kernel
theorem dX7_in_0 : decode cX7_in 0 = .ok (.iload_n 0, 1) := by decide +kernel
theorem dX7_in_1 : decode cX7_in 1 = .ok (.iload_n 1, 1) := by decide +kernel
theorem dX7_in_2 : decode cX7_in 2 = .ok (.if_icmp .lt 12, 3) := by decide +kernel
theorem dX7_in_5 : decode cX7_in 5 = .ok (.iload_n 0, 1) := by decide +kernel
theorem dX7_in_6 : decode cX7_in 6 = .ok (.iload_n 2, 1) := by decide +kernel
theorem dX7_in_7 : decode cX7_in 7 = .ok (.if_icmp .gt 7, 3) := by decide +kernel
theorem dX7_in_10 : decode cX7_in 10 = .ok (.iconst 1, 1) := by decide +kernel
theorem dX7_in_11 : decode cX7_in 11 = .ok (.goto 4, 3) := by decide +kernel
theorem dX7_in_14 : decode cX7_in 14 = .ok (.iconst 0, 1) := by decide +kernel
theorem dX7_in_15 : decode cX7_in 15 = .ok (.ireturn, 1) := by decide +kernel
theorem dX7_record_0 : decode cX7_record 0 = .ok (.aload_n 0, 1) := by decide +kernel
theorem dX7_record_1 : decode cX7_record 1 = .ok (.getfield 35, 3) := by decide +kernel
theorem dX7_record_4 : decode cX7_record 4 = .ok (.ifCond .eq 4, 3) := by decide +kernel
theorem dX7_record_7 : decode cX7_record 7 = .ok (.return_, 1) := by decide +kernel
theorem dX7_record_8 : decode cX7_record 8 = .ok (.aload_n 0, 1) := by decide +kernel
theorem dX7_record_9 : decode cX7_record 9 = .ok (.getfield 39, 3) := by decide +kernel
theorem dX7_record_12 : decode cX7_record 12 = .ok (.bipush 6, 2) := by decide +kernel
theorem dX7_record_14 : decode cX7_record 14 = .ok (.if_icmp .ne 39, 3) := by decide +kernel
theorem dX7_record_17 : decode cX7_record 17 = .ok (.iconst 0, 1) := by decide +kernel
theorem dX7_record_18 : decode cX7_record 18 = .ok (.istore_n 1, 1) := by decide +kernel
theorem dX7_record_19 : decode cX7_record 19 = .ok (.iload_n 1, 1) := by decide +kernel
theorem dX7_record_20 : decode cX7_record 20 = .ok (.sipush 2350, 3) := by decide +kernel
theorem dX7_record_23 : decode cX7_record 23 = .ok (.if_icmp .ge 25, 3) := by decide +kernel
theorem dX7_record_26 : decode cX7_record 26 = .ok (.aload_n 0, 1) := by decide +kernel
theorem dX7_record_27 : decode cX7_record 27 = .ok (.getfield 16, 3) := by decide +kernel
theorem dX7_record_30 : decode cX7_record 30 = .ok (.iload_n 1, 1) := by decide +kernel
theorem dX7_record_31 : decode cX7_record 31 = .ok (.aload_n 0, 1) := by decide +kernel
theorem dX7_record_32 : decode cX7_record 32 = .ok (.getfield 16, 3) := by decide +kernel
theorem dX7_record_35 : decode cX7_record 35 = .ok (.iload_n 1, 1) := by decide +kernel
theorem dX7_record_36 : decode cX7_record 36 = .ok (.sipush 470, 3) := by decide +kernel
theorem dX7_record_39 : decode cX7_record 39 = .ok (.iadd, 1) := by decide +kernel
theorem dX7_record_40 : decode cX7_record 40 = .ok (.iaload, 1) := by decide +kernel
theorem dX7_record_41 : decode cX7_record 41 = .ok (.iastore, 1) := by decide +kernel
theorem dX7_record_42 : decode cX7_record 42 = .ok (.iinc 1 1, 3) := by decide +kernel
theorem dX7_record_45 : decode cX7_record 45 = .ok (.goto (-26), 3) := by decide +kernel
theorem dX7_record_48 : decode cX7_record 48 = .ok (.aload_n 0, 1) := by decide +kernel
theorem dX7_record_49 : decode cX7_record 49 = .ok (.iconst 5, 1) := by decide +kernel
theorem dX7_record_50 : decode cX7_record 50 = .ok (.putfield 39, 3) := by decide +kernel
theorem dX7_record_53 : decode cX7_record 53 = .ok (.iconst 0, 1) := by decide +kernel
theorem dX7_record_54 : decode cX7_record 54 = .ok (.istore_n 1, 1) := by decide +kernel
theorem dX7_record_55 : decode cX7_record 55 = .ok (.iload_n 1, 1) := by decide +kernel
theorem dX7_record_56 : decode cX7_record 56 = .ok (.sipush 470, 3) := by decide +kernel
theorem dX7_record_59 : decode cX7_record 59 = .ok (.if_icmp .ge 30, 3) := by decide +kernel
theorem dX7_record_62 : decode cX7_record 62 = .ok (.aload_n 0, 1) := by decide +kernel
theorem dX7_record_63 : decode cX7_record 63 = .ok (.getfield 16, 3) := by decide +kernel
theorem dX7_record_66 : decode cX7_record 66 = .ok (.aload_n 0, 1) := by decide +kernel
theorem dX7_record_67 : decode cX7_record 67 = .ok (.getfield 39, 3) := by decide +kernel
theorem dX7_record_70 : decode cX7_record 70 = .ok (.sipush 470, 3) := by decide +kernel
theorem dX7_record_73 : decode cX7_record 73 = .ok (.imul, 1) := by decide +kernel
theorem dX7_record_74 : decode cX7_record 74 = .ok (.iload_n 1, 1) := by decide +kernel
theorem dX7_record_75 : decode cX7_record 75 = .ok (.iadd, 1) := by decide +kernel
theorem dX7_record_76 : decode cX7_record 76 = .ok (.aload_n 0, 1) := by decide +kernel
theorem dX7_record_77 : decode cX7_record 77 = .ok (.getfield 7, 3) := by decide +kernel
theorem dX7_record_80 : decode cX7_record 80 = .ok (.iload_n 1, 1) := by decide +kernel
theorem dX7_record_81 : decode cX7_record 81 = .ok (.iaload, 1) := by decide +kernel
theorem dX7_record_82 : decode cX7_record 82 = .ok (.iastore, 1) := by decide +kernel
theorem dX7_record_83 : decode cX7_record 83 = .ok (.iinc 1 1, 3) := by decide +kernel
theorem dX7_record_86 : decode cX7_record 86 = .ok (.goto (-31), 3) := by decide +kernel
theorem dX7_record_89 : decode cX7_record 89 = .ok (.aload_n 0, 1) := by decide +kernel
theorem dX7_record_90 : decode cX7_record 90 = .ok (.dup, 1) := by decide +kernel
theorem dX7_record_91 : decode cX7_record 91 = .ok (.getfield 39, 3) := by decide +kernel
theorem dX7_record_94 : decode cX7_record 94 = .ok (.iconst 1, 1) := by decide +kernel
theorem dX7_record_95 : decode cX7_record 95 = .ok (.iadd, 1) := by decide +kernel
theorem dX7_record_96 : decode cX7_record 96 = .ok (.putfield 39, 3) := by decide +kernel
theorem dX7_record_99 : decode cX7_record 99 = .ok (.return_, 1) := by decide +kernel
theorem dX7_set_0 : decode cX7_set 0 = .ok (.iload_n 1, 1) := by decide +kernel
theorem dX7_set_1 : decode cX7_set 1 = .ok (.iconst 0, 1) := by decide +kernel
theorem dX7_set_2 : decode cX7_set 2 = .ok (.iconst 1, 1) := by decide +kernel
theorem dX7_set_3 : decode cX7_set 3 = .ok (.invokestatic 43, 3) := by decide +kernel
theorem dX7_set_6 : decode cX7_set 6 = .ok (.ifCond .eq 29, 3) := by decide +kernel
theorem dX7_set_9 : decode cX7_set 9 = .ok (.iload_n 2, 1) := by decide +kernel
theorem dX7_set_10 : decode cX7_set 10 = .ok (.iload_n 1, 1) := by decide +kernel
theorem dX7_set_11 : decode cX7_set 11 = .ok (.ifCond .ne 7, 3) := by decide +kernel
theorem dX7_set_14 : decode cX7_set 14 = .ok (.iconst 1, 1) := by decide +kernel
theorem dX7_set_15 : decode cX7_set 15 = .ok (.goto 4, 3) := by decide +kernel
theorem dX7_set_18 : decode cX7_set 18 = .ok (.iconst 0, 1) := by decide +kernel
theorem dX7_set_19 : decode cX7_set 19 = .ok (.iload_n 1, 1) := by decide +kernel
theorem dX7_set_20 : decode cX7_set 20 = .ok (.ifCond .ne 8, 3) := by decide +kernel
theorem dX7_set_23 : decode cX7_set 23 = .ok (.bipush 9, 2) := by decide +kernel
theorem dX7_set_25 : decode cX7_set 25 = .ok (.goto 4, 3) := by decide +kernel
theorem dX7_set_28 : decode cX7_set 28 = .ok (.iconst 5, 1) := by decide +kernel
theorem dX7_set_29 : decode cX7_set 29 = .ok (.invokestatic 43, 3) := by decide +kernel
theorem dX7_set_32 : decode cX7_set 32 = .ok (.ifCond .ne 6, 3) := by decide +kernel
theorem dX7_set_35 : decode cX7_set 35 = .ok (.bipush (-2), 2) := by decide +kernel
theorem dX7_set_37 : decode cX7_set 37 = .ok (.ireturn, 1) := by decide +kernel
theorem dX7_set_38 : decode cX7_set 38 = .ok (.aload_n 0, 1) := by decide +kernel
theorem dX7_set_39 : decode cX7_set 39 = .ok (.invokevirtual 47, 3) := by decide +kernel
theorem dX7_set_42 : decode cX7_set 42 = .ok (.aload_n 0, 1) := by decide +kernel
theorem dX7_set_43 : decode cX7_set 43 = .ok (.getfield 7, 3) := by decide +kernel
theorem dX7_set_46 : decode cX7_set 46 = .ok (.iload_n 1, 1) := by decide +kernel
theorem dX7_set_47 : decode cX7_set 47 = .ok (.iaload, 1) := by decide +kernel
theorem dX7_set_48 : decode cX7_set 48 = .ok (.istore_n 3, 1) := by decide +kernel
theorem dX7_set_49 : decode cX7_set 49 = .ok (.aload_n 0, 1) := by decide +kernel
theorem dX7_set_50 : decode cX7_set 50 = .ok (.getfield 7, 3) := by decide +kernel
theorem dX7_set_53 : decode cX7_set 53 = .ok (.iload_n 1, 1) := by decide +kernel
theorem dX7_set_54 : decode cX7_set 54 = .ok (.iload_n 2, 1) := by decide +kernel
theorem dX7_set_55 : decode cX7_set 55 = .ok (.iastore, 1) := by decide +kernel
theorem dX7_set_56 : decode cX7_set 56 = .ok (.iload_n 3, 1) := by decide +kernel
theorem dX7_set_57 : decode cX7_set 57 = .ok (.ireturn, 1) := by decide +kernel
theorem dX7_isSheet_0 : decode cX7_isSheet 0 = .ok (.iload_n 0, 1) := by decide +kernel
theorem dX7_isSheet_1 : decode cX7_isSheet 1 = .ok (.iconst 0, 1) := by decide +kernel
theorem dX7_isSheet_2 : decode cX7_isSheet 2 = .ok (.iconst 4, 1) := by decide +kernel
theorem dX7_isSheet_3 : decode cX7_isSheet 3 = .ok (.invokestatic 43, 3) := by decide +kernel
theorem dX7_isSheet_6 : decode cX7_isSheet 6 = .ok (.ireturn, 1) := by decide +kernel
theorem dX7_isField_0 : decode cX7_isField 0 = .ok (.iload_n 0, 1) := by decide +kernel
theorem dX7_isField_1 : decode cX7_isField 1 = .ok (.iconst 0, 1) := by decide +kernel
theorem dX7_isField_2 : decode cX7_isField 2 = .ok (.bipush 9, 2) := by decide +kernel
theorem dX7_isField_4 : decode cX7_isField 4 = .ok (.invokestatic 43, 3) := by decide +kernel
theorem dX7_isField_7 : decode cX7_isField 7 = .ok (.ireturn, 1) := by decide +kernel
theorem dX7_isInStack_0 : decode cX7_isInStack 0 = .ok (.iload_n 1, 1) := by decide +kernel
theorem dX7_isInStack_1 : decode cX7_isInStack 1 = .ok (.aload_n 0, 1) := by decide +kernel
theorem dX7_isInStack_2 : decode cX7_isInStack 2 = .ok (.getfield 7, 3) := by decide +kernel
theorem dX7_isInStack_5 : decode cX7_isInStack 5 = .ok (.iconst 2, 1) := by decide +kernel
theorem dX7_isInStack_6 : decode cX7_isInStack 6 = .ok (.iaload, 1) := by decide +kernel
theorem dX7_isInStack_7 : decode cX7_isInStack 7 = .ok (.aload_n 0, 1) := by decide +kernel
theorem dX7_isInStack_8 : decode cX7_isInStack 8 = .ok (.getfield 7, 3) := by decide +kernel
theorem dX7_isInStack_11 : decode cX7_isInStack 11 = .ok (.iconst 3, 1) := by decide +kernel
theorem dX7_isInStack_12 : decode cX7_isInStack 12 = .ok (.iaload, 1) := by decide +kernel
theorem dX7_isInStack_13 : decode cX7_isInStack 13 = .ok (.invokestatic 43, 3) := by decide +kernel
theorem dX7_isInStack_16 : decode cX7_isInStack 16 = .ok (.ireturn, 1) := by decide +kernel
theorem dX7_hasStack_0 : decode cX7_hasStack 0 = .ok (.aload_n 0, 1) := by decide +kernel
theorem dX7_hasStack_1 : decode cX7_hasStack 1 = .ok (.getfield 7, 3) := by decide +kernel
theorem dX7_hasStack_4 : decode cX7_hasStack 4 = .ok (.iconst 2, 1) := by decide +kernel
theorem dX7_hasStack_5 : decode cX7_hasStack 5 = .ok (.iaload, 1) := by decide +kernel
theorem dX7_hasStack_6 : decode cX7_hasStack 6 = .ok (.aload_n 0, 1) := by decide +kernel
theorem dX7_hasStack_7 : decode cX7_hasStack 7 = .ok (.getfield 7, 3) := by decide +kernel
theorem dX7_hasStack_10 : decode cX7_hasStack 10 = .ok (.iconst 3, 1) := by decide +kernel
theorem dX7_hasStack_11 : decode cX7_hasStack 11 = .ok (.iaload, 1) := by decide +kernel
theorem dX7_hasStack_12 : decode cX7_hasStack 12 = .ok (.if_icmp .gt 7, 3) := by decide +kernel
theorem dX7_hasStack_15 : decode cX7_hasStack 15 = .ok (.iconst 1, 1) := by decide +kernel
theorem dX7_hasStack_16 : decode cX7_hasStack 16 = .ok (.goto 4, 3) := by decide +kernel
theorem dX7_hasStack_19 : decode cX7_hasStack 19 = .ok (.iconst 0, 1) := by decide +kernel
theorem dX7_hasStack_20 : decode cX7_hasStack 20 = .ok (.ireturn, 1) := by decide +kernel
theorem dX7_thickness_0 : decode cX7_thickness 0 = .ok (.iload_n 1, 1) := by decide +kernel
theorem dX7_thickness_1 : decode cX7_thickness 1 = .ok (.invokestatic 50, 3) := by decide +kernel
theorem dX7_thickness_4 : decode cX7_thickness 4 = .ok (.ifCond .ne 5, 3) := by decide +kernel
theorem dX7_thickness_7 : decode cX7_thickness 7 = .ok (.iconst (-1), 1) := by decide +kernel
theorem dX7_thickness_8 : decode cX7_thickness 8 = .ok (.ireturn, 1) := by decide +kernel
theorem dX7_thickness_9 : decode cX7_thickness 9 = .ok (.iload_n 2, 1) := by decide +kernel
theorem dX7_thickness_10 : decode cX7_thickness 10 = .ok (.iconst 0, 1) := by decide +kernel
theorem dX7_thickness_11 : decode cX7_thickness 11 = .ok (.iconst 4, 1) := by decide +kernel
theorem dX7_thickness_12 : decode cX7_thickness 12 = .ok (.invokestatic 43, 3) := by decide +kernel
theorem dX7_thickness_15 : decode cX7_thickness 15 = .ok (.ifCond .ne 6, 3) := by decide +kernel
theorem dX7_thickness_18 : decode cX7_thickness 18 = .ok (.bipush (-2), 2) := by decide +kernel
theorem dX7_thickness_20 : decode cX7_thickness 20 = .ok (.ireturn, 1) := by decide +kernel
theorem dX7_thickness_21 : decode cX7_thickness 21 = .ok (.aload_n 0, 1) := by decide +kernel
theorem dX7_thickness_22 : decode cX7_thickness 22 = .ok (.invokevirtual 47, 3) := by decide +kernel
theorem dX7_thickness_25 : decode cX7_thickness 25 = .ok (.aload_n 0, 1) := by decide +kernel
theorem dX7_thickness_26 : decode cX7_thickness 26 = .ok (.getfield 7, 3) := by decide +kernel
theorem dX7_thickness_29 : decode cX7_thickness 29 = .ok (.iconst 4, 1) := by decide +kernel
theorem dX7_thickness_30 : decode cX7_thickness 30 = .ok (.iload_n 1, 1) := by decide +kernel
theorem dX7_thickness_31 : decode cX7_thickness 31 = .ok (.iadd, 1) := by decide +kernel
theorem dX7_thickness_32 : decode cX7_thickness 32 = .ok (.iaload, 1) := by decide +kernel
theorem dX7_thickness_33 : decode cX7_thickness 33 = .ok (.istore_n 3, 1) := by decide +kernel
theorem dX7_thickness_34 : decode cX7_thickness 34 = .ok (.aload_n 0, 1) := by decide +kernel
theorem dX7_thickness_35 : decode cX7_thickness 35 = .ok (.getfield 7, 3) := by decide +kernel
theorem dX7_thickness_38 : decode cX7_thickness 38 = .ok (.iconst 4, 1) := by decide +kernel
theorem dX7_thickness_39 : decode cX7_thickness 39 = .ok (.iload_n 1, 1) := by decide +kernel
theorem dX7_thickness_40 : decode cX7_thickness 40 = .ok (.iadd, 1) := by decide +kernel
theorem dX7_thickness_41 : decode cX7_thickness 41 = .ok (.iload_n 2, 1) := by decide +kernel
theorem dX7_thickness_42 : decode cX7_thickness 42 = .ok (.iastore, 1) := by decide +kernel
theorem dX7_thickness_43 : decode cX7_thickness 43 = .ok (.iload_n 3, 1) := by decide +kernel
theorem dX7_thickness_44 : decode cX7_thickness 44 = .ok (.ireturn, 1) := by decide +kernel
theorem dX7_carbon_0 : decode cX7_carbon 0 = .ok (.iload_n 1, 1) := by decide +kernel
theorem dX7_carbon_1 : decode cX7_carbon 1 = .ok (.invokestatic 50, 3) := by decide +kernel
theorem dX7_carbon_4 : decode cX7_carbon 4 = .ok (.ifCond .ne 5, 3) := by decide +kernel
theorem dX7_carbon_7 : decode cX7_carbon 7 = .ok (.iconst (-1), 1) := by decide +kernel
theorem dX7_carbon_8 : decode cX7_carbon 8 = .ok (.ireturn, 1) := by decide +kernel
theorem dX7_carbon_9 : decode cX7_carbon 9 = .ok (.iload_n 2, 1) := by decide +kernel
theorem dX7_carbon_10 : decode cX7_carbon 10 = .ok (.iconst 0, 1) := by decide +kernel
theorem dX7_carbon_11 : decode cX7_carbon 11 = .ok (.sipush 300, 3) := by decide +kernel
theorem dX7_carbon_14 : decode cX7_carbon 14 = .ok (.invokestatic 43, 3) := by decide +kernel
theorem dX7_carbon_17 : decode cX7_carbon 17 = .ok (.ifCond .ne 6, 3) := by decide +kernel
theorem dX7_carbon_20 : decode cX7_carbon 20 = .ok (.bipush (-2), 2) := by decide +kernel
theorem dX7_carbon_22 : decode cX7_carbon 22 = .ok (.ireturn, 1) := by decide +kernel
theorem dX7_carbon_23 : decode cX7_carbon 23 = .ok (.aload_n 0, 1) := by decide +kernel
theorem dX7_carbon_24 : decode cX7_carbon 24 = .ok (.iload_n 1, 1) := by decide +kernel
theorem dX7_carbon_25 : decode cX7_carbon 25 = .ok (.invokevirtual 54, 3) := by decide +kernel
theorem dX7_carbon_28 : decode cX7_carbon 28 = .ok (.ifCond .ne 6, 3) := by decide +kernel
theorem dX7_carbon_31 : decode cX7_carbon 31 = .ok (.bipush (-5), 2) := by decide +kernel
theorem dX7_carbon_33 : decode cX7_carbon 33 = .ok (.ireturn, 1) := by decide +kernel
theorem dX7_carbon_34 : decode cX7_carbon 34 = .ok (.aload_n 0, 1) := by decide +kernel
theorem dX7_carbon_35 : decode cX7_carbon 35 = .ok (.invokevirtual 47, 3) := by decide +kernel
theorem dX7_carbon_38 : decode cX7_carbon 38 = .ok (.aload_n 0, 1) := by decide +kernel
theorem dX7_carbon_39 : decode cX7_carbon 39 = .ok (.getfield 7, 3) := by decide +kernel
theorem dX7_carbon_42 : decode cX7_carbon 42 = .ok (.bipush 9, 2) := by decide +kernel
theorem dX7_carbon_44 : decode cX7_carbon 44 = .ok (.iload_n 1, 1) := by decide +kernel
theorem dX7_carbon_45 : decode cX7_carbon 45 = .ok (.iadd, 1) := by decide +kernel
theorem dX7_carbon_46 : decode cX7_carbon 46 = .ok (.iaload, 1) := by decide +kernel
theorem dX7_carbon_47 : decode cX7_carbon 47 = .ok (.istore_n 3, 1) := by decide +kernel
theorem dX7_carbon_48 : decode cX7_carbon 48 = .ok (.aload_n 0, 1) := by decide +kernel
theorem dX7_carbon_49 : decode cX7_carbon 49 = .ok (.getfield 7, 3) := by decide +kernel
theorem dX7_carbon_52 : decode cX7_carbon 52 = .ok (.bipush 9, 2) := by decide +kernel
theorem dX7_carbon_54 : decode cX7_carbon 54 = .ok (.iload_n 1, 1) := by decide +kernel
theorem dX7_carbon_55 : decode cX7_carbon 55 = .ok (.iadd, 1) := by decide +kernel
theorem dX7_carbon_56 : decode cX7_carbon 56 = .ok (.iload_n 2, 1) := by decide +kernel
theorem dX7_carbon_57 : decode cX7_carbon 57 = .ok (.iastore, 1) := by decide +kernel
theorem dX7_carbon_58 : decode cX7_carbon 58 = .ok (.iload_n 3, 1) := by decide +kernel
theorem dX7_carbon_59 : decode cX7_carbon 59 = .ok (.ireturn, 1) := by decide +kernel
theorem dX7_spot_0 : decode cX7_spot 0 = .ok (.bipush 10, 2) := by decide +kernel
theorem dX7_spot_2 : decode cX7_spot 2 = .ok (.iload_n 0, 1) := by decide +kernel
theorem dX7_spot_3 : decode cX7_spot 3 = .ok (.imul, 1) := by decide +kernel
theorem dX7_spot_4 : decode cX7_spot 4 = .ok (.iload_n 1, 1) := by decide +kernel
theorem dX7_spot_5 : decode cX7_spot 5 = .ok (.iadd, 1) := by decide +kernel
theorem dX7_spot_6 : decode cX7_spot 6 = .ok (.ireturn, 1) := by decide +kernel
theorem dX7_many_0 : decode cX7_many 0 = .ok (.aload_n 0, 1) := by decide +kernel
theorem dX7_many_1 : decode cX7_many 1 = .ok (.getfield 7, 3) := by decide +kernel
theorem dX7_many_4 : decode cX7_many 4 = .ok (.bipush 20, 2) := by decide +kernel
theorem dX7_many_6 : decode cX7_many 6 = .ok (.iload_n 1, 1) := by decide +kernel
theorem dX7_many_7 : decode cX7_many 7 = .ok (.iload_n 2, 1) := by decide +kernel
theorem dX7_many_8 : decode cX7_many 8 = .ok (.invokestatic 57, 3) := by decide +kernel
theorem dX7_many_11 : decode cX7_many 11 = .ok (.iadd, 1) := by decide +kernel
theorem dX7_many_12 : decode cX7_many 12 = .ok (.iaload, 1) := by decide +kernel
theorem dX7_many_13 : decode cX7_many 13 = .ok (.ireturn, 1) := by decide +kernel
theorem dX7_markAt_0 : decode cX7_markAt 0 = .ok (.aload_n 0, 1) := by decide +kernel
theorem dX7_markAt_1 : decode cX7_markAt 1 = .ok (.getfield 7, 3) := by decide +kernel
theorem dX7_markAt_4 : decode cX7_markAt 4 = .ok (.bipush 70, 2) := by decide +kernel
theorem dX7_markAt_6 : decode cX7_markAt 6 = .ok (.bipush 8, 2) := by decide +kernel
theorem dX7_markAt_8 : decode cX7_markAt 8 = .ok (.iload_n 1, 1) := by decide +kernel
theorem dX7_markAt_9 : decode cX7_markAt 9 = .ok (.iload_n 2, 1) := by decide +kernel
theorem dX7_markAt_10 : decode cX7_markAt 10 = .ok (.invokestatic 57, 3) := by decide +kernel
theorem dX7_markAt_13 : decode cX7_markAt 13 = .ok (.imul, 1) := by decide +kernel
theorem dX7_markAt_14 : decode cX7_markAt 14 = .ok (.iadd, 1) := by decide +kernel
theorem dX7_markAt_15 : decode cX7_markAt 15 = .ok (.iload_n 3, 1) := by decide +kernel
theorem dX7_markAt_16 : decode cX7_markAt 16 = .ok (.iadd, 1) := by decide +kernel
theorem dX7_markAt_17 : decode cX7_markAt 17 = .ok (.iaload, 1) := by decide +kernel
theorem dX7_markAt_18 : decode cX7_markAt 18 = .ok (.ireturn, 1) := by decide +kernel
theorem dX7_valueOf_0 : decode cX7_valueOf 0 = .ok (.iload_n 0, 1) := by decide +kernel
theorem dX7_valueOf_1 : decode cX7_valueOf 1 = .ok (.bipush 20, 2) := by decide +kernel
theorem dX7_valueOf_3 : decode cX7_valueOf 3 = .ok (.idiv, 1) := by decide +kernel
theorem dX7_valueOf_4 : decode cX7_valueOf 4 = .ok (.ireturn, 1) := by decide +kernel
theorem dX7_strengthOf_0 : decode cX7_strengthOf 0 = .ok (.iload_n 0, 1) := by decide +kernel
theorem dX7_strengthOf_1 : decode cX7_strengthOf 1 = .ok (.iconst 2, 1) := by decide +kernel
theorem dX7_strengthOf_2 : decode cX7_strengthOf 2 = .ok (.idiv, 1) := by decide +kernel
theorem dX7_strengthOf_3 : decode cX7_strengthOf 3 = .ok (.bipush 10, 2) := by decide +kernel
theorem dX7_strengthOf_5 : decode cX7_strengthOf 5 = .ok (.irem, 1) := by decide +kernel
theorem dX7_strengthOf_6 : decode cX7_strengthOf 6 = .ok (.ireturn, 1) := by decide +kernel
theorem dX7_isStruck_0 : decode cX7_isStruck 0 = .ok (.iload_n 0, 1) := by decide +kernel
theorem dX7_isStruck_1 : decode cX7_isStruck 1 = .ok (.iconst 2, 1) := by decide +kernel
theorem dX7_isStruck_2 : decode cX7_isStruck 2 = .ok (.irem, 1) := by decide +kernel
theorem dX7_isStruck_3 : decode cX7_isStruck 3 = .ok (.iconst 1, 1) := by decide +kernel
theorem dX7_isStruck_4 : decode cX7_isStruck 4 = .ok (.if_icmp .ne 7, 3) := by decide +kernel
theorem dX7_isStruck_7 : decode cX7_isStruck 7 = .ok (.iconst 1, 1) := by decide +kernel
theorem dX7_isStruck_8 : decode cX7_isStruck 8 = .ok (.goto 4, 3) := by decide +kernel
theorem dX7_isStruck_11 : decode cX7_isStruck 11 = .ok (.iconst 0, 1) := by decide +kernel
theorem dX7_isStruck_12 : decode cX7_isStruck 12 = .ok (.ireturn, 1) := by decide +kernel
theorem dX7_addMark_0 : decode cX7_addMark 0 = .ok (.aload_n 0, 1) := by decide +kernel
theorem dX7_addMark_1 : decode cX7_addMark 1 = .ok (.getfield 7, 3) := by decide +kernel
theorem dX7_addMark_4 : decode cX7_addMark 4 = .ok (.bipush 70, 2) := by decide +kernel
theorem dX7_addMark_6 : decode cX7_addMark 6 = .ok (.bipush 8, 2) := by decide +kernel
theorem dX7_addMark_8 : decode cX7_addMark 8 = .ok (.iload_n 1, 1) := by decide +kernel
theorem dX7_addMark_9 : decode cX7_addMark 9 = .ok (.iload_n 2, 1) := by decide +kernel
theorem dX7_addMark_10 : decode cX7_addMark 10 = .ok (.invokestatic 57, 3) := by decide +kernel
theorem dX7_addMark_13 : decode cX7_addMark 13 = .ok (.imul, 1) := by decide +kernel
theorem dX7_addMark_14 : decode cX7_addMark 14 = .ok (.iadd, 1) := by decide +kernel
theorem dX7_addMark_15 : decode cX7_addMark 15 = .ok (.aload_n 0, 1) := by decide +kernel
theorem dX7_addMark_16 : decode cX7_addMark 16 = .ok (.iload_n 1, 1) := by decide +kernel
theorem dX7_addMark_17 : decode cX7_addMark 17 = .ok (.iload_n 2, 1) := by decide +kernel
theorem dX7_addMark_18 : decode cX7_addMark 18 = .ok (.invokevirtual 61, 3) := by decide +kernel
theorem dX7_addMark_21 : decode cX7_addMark 21 = .ok (.iadd, 1) := by decide +kernel
theorem dX7_addMark_22 : decode cX7_addMark 22 = .ok (.bipush 20, 2) := by decide +kernel
theorem dX7_addMark_24 : decode cX7_addMark 24 = .ok (.iload_n 3, 1) := by decide +kernel
theorem dX7_addMark_25 : decode cX7_addMark 25 = .ok (.imul, 1) := by decide +kernel
theorem dX7_addMark_26 : decode cX7_addMark 26 = .ok (.iconst 2, 1) := by decide +kernel
theorem dX7_addMark_27 : decode cX7_addMark 27 = .ok (.iload 4, 2) := by decide +kernel
theorem dX7_addMark_29 : decode cX7_addMark 29 = .ok (.imul, 1) := by decide +kernel
theorem dX7_addMark_30 : decode cX7_addMark 30 = .ok (.iadd, 1) := by decide +kernel
theorem dX7_addMark_31 : decode cX7_addMark 31 = .ok (.iastore, 1) := by decide +kernel
theorem dX7_addMark_32 : decode cX7_addMark 32 = .ok (.aload_n 0, 1) := by decide +kernel
theorem dX7_addMark_33 : decode cX7_addMark 33 = .ok (.getfield 7, 3) := by decide +kernel
theorem dX7_addMark_36 : decode cX7_addMark 36 = .ok (.bipush 20, 2) := by decide +kernel
theorem dX7_addMark_38 : decode cX7_addMark 38 = .ok (.iload_n 1, 1) := by decide +kernel
theorem dX7_addMark_39 : decode cX7_addMark 39 = .ok (.iload_n 2, 1) := by decide +kernel
theorem dX7_addMark_40 : decode cX7_addMark 40 = .ok (.invokestatic 57, 3) := by decide +kernel
theorem dX7_addMark_43 : decode cX7_addMark 43 = .ok (.iadd, 1) := by decide +kernel
theorem dX7_addMark_44 : decode cX7_addMark 44 = .ok (.dup2, 1) := by decide +kernel
theorem dX7_addMark_45 : decode cX7_addMark 45 = .ok (.iaload, 1) := by decide +kernel
theorem dX7_addMark_46 : decode cX7_addMark 46 = .ok (.iconst 1, 1) := by decide +kernel
theorem dX7_addMark_47 : decode cX7_addMark 47 = .ok (.iadd, 1) := by decide +kernel
theorem dX7_addMark_48 : decode cX7_addMark 48 = .ok (.iastore, 1) := by decide +kernel
theorem dX7_addMark_49 : decode cX7_addMark 49 = .ok (.return_, 1) := by decide +kernel
theorem dX7_strikeAt_0 : decode cX7_strikeAt 0 = .ok (.iconst 0, 1) := by decide +kernel
theorem dX7_strikeAt_1 : decode cX7_strikeAt 1 = .ok (.istore 4, 2) := by decide +kernel
theorem dX7_strikeAt_3 : decode cX7_strikeAt 3 = .ok (.iconst 0, 1) := by decide +kernel
theorem dX7_strikeAt_4 : decode cX7_strikeAt 4 = .ok (.istore 5, 2) := by decide +kernel
theorem dX7_strikeAt_6 : decode cX7_strikeAt 6 = .ok (.iload 5, 2) := by decide +kernel
theorem dX7_strikeAt_8 : decode cX7_strikeAt 8 = .ok (.aload_n 0, 1) := by decide +kernel
theorem dX7_strikeAt_9 : decode cX7_strikeAt 9 = .ok (.iload_n 1, 1) := by decide +kernel
theorem dX7_strikeAt_10 : decode cX7_strikeAt 10 = .ok (.iload_n 2, 1) := by decide +kernel
theorem dX7_strikeAt_11 : decode cX7_strikeAt 11 = .ok (.invokevirtual 61, 3) := by decide +kernel
theorem dX7_strikeAt_14 : decode cX7_strikeAt 14 = .ok (.if_icmp .ge 62, 3) := by decide +kernel
theorem dX7_strikeAt_17 : decode cX7_strikeAt 17 = .ok (.aload_n 0, 1) := by decide +kernel
theorem dX7_strikeAt_18 : decode cX7_strikeAt 18 = .ok (.iload_n 1, 1) := by decide +kernel
theorem dX7_strikeAt_19 : decode cX7_strikeAt 19 = .ok (.iload_n 2, 1) := by decide +kernel
theorem dX7_strikeAt_20 : decode cX7_strikeAt 20 = .ok (.iload 5, 2) := by decide +kernel
theorem dX7_strikeAt_22 : decode cX7_strikeAt 22 = .ok (.invokevirtual 64, 3) := by decide +kernel
theorem dX7_strikeAt_25 : decode cX7_strikeAt 25 = .ok (.istore 6, 2) := by decide +kernel
theorem dX7_strikeAt_27 : decode cX7_strikeAt 27 = .ok (.iload 6, 2) := by decide +kernel
theorem dX7_strikeAt_29 : decode cX7_strikeAt 29 = .ok (.invokestatic 68, 3) := by decide +kernel
theorem dX7_strikeAt_32 : decode cX7_strikeAt 32 = .ok (.ifCond .ne 38, 3) := by decide +kernel
theorem dX7_strikeAt_35 : decode cX7_strikeAt 35 = .ok (.iload 6, 2) := by decide +kernel
theorem dX7_strikeAt_37 : decode cX7_strikeAt 37 = .ok (.invokestatic 71, 3) := by decide +kernel
theorem dX7_strikeAt_40 : decode cX7_strikeAt 40 = .ok (.iload_n 3, 1) := by decide +kernel
theorem dX7_strikeAt_41 : decode cX7_strikeAt 41 = .ok (.if_icmp .gt 29, 3) := by decide +kernel
theorem dX7_strikeAt_44 : decode cX7_strikeAt 44 = .ok (.aload_n 0, 1) := by decide +kernel
theorem dX7_strikeAt_45 : decode cX7_strikeAt 45 = .ok (.getfield 7, 3) := by decide +kernel
theorem dX7_strikeAt_48 : decode cX7_strikeAt 48 = .ok (.bipush 70, 2) := by decide +kernel
theorem dX7_strikeAt_50 : decode cX7_strikeAt 50 = .ok (.bipush 8, 2) := by decide +kernel
theorem dX7_strikeAt_52 : decode cX7_strikeAt 52 = .ok (.iload_n 1, 1) := by decide +kernel
theorem dX7_strikeAt_53 : decode cX7_strikeAt 53 = .ok (.iload_n 2, 1) := by decide +kernel
theorem dX7_strikeAt_54 : decode cX7_strikeAt 54 = .ok (.invokestatic 57, 3) := by decide +kernel
theorem dX7_strikeAt_57 : decode cX7_strikeAt 57 = .ok (.imul, 1) := by decide +kernel
theorem dX7_strikeAt_58 : decode cX7_strikeAt 58 = .ok (.iadd, 1) := by decide +kernel
theorem dX7_strikeAt_59 : decode cX7_strikeAt 59 = .ok (.iload 5, 2) := by decide +kernel
theorem dX7_strikeAt_61 : decode cX7_strikeAt 61 = .ok (.iadd, 1) := by decide +kernel
theorem dX7_strikeAt_62 : decode cX7_strikeAt 62 = .ok (.dup2, 1) := by decide +kernel
theorem dX7_strikeAt_63 : decode cX7_strikeAt 63 = .ok (.iaload, 1) := by decide +kernel
theorem dX7_strikeAt_64 : decode cX7_strikeAt 64 = .ok (.iconst 1, 1) := by decide +kernel
theorem dX7_strikeAt_65 : decode cX7_strikeAt 65 = .ok (.iadd, 1) := by decide +kernel
theorem dX7_strikeAt_66 : decode cX7_strikeAt 66 = .ok (.iastore, 1) := by decide +kernel
theorem dX7_strikeAt_67 : decode cX7_strikeAt 67 = .ok (.iinc 4 1, 3) := by decide +kernel
theorem dX7_strikeAt_70 : decode cX7_strikeAt 70 = .ok (.iinc 5 1, 3) := by decide +kernel
theorem dX7_strikeAt_73 : decode cX7_strikeAt 73 = .ok (.goto (-67), 3) := by decide +kernel
theorem dX7_strikeAt_76 : decode cX7_strikeAt 76 = .ok (.iload 4, 2) := by decide +kernel
theorem dX7_strikeAt_78 : decode cX7_strikeAt 78 = .ok (.ireturn, 1) := by decide +kernel
theorem dX7_layPress_0 : decode cX7_layPress 0 = .ok (.iconst 0, 1) := by decide +kernel
theorem dX7_layPress_1 : decode cX7_layPress 1 = .ok (.istore_n 2, 1) := by decide +kernel
theorem dX7_layPress_2 : decode cX7_layPress 2 = .ok (.iload_n 1, 1) := by decide +kernel
theorem dX7_layPress_3 : decode cX7_layPress 3 = .ok (.istore_n 3, 1) := by decide +kernel
theorem dX7_layPress_4 : decode cX7_layPress 4 = .ok (.iconst 0, 1) := by decide +kernel
theorem dX7_layPress_5 : decode cX7_layPress 5 = .ok (.istore 4, 2) := by decide +kernel
theorem dX7_layPress_7 : decode cX7_layPress 7 = .ok (.iload 4, 2) := by decide +kernel
theorem dX7_layPress_9 : decode cX7_layPress 9 = .ok (.iconst 5, 1) := by decide +kernel
theorem dX7_layPress_10 : decode cX7_layPress 10 = .ok (.if_icmp .ge 17, 3) := by decide +kernel
theorem dX7_layPress_13 : decode cX7_layPress 13 = .ok (.aload_n 0, 1) := by decide +kernel
theorem dX7_layPress_14 : decode cX7_layPress 14 = .ok (.getfield 29, 3) := by decide +kernel
theorem dX7_layPress_17 : decode cX7_layPress 17 = .ok (.iload 4, 2) := by decide +kernel
theorem dX7_layPress_19 : decode cX7_layPress 19 = .ok (.iconst 0, 1) := by decide +kernel
theorem dX7_layPress_20 : decode cX7_layPress 20 = .ok (.iastore, 1) := by decide +kernel
theorem dX7_layPress_21 : decode cX7_layPress 21 = .ok (.iinc 4 1, 3) := by decide +kernel
theorem dX7_layPress_24 : decode cX7_layPress 24 = .ok (.goto (-17), 3) := by decide +kernel
theorem dX7_layPress_27 : decode cX7_layPress 27 = .ok (.aload_n 0, 1) := by decide +kernel
theorem dX7_layPress_28 : decode cX7_layPress 28 = .ok (.getfield 7, 3) := by decide +kernel
theorem dX7_layPress_31 : decode cX7_layPress 31 = .ok (.iconst 2, 1) := by decide +kernel
theorem dX7_layPress_32 : decode cX7_layPress 32 = .ok (.iaload, 1) := by decide +kernel
theorem dX7_layPress_33 : decode cX7_layPress 33 = .ok (.istore 4, 2) := by decide +kernel
theorem dX7_layPress_35 : decode cX7_layPress 35 = .ok (.iload 4, 2) := by decide +kernel
theorem dX7_layPress_37 : decode cX7_layPress 37 = .ok (.aload_n 0, 1) := by decide +kernel
theorem dX7_layPress_38 : decode cX7_layPress 38 = .ok (.getfield 7, 3) := by decide +kernel
theorem dX7_layPress_41 : decode cX7_layPress 41 = .ok (.iconst 3, 1) := by decide +kernel
theorem dX7_layPress_42 : decode cX7_layPress 42 = .ok (.iaload, 1) := by decide +kernel
theorem dX7_layPress_43 : decode cX7_layPress 43 = .ok (.if_icmp .gt 53, 3) := by decide +kernel
theorem dX7_layPress_46 : decode cX7_layPress 46 = .ok (.iload_n 3, 1) := by decide +kernel
theorem dX7_layPress_47 : decode cX7_layPress 47 = .ok (.ifCond .le 49, 3) := by decide +kernel
theorem dX7_layPress_50 : decode cX7_layPress 50 = .ok (.aload_n 0, 1) := by decide +kernel
theorem dX7_layPress_51 : decode cX7_layPress 51 = .ok (.getfield 29, 3) := by decide +kernel
theorem dX7_layPress_54 : decode cX7_layPress 54 = .ok (.iload 4, 2) := by decide +kernel
theorem dX7_layPress_56 : decode cX7_layPress 56 = .ok (.iload_n 3, 1) := by decide +kernel
theorem dX7_layPress_57 : decode cX7_layPress 57 = .ok (.iastore, 1) := by decide +kernel
theorem dX7_layPress_58 : decode cX7_layPress 58 = .ok (.iinc 2 1, 3) := by decide +kernel
theorem dX7_layPress_61 : decode cX7_layPress 61 = .ok (.aload_n 0, 1) := by decide +kernel
theorem dX7_layPress_62 : decode cX7_layPress 62 = .ok (.getfield 7, 3) := by decide +kernel
theorem dX7_layPress_65 : decode cX7_layPress 65 = .ok (.bipush 9, 2) := by decide +kernel
theorem dX7_layPress_67 : decode cX7_layPress 67 = .ok (.iload 4, 2) := by decide +kernel
theorem dX7_layPress_69 : decode cX7_layPress 69 = .ok (.iadd, 1) := by decide +kernel
theorem dX7_layPress_70 : decode cX7_layPress 70 = .ok (.iaload, 1) := by decide +kernel
theorem dX7_layPress_71 : decode cX7_layPress 71 = .ok (.ifCond .le 17, 3) := by decide +kernel
theorem dX7_layPress_74 : decode cX7_layPress 74 = .ok (.iload_n 3, 1) := by decide +kernel
theorem dX7_layPress_75 : decode cX7_layPress 75 = .ok (.aload_n 0, 1) := by decide +kernel
theorem dX7_layPress_76 : decode cX7_layPress 76 = .ok (.getfield 7, 3) := by decide +kernel
theorem dX7_layPress_79 : decode cX7_layPress 79 = .ok (.iconst 4, 1) := by decide +kernel
theorem dX7_layPress_80 : decode cX7_layPress 80 = .ok (.iload 4, 2) := by decide +kernel
theorem dX7_layPress_82 : decode cX7_layPress 82 = .ok (.iadd, 1) := by decide +kernel
theorem dX7_layPress_83 : decode cX7_layPress 83 = .ok (.iaload, 1) := by decide +kernel
theorem dX7_layPress_84 : decode cX7_layPress 84 = .ok (.isub, 1) := by decide +kernel
theorem dX7_layPress_85 : decode cX7_layPress 85 = .ok (.goto 4, 3) := by decide +kernel
theorem dX7_layPress_88 : decode cX7_layPress 88 = .ok (.iconst 0, 1) := by decide +kernel
theorem dX7_layPress_89 : decode cX7_layPress 89 = .ok (.istore_n 3, 1) := by decide +kernel
theorem dX7_layPress_90 : decode cX7_layPress 90 = .ok (.iinc 4 1, 3) := by decide +kernel
theorem dX7_layPress_93 : decode cX7_layPress 93 = .ok (.goto (-58), 3) := by decide +kernel
theorem dX7_layPress_96 : decode cX7_layPress 96 = .ok (.iload_n 2, 1) := by decide +kernel
theorem dX7_layPress_97 : decode cX7_layPress 97 = .ok (.ireturn, 1) := by decide +kernel
theorem dX7_usePress_0 : decode cX7_usePress 0 = .ok (.iconst 0, 1) := by decide +kernel
theorem dX7_usePress_1 : decode cX7_usePress 1 = .ok (.istore_n 2, 1) := by decide +kernel
theorem dX7_usePress_2 : decode cX7_usePress 2 = .ok (.iload_n 2, 1) := by decide +kernel
theorem dX7_usePress_3 : decode cX7_usePress 3 = .ok (.iload_n 1, 1) := by decide +kernel
theorem dX7_usePress_4 : decode cX7_usePress 4 = .ok (.iconst 1, 1) := by decide +kernel
theorem dX7_usePress_5 : decode cX7_usePress 5 = .ok (.isub, 1) := by decide +kernel
theorem dX7_usePress_6 : decode cX7_usePress 6 = .ok (.if_icmp .ge 29, 3) := by decide +kernel
theorem dX7_usePress_9 : decode cX7_usePress 9 = .ok (.aload_n 0, 1) := by decide +kernel
theorem dX7_usePress_10 : decode cX7_usePress 10 = .ok (.getfield 7, 3) := by decide +kernel
theorem dX7_usePress_13 : decode cX7_usePress 13 = .ok (.bipush 9, 2) := by decide +kernel
theorem dX7_usePress_15 : decode cX7_usePress 15 = .ok (.aload_n 0, 1) := by decide +kernel
theorem dX7_usePress_16 : decode cX7_usePress 16 = .ok (.getfield 7, 3) := by decide +kernel
theorem dX7_usePress_19 : decode cX7_usePress 19 = .ok (.iconst 2, 1) := by decide +kernel
theorem dX7_usePress_20 : decode cX7_usePress 20 = .ok (.iaload, 1) := by decide +kernel
theorem dX7_usePress_21 : decode cX7_usePress 21 = .ok (.iadd, 1) := by decide +kernel
theorem dX7_usePress_22 : decode cX7_usePress 22 = .ok (.iload_n 2, 1) := by decide +kernel
theorem dX7_usePress_23 : decode cX7_usePress 23 = .ok (.iadd, 1) := by decide +kernel
theorem dX7_usePress_24 : decode cX7_usePress 24 = .ok (.dup2, 1) := by decide +kernel
theorem dX7_usePress_25 : decode cX7_usePress 25 = .ok (.iaload, 1) := by decide +kernel
theorem dX7_usePress_26 : decode cX7_usePress 26 = .ok (.iconst 1, 1) := by decide +kernel
theorem dX7_usePress_27 : decode cX7_usePress 27 = .ok (.isub, 1) := by decide +kernel
theorem dX7_usePress_28 : decode cX7_usePress 28 = .ok (.iastore, 1) := by decide +kernel
theorem dX7_usePress_29 : decode cX7_usePress 29 = .ok (.iinc 2 1, 3) := by decide +kernel
theorem dX7_usePress_32 : decode cX7_usePress 32 = .ok (.goto (-30), 3) := by decide +kernel
theorem dX7_usePress_35 : decode cX7_usePress 35 = .ok (.return_, 1) := by decide +kernel
theorem dX7_barOf_0 : decode cX7_barOf 0 = .ok (.iload_n 1, 1) := by decide +kernel
theorem dX7_barOf_1 : decode cX7_barOf 1 = .ok (.invokestatic 75, 3) := by decide +kernel
theorem dX7_barOf_4 : decode cX7_barOf 4 = .ok (.ifCond .ne 5, 3) := by decide +kernel
theorem dX7_barOf_7 : decode cX7_barOf 7 = .ok (.iconst (-1), 1) := by decide +kernel
theorem dX7_barOf_8 : decode cX7_barOf 8 = .ok (.ireturn, 1) := by decide +kernel
theorem dX7_barOf_9 : decode cX7_barOf 9 = .ok (.iload_n 2, 1) := by decide +kernel
theorem dX7_barOf_10 : decode cX7_barOf 10 = .ok (.iconst 0, 1) := by decide +kernel
theorem dX7_barOf_11 : decode cX7_barOf 11 = .ok (.sipush 999, 3) := by decide +kernel
theorem dX7_barOf_14 : decode cX7_barOf 14 = .ok (.invokestatic 43, 3) := by decide +kernel
theorem dX7_barOf_17 : decode cX7_barOf 17 = .ok (.ifCond .eq 13, 3) := by decide +kernel
theorem dX7_barOf_20 : decode cX7_barOf 20 = .ok (.iload_n 3, 1) := by decide +kernel
theorem dX7_barOf_21 : decode cX7_barOf 21 = .ok (.iconst 1, 1) := by decide +kernel
theorem dX7_barOf_22 : decode cX7_barOf 22 = .ok (.bipush 9, 2) := by decide +kernel
theorem dX7_barOf_24 : decode cX7_barOf 24 = .ok (.invokestatic 43, 3) := by decide +kernel
theorem dX7_barOf_27 : decode cX7_barOf 27 = .ok (.ifCond .ne 6, 3) := by decide +kernel
theorem dX7_barOf_30 : decode cX7_barOf 30 = .ok (.bipush (-2), 2) := by decide +kernel
theorem dX7_barOf_32 : decode cX7_barOf 32 = .ok (.ireturn, 1) := by decide +kernel
theorem dX7_barOf_33 : decode cX7_barOf 33 = .ok (.aload_n 0, 1) := by decide +kernel
theorem dX7_barOf_34 : decode cX7_barOf 34 = .ok (.invokevirtual 78, 3) := by decide +kernel
theorem dX7_barOf_37 : decode cX7_barOf 37 = .ok (.ifCond .ne 6, 3) := by decide +kernel
theorem dX7_barOf_40 : decode cX7_barOf 40 = .ok (.bipush (-5), 2) := by decide +kernel
theorem dX7_barOf_42 : decode cX7_barOf 42 = .ok (.ireturn, 1) := by decide +kernel
theorem dX7_barOf_43 : decode cX7_barOf 43 = .ok (.aload_n 0, 1) := by decide +kernel
theorem dX7_barOf_44 : decode cX7_barOf 44 = .ok (.iload_n 3, 1) := by decide +kernel
theorem dX7_barOf_45 : decode cX7_barOf 45 = .ok (.invokevirtual 82, 3) := by decide +kernel
theorem dX7_barOf_48 : decode cX7_barOf 48 = .ok (.istore 4, 2) := by decide +kernel
theorem dX7_barOf_50 : decode cX7_barOf 50 = .ok (.iconst 1, 1) := by decide +kernel
theorem dX7_barOf_51 : decode cX7_barOf 51 = .ok (.istore 5, 2) := by decide +kernel
theorem dX7_barOf_53 : decode cX7_barOf 53 = .ok (.iconst 0, 1) := by decide +kernel
theorem dX7_barOf_54 : decode cX7_barOf 54 = .ok (.istore 6, 2) := by decide +kernel
theorem dX7_barOf_56 : decode cX7_barOf 56 = .ok (.iload 6, 2) := by decide +kernel
theorem dX7_barOf_58 : decode cX7_barOf 58 = .ok (.iload 4, 2) := by decide +kernel
theorem dX7_barOf_60 : decode cX7_barOf 60 = .ok (.if_icmp .ge 40, 3) := by decide +kernel
theorem dX7_barOf_63 : decode cX7_barOf 63 = .ok (.iload 5, 2) := by decide +kernel
theorem dX7_barOf_65 : decode cX7_barOf 65 = .ok (.ifCond .eq 26, 3) := by decide +kernel
theorem dX7_barOf_68 : decode cX7_barOf 68 = .ok (.aload_n 0, 1) := by decide +kernel
theorem dX7_barOf_69 : decode cX7_barOf 69 = .ok (.aload_n 0, 1) := by decide +kernel
theorem dX7_barOf_70 : decode cX7_barOf 70 = .ok (.getfield 7, 3) := by decide +kernel
theorem dX7_barOf_73 : decode cX7_barOf 73 = .ok (.iconst 2, 1) := by decide +kernel
theorem dX7_barOf_74 : decode cX7_barOf 74 = .ok (.iaload, 1) := by decide +kernel
theorem dX7_barOf_75 : decode cX7_barOf 75 = .ok (.iload 6, 2) := by decide +kernel
theorem dX7_barOf_77 : decode cX7_barOf 77 = .ok (.iadd, 1) := by decide +kernel
theorem dX7_barOf_78 : decode cX7_barOf 78 = .ok (.iload_n 1, 1) := by decide +kernel
theorem dX7_barOf_79 : decode cX7_barOf 79 = .ok (.invokevirtual 61, 3) := by decide +kernel
theorem dX7_barOf_82 : decode cX7_barOf 82 = .ok (.bipush 8, 2) := by decide +kernel
theorem dX7_barOf_84 : decode cX7_barOf 84 = .ok (.if_icmp .ge 7, 3) := by decide +kernel
theorem dX7_barOf_87 : decode cX7_barOf 87 = .ok (.iconst 1, 1) := by decide +kernel
theorem dX7_barOf_88 : decode cX7_barOf 88 = .ok (.goto 4, 3) := by decide +kernel
theorem dX7_barOf_91 : decode cX7_barOf 91 = .ok (.iconst 0, 1) := by decide +kernel
theorem dX7_barOf_92 : decode cX7_barOf 92 = .ok (.istore 5, 2) := by decide +kernel
theorem dX7_barOf_94 : decode cX7_barOf 94 = .ok (.iinc 6 1, 3) := by decide +kernel
theorem dX7_barOf_97 : decode cX7_barOf 97 = .ok (.goto (-41), 3) := by decide +kernel
theorem dX7_barOf_100 : decode cX7_barOf 100 = .ok (.iload 5, 2) := by decide +kernel
theorem dX7_barOf_102 : decode cX7_barOf 102 = .ok (.ifCond .eq 7, 3) := by decide +kernel
theorem dX7_barOf_105 : decode cX7_barOf 105 = .ok (.iconst 0, 1) := by decide +kernel
theorem dX7_barOf_106 : decode cX7_barOf 106 = .ok (.goto 5, 3) := by decide +kernel
theorem dX7_barOf_109 : decode cX7_barOf 109 = .ok (.bipush (-4), 2) := by decide +kernel
theorem dX7_barOf_111 : decode cX7_barOf 111 = .ok (.ireturn, 1) := by decide +kernel
theorem dX7_writeNow_0 : decode cX7_writeNow 0 = .ok (.aload_n 0, 1) := by decide +kernel
theorem dX7_writeNow_1 : decode cX7_writeNow 1 = .ok (.iload_n 3, 1) := by decide +kernel
theorem dX7_writeNow_2 : decode cX7_writeNow 2 = .ok (.invokevirtual 82, 3) := by decide +kernel
theorem dX7_writeNow_5 : decode cX7_writeNow 5 = .ok (.istore 4, 2) := by decide +kernel
theorem dX7_writeNow_7 : decode cX7_writeNow 7 = .ok (.aload_n 0, 1) := by decide +kernel
theorem dX7_writeNow_8 : decode cX7_writeNow 8 = .ok (.iload 4, 2) := by decide +kernel
theorem dX7_writeNow_10 : decode cX7_writeNow 10 = .ok (.invokevirtual 85, 3) := by decide +kernel
theorem dX7_writeNow_13 : decode cX7_writeNow 13 = .ok (.iconst 0, 1) := by decide +kernel
theorem dX7_writeNow_14 : decode cX7_writeNow 14 = .ok (.istore 5, 2) := by decide +kernel
theorem dX7_writeNow_16 : decode cX7_writeNow 16 = .ok (.iload 5, 2) := by decide +kernel
theorem dX7_writeNow_18 : decode cX7_writeNow 18 = .ok (.iload 4, 2) := by decide +kernel
theorem dX7_writeNow_20 : decode cX7_writeNow 20 = .ok (.if_icmp .ge 38, 3) := by decide +kernel
theorem dX7_writeNow_23 : decode cX7_writeNow 23 = .ok (.aload_n 0, 1) := by decide +kernel
theorem dX7_writeNow_24 : decode cX7_writeNow 24 = .ok (.aload_n 0, 1) := by decide +kernel
theorem dX7_writeNow_25 : decode cX7_writeNow 25 = .ok (.getfield 7, 3) := by decide +kernel
theorem dX7_writeNow_28 : decode cX7_writeNow 28 = .ok (.iconst 2, 1) := by decide +kernel
theorem dX7_writeNow_29 : decode cX7_writeNow 29 = .ok (.iaload, 1) := by decide +kernel
theorem dX7_writeNow_30 : decode cX7_writeNow 30 = .ok (.iload 5, 2) := by decide +kernel
theorem dX7_writeNow_32 : decode cX7_writeNow 32 = .ok (.iadd, 1) := by decide +kernel
theorem dX7_writeNow_33 : decode cX7_writeNow 33 = .ok (.iload_n 1, 1) := by decide +kernel
theorem dX7_writeNow_34 : decode cX7_writeNow 34 = .ok (.iload_n 2, 1) := by decide +kernel
theorem dX7_writeNow_35 : decode cX7_writeNow 35 = .ok (.aload_n 0, 1) := by decide +kernel
theorem dX7_writeNow_36 : decode cX7_writeNow 36 = .ok (.getfield 29, 3) := by decide +kernel
theorem dX7_writeNow_39 : decode cX7_writeNow 39 = .ok (.aload_n 0, 1) := by decide +kernel
theorem dX7_writeNow_40 : decode cX7_writeNow 40 = .ok (.getfield 7, 3) := by decide +kernel
theorem dX7_writeNow_43 : decode cX7_writeNow 43 = .ok (.iconst 2, 1) := by decide +kernel
theorem dX7_writeNow_44 : decode cX7_writeNow 44 = .ok (.iaload, 1) := by decide +kernel
theorem dX7_writeNow_45 : decode cX7_writeNow 45 = .ok (.iload 5, 2) := by decide +kernel
theorem dX7_writeNow_47 : decode cX7_writeNow 47 = .ok (.iadd, 1) := by decide +kernel
theorem dX7_writeNow_48 : decode cX7_writeNow 48 = .ok (.iaload, 1) := by decide +kernel
theorem dX7_writeNow_49 : decode cX7_writeNow 49 = .ok (.invokevirtual 89, 3) := by decide +kernel
theorem dX7_writeNow_52 : decode cX7_writeNow 52 = .ok (.iinc 5 1, 3) := by decide +kernel
theorem dX7_writeNow_55 : decode cX7_writeNow 55 = .ok (.goto (-39), 3) := by decide +kernel
theorem dX7_writeNow_58 : decode cX7_writeNow 58 = .ok (.iload 4, 2) := by decide +kernel
theorem dX7_writeNow_60 : decode cX7_writeNow 60 = .ok (.ireturn, 1) := by decide +kernel
theorem dX7_write_0 : decode cX7_write 0 = .ok (.aload_n 0, 1) := by decide +kernel
theorem dX7_write_1 : decode cX7_write 1 = .ok (.iload_n 1, 1) := by decide +kernel
theorem dX7_write_2 : decode cX7_write 2 = .ok (.iload_n 2, 1) := by decide +kernel
theorem dX7_write_3 : decode cX7_write 3 = .ok (.iload_n 3, 1) := by decide +kernel
theorem dX7_write_4 : decode cX7_write 4 = .ok (.invokevirtual 93, 3) := by decide +kernel
theorem dX7_write_7 : decode cX7_write 7 = .ok (.istore 4, 2) := by decide +kernel
theorem dX7_write_9 : decode cX7_write 9 = .ok (.iload 4, 2) := by decide +kernel
theorem dX7_write_11 : decode cX7_write 11 = .ok (.ifCond .ge 6, 3) := by decide +kernel
theorem dX7_write_14 : decode cX7_write 14 = .ok (.iload 4, 2) := by decide +kernel
theorem dX7_write_16 : decode cX7_write 16 = .ok (.ireturn, 1) := by decide +kernel
theorem dX7_write_17 : decode cX7_write 17 = .ok (.aload_n 0, 1) := by decide +kernel
theorem dX7_write_18 : decode cX7_write 18 = .ok (.invokevirtual 47, 3) := by decide +kernel
theorem dX7_write_21 : decode cX7_write 21 = .ok (.aload_n 0, 1) := by decide +kernel
theorem dX7_write_22 : decode cX7_write 22 = .ok (.iload_n 1, 1) := by decide +kernel
theorem dX7_write_23 : decode cX7_write 23 = .ok (.iload_n 2, 1) := by decide +kernel
theorem dX7_write_24 : decode cX7_write 24 = .ok (.iload_n 3, 1) := by decide +kernel
theorem dX7_write_25 : decode cX7_write 25 = .ok (.invokevirtual 96, 3) := by decide +kernel
theorem dX7_write_28 : decode cX7_write 28 = .ok (.ireturn, 1) := by decide +kernel
theorem dX7_strikeNow_0 : decode cX7_strikeNow 0 = .ok (.aload_n 0, 1) := by decide +kernel
theorem dX7_strikeNow_1 : decode cX7_strikeNow 1 = .ok (.iload_n 2, 1) := by decide +kernel
theorem dX7_strikeNow_2 : decode cX7_strikeNow 2 = .ok (.invokevirtual 82, 3) := by decide +kernel
theorem dX7_strikeNow_5 : decode cX7_strikeNow 5 = .ok (.istore_n 3, 1) := by decide +kernel
theorem dX7_strikeNow_6 : decode cX7_strikeNow 6 = .ok (.aload_n 0, 1) := by decide +kernel
theorem dX7_strikeNow_7 : decode cX7_strikeNow 7 = .ok (.iload_n 3, 1) := by decide +kernel
theorem dX7_strikeNow_8 : decode cX7_strikeNow 8 = .ok (.invokevirtual 85, 3) := by decide +kernel
theorem dX7_strikeNow_11 : decode cX7_strikeNow 11 = .ok (.iconst 0, 1) := by decide +kernel
theorem dX7_strikeNow_12 : decode cX7_strikeNow 12 = .ok (.istore 4, 2) := by decide +kernel
theorem dX7_strikeNow_14 : decode cX7_strikeNow 14 = .ok (.iconst 0, 1) := by decide +kernel
theorem dX7_strikeNow_15 : decode cX7_strikeNow 15 = .ok (.istore 5, 2) := by decide +kernel
theorem dX7_strikeNow_17 : decode cX7_strikeNow 17 = .ok (.iload 5, 2) := by decide +kernel
theorem dX7_strikeNow_19 : decode cX7_strikeNow 19 = .ok (.iload_n 3, 1) := by decide +kernel
theorem dX7_strikeNow_20 : decode cX7_strikeNow 20 = .ok (.if_icmp .ge 42, 3) := by decide +kernel
theorem dX7_strikeNow_23 : decode cX7_strikeNow 23 = .ok (.iload 4, 2) := by decide +kernel
theorem dX7_strikeNow_25 : decode cX7_strikeNow 25 = .ok (.aload_n 0, 1) := by decide +kernel
theorem dX7_strikeNow_26 : decode cX7_strikeNow 26 = .ok (.aload_n 0, 1) := by decide +kernel
theorem dX7_strikeNow_27 : decode cX7_strikeNow 27 = .ok (.getfield 7, 3) := by decide +kernel
theorem dX7_strikeNow_30 : decode cX7_strikeNow 30 = .ok (.iconst 2, 1) := by decide +kernel
theorem dX7_strikeNow_31 : decode cX7_strikeNow 31 = .ok (.iaload, 1) := by decide +kernel
theorem dX7_strikeNow_32 : decode cX7_strikeNow 32 = .ok (.iload 5, 2) := by decide +kernel
theorem dX7_strikeNow_34 : decode cX7_strikeNow 34 = .ok (.iadd, 1) := by decide +kernel
theorem dX7_strikeNow_35 : decode cX7_strikeNow 35 = .ok (.iload_n 1, 1) := by decide +kernel
theorem dX7_strikeNow_36 : decode cX7_strikeNow 36 = .ok (.aload_n 0, 1) := by decide +kernel
theorem dX7_strikeNow_37 : decode cX7_strikeNow 37 = .ok (.getfield 29, 3) := by decide +kernel
theorem dX7_strikeNow_40 : decode cX7_strikeNow 40 = .ok (.aload_n 0, 1) := by decide +kernel
theorem dX7_strikeNow_41 : decode cX7_strikeNow 41 = .ok (.getfield 7, 3) := by decide +kernel
theorem dX7_strikeNow_44 : decode cX7_strikeNow 44 = .ok (.iconst 2, 1) := by decide +kernel
theorem dX7_strikeNow_45 : decode cX7_strikeNow 45 = .ok (.iaload, 1) := by decide +kernel
theorem dX7_strikeNow_46 : decode cX7_strikeNow 46 = .ok (.iload 5, 2) := by decide +kernel
theorem dX7_strikeNow_48 : decode cX7_strikeNow 48 = .ok (.iadd, 1) := by decide +kernel
theorem dX7_strikeNow_49 : decode cX7_strikeNow 49 = .ok (.iaload, 1) := by decide +kernel
theorem dX7_strikeNow_50 : decode cX7_strikeNow 50 = .ok (.invokevirtual 99, 3) := by decide +kernel
theorem dX7_strikeNow_53 : decode cX7_strikeNow 53 = .ok (.iadd, 1) := by decide +kernel
theorem dX7_strikeNow_54 : decode cX7_strikeNow 54 = .ok (.istore 4, 2) := by decide +kernel
theorem dX7_strikeNow_56 : decode cX7_strikeNow 56 = .ok (.iinc 5 1, 3) := by decide +kernel
theorem dX7_strikeNow_59 : decode cX7_strikeNow 59 = .ok (.goto (-42), 3) := by decide +kernel
theorem dX7_strikeNow_62 : decode cX7_strikeNow 62 = .ok (.iload 4, 2) := by decide +kernel
theorem dX7_strikeNow_64 : decode cX7_strikeNow 64 = .ok (.ireturn, 1) := by decide +kernel
theorem dX7_strike_0 : decode cX7_strike 0 = .ok (.iload_n 1, 1) := by decide +kernel
theorem dX7_strike_1 : decode cX7_strike 1 = .ok (.invokestatic 75, 3) := by decide +kernel
theorem dX7_strike_4 : decode cX7_strike 4 = .ok (.ifCond .ne 5, 3) := by decide +kernel
theorem dX7_strike_7 : decode cX7_strike 7 = .ok (.iconst (-1), 1) := by decide +kernel
theorem dX7_strike_8 : decode cX7_strike 8 = .ok (.ireturn, 1) := by decide +kernel
theorem dX7_strike_9 : decode cX7_strike 9 = .ok (.iload_n 2, 1) := by decide +kernel
theorem dX7_strike_10 : decode cX7_strike 10 = .ok (.iconst 1, 1) := by decide +kernel
theorem dX7_strike_11 : decode cX7_strike 11 = .ok (.bipush 9, 2) := by decide +kernel
theorem dX7_strike_13 : decode cX7_strike 13 = .ok (.invokestatic 43, 3) := by decide +kernel
theorem dX7_strike_16 : decode cX7_strike 16 = .ok (.ifCond .ne 6, 3) := by decide +kernel
theorem dX7_strike_19 : decode cX7_strike 19 = .ok (.bipush (-2), 2) := by decide +kernel
theorem dX7_strike_21 : decode cX7_strike 21 = .ok (.ireturn, 1) := by decide +kernel
theorem dX7_strike_22 : decode cX7_strike 22 = .ok (.aload_n 0, 1) := by decide +kernel
theorem dX7_strike_23 : decode cX7_strike 23 = .ok (.invokevirtual 78, 3) := by decide +kernel
theorem dX7_strike_26 : decode cX7_strike 26 = .ok (.ifCond .ne 6, 3) := by decide +kernel
theorem dX7_strike_29 : decode cX7_strike 29 = .ok (.bipush (-5), 2) := by decide +kernel
theorem dX7_strike_31 : decode cX7_strike 31 = .ok (.ireturn, 1) := by decide +kernel
theorem dX7_strike_32 : decode cX7_strike 32 = .ok (.aload_n 0, 1) := by decide +kernel
theorem dX7_strike_33 : decode cX7_strike 33 = .ok (.invokevirtual 47, 3) := by decide +kernel
theorem dX7_strike_36 : decode cX7_strike 36 = .ok (.aload_n 0, 1) := by decide +kernel
theorem dX7_strike_37 : decode cX7_strike 37 = .ok (.iload_n 1, 1) := by decide +kernel
theorem dX7_strike_38 : decode cX7_strike 38 = .ok (.iload_n 2, 1) := by decide +kernel
end
section
theorem dX7_strike_39 : decode cX7_strike 39 = .ok (.invokevirtual 102, 3) := by decide +kernel
theorem dX7_strike_42 : decode cX7_strike 42 = .ok (.ireturn, 1) := by decide +kernel
theorem dX7_paint_0 : decode cX7_paint 0 = .ok (.iload_n 1, 1) := by decide +kernel
theorem dX7_paint_1 : decode cX7_paint 1 = .ok (.invokestatic 50, 3) := by decide +kernel
theorem dX7_paint_4 : decode cX7_paint 4 = .ok (.ifCond .eq 10, 3) := by decide +kernel
theorem dX7_paint_7 : decode cX7_paint 7 = .ok (.iload_n 2, 1) := by decide +kernel
theorem dX7_paint_8 : decode cX7_paint 8 = .ok (.invokestatic 75, 3) := by decide +kernel
theorem dX7_paint_11 : decode cX7_paint 11 = .ok (.ifCond .ne 5, 3) := by decide +kernel
theorem dX7_paint_14 : decode cX7_paint 14 = .ok (.iconst (-1), 1) := by decide +kernel
theorem dX7_paint_15 : decode cX7_paint 15 = .ok (.ireturn, 1) := by decide +kernel
theorem dX7_paint_16 : decode cX7_paint 16 = .ok (.aload_n 0, 1) := by decide +kernel
theorem dX7_paint_17 : decode cX7_paint 17 = .ok (.iload_n 1, 1) := by decide +kernel
theorem dX7_paint_18 : decode cX7_paint 18 = .ok (.invokevirtual 54, 3) := by decide +kernel
theorem dX7_paint_21 : decode cX7_paint 21 = .ok (.ifCond .eq 16, 3) := by decide +kernel
theorem dX7_paint_24 : decode cX7_paint 24 = .ok (.iload_n 1, 1) := by decide +kernel
theorem dX7_paint_25 : decode cX7_paint 25 = .ok (.aload_n 0, 1) := by decide +kernel
theorem dX7_paint_26 : decode cX7_paint 26 = .ok (.getfield 7, 3) := by decide +kernel
theorem dX7_paint_29 : decode cX7_paint 29 = .ok (.iconst 2, 1) := by decide +kernel
theorem dX7_paint_30 : decode cX7_paint 30 = .ok (.iaload, 1) := by decide +kernel
theorem dX7_paint_31 : decode cX7_paint 31 = .ok (.if_icmp .eq 6, 3) := by decide +kernel
theorem dX7_paint_34 : decode cX7_paint 34 = .ok (.bipush (-5), 2) := by decide +kernel
theorem dX7_paint_36 : decode cX7_paint 36 = .ok (.ireturn, 1) := by decide +kernel
theorem dX7_paint_37 : decode cX7_paint 37 = .ok (.aload_n 0, 1) := by decide +kernel
theorem dX7_paint_38 : decode cX7_paint 38 = .ok (.invokevirtual 47, 3) := by decide +kernel
theorem dX7_paint_41 : decode cX7_paint 41 = .ok (.aload_n 0, 1) := by decide +kernel
theorem dX7_paint_42 : decode cX7_paint 42 = .ok (.getfield 7, 3) := by decide +kernel
theorem dX7_paint_45 : decode cX7_paint 45 = .ok (.bipush 14, 2) := by decide +kernel
theorem dX7_paint_47 : decode cX7_paint 47 = .ok (.iload_n 1, 1) := by decide +kernel
theorem dX7_paint_48 : decode cX7_paint 48 = .ok (.iadd, 1) := by decide +kernel
theorem dX7_paint_49 : decode cX7_paint 49 = .ok (.dup2, 1) := by decide +kernel
theorem dX7_paint_50 : decode cX7_paint 50 = .ok (.iaload, 1) := by decide +kernel
theorem dX7_paint_51 : decode cX7_paint 51 = .ok (.aload_n 0, 1) := by decide +kernel
theorem dX7_paint_52 : decode cX7_paint 52 = .ok (.iload_n 1, 1) := by decide +kernel
theorem dX7_paint_53 : decode cX7_paint 53 = .ok (.invokevirtual 54, 3) := by decide +kernel
theorem dX7_paint_56 : decode cX7_paint 56 = .ok (.ifCond .eq 7, 3) := by decide +kernel
theorem dX7_paint_59 : decode cX7_paint 59 = .ok (.iconst 0, 1) := by decide +kernel
theorem dX7_paint_60 : decode cX7_paint 60 = .ok (.goto 6, 3) := by decide +kernel
theorem dX7_paint_63 : decode cX7_paint 63 = .ok (.iconst 1, 1) := by decide +kernel
theorem dX7_paint_64 : decode cX7_paint 64 = .ok (.iload_n 2, 1) := by decide +kernel
theorem dX7_paint_65 : decode cX7_paint 65 = .ok (.ishl, 1) := by decide +kernel
theorem dX7_paint_66 : decode cX7_paint 66 = .ok (.ior, 1) := by decide +kernel
theorem dX7_paint_67 : decode cX7_paint 67 = .ok (.iastore, 1) := by decide +kernel
theorem dX7_paint_68 : decode cX7_paint 68 = .ok (.aload_n 0, 1) := by decide +kernel
theorem dX7_paint_69 : decode cX7_paint 69 = .ok (.iload_n 1, 1) := by decide +kernel
theorem dX7_paint_70 : decode cX7_paint 70 = .ok (.iload_n 2, 1) := by decide +kernel
theorem dX7_paint_71 : decode cX7_paint 71 = .ok (.bipush 9, 2) := by decide +kernel
theorem dX7_paint_73 : decode cX7_paint 73 = .ok (.invokevirtual 99, 3) := by decide +kernel
theorem dX7_paint_76 : decode cX7_paint 76 = .ok (.ireturn, 1) := by decide +kernel
theorem dX7_amend_0 : decode cX7_amend 0 = .ok (.iload_n 1, 1) := by decide +kernel
theorem dX7_amend_1 : decode cX7_amend 1 = .ok (.invokestatic 50, 3) := by decide +kernel
theorem dX7_amend_4 : decode cX7_amend 4 = .ok (.ifCond .eq 10, 3) := by decide +kernel
theorem dX7_amend_7 : decode cX7_amend 7 = .ok (.iload_n 2, 1) := by decide +kernel
theorem dX7_amend_8 : decode cX7_amend 8 = .ok (.invokestatic 75, 3) := by decide +kernel
theorem dX7_amend_11 : decode cX7_amend 11 = .ok (.ifCond .ne 5, 3) := by decide +kernel
theorem dX7_amend_14 : decode cX7_amend 14 = .ok (.iconst (-1), 1) := by decide +kernel
theorem dX7_amend_15 : decode cX7_amend 15 = .ok (.ireturn, 1) := by decide +kernel
theorem dX7_amend_16 : decode cX7_amend 16 = .ok (.iload_n 3, 1) := by decide +kernel
theorem dX7_amend_17 : decode cX7_amend 17 = .ok (.iconst 0, 1) := by decide +kernel
theorem dX7_amend_18 : decode cX7_amend 18 = .ok (.sipush 999, 3) := by decide +kernel
theorem dX7_amend_21 : decode cX7_amend 21 = .ok (.invokestatic 43, 3) := by decide +kernel
theorem dX7_amend_24 : decode cX7_amend 24 = .ok (.ifCond .eq 14, 3) := by decide +kernel
theorem dX7_amend_27 : decode cX7_amend 27 = .ok (.iload 4, 2) := by decide +kernel
theorem dX7_amend_29 : decode cX7_amend 29 = .ok (.iconst 1, 1) := by decide +kernel
theorem dX7_amend_30 : decode cX7_amend 30 = .ok (.bipush 9, 2) := by decide +kernel
theorem dX7_amend_32 : decode cX7_amend 32 = .ok (.invokestatic 43, 3) := by decide +kernel
theorem dX7_amend_35 : decode cX7_amend 35 = .ok (.ifCond .ne 6, 3) := by decide +kernel
theorem dX7_amend_38 : decode cX7_amend 38 = .ok (.bipush (-2), 2) := by decide +kernel
theorem dX7_amend_40 : decode cX7_amend 40 = .ok (.ireturn, 1) := by decide +kernel
theorem dX7_amend_41 : decode cX7_amend 41 = .ok (.aload_n 0, 1) := by decide +kernel
theorem dX7_amend_42 : decode cX7_amend 42 = .ok (.iload_n 1, 1) := by decide +kernel
theorem dX7_amend_43 : decode cX7_amend 43 = .ok (.invokevirtual 54, 3) := by decide +kernel
theorem dX7_amend_46 : decode cX7_amend 46 = .ok (.ifCond .eq 6, 3) := by decide +kernel
theorem dX7_amend_49 : decode cX7_amend 49 = .ok (.bipush (-5), 2) := by decide +kernel
theorem dX7_amend_51 : decode cX7_amend 51 = .ok (.ireturn, 1) := by decide +kernel
theorem dX7_amend_52 : decode cX7_amend 52 = .ok (.aload_n 0, 1) := by decide +kernel
theorem dX7_amend_53 : decode cX7_amend 53 = .ok (.iload_n 1, 1) := by decide +kernel
theorem dX7_amend_54 : decode cX7_amend 54 = .ok (.iload_n 2, 1) := by decide +kernel
theorem dX7_amend_55 : decode cX7_amend 55 = .ok (.invokevirtual 61, 3) := by decide +kernel
theorem dX7_amend_58 : decode cX7_amend 58 = .ok (.bipush 8, 2) := by decide +kernel
theorem dX7_amend_60 : decode cX7_amend 60 = .ok (.if_icmp .ne 6, 3) := by decide +kernel
theorem dX7_amend_63 : decode cX7_amend 63 = .ok (.bipush (-4), 2) := by decide +kernel
theorem dX7_amend_65 : decode cX7_amend 65 = .ok (.ireturn, 1) := by decide +kernel
theorem dX7_amend_66 : decode cX7_amend 66 = .ok (.aload_n 0, 1) := by decide +kernel
theorem dX7_amend_67 : decode cX7_amend 67 = .ok (.invokevirtual 47, 3) := by decide +kernel
theorem dX7_amend_70 : decode cX7_amend 70 = .ok (.aload_n 0, 1) := by decide +kernel
theorem dX7_amend_71 : decode cX7_amend 71 = .ok (.getfield 7, 3) := by decide +kernel
theorem dX7_amend_74 : decode cX7_amend 74 = .ok (.bipush 14, 2) := by decide +kernel
theorem dX7_amend_76 : decode cX7_amend 76 = .ok (.iload_n 1, 1) := by decide +kernel
theorem dX7_amend_77 : decode cX7_amend 77 = .ok (.iadd, 1) := by decide +kernel
theorem dX7_amend_78 : decode cX7_amend 78 = .ok (.dup2, 1) := by decide +kernel
theorem dX7_amend_79 : decode cX7_amend 79 = .ok (.iaload, 1) := by decide +kernel
theorem dX7_amend_80 : decode cX7_amend 80 = .ok (.iconst 1, 1) := by decide +kernel
theorem dX7_amend_81 : decode cX7_amend 81 = .ok (.iload_n 2, 1) := by decide +kernel
theorem dX7_amend_82 : decode cX7_amend 82 = .ok (.ishl, 1) := by decide +kernel
theorem dX7_amend_83 : decode cX7_amend 83 = .ok (.ior, 1) := by decide +kernel
theorem dX7_amend_84 : decode cX7_amend 84 = .ok (.iastore, 1) := by decide +kernel
theorem dX7_amend_85 : decode cX7_amend 85 = .ok (.aload_n 0, 1) := by decide +kernel
theorem dX7_amend_86 : decode cX7_amend 86 = .ok (.iload_n 1, 1) := by decide +kernel
theorem dX7_amend_87 : decode cX7_amend 87 = .ok (.iload_n 2, 1) := by decide +kernel
theorem dX7_amend_88 : decode cX7_amend 88 = .ok (.iload_n 3, 1) := by decide +kernel
theorem dX7_amend_89 : decode cX7_amend 89 = .ok (.iload 4, 2) := by decide +kernel
theorem dX7_amend_91 : decode cX7_amend 91 = .ok (.invokevirtual 89, 3) := by decide +kernel
theorem dX7_amend_94 : decode cX7_amend 94 = .ok (.aload_n 0, 1) := by decide +kernel
theorem dX7_amend_95 : decode cX7_amend 95 = .ok (.iload_n 1, 1) := by decide +kernel
theorem dX7_amend_96 : decode cX7_amend 96 = .ok (.iload_n 2, 1) := by decide +kernel
theorem dX7_amend_97 : decode cX7_amend 97 = .ok (.invokevirtual 61, 3) := by decide +kernel
theorem dX7_amend_100 : decode cX7_amend 100 = .ok (.ireturn, 1) := by decide +kernel
theorem dX7_tear_0 : decode cX7_tear 0 = .ok (.iload_n 1, 1) := by decide +kernel
theorem dX7_tear_1 : decode cX7_tear 1 = .ok (.iconst 0, 1) := by decide +kernel
theorem dX7_tear_2 : decode cX7_tear 2 = .ok (.iconst 1, 1) := by decide +kernel
theorem dX7_tear_3 : decode cX7_tear 3 = .ok (.invokestatic 43, 3) := by decide +kernel
theorem dX7_tear_6 : decode cX7_tear 6 = .ok (.ifCond .ne 6, 3) := by decide +kernel
theorem dX7_tear_9 : decode cX7_tear 9 = .ok (.bipush (-2), 2) := by decide +kernel
theorem dX7_tear_11 : decode cX7_tear 11 = .ok (.ireturn, 1) := by decide +kernel
theorem dX7_tear_12 : decode cX7_tear 12 = .ok (.aload_n 0, 1) := by decide +kernel
theorem dX7_tear_13 : decode cX7_tear 13 = .ok (.invokevirtual 78, 3) := by decide +kernel
theorem dX7_tear_16 : decode cX7_tear 16 = .ok (.ifCond .ne 6, 3) := by decide +kernel
theorem dX7_tear_19 : decode cX7_tear 19 = .ok (.bipush (-5), 2) := by decide +kernel
theorem dX7_tear_21 : decode cX7_tear 21 = .ok (.ireturn, 1) := by decide +kernel
theorem dX7_tear_22 : decode cX7_tear 22 = .ok (.aload_n 0, 1) := by decide +kernel
theorem dX7_tear_23 : decode cX7_tear 23 = .ok (.invokevirtual 47, 3) := by decide +kernel
theorem dX7_tear_26 : decode cX7_tear 26 = .ok (.iload_n 1, 1) := by decide +kernel
theorem dX7_tear_27 : decode cX7_tear 27 = .ok (.ifCond .ne 22, 3) := by decide +kernel
theorem dX7_tear_30 : decode cX7_tear 30 = .ok (.aload_n 0, 1) := by decide +kernel
theorem dX7_tear_31 : decode cX7_tear 31 = .ok (.getfield 7, 3) := by decide +kernel
theorem dX7_tear_34 : decode cX7_tear 34 = .ok (.iconst 2, 1) := by decide +kernel
theorem dX7_tear_35 : decode cX7_tear 35 = .ok (.dup2, 1) := by decide +kernel
theorem dX7_tear_36 : decode cX7_tear 36 = .ok (.iaload, 1) := by decide +kernel
theorem dX7_tear_37 : decode cX7_tear 37 = .ok (.iconst 1, 1) := by decide +kernel
theorem dX7_tear_38 : decode cX7_tear 38 = .ok (.iadd, 1) := by decide +kernel
theorem dX7_tear_39 : decode cX7_tear 39 = .ok (.iastore, 1) := by decide +kernel
theorem dX7_tear_40 : decode cX7_tear 40 = .ok (.aload_n 0, 1) := by decide +kernel
theorem dX7_tear_41 : decode cX7_tear 41 = .ok (.getfield 7, 3) := by decide +kernel
theorem dX7_tear_44 : decode cX7_tear 44 = .ok (.iconst 2, 1) := by decide +kernel
theorem dX7_tear_45 : decode cX7_tear 45 = .ok (.iaload, 1) := by decide +kernel
theorem dX7_tear_46 : decode cX7_tear 46 = .ok (.iconst 1, 1) := by decide +kernel
theorem dX7_tear_47 : decode cX7_tear 47 = .ok (.isub, 1) := by decide +kernel
theorem dX7_tear_48 : decode cX7_tear 48 = .ok (.ireturn, 1) := by decide +kernel
theorem dX7_tear_49 : decode cX7_tear 49 = .ok (.aload_n 0, 1) := by decide +kernel
theorem dX7_tear_50 : decode cX7_tear 50 = .ok (.getfield 7, 3) := by decide +kernel
theorem dX7_tear_53 : decode cX7_tear 53 = .ok (.iconst 3, 1) := by decide +kernel
theorem dX7_tear_54 : decode cX7_tear 54 = .ok (.dup2, 1) := by decide +kernel
theorem dX7_tear_55 : decode cX7_tear 55 = .ok (.iaload, 1) := by decide +kernel
theorem dX7_tear_56 : decode cX7_tear 56 = .ok (.iconst 1, 1) := by decide +kernel
theorem dX7_tear_57 : decode cX7_tear 57 = .ok (.isub, 1) := by decide +kernel
theorem dX7_tear_58 : decode cX7_tear 58 = .ok (.iastore, 1) := by decide +kernel
theorem dX7_tear_59 : decode cX7_tear 59 = .ok (.aload_n 0, 1) := by decide +kernel
theorem dX7_tear_60 : decode cX7_tear 60 = .ok (.getfield 7, 3) := by decide +kernel
theorem dX7_tear_63 : decode cX7_tear 63 = .ok (.iconst 3, 1) := by decide +kernel
theorem dX7_tear_64 : decode cX7_tear 64 = .ok (.iaload, 1) := by decide +kernel
theorem dX7_tear_65 : decode cX7_tear 65 = .ok (.iconst 1, 1) := by decide +kernel
theorem dX7_tear_66 : decode cX7_tear 66 = .ok (.iadd, 1) := by decide +kernel
theorem dX7_tear_67 : decode cX7_tear 67 = .ok (.ireturn, 1) := by decide +kernel
theorem dX7_isReadable_0 : decode cX7_isReadable 0 = .ok (.iload_n 1, 1) := by decide +kernel
theorem dX7_isReadable_1 : decode cX7_isReadable 1 = .ok (.invokestatic 68, 3) := by decide +kernel
theorem dX7_isReadable_4 : decode cX7_isReadable 4 = .ok (.ifCond .ne 20, 3) := by decide +kernel
theorem dX7_isReadable_7 : decode cX7_isReadable 7 = .ok (.iload_n 1, 1) := by decide +kernel
theorem dX7_isReadable_8 : decode cX7_isReadable 8 = .ok (.invokestatic 71, 3) := by decide +kernel
theorem dX7_isReadable_11 : decode cX7_isReadable 11 = .ok (.aload_n 0, 1) := by decide +kernel
theorem dX7_isReadable_12 : decode cX7_isReadable 12 = .ok (.getfield 7, 3) := by decide +kernel
theorem dX7_isReadable_15 : decode cX7_isReadable 15 = .ok (.iconst 0, 1) := by decide +kernel
theorem dX7_isReadable_16 : decode cX7_isReadable 16 = .ok (.iaload, 1) := by decide +kernel
theorem dX7_isReadable_17 : decode cX7_isReadable 17 = .ok (.if_icmp .lt 7, 3) := by decide +kernel
theorem dX7_isReadable_20 : decode cX7_isReadable 20 = .ok (.iconst 1, 1) := by decide +kernel
theorem dX7_isReadable_21 : decode cX7_isReadable 21 = .ok (.goto 4, 3) := by decide +kernel
theorem dX7_isReadable_24 : decode cX7_isReadable 24 = .ok (.iconst 0, 1) := by decide +kernel
theorem dX7_isReadable_25 : decode cX7_isReadable 25 = .ok (.ireturn, 1) := by decide +kernel
theorem dX7_lastAt_0 : decode cX7_lastAt 0 = .ok (.bipush (-6), 2) := by decide +kernel
theorem dX7_lastAt_2 : decode cX7_lastAt 2 = .ok (.istore_n 3, 1) := by decide +kernel
theorem dX7_lastAt_3 : decode cX7_lastAt 3 = .ok (.iconst 0, 1) := by decide +kernel
theorem dX7_lastAt_4 : decode cX7_lastAt 4 = .ok (.istore 4, 2) := by decide +kernel
theorem dX7_lastAt_6 : decode cX7_lastAt 6 = .ok (.iload 4, 2) := by decide +kernel
theorem dX7_lastAt_8 : decode cX7_lastAt 8 = .ok (.aload_n 0, 1) := by decide +kernel
theorem dX7_lastAt_9 : decode cX7_lastAt 9 = .ok (.iload_n 1, 1) := by decide +kernel
theorem dX7_lastAt_10 : decode cX7_lastAt 10 = .ok (.iload_n 2, 1) := by decide +kernel
theorem dX7_lastAt_11 : decode cX7_lastAt 11 = .ok (.invokevirtual 61, 3) := by decide +kernel
theorem dX7_lastAt_14 : decode cX7_lastAt 14 = .ok (.if_icmp .ge 31, 3) := by decide +kernel
theorem dX7_lastAt_17 : decode cX7_lastAt 17 = .ok (.aload_n 0, 1) := by decide +kernel
theorem dX7_lastAt_18 : decode cX7_lastAt 18 = .ok (.aload_n 0, 1) := by decide +kernel
theorem dX7_lastAt_19 : decode cX7_lastAt 19 = .ok (.iload_n 1, 1) := by decide +kernel
theorem dX7_lastAt_20 : decode cX7_lastAt 20 = .ok (.iload_n 2, 1) := by decide +kernel
theorem dX7_lastAt_21 : decode cX7_lastAt 21 = .ok (.iload 4, 2) := by decide +kernel
theorem dX7_lastAt_23 : decode cX7_lastAt 23 = .ok (.invokevirtual 64, 3) := by decide +kernel
theorem dX7_lastAt_26 : decode cX7_lastAt 26 = .ok (.invokevirtual 105, 3) := by decide +kernel
theorem dX7_lastAt_29 : decode cX7_lastAt 29 = .ok (.ifCond .eq 8, 3) := by decide +kernel
theorem dX7_lastAt_32 : decode cX7_lastAt 32 = .ok (.iload 4, 2) := by decide +kernel
theorem dX7_lastAt_34 : decode cX7_lastAt 34 = .ok (.goto 4, 3) := by decide +kernel
theorem dX7_lastAt_37 : decode cX7_lastAt 37 = .ok (.iload_n 3, 1) := by decide +kernel
theorem dX7_lastAt_38 : decode cX7_lastAt 38 = .ok (.istore_n 3, 1) := by decide +kernel
theorem dX7_lastAt_39 : decode cX7_lastAt 39 = .ok (.iinc 4 1, 3) := by decide +kernel
theorem dX7_lastAt_42 : decode cX7_lastAt 42 = .ok (.goto (-36), 3) := by decide +kernel
theorem dX7_lastAt_45 : decode cX7_lastAt 45 = .ok (.iload_n 3, 1) := by decide +kernel
theorem dX7_lastAt_46 : decode cX7_lastAt 46 = .ok (.ireturn, 1) := by decide +kernel
theorem dX7_stateOf_0 : decode cX7_stateOf 0 = .ok (.aload_n 0, 1) := by decide +kernel
theorem dX7_stateOf_1 : decode cX7_stateOf 1 = .ok (.iload_n 1, 1) := by decide +kernel
theorem dX7_stateOf_2 : decode cX7_stateOf 2 = .ok (.iload_n 2, 1) := by decide +kernel
theorem dX7_stateOf_3 : decode cX7_stateOf 3 = .ok (.invokevirtual 108, 3) := by decide +kernel
theorem dX7_stateOf_6 : decode cX7_stateOf 6 = .ok (.istore_n 3, 1) := by decide +kernel
theorem dX7_stateOf_7 : decode cX7_stateOf 7 = .ok (.iload_n 3, 1) := by decide +kernel
theorem dX7_stateOf_8 : decode cX7_stateOf 8 = .ok (.ifCond .ge 5, 3) := by decide +kernel
theorem dX7_stateOf_11 : decode cX7_stateOf 11 = .ok (.iconst 0, 1) := by decide +kernel
theorem dX7_stateOf_12 : decode cX7_stateOf 12 = .ok (.ireturn, 1) := by decide +kernel
theorem dX7_stateOf_13 : decode cX7_stateOf 13 = .ok (.aload_n 0, 1) := by decide +kernel
theorem dX7_stateOf_14 : decode cX7_stateOf 14 = .ok (.iload_n 1, 1) := by decide +kernel
theorem dX7_stateOf_15 : decode cX7_stateOf 15 = .ok (.iload_n 2, 1) := by decide +kernel
theorem dX7_stateOf_16 : decode cX7_stateOf 16 = .ok (.iload_n 3, 1) := by decide +kernel
theorem dX7_stateOf_17 : decode cX7_stateOf 17 = .ok (.invokevirtual 64, 3) := by decide +kernel
theorem dX7_stateOf_20 : decode cX7_stateOf 20 = .ok (.istore 4, 2) := by decide +kernel
theorem dX7_stateOf_22 : decode cX7_stateOf 22 = .ok (.iconst 0, 1) := by decide +kernel
theorem dX7_stateOf_23 : decode cX7_stateOf 23 = .ok (.istore 5, 2) := by decide +kernel
theorem dX7_stateOf_25 : decode cX7_stateOf 25 = .ok (.iconst 0, 1) := by decide +kernel
theorem dX7_stateOf_26 : decode cX7_stateOf 26 = .ok (.istore 6, 2) := by decide +kernel
theorem dX7_stateOf_28 : decode cX7_stateOf 28 = .ok (.iload 6, 2) := by decide +kernel
theorem dX7_stateOf_30 : decode cX7_stateOf 30 = .ok (.iload_n 3, 1) := by decide +kernel
theorem dX7_stateOf_31 : decode cX7_stateOf 31 = .ok (.if_icmp .ge 73, 3) := by decide +kernel
theorem dX7_stateOf_34 : decode cX7_stateOf 34 = .ok (.aload_n 0, 1) := by decide +kernel
theorem dX7_stateOf_35 : decode cX7_stateOf 35 = .ok (.iload_n 1, 1) := by decide +kernel
theorem dX7_stateOf_36 : decode cX7_stateOf 36 = .ok (.iload_n 2, 1) := by decide +kernel
theorem dX7_stateOf_37 : decode cX7_stateOf 37 = .ok (.iload 6, 2) := by decide +kernel
theorem dX7_stateOf_39 : decode cX7_stateOf 39 = .ok (.invokevirtual 64, 3) := by decide +kernel
theorem dX7_stateOf_42 : decode cX7_stateOf 42 = .ok (.istore 7, 2) := by decide +kernel
theorem dX7_stateOf_44 : decode cX7_stateOf 44 = .ok (.iload 5, 2) := by decide +kernel
theorem dX7_stateOf_46 : decode cX7_stateOf 46 = .ok (.ifCond .ne 45, 3) := by decide +kernel
theorem dX7_stateOf_49 : decode cX7_stateOf 49 = .ok (.aload_n 0, 1) := by decide +kernel
theorem dX7_stateOf_50 : decode cX7_stateOf 50 = .ok (.iload 7, 2) := by decide +kernel
theorem dX7_stateOf_52 : decode cX7_stateOf 52 = .ok (.invokevirtual 105, 3) := by decide +kernel
theorem dX7_stateOf_55 : decode cX7_stateOf 55 = .ok (.ifCond .eq 40, 3) := by decide +kernel
theorem dX7_stateOf_58 : decode cX7_stateOf 58 = .ok (.iload 7, 2) := by decide +kernel
theorem dX7_stateOf_60 : decode cX7_stateOf 60 = .ok (.invokestatic 111, 3) := by decide +kernel
theorem dX7_stateOf_63 : decode cX7_stateOf 63 = .ok (.iload 4, 2) := by decide +kernel
theorem dX7_stateOf_65 : decode cX7_stateOf 65 = .ok (.invokestatic 111, 3) := by decide +kernel
theorem dX7_stateOf_68 : decode cX7_stateOf 68 = .ok (.if_icmp .eq 27, 3) := by decide +kernel
theorem dX7_stateOf_71 : decode cX7_stateOf 71 = .ok (.iload 7, 2) := by decide +kernel
theorem dX7_stateOf_73 : decode cX7_stateOf 73 = .ok (.invokestatic 71, 3) := by decide +kernel
theorem dX7_stateOf_76 : decode cX7_stateOf 76 = .ok (.iload 4, 2) := by decide +kernel
theorem dX7_stateOf_78 : decode cX7_stateOf 78 = .ok (.invokestatic 71, 3) := by decide +kernel
theorem dX7_stateOf_81 : decode cX7_stateOf 81 = .ok (.aload_n 0, 1) := by decide +kernel
theorem dX7_stateOf_82 : decode cX7_stateOf 82 = .ok (.getfield 7, 3) := by decide +kernel
theorem dX7_stateOf_85 : decode cX7_stateOf 85 = .ok (.iconst 1, 1) := by decide +kernel
theorem dX7_stateOf_86 : decode cX7_stateOf 86 = .ok (.iaload, 1) := by decide +kernel
theorem dX7_stateOf_87 : decode cX7_stateOf 87 = .ok (.iadd, 1) := by decide +kernel
theorem dX7_stateOf_88 : decode cX7_stateOf 88 = .ok (.if_icmp .le 7, 3) := by decide +kernel
theorem dX7_stateOf_91 : decode cX7_stateOf 91 = .ok (.iconst 1, 1) := by decide +kernel
theorem dX7_stateOf_92 : decode cX7_stateOf 92 = .ok (.goto 4, 3) := by decide +kernel
theorem dX7_stateOf_95 : decode cX7_stateOf 95 = .ok (.iconst 0, 1) := by decide +kernel
theorem dX7_stateOf_96 : decode cX7_stateOf 96 = .ok (.istore 5, 2) := by decide +kernel
theorem dX7_stateOf_98 : decode cX7_stateOf 98 = .ok (.iinc 6 1, 3) := by decide +kernel
theorem dX7_stateOf_101 : decode cX7_stateOf 101 = .ok (.goto (-73), 3) := by decide +kernel
theorem dX7_stateOf_104 : decode cX7_stateOf 104 = .ok (.iload 5, 2) := by decide +kernel
theorem dX7_stateOf_106 : decode cX7_stateOf 106 = .ok (.ifCond .eq 7, 3) := by decide +kernel
theorem dX7_stateOf_109 : decode cX7_stateOf 109 = .ok (.iconst 2, 1) := by decide +kernel
theorem dX7_stateOf_110 : decode cX7_stateOf 110 = .ok (.goto 4, 3) := by decide +kernel
theorem dX7_stateOf_113 : decode cX7_stateOf 113 = .ok (.iconst 1, 1) := by decide +kernel
theorem dX7_stateOf_114 : decode cX7_stateOf 114 = .ok (.ireturn, 1) := by decide +kernel
theorem dX7_lastOf_0 : decode cX7_lastOf 0 = .ok (.aload_n 0, 1) := by decide +kernel
theorem dX7_lastOf_1 : decode cX7_lastOf 1 = .ok (.iload_n 1, 1) := by decide +kernel
theorem dX7_lastOf_2 : decode cX7_lastOf 2 = .ok (.iload_n 2, 1) := by decide +kernel
theorem dX7_lastOf_3 : decode cX7_lastOf 3 = .ok (.invokevirtual 108, 3) := by decide +kernel
theorem dX7_lastOf_6 : decode cX7_lastOf 6 = .ok (.istore 4, 2) := by decide +kernel
theorem dX7_lastOf_8 : decode cX7_lastOf 8 = .ok (.iload 4, 2) := by decide +kernel
theorem dX7_lastOf_10 : decode cX7_lastOf 10 = .ok (.ifCond .ge 6, 3) := by decide +kernel
theorem dX7_lastOf_13 : decode cX7_lastOf 13 = .ok (.bipush (-6), 2) := by decide +kernel
theorem dX7_lastOf_15 : decode cX7_lastOf 15 = .ok (.ireturn, 1) := by decide +kernel
theorem dX7_lastOf_16 : decode cX7_lastOf 16 = .ok (.aload_n 0, 1) := by decide +kernel
theorem dX7_lastOf_17 : decode cX7_lastOf 17 = .ok (.iload_n 1, 1) := by decide +kernel
theorem dX7_lastOf_18 : decode cX7_lastOf 18 = .ok (.iload_n 2, 1) := by decide +kernel
theorem dX7_lastOf_19 : decode cX7_lastOf 19 = .ok (.iload 4, 2) := by decide +kernel
theorem dX7_lastOf_21 : decode cX7_lastOf 21 = .ok (.invokevirtual 64, 3) := by decide +kernel
theorem dX7_lastOf_24 : decode cX7_lastOf 24 = .ok (.istore 5, 2) := by decide +kernel
theorem dX7_lastOf_26 : decode cX7_lastOf 26 = .ok (.iload_n 3, 1) := by decide +kernel
theorem dX7_lastOf_27 : decode cX7_lastOf 27 = .ok (.ifCond .ne 11, 3) := by decide +kernel
theorem dX7_lastOf_30 : decode cX7_lastOf 30 = .ok (.iload 5, 2) := by decide +kernel
theorem dX7_lastOf_32 : decode cX7_lastOf 32 = .ok (.invokestatic 111, 3) := by decide +kernel
theorem dX7_lastOf_35 : decode cX7_lastOf 35 = .ok (.goto 8, 3) := by decide +kernel
theorem dX7_lastOf_38 : decode cX7_lastOf 38 = .ok (.iload 5, 2) := by decide +kernel
theorem dX7_lastOf_40 : decode cX7_lastOf 40 = .ok (.invokestatic 71, 3) := by decide +kernel
theorem dX7_lastOf_43 : decode cX7_lastOf 43 = .ok (.ireturn, 1) := by decide +kernel
theorem dX7_fieldsOf_0 : decode cX7_fieldsOf 0 = .ok (.iconst 0, 1) := by decide +kernel
theorem dX7_fieldsOf_1 : decode cX7_fieldsOf 1 = .ok (.istore_n 3, 1) := by decide +kernel
theorem dX7_fieldsOf_2 : decode cX7_fieldsOf 2 = .ok (.iconst 0, 1) := by decide +kernel
theorem dX7_fieldsOf_3 : decode cX7_fieldsOf 3 = .ok (.istore 4, 2) := by decide +kernel
theorem dX7_fieldsOf_5 : decode cX7_fieldsOf 5 = .ok (.iload 4, 2) := by decide +kernel
theorem dX7_fieldsOf_7 : decode cX7_fieldsOf 7 = .ok (.bipush 10, 2) := by decide +kernel
theorem dX7_fieldsOf_9 : decode cX7_fieldsOf 9 = .ok (.if_icmp .ge 31, 3) := by decide +kernel
theorem dX7_fieldsOf_12 : decode cX7_fieldsOf 12 = .ok (.iload_n 3, 1) := by decide +kernel
theorem dX7_fieldsOf_13 : decode cX7_fieldsOf 13 = .ok (.aload_n 0, 1) := by decide +kernel
theorem dX7_fieldsOf_14 : decode cX7_fieldsOf 14 = .ok (.iload_n 1, 1) := by decide +kernel
theorem dX7_fieldsOf_15 : decode cX7_fieldsOf 15 = .ok (.iload 4, 2) := by decide +kernel
theorem dX7_fieldsOf_17 : decode cX7_fieldsOf 17 = .ok (.invokevirtual 114, 3) := by decide +kernel
theorem dX7_fieldsOf_20 : decode cX7_fieldsOf 20 = .ok (.iload_n 2, 1) := by decide +kernel
theorem dX7_fieldsOf_21 : decode cX7_fieldsOf 21 = .ok (.if_icmp .ne 10, 3) := by decide +kernel
theorem dX7_fieldsOf_24 : decode cX7_fieldsOf 24 = .ok (.iconst 1, 1) := by decide +kernel
theorem dX7_fieldsOf_25 : decode cX7_fieldsOf 25 = .ok (.iload 4, 2) := by decide +kernel
theorem dX7_fieldsOf_27 : decode cX7_fieldsOf 27 = .ok (.ishl, 1) := by decide +kernel
theorem dX7_fieldsOf_28 : decode cX7_fieldsOf 28 = .ok (.goto 4, 3) := by decide +kernel
theorem dX7_fieldsOf_31 : decode cX7_fieldsOf 31 = .ok (.iconst 0, 1) := by decide +kernel
theorem dX7_fieldsOf_32 : decode cX7_fieldsOf 32 = .ok (.ior, 1) := by decide +kernel
theorem dX7_fieldsOf_33 : decode cX7_fieldsOf 33 = .ok (.istore_n 3, 1) := by decide +kernel
theorem dX7_fieldsOf_34 : decode cX7_fieldsOf 34 = .ok (.iinc 4 1, 3) := by decide +kernel
theorem dX7_fieldsOf_37 : decode cX7_fieldsOf 37 = .ok (.goto (-32), 3) := by decide +kernel
theorem dX7_fieldsOf_40 : decode cX7_fieldsOf 40 = .ok (.iload_n 3, 1) := by decide +kernel
theorem dX7_fieldsOf_41 : decode cX7_fieldsOf 41 = .ok (.ireturn, 1) := by decide +kernel
theorem dX7_marksOf_0 : decode cX7_marksOf 0 = .ok (.iconst 0, 1) := by decide +kernel
theorem dX7_marksOf_1 : decode cX7_marksOf 1 = .ok (.istore_n 3, 1) := by decide +kernel
theorem dX7_marksOf_2 : decode cX7_marksOf 2 = .ok (.iconst 0, 1) := by decide +kernel
theorem dX7_marksOf_3 : decode cX7_marksOf 3 = .ok (.istore 4, 2) := by decide +kernel
theorem dX7_marksOf_5 : decode cX7_marksOf 5 = .ok (.iload 4, 2) := by decide +kernel
theorem dX7_marksOf_7 : decode cX7_marksOf 7 = .ok (.bipush 10, 2) := by decide +kernel
theorem dX7_marksOf_9 : decode cX7_marksOf 9 = .ok (.if_icmp .ge 57, 3) := by decide +kernel
theorem dX7_marksOf_12 : decode cX7_marksOf 12 = .ok (.iconst 0, 1) := by decide +kernel
theorem dX7_marksOf_13 : decode cX7_marksOf 13 = .ok (.istore 5, 2) := by decide +kernel
theorem dX7_marksOf_15 : decode cX7_marksOf 15 = .ok (.iload 5, 2) := by decide +kernel
theorem dX7_marksOf_17 : decode cX7_marksOf 17 = .ok (.aload_n 0, 1) := by decide +kernel
theorem dX7_marksOf_18 : decode cX7_marksOf 18 = .ok (.iload_n 1, 1) := by decide +kernel
theorem dX7_marksOf_19 : decode cX7_marksOf 19 = .ok (.iload 4, 2) := by decide +kernel
theorem dX7_marksOf_21 : decode cX7_marksOf 21 = .ok (.invokevirtual 61, 3) := by decide +kernel
theorem dX7_marksOf_24 : decode cX7_marksOf 24 = .ok (.if_icmp .ge 36, 3) := by decide +kernel
theorem dX7_marksOf_27 : decode cX7_marksOf 27 = .ok (.iload_n 3, 1) := by decide +kernel
theorem dX7_marksOf_28 : decode cX7_marksOf 28 = .ok (.iload_n 2, 1) := by decide +kernel
theorem dX7_marksOf_29 : decode cX7_marksOf 29 = .ok (.ifCond .eq 18, 3) := by decide +kernel
theorem dX7_marksOf_32 : decode cX7_marksOf 32 = .ok (.aload_n 0, 1) := by decide +kernel
theorem dX7_marksOf_33 : decode cX7_marksOf 33 = .ok (.iload_n 1, 1) := by decide +kernel
theorem dX7_marksOf_34 : decode cX7_marksOf 34 = .ok (.iload 4, 2) := by decide +kernel
theorem dX7_marksOf_36 : decode cX7_marksOf 36 = .ok (.iload 5, 2) := by decide +kernel
theorem dX7_marksOf_38 : decode cX7_marksOf 38 = .ok (.invokevirtual 64, 3) := by decide +kernel
theorem dX7_marksOf_41 : decode cX7_marksOf 41 = .ok (.invokestatic 68, 3) := by decide +kernel
theorem dX7_marksOf_44 : decode cX7_marksOf 44 = .ok (.ifCond .eq 7, 3) := by decide +kernel
theorem dX7_marksOf_47 : decode cX7_marksOf 47 = .ok (.iconst 1, 1) := by decide +kernel
theorem dX7_marksOf_48 : decode cX7_marksOf 48 = .ok (.goto 4, 3) := by decide +kernel
theorem dX7_marksOf_51 : decode cX7_marksOf 51 = .ok (.iconst 0, 1) := by decide +kernel
theorem dX7_marksOf_52 : decode cX7_marksOf 52 = .ok (.iadd, 1) := by decide +kernel
theorem dX7_marksOf_53 : decode cX7_marksOf 53 = .ok (.istore_n 3, 1) := by decide +kernel
theorem dX7_marksOf_54 : decode cX7_marksOf 54 = .ok (.iinc 5 1, 3) := by decide +kernel
theorem dX7_marksOf_57 : decode cX7_marksOf 57 = .ok (.goto (-42), 3) := by decide +kernel
theorem dX7_marksOf_60 : decode cX7_marksOf 60 = .ok (.iinc 4 1, 3) := by decide +kernel
theorem dX7_marksOf_63 : decode cX7_marksOf 63 = .ok (.goto (-58), 3) := by decide +kernel
theorem dX7_marksOf_66 : decode cX7_marksOf 66 = .ok (.iload_n 3, 1) := by decide +kernel
theorem dX7_marksOf_67 : decode cX7_marksOf 67 = .ok (.ireturn, 1) := by decide +kernel
theorem dX7_ofSheet_0 : decode cX7_ofSheet 0 = .ok (.iload_n 1, 1) := by decide +kernel
theorem dX7_ofSheet_1 : decode cX7_ofSheet 1 = .ok (.invokestatic 50, 3) := by decide +kernel
theorem dX7_ofSheet_4 : decode cX7_ofSheet 4 = .ok (.ifCond .ne 5, 3) := by decide +kernel
theorem dX7_ofSheet_7 : decode cX7_ofSheet 7 = .ok (.iconst (-1), 1) := by decide +kernel
theorem dX7_ofSheet_8 : decode cX7_ofSheet 8 = .ok (.ireturn, 1) := by decide +kernel
theorem dX7_ofSheet_9 : decode cX7_ofSheet 9 = .ok (.iload_n 2, 1) := by decide +kernel
theorem dX7_ofSheet_10 : decode cX7_ofSheet 10 = .ok (.tableswitch 100 0 6 #[42, 51, 61, 75, 75, 91, 91], 42) := by decide +kernel
theorem dX7_ofSheet_52 : decode cX7_ofSheet 52 = .ok (.aload_n 0, 1) := by decide +kernel
theorem dX7_ofSheet_53 : decode cX7_ofSheet 53 = .ok (.getfield 7, 3) := by decide +kernel
theorem dX7_ofSheet_56 : decode cX7_ofSheet 56 = .ok (.iconst 4, 1) := by decide +kernel
theorem dX7_ofSheet_57 : decode cX7_ofSheet 57 = .ok (.iload_n 1, 1) := by decide +kernel
theorem dX7_ofSheet_58 : decode cX7_ofSheet 58 = .ok (.iadd, 1) := by decide +kernel
theorem dX7_ofSheet_59 : decode cX7_ofSheet 59 = .ok (.iaload, 1) := by decide +kernel
theorem dX7_ofSheet_60 : decode cX7_ofSheet 60 = .ok (.ireturn, 1) := by decide +kernel
theorem dX7_ofSheet_61 : decode cX7_ofSheet 61 = .ok (.aload_n 0, 1) := by decide +kernel
theorem dX7_ofSheet_62 : decode cX7_ofSheet 62 = .ok (.getfield 7, 3) := by decide +kernel
theorem dX7_ofSheet_65 : decode cX7_ofSheet 65 = .ok (.bipush 9, 2) := by decide +kernel
theorem dX7_ofSheet_67 : decode cX7_ofSheet 67 = .ok (.iload_n 1, 1) := by decide +kernel
theorem dX7_ofSheet_68 : decode cX7_ofSheet 68 = .ok (.iadd, 1) := by decide +kernel
theorem dX7_ofSheet_69 : decode cX7_ofSheet 69 = .ok (.iaload, 1) := by decide +kernel
theorem dX7_ofSheet_70 : decode cX7_ofSheet 70 = .ok (.ireturn, 1) := by decide +kernel
theorem dX7_ofSheet_71 : decode cX7_ofSheet 71 = .ok (.aload_n 0, 1) := by decide +kernel
theorem dX7_ofSheet_72 : decode cX7_ofSheet 72 = .ok (.iload_n 1, 1) := by decide +kernel
theorem dX7_ofSheet_73 : decode cX7_ofSheet 73 = .ok (.invokevirtual 54, 3) := by decide +kernel
theorem dX7_ofSheet_76 : decode cX7_ofSheet 76 = .ok (.ifCond .eq 7, 3) := by decide +kernel
theorem dX7_ofSheet_79 : decode cX7_ofSheet 79 = .ok (.iconst 0, 1) := by decide +kernel
theorem dX7_ofSheet_80 : decode cX7_ofSheet 80 = .ok (.goto 4, 3) := by decide +kernel
theorem dX7_ofSheet_83 : decode cX7_ofSheet 83 = .ok (.iconst 1, 1) := by decide +kernel
theorem dX7_ofSheet_84 : decode cX7_ofSheet 84 = .ok (.ireturn, 1) := by decide +kernel
theorem dX7_ofSheet_85 : decode cX7_ofSheet 85 = .ok (.aload_n 0, 1) := by decide +kernel
theorem dX7_ofSheet_86 : decode cX7_ofSheet 86 = .ok (.iload_n 1, 1) := by decide +kernel
theorem dX7_ofSheet_87 : decode cX7_ofSheet 87 = .ok (.iload_n 2, 1) := by decide +kernel
theorem dX7_ofSheet_88 : decode cX7_ofSheet 88 = .ok (.iconst 4, 1) := by decide +kernel
theorem dX7_ofSheet_89 : decode cX7_ofSheet 89 = .ok (.if_icmp .ne 7, 3) := by decide +kernel
theorem dX7_ofSheet_92 : decode cX7_ofSheet 92 = .ok (.iconst 1, 1) := by decide +kernel
theorem dX7_ofSheet_93 : decode cX7_ofSheet 93 = .ok (.goto 4, 3) := by decide +kernel
theorem dX7_ofSheet_96 : decode cX7_ofSheet 96 = .ok (.iconst 0, 1) := by decide +kernel
theorem dX7_ofSheet_97 : decode cX7_ofSheet 97 = .ok (.invokevirtual 117, 3) := by decide +kernel
theorem dX7_ofSheet_100 : decode cX7_ofSheet 100 = .ok (.ireturn, 1) := by decide +kernel
theorem dX7_ofSheet_101 : decode cX7_ofSheet 101 = .ok (.aload_n 0, 1) := by decide +kernel
theorem dX7_ofSheet_102 : decode cX7_ofSheet 102 = .ok (.iload_n 1, 1) := by decide +kernel
theorem dX7_ofSheet_103 : decode cX7_ofSheet 103 = .ok (.iload_n 2, 1) := by decide +kernel
theorem dX7_ofSheet_104 : decode cX7_ofSheet 104 = .ok (.iconst 4, 1) := by decide +kernel
theorem dX7_ofSheet_105 : decode cX7_ofSheet 105 = .ok (.isub, 1) := by decide +kernel
theorem dX7_ofSheet_106 : decode cX7_ofSheet 106 = .ok (.invokevirtual 121, 3) := by decide +kernel
theorem dX7_ofSheet_109 : decode cX7_ofSheet 109 = .ok (.ireturn, 1) := by decide +kernel
theorem dX7_ofSheet_110 : decode cX7_ofSheet 110 = .ok (.iload_n 2, 1) := by decide +kernel
theorem dX7_ofSheet_111 : decode cX7_ofSheet 111 = .ok (.bipush 7, 2) := by decide +kernel
theorem dX7_ofSheet_113 : decode cX7_ofSheet 113 = .ok (.if_icmp .ne 15, 3) := by decide +kernel
theorem dX7_ofSheet_116 : decode cX7_ofSheet 116 = .ok (.aload_n 0, 1) := by decide +kernel
theorem dX7_ofSheet_117 : decode cX7_ofSheet 117 = .ok (.getfield 7, 3) := by decide +kernel
theorem dX7_ofSheet_120 : decode cX7_ofSheet 120 = .ok (.bipush 14, 2) := by decide +kernel
theorem dX7_ofSheet_122 : decode cX7_ofSheet 122 = .ok (.iload_n 1, 1) := by decide +kernel
theorem dX7_ofSheet_123 : decode cX7_ofSheet 123 = .ok (.iadd, 1) := by decide +kernel
theorem dX7_ofSheet_124 : decode cX7_ofSheet 124 = .ok (.iaload, 1) := by decide +kernel
theorem dX7_ofSheet_125 : decode cX7_ofSheet 125 = .ok (.goto 5, 3) := by decide +kernel
theorem dX7_ofSheet_128 : decode cX7_ofSheet 128 = .ok (.bipush (-2), 2) := by decide +kernel
theorem dX7_ofSheet_130 : decode cX7_ofSheet 130 = .ok (.ireturn, 1) := by decide +kernel
theorem dX7_reading_0 : decode cX7_reading 0 = .ok (.iload_n 1, 1) := by decide +kernel
theorem dX7_reading_1 : decode cX7_reading 1 = .ok (.invokestatic 50, 3) := by decide +kernel
theorem dX7_reading_4 : decode cX7_reading 4 = .ok (.ifCond .eq 10, 3) := by decide +kernel
theorem dX7_reading_7 : decode cX7_reading 7 = .ok (.iload_n 2, 1) := by decide +kernel
theorem dX7_reading_8 : decode cX7_reading 8 = .ok (.invokestatic 75, 3) := by decide +kernel
theorem dX7_reading_11 : decode cX7_reading 11 = .ok (.ifCond .ne 5, 3) := by decide +kernel
theorem dX7_reading_14 : decode cX7_reading 14 = .ok (.iconst (-1), 1) := by decide +kernel
theorem dX7_reading_15 : decode cX7_reading 15 = .ok (.ireturn, 1) := by decide +kernel
theorem dX7_reading_16 : decode cX7_reading 16 = .ok (.iconst 0, 1) := by decide +kernel
theorem dX7_reading_17 : decode cX7_reading 17 = .ok (.istore 4, 2) := by decide +kernel
theorem dX7_reading_19 : decode cX7_reading 19 = .ok (.iconst 0, 1) := by decide +kernel
theorem dX7_reading_20 : decode cX7_reading 20 = .ok (.istore 5, 2) := by decide +kernel
theorem dX7_reading_22 : decode cX7_reading 22 = .ok (.iload 5, 2) := by decide +kernel
theorem dX7_reading_24 : decode cX7_reading 24 = .ok (.aload_n 0, 1) := by decide +kernel
theorem dX7_reading_25 : decode cX7_reading 25 = .ok (.iload_n 1, 1) := by decide +kernel
theorem dX7_reading_26 : decode cX7_reading 26 = .ok (.iload_n 2, 1) := by decide +kernel
theorem dX7_reading_27 : decode cX7_reading 27 = .ok (.invokevirtual 61, 3) := by decide +kernel
theorem dX7_reading_30 : decode cX7_reading 30 = .ok (.if_icmp .ge 34, 3) := by decide +kernel
theorem dX7_reading_33 : decode cX7_reading 33 = .ok (.iload 4, 2) := by decide +kernel
theorem dX7_reading_35 : decode cX7_reading 35 = .ok (.aload_n 0, 1) := by decide +kernel
theorem dX7_reading_36 : decode cX7_reading 36 = .ok (.aload_n 0, 1) := by decide +kernel
theorem dX7_reading_37 : decode cX7_reading 37 = .ok (.iload_n 1, 1) := by decide +kernel
theorem dX7_reading_38 : decode cX7_reading 38 = .ok (.iload_n 2, 1) := by decide +kernel
theorem dX7_reading_39 : decode cX7_reading 39 = .ok (.iload 5, 2) := by decide +kernel
theorem dX7_reading_41 : decode cX7_reading 41 = .ok (.invokevirtual 64, 3) := by decide +kernel
theorem dX7_reading_44 : decode cX7_reading 44 = .ok (.invokevirtual 105, 3) := by decide +kernel
theorem dX7_reading_47 : decode cX7_reading 47 = .ok (.ifCond .eq 7, 3) := by decide +kernel
theorem dX7_reading_50 : decode cX7_reading 50 = .ok (.iconst 1, 1) := by decide +kernel
theorem dX7_reading_51 : decode cX7_reading 51 = .ok (.goto 4, 3) := by decide +kernel
theorem dX7_reading_54 : decode cX7_reading 54 = .ok (.iconst 0, 1) := by decide +kernel
theorem dX7_reading_55 : decode cX7_reading 55 = .ok (.iadd, 1) := by decide +kernel
theorem dX7_reading_56 : decode cX7_reading 56 = .ok (.istore 4, 2) := by decide +kernel
theorem dX7_reading_58 : decode cX7_reading 58 = .ok (.iinc 5 1, 3) := by decide +kernel
theorem dX7_reading_61 : decode cX7_reading 61 = .ok (.goto (-39), 3) := by decide +kernel
theorem dX7_reading_64 : decode cX7_reading 64 = .ok (.iload_n 3, 1) := by decide +kernel
theorem dX7_reading_65 : decode cX7_reading 65 = .ok (.tableswitch 55 0 3 #[31, 38, 38, 48], 31) := by decide +kernel
theorem dX7_reading_96 : decode cX7_reading 96 = .ok (.aload_n 0, 1) := by decide +kernel
theorem dX7_reading_97 : decode cX7_reading 97 = .ok (.iload_n 1, 1) := by decide +kernel
theorem dX7_reading_98 : decode cX7_reading 98 = .ok (.iload_n 2, 1) := by decide +kernel
theorem dX7_reading_99 : decode cX7_reading 99 = .ok (.invokevirtual 114, 3) := by decide +kernel
theorem dX7_reading_102 : decode cX7_reading 102 = .ok (.ireturn, 1) := by decide +kernel
theorem dX7_reading_103 : decode cX7_reading 103 = .ok (.aload_n 0, 1) := by decide +kernel
theorem dX7_reading_104 : decode cX7_reading 104 = .ok (.iload_n 1, 1) := by decide +kernel
theorem dX7_reading_105 : decode cX7_reading 105 = .ok (.iload_n 2, 1) := by decide +kernel
theorem dX7_reading_106 : decode cX7_reading 106 = .ok (.iload_n 3, 1) := by decide +kernel
theorem dX7_reading_107 : decode cX7_reading 107 = .ok (.iconst 1, 1) := by decide +kernel
theorem dX7_reading_108 : decode cX7_reading 108 = .ok (.isub, 1) := by decide +kernel
theorem dX7_reading_109 : decode cX7_reading 109 = .ok (.invokevirtual 124, 3) := by decide +kernel
theorem dX7_reading_112 : decode cX7_reading 112 = .ok (.ireturn, 1) := by decide +kernel
theorem dX7_reading_113 : decode cX7_reading 113 = .ok (.aload_n 0, 1) := by decide +kernel
theorem dX7_reading_114 : decode cX7_reading 114 = .ok (.iload_n 1, 1) := by decide +kernel
theorem dX7_reading_115 : decode cX7_reading 115 = .ok (.iload_n 2, 1) := by decide +kernel
theorem dX7_reading_116 : decode cX7_reading 116 = .ok (.invokevirtual 61, 3) := by decide +kernel
theorem dX7_reading_119 : decode cX7_reading 119 = .ok (.ireturn, 1) := by decide +kernel
theorem dX7_reading_120 : decode cX7_reading 120 = .ok (.iload_n 3, 1) := by decide +kernel
theorem dX7_reading_121 : decode cX7_reading 121 = .ok (.iconst 4, 1) := by decide +kernel
theorem dX7_reading_122 : decode cX7_reading 122 = .ok (.if_icmp .ne 8, 3) := by decide +kernel
theorem dX7_reading_125 : decode cX7_reading 125 = .ok (.iload 4, 2) := by decide +kernel
theorem dX7_reading_127 : decode cX7_reading 127 = .ok (.goto 5, 3) := by decide +kernel
theorem dX7_reading_130 : decode cX7_reading 130 = .ok (.bipush (-2), 2) := by decide +kernel
theorem dX7_reading_132 : decode cX7_reading 132 = .ok (.ireturn, 1) := by decide +kernel
theorem dX7_ofMark_0 : decode cX7_ofMark 0 = .ok (.iload_n 1, 1) := by decide +kernel
theorem dX7_ofMark_1 : decode cX7_ofMark 1 = .ok (.invokestatic 50, 3) := by decide +kernel
theorem dX7_ofMark_4 : decode cX7_ofMark 4 = .ok (.ifCond .eq 26, 3) := by decide +kernel
theorem dX7_ofMark_7 : decode cX7_ofMark 7 = .ok (.iload_n 2, 1) := by decide +kernel
theorem dX7_ofMark_8 : decode cX7_ofMark 8 = .ok (.invokestatic 75, 3) := by decide +kernel
theorem dX7_ofMark_11 : decode cX7_ofMark 11 = .ok (.ifCond .eq 19, 3) := by decide +kernel
theorem dX7_ofMark_14 : decode cX7_ofMark 14 = .ok (.iload_n 3, 1) := by decide +kernel
theorem dX7_ofMark_15 : decode cX7_ofMark 15 = .ok (.iconst 0, 1) := by decide +kernel
theorem dX7_ofMark_16 : decode cX7_ofMark 16 = .ok (.aload_n 0, 1) := by decide +kernel
theorem dX7_ofMark_17 : decode cX7_ofMark 17 = .ok (.iload_n 1, 1) := by decide +kernel
theorem dX7_ofMark_18 : decode cX7_ofMark 18 = .ok (.iload_n 2, 1) := by decide +kernel
theorem dX7_ofMark_19 : decode cX7_ofMark 19 = .ok (.invokevirtual 61, 3) := by decide +kernel
theorem dX7_ofMark_22 : decode cX7_ofMark 22 = .ok (.iconst 1, 1) := by decide +kernel
theorem dX7_ofMark_23 : decode cX7_ofMark 23 = .ok (.isub, 1) := by decide +kernel
theorem dX7_ofMark_24 : decode cX7_ofMark 24 = .ok (.invokestatic 43, 3) := by decide +kernel
theorem dX7_ofMark_27 : decode cX7_ofMark 27 = .ok (.ifCond .ne 5, 3) := by decide +kernel
theorem dX7_ofMark_30 : decode cX7_ofMark 30 = .ok (.iconst (-1), 1) := by decide +kernel
theorem dX7_ofMark_31 : decode cX7_ofMark 31 = .ok (.ireturn, 1) := by decide +kernel
theorem dX7_ofMark_32 : decode cX7_ofMark 32 = .ok (.aload_n 0, 1) := by decide +kernel
theorem dX7_ofMark_33 : decode cX7_ofMark 33 = .ok (.iload_n 1, 1) := by decide +kernel
theorem dX7_ofMark_34 : decode cX7_ofMark 34 = .ok (.iload_n 2, 1) := by decide +kernel
theorem dX7_ofMark_35 : decode cX7_ofMark 35 = .ok (.iload_n 3, 1) := by decide +kernel
theorem dX7_ofMark_36 : decode cX7_ofMark 36 = .ok (.invokevirtual 64, 3) := by decide +kernel
theorem dX7_ofMark_39 : decode cX7_ofMark 39 = .ok (.istore 5, 2) := by decide +kernel
theorem dX7_ofMark_41 : decode cX7_ofMark 41 = .ok (.iload 4, 2) := by decide +kernel
theorem dX7_ofMark_43 : decode cX7_ofMark 43 = .ok (.ifCond .ne 11, 3) := by decide +kernel
theorem dX7_ofMark_46 : decode cX7_ofMark 46 = .ok (.iload 5, 2) := by decide +kernel
theorem dX7_ofMark_48 : decode cX7_ofMark 48 = .ok (.invokestatic 111, 3) := by decide +kernel
theorem dX7_ofMark_51 : decode cX7_ofMark 51 = .ok (.goto 32, 3) := by decide +kernel
theorem dX7_ofMark_54 : decode cX7_ofMark 54 = .ok (.iload 4, 2) := by decide +kernel
theorem dX7_ofMark_56 : decode cX7_ofMark 56 = .ok (.iconst 1, 1) := by decide +kernel
theorem dX7_ofMark_57 : decode cX7_ofMark 57 = .ok (.if_icmp .ne 11, 3) := by decide +kernel
theorem dX7_ofMark_60 : decode cX7_ofMark 60 = .ok (.iload 5, 2) := by decide +kernel
theorem dX7_ofMark_62 : decode cX7_ofMark 62 = .ok (.invokestatic 71, 3) := by decide +kernel
theorem dX7_ofMark_65 : decode cX7_ofMark 65 = .ok (.goto 18, 3) := by decide +kernel
theorem dX7_ofMark_68 : decode cX7_ofMark 68 = .ok (.iload 4, 2) := by decide +kernel
theorem dX7_ofMark_70 : decode cX7_ofMark 70 = .ok (.iconst 2, 1) := by decide +kernel
theorem dX7_ofMark_71 : decode cX7_ofMark 71 = .ok (.if_icmp .ne 10, 3) := by decide +kernel
theorem dX7_ofMark_74 : decode cX7_ofMark 74 = .ok (.iload 5, 2) := by decide +kernel
theorem dX7_ofMark_76 : decode cX7_ofMark 76 = .ok (.iconst 2, 1) := by decide +kernel
theorem dX7_ofMark_77 : decode cX7_ofMark 77 = .ok (.irem, 1) := by decide +kernel
theorem dX7_ofMark_78 : decode cX7_ofMark 78 = .ok (.goto 5, 3) := by decide +kernel
theorem dX7_ofMark_81 : decode cX7_ofMark 81 = .ok (.bipush (-2), 2) := by decide +kernel
theorem dX7_ofMark_83 : decode cX7_ofMark 83 = .ok (.ireturn, 1) := by decide +kernel
theorem dX7_votesFor_0 : decode cX7_votesFor 0 = .ok (.iconst 0, 1) := by decide +kernel
theorem dX7_votesFor_1 : decode cX7_votesFor 1 = .ok (.istore_n 3, 1) := by decide +kernel
theorem dX7_votesFor_2 : decode cX7_votesFor 2 = .ok (.iconst 0, 1) := by decide +kernel
theorem dX7_votesFor_3 : decode cX7_votesFor 3 = .ok (.istore 4, 2) := by decide +kernel
theorem dX7_votesFor_5 : decode cX7_votesFor 5 = .ok (.iload 4, 2) := by decide +kernel
theorem dX7_votesFor_7 : decode cX7_votesFor 7 = .ok (.iconst 5, 1) := by decide +kernel
theorem dX7_votesFor_8 : decode cX7_votesFor 8 = .ok (.if_icmp .ge 47, 3) := by decide +kernel
theorem dX7_votesFor_11 : decode cX7_votesFor 11 = .ok (.iload_n 3, 1) := by decide +kernel
theorem dX7_votesFor_12 : decode cX7_votesFor 12 = .ok (.aload_n 0, 1) := by decide +kernel
theorem dX7_votesFor_13 : decode cX7_votesFor 13 = .ok (.iload 4, 2) := by decide +kernel
theorem dX7_votesFor_15 : decode cX7_votesFor 15 = .ok (.iload_n 1, 1) := by decide +kernel
theorem dX7_votesFor_16 : decode cX7_votesFor 16 = .ok (.invokevirtual 114, 3) := by decide +kernel
theorem dX7_votesFor_19 : decode cX7_votesFor 19 = .ok (.iconst 1, 1) := by decide +kernel
theorem dX7_votesFor_20 : decode cX7_votesFor 20 = .ok (.if_icmp .ne 26, 3) := by decide +kernel
theorem dX7_votesFor_23 : decode cX7_votesFor 23 = .ok (.aload_n 0, 1) := by decide +kernel
theorem dX7_votesFor_24 : decode cX7_votesFor 24 = .ok (.iload 4, 2) := by decide +kernel
theorem dX7_votesFor_26 : decode cX7_votesFor 26 = .ok (.iload_n 1, 1) := by decide +kernel
theorem dX7_votesFor_27 : decode cX7_votesFor 27 = .ok (.iconst 0, 1) := by decide +kernel
theorem dX7_votesFor_28 : decode cX7_votesFor 28 = .ok (.invokevirtual 124, 3) := by decide +kernel
theorem dX7_votesFor_31 : decode cX7_votesFor 31 = .ok (.iload_n 2, 1) := by decide +kernel
theorem dX7_votesFor_32 : decode cX7_votesFor 32 = .ok (.if_icmp .ne 14, 3) := by decide +kernel
theorem dX7_votesFor_35 : decode cX7_votesFor 35 = .ok (.aload_n 0, 1) := by decide +kernel
theorem dX7_votesFor_36 : decode cX7_votesFor 36 = .ok (.iload 4, 2) := by decide +kernel
theorem dX7_votesFor_38 : decode cX7_votesFor 38 = .ok (.iload_n 1, 1) := by decide +kernel
theorem dX7_votesFor_39 : decode cX7_votesFor 39 = .ok (.iconst 1, 1) := by decide +kernel
theorem dX7_votesFor_40 : decode cX7_votesFor 40 = .ok (.invokevirtual 124, 3) := by decide +kernel
theorem dX7_votesFor_43 : decode cX7_votesFor 43 = .ok (.goto 4, 3) := by decide +kernel
theorem dX7_votesFor_46 : decode cX7_votesFor 46 = .ok (.iconst 0, 1) := by decide +kernel
theorem dX7_votesFor_47 : decode cX7_votesFor 47 = .ok (.iadd, 1) := by decide +kernel
theorem dX7_votesFor_48 : decode cX7_votesFor 48 = .ok (.istore_n 3, 1) := by decide +kernel
theorem dX7_votesFor_49 : decode cX7_votesFor 49 = .ok (.iinc 4 1, 3) := by decide +kernel
theorem dX7_votesFor_52 : decode cX7_votesFor 52 = .ok (.goto (-47), 3) := by decide +kernel
theorem dX7_votesFor_55 : decode cX7_votesFor 55 = .ok (.iload_n 3, 1) := by decide +kernel
theorem dX7_votesFor_56 : decode cX7_votesFor 56 = .ok (.ireturn, 1) := by decide +kernel
theorem dX7_layTogether_0 : decode cX7_layTogether 0 = .ok (.aload_n 0, 1) := by decide +kernel
theorem dX7_layTogether_1 : decode cX7_layTogether 1 = .ok (.iconst 0, 1) := by decide +kernel
theorem dX7_layTogether_2 : decode cX7_layTogether 2 = .ok (.putfield 127, 3) := by decide +kernel
theorem dX7_layTogether_5 : decode cX7_layTogether 5 = .ok (.aload_n 0, 1) := by decide +kernel
theorem dX7_layTogether_6 : decode cX7_layTogether 6 = .ok (.bipush (-6), 2) := by decide +kernel
theorem dX7_layTogether_8 : decode cX7_layTogether 8 = .ok (.putfield 130, 3) := by decide +kernel
theorem dX7_layTogether_11 : decode cX7_layTogether 11 = .ok (.aload_n 0, 1) := by decide +kernel
theorem dX7_layTogether_12 : decode cX7_layTogether 12 = .ok (.bipush (-6), 2) := by decide +kernel
theorem dX7_layTogether_14 : decode cX7_layTogether 14 = .ok (.putfield 133, 3) := by decide +kernel
theorem dX7_layTogether_17 : decode cX7_layTogether 17 = .ok (.aload_n 0, 1) := by decide +kernel
theorem dX7_layTogether_18 : decode cX7_layTogether 18 = .ok (.iconst 0, 1) := by decide +kernel
theorem dX7_layTogether_19 : decode cX7_layTogether 19 = .ok (.putfield 136, 3) := by decide +kernel
theorem dX7_layTogether_22 : decode cX7_layTogether 22 = .ok (.aload_n 0, 1) := by decide +kernel
theorem dX7_layTogether_23 : decode cX7_layTogether 23 = .ok (.iconst 0, 1) := by decide +kernel
theorem dX7_layTogether_24 : decode cX7_layTogether 24 = .ok (.putfield 139, 3) := by decide +kernel
theorem dX7_layTogether_27 : decode cX7_layTogether 27 = .ok (.iconst 0, 1) := by decide +kernel
theorem dX7_layTogether_28 : decode cX7_layTogether 28 = .ok (.istore_n 2, 1) := by decide +kernel
theorem dX7_layTogether_29 : decode cX7_layTogether 29 = .ok (.iload_n 2, 1) := by decide +kernel
theorem dX7_layTogether_30 : decode cX7_layTogether 30 = .ok (.iconst 5, 1) := by decide +kernel
theorem dX7_layTogether_31 : decode cX7_layTogether 31 = .ok (.if_icmp .ge 199, 3) := by decide +kernel
theorem dX7_layTogether_34 : decode cX7_layTogether 34 = .ok (.aload_n 0, 1) := by decide +kernel
theorem dX7_layTogether_35 : decode cX7_layTogether 35 = .ok (.iload_n 2, 1) := by decide +kernel
theorem dX7_layTogether_36 : decode cX7_layTogether 36 = .ok (.iload_n 1, 1) := by decide +kernel
theorem dX7_layTogether_37 : decode cX7_layTogether 37 = .ok (.invokevirtual 114, 3) := by decide +kernel
theorem dX7_layTogether_40 : decode cX7_layTogether 40 = .ok (.iconst 1, 1) := by decide +kernel
theorem dX7_layTogether_41 : decode cX7_layTogether 41 = .ok (.if_icmp .ne 183, 3) := by decide +kernel
theorem dX7_layTogether_44 : decode cX7_layTogether 44 = .ok (.aload_n 0, 1) := by decide +kernel
theorem dX7_layTogether_45 : decode cX7_layTogether 45 = .ok (.iload_n 2, 1) := by decide +kernel
theorem dX7_layTogether_46 : decode cX7_layTogether 46 = .ok (.iload_n 1, 1) := by decide +kernel
theorem dX7_layTogether_47 : decode cX7_layTogether 47 = .ok (.iconst 0, 1) := by decide +kernel
theorem dX7_layTogether_48 : decode cX7_layTogether 48 = .ok (.invokevirtual 124, 3) := by decide +kernel
theorem dX7_layTogether_51 : decode cX7_layTogether 51 = .ok (.istore_n 3, 1) := by decide +kernel
theorem dX7_layTogether_52 : decode cX7_layTogether 52 = .ok (.aload_n 0, 1) := by decide +kernel
theorem dX7_layTogether_53 : decode cX7_layTogether 53 = .ok (.iload_n 1, 1) := by decide +kernel
theorem dX7_layTogether_54 : decode cX7_layTogether 54 = .ok (.iload_n 3, 1) := by decide +kernel
theorem dX7_layTogether_55 : decode cX7_layTogether 55 = .ok (.invokevirtual 142, 3) := by decide +kernel
theorem dX7_layTogether_58 : decode cX7_layTogether 58 = .ok (.istore 4, 2) := by decide +kernel
theorem dX7_layTogether_60 : decode cX7_layTogether 60 = .ok (.iconst 0, 1) := by decide +kernel
theorem dX7_layTogether_61 : decode cX7_layTogether 61 = .ok (.istore 5, 2) := by decide +kernel
theorem dX7_layTogether_63 : decode cX7_layTogether 63 = .ok (.iconst 0, 1) := by decide +kernel
theorem dX7_layTogether_64 : decode cX7_layTogether 64 = .ok (.istore 6, 2) := by decide +kernel
theorem dX7_layTogether_66 : decode cX7_layTogether 66 = .ok (.iload 6, 2) := by decide +kernel
theorem dX7_layTogether_68 : decode cX7_layTogether 68 = .ok (.iload_n 2, 1) := by decide +kernel
theorem dX7_layTogether_69 : decode cX7_layTogether 69 = .ok (.if_icmp .ge 46, 3) := by decide +kernel
theorem dX7_layTogether_72 : decode cX7_layTogether 72 = .ok (.iload 5, 2) := by decide +kernel
theorem dX7_layTogether_74 : decode cX7_layTogether 74 = .ok (.ifCond .ne 28, 3) := by decide +kernel
theorem dX7_layTogether_77 : decode cX7_layTogether 77 = .ok (.aload_n 0, 1) := by decide +kernel
theorem dX7_layTogether_78 : decode cX7_layTogether 78 = .ok (.getfield 139, 3) := by decide +kernel
theorem dX7_layTogether_81 : decode cX7_layTogether 81 = .ok (.iload 6, 2) := by decide +kernel
theorem dX7_layTogether_83 : decode cX7_layTogether 83 = .ok (.ishr, 1) := by decide +kernel
theorem dX7_layTogether_84 : decode cX7_layTogether 84 = .ok (.iconst 1, 1) := by decide +kernel
theorem dX7_layTogether_85 : decode cX7_layTogether 85 = .ok (.iand, 1) := by decide +kernel
theorem dX7_layTogether_86 : decode cX7_layTogether 86 = .ok (.iconst 1, 1) := by decide +kernel
theorem dX7_layTogether_87 : decode cX7_layTogether 87 = .ok (.if_icmp .ne 19, 3) := by decide +kernel
theorem dX7_layTogether_90 : decode cX7_layTogether 90 = .ok (.aload_n 0, 1) := by decide +kernel
theorem dX7_layTogether_91 : decode cX7_layTogether 91 = .ok (.iload 6, 2) := by decide +kernel
theorem dX7_layTogether_93 : decode cX7_layTogether 93 = .ok (.iload_n 1, 1) := by decide +kernel
theorem dX7_layTogether_94 : decode cX7_layTogether 94 = .ok (.iconst 0, 1) := by decide +kernel
theorem dX7_layTogether_95 : decode cX7_layTogether 95 = .ok (.invokevirtual 124, 3) := by decide +kernel
theorem dX7_layTogether_98 : decode cX7_layTogether 98 = .ok (.iload_n 3, 1) := by decide +kernel
theorem dX7_layTogether_99 : decode cX7_layTogether 99 = .ok (.if_icmp .ne 7, 3) := by decide +kernel
theorem dX7_layTogether_102 : decode cX7_layTogether 102 = .ok (.iconst 1, 1) := by decide +kernel
theorem dX7_layTogether_103 : decode cX7_layTogether 103 = .ok (.goto 4, 3) := by decide +kernel
theorem dX7_layTogether_106 : decode cX7_layTogether 106 = .ok (.iconst 0, 1) := by decide +kernel
theorem dX7_layTogether_107 : decode cX7_layTogether 107 = .ok (.istore 5, 2) := by decide +kernel
theorem dX7_layTogether_109 : decode cX7_layTogether 109 = .ok (.iinc 6 1, 3) := by decide +kernel
theorem dX7_layTogether_112 : decode cX7_layTogether 112 = .ok (.goto (-46), 3) := by decide +kernel
theorem dX7_layTogether_115 : decode cX7_layTogether 115 = .ok (.aload_n 0, 1) := by decide +kernel
theorem dX7_layTogether_116 : decode cX7_layTogether 116 = .ok (.dup, 1) := by decide +kernel
theorem dX7_layTogether_117 : decode cX7_layTogether 117 = .ok (.getfield 139, 3) := by decide +kernel
theorem dX7_layTogether_120 : decode cX7_layTogether 120 = .ok (.iconst 1, 1) := by decide +kernel
theorem dX7_layTogether_121 : decode cX7_layTogether 121 = .ok (.iload_n 2, 1) := by decide +kernel
theorem dX7_layTogether_122 : decode cX7_layTogether 122 = .ok (.ishl, 1) := by decide +kernel
theorem dX7_layTogether_123 : decode cX7_layTogether 123 = .ok (.ior, 1) := by decide +kernel
theorem dX7_layTogether_124 : decode cX7_layTogether 124 = .ok (.putfield 139, 3) := by decide +kernel
theorem dX7_layTogether_127 : decode cX7_layTogether 127 = .ok (.iload 4, 2) := by decide +kernel
theorem dX7_layTogether_129 : decode cX7_layTogether 129 = .ok (.aload_n 0, 1) := by decide +kernel
theorem dX7_layTogether_130 : decode cX7_layTogether 130 = .ok (.getfield 136, 3) := by decide +kernel
theorem dX7_layTogether_133 : decode cX7_layTogether 133 = .ok (.if_icmp .le 27, 3) := by decide +kernel
theorem dX7_layTogether_136 : decode cX7_layTogether 136 = .ok (.aload_n 0, 1) := by decide +kernel
theorem dX7_layTogether_137 : decode cX7_layTogether 137 = .ok (.iload 4, 2) := by decide +kernel
theorem dX7_layTogether_139 : decode cX7_layTogether 139 = .ok (.putfield 136, 3) := by decide +kernel
theorem dX7_layTogether_142 : decode cX7_layTogether 142 = .ok (.aload_n 0, 1) := by decide +kernel
theorem dX7_layTogether_143 : decode cX7_layTogether 143 = .ok (.iconst 1, 1) := by decide +kernel
theorem dX7_layTogether_144 : decode cX7_layTogether 144 = .ok (.putfield 127, 3) := by decide +kernel
theorem dX7_layTogether_147 : decode cX7_layTogether 147 = .ok (.aload_n 0, 1) := by decide +kernel
theorem dX7_layTogether_148 : decode cX7_layTogether 148 = .ok (.iload_n 3, 1) := by decide +kernel
theorem dX7_layTogether_149 : decode cX7_layTogether 149 = .ok (.putfield 130, 3) := by decide +kernel
theorem dX7_layTogether_152 : decode cX7_layTogether 152 = .ok (.aload_n 0, 1) := by decide +kernel
theorem dX7_layTogether_153 : decode cX7_layTogether 153 = .ok (.iload_n 3, 1) := by decide +kernel
theorem dX7_layTogether_154 : decode cX7_layTogether 154 = .ok (.putfield 133, 3) := by decide +kernel
theorem dX7_layTogether_157 : decode cX7_layTogether 157 = .ok (.goto 67, 3) := by decide +kernel
theorem dX7_layTogether_160 : decode cX7_layTogether 160 = .ok (.iload 4, 2) := by decide +kernel
theorem dX7_layTogether_162 : decode cX7_layTogether 162 = .ok (.aload_n 0, 1) := by decide +kernel
theorem dX7_layTogether_163 : decode cX7_layTogether 163 = .ok (.getfield 136, 3) := by decide +kernel
theorem dX7_layTogether_166 : decode cX7_layTogether 166 = .ok (.if_icmp .ne 58, 3) := by decide +kernel
theorem dX7_layTogether_169 : decode cX7_layTogether 169 = .ok (.iload 5, 2) := by decide +kernel
theorem dX7_layTogether_171 : decode cX7_layTogether 171 = .ok (.ifCond .ne 53, 3) := by decide +kernel
theorem dX7_layTogether_174 : decode cX7_layTogether 174 = .ok (.aload_n 0, 1) := by decide +kernel
theorem dX7_layTogether_175 : decode cX7_layTogether 175 = .ok (.dup, 1) := by decide +kernel
theorem dX7_layTogether_176 : decode cX7_layTogether 176 = .ok (.getfield 127, 3) := by decide +kernel
theorem dX7_layTogether_179 : decode cX7_layTogether 179 = .ok (.iconst 1, 1) := by decide +kernel
theorem dX7_layTogether_180 : decode cX7_layTogether 180 = .ok (.iadd, 1) := by decide +kernel
theorem dX7_layTogether_181 : decode cX7_layTogether 181 = .ok (.putfield 127, 3) := by decide +kernel
theorem dX7_layTogether_184 : decode cX7_layTogether 184 = .ok (.aload_n 0, 1) := by decide +kernel
theorem dX7_layTogether_185 : decode cX7_layTogether 185 = .ok (.iload_n 3, 1) := by decide +kernel
theorem dX7_layTogether_186 : decode cX7_layTogether 186 = .ok (.aload_n 0, 1) := by decide +kernel
theorem dX7_layTogether_187 : decode cX7_layTogether 187 = .ok (.getfield 130, 3) := by decide +kernel
theorem dX7_layTogether_190 : decode cX7_layTogether 190 = .ok (.if_icmp .ge 7, 3) := by decide +kernel
theorem dX7_layTogether_193 : decode cX7_layTogether 193 = .ok (.iload_n 3, 1) := by decide +kernel
theorem dX7_layTogether_194 : decode cX7_layTogether 194 = .ok (.goto 7, 3) := by decide +kernel
theorem dX7_layTogether_197 : decode cX7_layTogether 197 = .ok (.aload_n 0, 1) := by decide +kernel
theorem dX7_layTogether_198 : decode cX7_layTogether 198 = .ok (.getfield 130, 3) := by decide +kernel
theorem dX7_layTogether_201 : decode cX7_layTogether 201 = .ok (.putfield 130, 3) := by decide +kernel
theorem dX7_layTogether_204 : decode cX7_layTogether 204 = .ok (.aload_n 0, 1) := by decide +kernel
end
section
theorem dX7_layTogether_205 : decode cX7_layTogether 205 = .ok (.iload_n 3, 1) := by decide +kernel
theorem dX7_layTogether_206 : decode cX7_layTogether 206 = .ok (.aload_n 0, 1) := by decide +kernel
theorem dX7_layTogether_207 : decode cX7_layTogether 207 = .ok (.getfield 133, 3) := by decide +kernel
theorem dX7_layTogether_210 : decode cX7_layTogether 210 = .ok (.if_icmp .le 7, 3) := by decide +kernel
theorem dX7_layTogether_213 : decode cX7_layTogether 213 = .ok (.iload_n 3, 1) := by decide +kernel
theorem dX7_layTogether_214 : decode cX7_layTogether 214 = .ok (.goto 7, 3) := by decide +kernel
theorem dX7_layTogether_217 : decode cX7_layTogether 217 = .ok (.aload_n 0, 1) := by decide +kernel
theorem dX7_layTogether_218 : decode cX7_layTogether 218 = .ok (.getfield 133, 3) := by decide +kernel
theorem dX7_layTogether_221 : decode cX7_layTogether 221 = .ok (.putfield 133, 3) := by decide +kernel
theorem dX7_layTogether_224 : decode cX7_layTogether 224 = .ok (.iinc 2 1, 3) := by decide +kernel
theorem dX7_layTogether_227 : decode cX7_layTogether 227 = .ok (.goto (-198), 3) := by decide +kernel
theorem dX7_layTogether_230 : decode cX7_layTogether 230 = .ok (.return_, 1) := by decide +kernel
theorem dX7_together_0 : decode cX7_together 0 = .ok (.iload_n 1, 1) := by decide +kernel
theorem dX7_together_1 : decode cX7_together 1 = .ok (.invokestatic 75, 3) := by decide +kernel
theorem dX7_together_4 : decode cX7_together 4 = .ok (.ifCond .ne 5, 3) := by decide +kernel
theorem dX7_together_7 : decode cX7_together 7 = .ok (.iconst (-1), 1) := by decide +kernel
theorem dX7_together_8 : decode cX7_together 8 = .ok (.ireturn, 1) := by decide +kernel
theorem dX7_together_9 : decode cX7_together 9 = .ok (.aload_n 0, 1) := by decide +kernel
theorem dX7_together_10 : decode cX7_together 10 = .ok (.iload_n 1, 1) := by decide +kernel
theorem dX7_together_11 : decode cX7_together 11 = .ok (.invokevirtual 145, 3) := by decide +kernel
theorem dX7_together_14 : decode cX7_together 14 = .ok (.iload_n 2, 1) := by decide +kernel
theorem dX7_together_15 : decode cX7_together 15 = .ok (.tableswitch 49 0 3 #[29, 34, 39, 44], 29) := by decide +kernel
theorem dX7_together_44 : decode cX7_together 44 = .ok (.aload_n 0, 1) := by decide +kernel
theorem dX7_together_45 : decode cX7_together 45 = .ok (.getfield 127, 3) := by decide +kernel
theorem dX7_together_48 : decode cX7_together 48 = .ok (.ireturn, 1) := by decide +kernel
theorem dX7_together_49 : decode cX7_together 49 = .ok (.aload_n 0, 1) := by decide +kernel
theorem dX7_together_50 : decode cX7_together 50 = .ok (.getfield 130, 3) := by decide +kernel
theorem dX7_together_53 : decode cX7_together 53 = .ok (.ireturn, 1) := by decide +kernel
theorem dX7_together_54 : decode cX7_together 54 = .ok (.aload_n 0, 1) := by decide +kernel
theorem dX7_together_55 : decode cX7_together 55 = .ok (.getfield 133, 3) := by decide +kernel
theorem dX7_together_58 : decode cX7_together 58 = .ok (.ireturn, 1) := by decide +kernel
theorem dX7_together_59 : decode cX7_together 59 = .ok (.aload_n 0, 1) := by decide +kernel
theorem dX7_together_60 : decode cX7_together 60 = .ok (.getfield 136, 3) := by decide +kernel
theorem dX7_together_63 : decode cX7_together 63 = .ok (.ireturn, 1) := by decide +kernel
theorem dX7_together_64 : decode cX7_together 64 = .ok (.iload_n 2, 1) := by decide +kernel
theorem dX7_together_65 : decode cX7_together 65 = .ok (.iconst 4, 1) := by decide +kernel
theorem dX7_together_66 : decode cX7_together 66 = .ok (.if_icmp .ne 10, 3) := by decide +kernel
theorem dX7_together_69 : decode cX7_together 69 = .ok (.aload_n 0, 1) := by decide +kernel
theorem dX7_together_70 : decode cX7_together 70 = .ok (.getfield 139, 3) := by decide +kernel
theorem dX7_together_73 : decode cX7_together 73 = .ok (.goto 5, 3) := by decide +kernel
theorem dX7_together_76 : decode cX7_together 76 = .ok (.bipush (-2), 2) := by decide +kernel
theorem dX7_together_78 : decode cX7_together 78 = .ok (.ireturn, 1) := by decide +kernel
theorem dX7_fieldsWith_0 : decode cX7_fieldsWith 0 = .ok (.iconst 0, 1) := by decide +kernel
theorem dX7_fieldsWith_1 : decode cX7_fieldsWith 1 = .ok (.istore_n 2, 1) := by decide +kernel
theorem dX7_fieldsWith_2 : decode cX7_fieldsWith 2 = .ok (.iconst 0, 1) := by decide +kernel
theorem dX7_fieldsWith_3 : decode cX7_fieldsWith 3 = .ok (.istore_n 3, 1) := by decide +kernel
theorem dX7_fieldsWith_4 : decode cX7_fieldsWith 4 = .ok (.iload_n 3, 1) := by decide +kernel
theorem dX7_fieldsWith_5 : decode cX7_fieldsWith 5 = .ok (.bipush 10, 2) := by decide +kernel
theorem dX7_fieldsWith_7 : decode cX7_fieldsWith 7 = .ok (.if_icmp .ge 54, 3) := by decide +kernel
theorem dX7_fieldsWith_10 : decode cX7_fieldsWith 10 = .ok (.aload_n 0, 1) := by decide +kernel
theorem dX7_fieldsWith_11 : decode cX7_fieldsWith 11 = .ok (.iload_n 3, 1) := by decide +kernel
theorem dX7_fieldsWith_12 : decode cX7_fieldsWith 12 = .ok (.invokevirtual 145, 3) := by decide +kernel
theorem dX7_fieldsWith_15 : decode cX7_fieldsWith 15 = .ok (.iload_n 2, 1) := by decide +kernel
theorem dX7_fieldsWith_16 : decode cX7_fieldsWith 16 = .ok (.iload_n 1, 1) := by decide +kernel
theorem dX7_fieldsWith_17 : decode cX7_fieldsWith 17 = .ok (.ifCond .eq 21, 3) := by decide +kernel
theorem dX7_fieldsWith_20 : decode cX7_fieldsWith 20 = .ok (.aload_n 0, 1) := by decide +kernel
theorem dX7_fieldsWith_21 : decode cX7_fieldsWith 21 = .ok (.getfield 127, 3) := by decide +kernel
theorem dX7_fieldsWith_24 : decode cX7_fieldsWith 24 = .ok (.iconst 1, 1) := by decide +kernel
theorem dX7_fieldsWith_25 : decode cX7_fieldsWith 25 = .ok (.if_icmp .ne 9, 3) := by decide +kernel
theorem dX7_fieldsWith_28 : decode cX7_fieldsWith 28 = .ok (.iconst 1, 1) := by decide +kernel
theorem dX7_fieldsWith_29 : decode cX7_fieldsWith 29 = .ok (.iload_n 3, 1) := by decide +kernel
theorem dX7_fieldsWith_30 : decode cX7_fieldsWith 30 = .ok (.ishl, 1) := by decide +kernel
theorem dX7_fieldsWith_31 : decode cX7_fieldsWith 31 = .ok (.goto 22, 3) := by decide +kernel
theorem dX7_fieldsWith_34 : decode cX7_fieldsWith 34 = .ok (.iconst 0, 1) := by decide +kernel
theorem dX7_fieldsWith_35 : decode cX7_fieldsWith 35 = .ok (.goto 18, 3) := by decide +kernel
theorem dX7_fieldsWith_38 : decode cX7_fieldsWith 38 = .ok (.aload_n 0, 1) := by decide +kernel
theorem dX7_fieldsWith_39 : decode cX7_fieldsWith 39 = .ok (.getfield 127, 3) := by decide +kernel
theorem dX7_fieldsWith_42 : decode cX7_fieldsWith 42 = .ok (.iconst 1, 1) := by decide +kernel
theorem dX7_fieldsWith_43 : decode cX7_fieldsWith 43 = .ok (.if_icmp .le 9, 3) := by decide +kernel
theorem dX7_fieldsWith_46 : decode cX7_fieldsWith 46 = .ok (.iconst 1, 1) := by decide +kernel
theorem dX7_fieldsWith_47 : decode cX7_fieldsWith 47 = .ok (.iload_n 3, 1) := by decide +kernel
theorem dX7_fieldsWith_48 : decode cX7_fieldsWith 48 = .ok (.ishl, 1) := by decide +kernel
theorem dX7_fieldsWith_49 : decode cX7_fieldsWith 49 = .ok (.goto 4, 3) := by decide +kernel
theorem dX7_fieldsWith_52 : decode cX7_fieldsWith 52 = .ok (.iconst 0, 1) := by decide +kernel
theorem dX7_fieldsWith_53 : decode cX7_fieldsWith 53 = .ok (.ior, 1) := by decide +kernel
theorem dX7_fieldsWith_54 : decode cX7_fieldsWith 54 = .ok (.istore_n 2, 1) := by decide +kernel
theorem dX7_fieldsWith_55 : decode cX7_fieldsWith 55 = .ok (.iinc 3 1, 3) := by decide +kernel
theorem dX7_fieldsWith_58 : decode cX7_fieldsWith 58 = .ok (.goto (-54), 3) := by decide +kernel
theorem dX7_fieldsWith_61 : decode cX7_fieldsWith 61 = .ok (.iload_n 2, 1) := by decide +kernel
theorem dX7_fieldsWith_62 : decode cX7_fieldsWith 62 = .ok (.ireturn, 1) := by decide +kernel
theorem dX7_stack_0 : decode cX7_stack 0 = .ok (.iconst 0, 1) := by decide +kernel
theorem dX7_stack_1 : decode cX7_stack 1 = .ok (.istore_n 1, 1) := by decide +kernel
theorem dX7_stack_2 : decode cX7_stack 2 = .ok (.iconst 0, 1) := by decide +kernel
theorem dX7_stack_3 : decode cX7_stack 3 = .ok (.istore_n 2, 1) := by decide +kernel
theorem dX7_stack_4 : decode cX7_stack 4 = .ok (.iload_n 2, 1) := by decide +kernel
theorem dX7_stack_5 : decode cX7_stack 5 = .ok (.iconst 5, 1) := by decide +kernel
theorem dX7_stack_6 : decode cX7_stack 6 = .ok (.if_icmp .ge 27, 3) := by decide +kernel
theorem dX7_stack_9 : decode cX7_stack 9 = .ok (.iload_n 1, 1) := by decide +kernel
theorem dX7_stack_10 : decode cX7_stack 10 = .ok (.aload_n 0, 1) := by decide +kernel
theorem dX7_stack_11 : decode cX7_stack 11 = .ok (.iload_n 2, 1) := by decide +kernel
theorem dX7_stack_12 : decode cX7_stack 12 = .ok (.invokevirtual 54, 3) := by decide +kernel
theorem dX7_stack_15 : decode cX7_stack 15 = .ok (.ifCond .eq 9, 3) := by decide +kernel
theorem dX7_stack_18 : decode cX7_stack 18 = .ok (.iconst 1, 1) := by decide +kernel
theorem dX7_stack_19 : decode cX7_stack 19 = .ok (.iload_n 2, 1) := by decide +kernel
theorem dX7_stack_20 : decode cX7_stack 20 = .ok (.ishl, 1) := by decide +kernel
theorem dX7_stack_21 : decode cX7_stack 21 = .ok (.goto 4, 3) := by decide +kernel
theorem dX7_stack_24 : decode cX7_stack 24 = .ok (.iconst 0, 1) := by decide +kernel
theorem dX7_stack_25 : decode cX7_stack 25 = .ok (.ior, 1) := by decide +kernel
theorem dX7_stack_26 : decode cX7_stack 26 = .ok (.istore_n 1, 1) := by decide +kernel
theorem dX7_stack_27 : decode cX7_stack 27 = .ok (.iinc 2 1, 3) := by decide +kernel
theorem dX7_stack_30 : decode cX7_stack 30 = .ok (.goto (-26), 3) := by decide +kernel
theorem dX7_stack_33 : decode cX7_stack 33 = .ok (.iload_n 1, 1) := by decide +kernel
theorem dX7_stack_34 : decode cX7_stack 34 = .ok (.ireturn, 1) := by decide +kernel
theorem dX7_count_0 : decode cX7_count 0 = .ok (.iconst 0, 1) := by decide +kernel
theorem dX7_count_1 : decode cX7_count 1 = .ok (.istore_n 2, 1) := by decide +kernel
theorem dX7_count_2 : decode cX7_count 2 = .ok (.iconst 0, 1) := by decide +kernel
theorem dX7_count_3 : decode cX7_count 3 = .ok (.istore_n 3, 1) := by decide +kernel
theorem dX7_count_4 : decode cX7_count 4 = .ok (.iload_n 3, 1) := by decide +kernel
theorem dX7_count_5 : decode cX7_count 5 = .ok (.iconst 5, 1) := by decide +kernel
theorem dX7_count_6 : decode cX7_count 6 = .ok (.if_icmp .ge 18, 3) := by decide +kernel
theorem dX7_count_9 : decode cX7_count 9 = .ok (.iload_n 2, 1) := by decide +kernel
theorem dX7_count_10 : decode cX7_count 10 = .ok (.aload_n 0, 1) := by decide +kernel
theorem dX7_count_11 : decode cX7_count 11 = .ok (.iload_n 3, 1) := by decide +kernel
theorem dX7_count_12 : decode cX7_count 12 = .ok (.iconst 0, 1) := by decide +kernel
theorem dX7_count_13 : decode cX7_count 13 = .ok (.invokevirtual 117, 3) := by decide +kernel
theorem dX7_count_16 : decode cX7_count 16 = .ok (.iadd, 1) := by decide +kernel
theorem dX7_count_17 : decode cX7_count 17 = .ok (.istore_n 2, 1) := by decide +kernel
theorem dX7_count_18 : decode cX7_count 18 = .ok (.iinc 3 1, 3) := by decide +kernel
theorem dX7_count_21 : decode cX7_count 21 = .ok (.goto (-17), 3) := by decide +kernel
theorem dX7_count_24 : decode cX7_count 24 = .ok (.iload_n 1, 1) := by decide +kernel
theorem dX7_count_25 : decode cX7_count 25 = .ok (.tableswitch 100 0 7 #[47, 47, 68, 73, 75, 75, 90, 95], 47) := by decide +kernel
theorem dX7_count_72 : decode cX7_count 72 = .ok (.aload_n 0, 1) := by decide +kernel
theorem dX7_count_73 : decode cX7_count 73 = .ok (.invokevirtual 78, 3) := by decide +kernel
theorem dX7_count_76 : decode cX7_count 76 = .ok (.ifCond .eq 14, 3) := by decide +kernel
theorem dX7_count_79 : decode cX7_count 79 = .ok (.aload_n 0, 1) := by decide +kernel
theorem dX7_count_80 : decode cX7_count 80 = .ok (.getfield 7, 3) := by decide +kernel
theorem dX7_count_83 : decode cX7_count 83 = .ok (.iconst 2, 1) := by decide +kernel
theorem dX7_count_84 : decode cX7_count 84 = .ok (.iload_n 1, 1) := by decide +kernel
theorem dX7_count_85 : decode cX7_count 85 = .ok (.iadd, 1) := by decide +kernel
theorem dX7_count_86 : decode cX7_count 86 = .ok (.iaload, 1) := by decide +kernel
theorem dX7_count_87 : decode cX7_count 87 = .ok (.goto 5, 3) := by decide +kernel
theorem dX7_count_90 : decode cX7_count 90 = .ok (.bipush (-6), 2) := by decide +kernel
theorem dX7_count_92 : decode cX7_count 92 = .ok (.ireturn, 1) := by decide +kernel
theorem dX7_count_93 : decode cX7_count 93 = .ok (.aload_n 0, 1) := by decide +kernel
theorem dX7_count_94 : decode cX7_count 94 = .ok (.invokevirtual 148, 3) := by decide +kernel
theorem dX7_count_97 : decode cX7_count 97 = .ok (.ireturn, 1) := by decide +kernel
theorem dX7_count_98 : decode cX7_count 98 = .ok (.iload_n 2, 1) := by decide +kernel
theorem dX7_count_99 : decode cX7_count 99 = .ok (.ireturn, 1) := by decide +kernel
theorem dX7_count_100 : decode cX7_count 100 = .ok (.aload_n 0, 1) := by decide +kernel
theorem dX7_count_101 : decode cX7_count 101 = .ok (.iload_n 1, 1) := by decide +kernel
theorem dX7_count_102 : decode cX7_count 102 = .ok (.iconst 4, 1) := by decide +kernel
theorem dX7_count_103 : decode cX7_count 103 = .ok (.if_icmp .ne 7, 3) := by decide +kernel
theorem dX7_count_106 : decode cX7_count 106 = .ok (.iconst 1, 1) := by decide +kernel
theorem dX7_count_107 : decode cX7_count 107 = .ok (.goto 4, 3) := by decide +kernel
theorem dX7_count_110 : decode cX7_count 110 = .ok (.iconst 0, 1) := by decide +kernel
theorem dX7_count_111 : decode cX7_count 111 = .ok (.invokevirtual 152, 3) := by decide +kernel
theorem dX7_count_114 : decode cX7_count 114 = .ok (.ireturn, 1) := by decide +kernel
theorem dX7_count_115 : decode cX7_count 115 = .ok (.aload_n 0, 1) := by decide +kernel
theorem dX7_count_116 : decode cX7_count 116 = .ok (.getfield 156, 3) := by decide +kernel
theorem dX7_count_119 : decode cX7_count 119 = .ok (.ireturn, 1) := by decide +kernel
theorem dX7_count_120 : decode cX7_count 120 = .ok (.aload_n 0, 1) := by decide +kernel
theorem dX7_count_121 : decode cX7_count 121 = .ok (.getfield 39, 3) := by decide +kernel
theorem dX7_count_124 : decode cX7_count 124 = .ok (.ireturn, 1) := by decide +kernel
theorem dX7_count_125 : decode cX7_count 125 = .ok (.iload_n 1, 1) := by decide +kernel
theorem dX7_count_126 : decode cX7_count 126 = .ok (.bipush 8, 2) := by decide +kernel
theorem dX7_count_128 : decode cX7_count 128 = .ok (.bipush 9, 2) := by decide +kernel
theorem dX7_count_130 : decode cX7_count 130 = .ok (.invokestatic 43, 3) := by decide +kernel
theorem dX7_count_133 : decode cX7_count 133 = .ok (.ifCond .eq 15, 3) := by decide +kernel
theorem dX7_count_136 : decode cX7_count 136 = .ok (.aload_n 0, 1) := by decide +kernel
theorem dX7_count_137 : decode cX7_count 137 = .ok (.getfield 7, 3) := by decide +kernel
theorem dX7_count_140 : decode cX7_count 140 = .ok (.iload_n 1, 1) := by decide +kernel
theorem dX7_count_141 : decode cX7_count 141 = .ok (.bipush 8, 2) := by decide +kernel
theorem dX7_count_143 : decode cX7_count 143 = .ok (.isub, 1) := by decide +kernel
theorem dX7_count_144 : decode cX7_count 144 = .ok (.iaload, 1) := by decide +kernel
theorem dX7_count_145 : decode cX7_count 145 = .ok (.goto 5, 3) := by decide +kernel
theorem dX7_count_148 : decode cX7_count 148 = .ok (.bipush (-2), 2) := by decide +kernel
theorem dX7_count_150 : decode cX7_count 150 = .ok (.ireturn, 1) := by decide +kernel
theorem dX7_differ_0 : decode cX7_differ 0 = .ok (.iload_n 1, 1) := by decide +kernel
theorem dX7_differ_1 : decode cX7_differ 1 = .ok (.invokestatic 50, 3) := by decide +kernel
theorem dX7_differ_4 : decode cX7_differ 4 = .ok (.ifCond .eq 10, 3) := by decide +kernel
theorem dX7_differ_7 : decode cX7_differ 7 = .ok (.iload_n 2, 1) := by decide +kernel
theorem dX7_differ_8 : decode cX7_differ 8 = .ok (.invokestatic 50, 3) := by decide +kernel
theorem dX7_differ_11 : decode cX7_differ 11 = .ok (.ifCond .ne 5, 3) := by decide +kernel
theorem dX7_differ_14 : decode cX7_differ 14 = .ok (.iconst (-1), 1) := by decide +kernel
theorem dX7_differ_15 : decode cX7_differ 15 = .ok (.ireturn, 1) := by decide +kernel
theorem dX7_differ_16 : decode cX7_differ 16 = .ok (.iconst 0, 1) := by decide +kernel
theorem dX7_differ_17 : decode cX7_differ 17 = .ok (.istore_n 3, 1) := by decide +kernel
theorem dX7_differ_18 : decode cX7_differ 18 = .ok (.iconst 0, 1) := by decide +kernel
theorem dX7_differ_19 : decode cX7_differ 19 = .ok (.istore 4, 2) := by decide +kernel
theorem dX7_differ_21 : decode cX7_differ 21 = .ok (.iload 4, 2) := by decide +kernel
theorem dX7_differ_23 : decode cX7_differ 23 = .ok (.bipush 10, 2) := by decide +kernel
theorem dX7_differ_25 : decode cX7_differ 25 = .ok (.if_icmp .ge 78, 3) := by decide +kernel
theorem dX7_differ_28 : decode cX7_differ 28 = .ok (.aload_n 0, 1) := by decide +kernel
theorem dX7_differ_29 : decode cX7_differ 29 = .ok (.iload_n 1, 1) := by decide +kernel
theorem dX7_differ_30 : decode cX7_differ 30 = .ok (.iload 4, 2) := by decide +kernel
theorem dX7_differ_32 : decode cX7_differ 32 = .ok (.invokevirtual 114, 3) := by decide +kernel
theorem dX7_differ_35 : decode cX7_differ 35 = .ok (.istore 5, 2) := by decide +kernel
theorem dX7_differ_37 : decode cX7_differ 37 = .ok (.iload 5, 2) := by decide +kernel
theorem dX7_differ_39 : decode cX7_differ 39 = .ok (.aload_n 0, 1) := by decide +kernel
theorem dX7_differ_40 : decode cX7_differ 40 = .ok (.iload_n 2, 1) := by decide +kernel
theorem dX7_differ_41 : decode cX7_differ 41 = .ok (.iload 4, 2) := by decide +kernel
theorem dX7_differ_43 : decode cX7_differ 43 = .ok (.invokevirtual 114, 3) := by decide +kernel
theorem dX7_differ_46 : decode cX7_differ 46 = .ok (.if_icmp .ne 32, 3) := by decide +kernel
theorem dX7_differ_49 : decode cX7_differ 49 = .ok (.iload 5, 2) := by decide +kernel
theorem dX7_differ_51 : decode cX7_differ 51 = .ok (.iconst 1, 1) := by decide +kernel
theorem dX7_differ_52 : decode cX7_differ 52 = .ok (.if_icmp .ne 22, 3) := by decide +kernel
theorem dX7_differ_55 : decode cX7_differ 55 = .ok (.aload_n 0, 1) := by decide +kernel
theorem dX7_differ_56 : decode cX7_differ 56 = .ok (.iload_n 1, 1) := by decide +kernel
theorem dX7_differ_57 : decode cX7_differ 57 = .ok (.iload 4, 2) := by decide +kernel
theorem dX7_differ_59 : decode cX7_differ 59 = .ok (.iconst 0, 1) := by decide +kernel
theorem dX7_differ_60 : decode cX7_differ 60 = .ok (.invokevirtual 124, 3) := by decide +kernel
theorem dX7_differ_63 : decode cX7_differ 63 = .ok (.aload_n 0, 1) := by decide +kernel
theorem dX7_differ_64 : decode cX7_differ 64 = .ok (.iload_n 2, 1) := by decide +kernel
theorem dX7_differ_65 : decode cX7_differ 65 = .ok (.iload 4, 2) := by decide +kernel
theorem dX7_differ_67 : decode cX7_differ 67 = .ok (.iconst 0, 1) := by decide +kernel
theorem dX7_differ_68 : decode cX7_differ 68 = .ok (.invokevirtual 124, 3) := by decide +kernel
theorem dX7_differ_71 : decode cX7_differ 71 = .ok (.if_icmp .ne 7, 3) := by decide +kernel
theorem dX7_differ_74 : decode cX7_differ 74 = .ok (.iconst 1, 1) := by decide +kernel
theorem dX7_differ_75 : decode cX7_differ 75 = .ok (.goto 4, 3) := by decide +kernel
theorem dX7_differ_78 : decode cX7_differ 78 = .ok (.iconst 0, 1) := by decide +kernel
theorem dX7_differ_79 : decode cX7_differ 79 = .ok (.istore 6, 2) := by decide +kernel
theorem dX7_differ_81 : decode cX7_differ 81 = .ok (.iload_n 3, 1) := by decide +kernel
theorem dX7_differ_82 : decode cX7_differ 82 = .ok (.iload 6, 2) := by decide +kernel
theorem dX7_differ_84 : decode cX7_differ 84 = .ok (.ifCond .eq 7, 3) := by decide +kernel
theorem dX7_differ_87 : decode cX7_differ 87 = .ok (.iconst 0, 1) := by decide +kernel
theorem dX7_differ_88 : decode cX7_differ 88 = .ok (.goto 7, 3) := by decide +kernel
theorem dX7_differ_91 : decode cX7_differ 91 = .ok (.iconst 1, 1) := by decide +kernel
theorem dX7_differ_92 : decode cX7_differ 92 = .ok (.iload 4, 2) := by decide +kernel
theorem dX7_differ_94 : decode cX7_differ 94 = .ok (.ishl, 1) := by decide +kernel
theorem dX7_differ_95 : decode cX7_differ 95 = .ok (.ior, 1) := by decide +kernel
theorem dX7_differ_96 : decode cX7_differ 96 = .ok (.istore_n 3, 1) := by decide +kernel
theorem dX7_differ_97 : decode cX7_differ 97 = .ok (.iinc 4 1, 3) := by decide +kernel
theorem dX7_differ_100 : decode cX7_differ 100 = .ok (.goto (-79), 3) := by decide +kernel
theorem dX7_differ_103 : decode cX7_differ 103 = .ok (.iload_n 3, 1) := by decide +kernel
theorem dX7_differ_104 : decode cX7_differ 104 = .ok (.ireturn, 1) := by decide +kernel
theorem dX7_enoughFor_0 : decode cX7_enoughFor 0 = .ok (.iload_n 1, 1) := by decide +kernel
theorem dX7_enoughFor_1 : decode cX7_enoughFor 1 = .ok (.invokestatic 50, 3) := by decide +kernel
theorem dX7_enoughFor_4 : decode cX7_enoughFor 4 = .ok (.ifCond .ne 5, 3) := by decide +kernel
theorem dX7_enoughFor_7 : decode cX7_enoughFor 7 = .ok (.iconst (-1), 1) := by decide +kernel
theorem dX7_enoughFor_8 : decode cX7_enoughFor 8 = .ok (.ireturn, 1) := by decide +kernel
theorem dX7_enoughFor_9 : decode cX7_enoughFor 9 = .ok (.iconst 1, 1) := by decide +kernel
theorem dX7_enoughFor_10 : decode cX7_enoughFor 10 = .ok (.istore_n 2, 1) := by decide +kernel
theorem dX7_enoughFor_11 : decode cX7_enoughFor 11 = .ok (.iload_n 2, 1) := by decide +kernel
theorem dX7_enoughFor_12 : decode cX7_enoughFor 12 = .ok (.bipush 10, 2) := by decide +kernel
theorem dX7_enoughFor_14 : decode cX7_enoughFor 14 = .ok (.if_icmp .ge 32, 3) := by decide +kernel
theorem dX7_enoughFor_17 : decode cX7_enoughFor 17 = .ok (.aload_n 0, 1) := by decide +kernel
theorem dX7_enoughFor_18 : decode cX7_enoughFor 18 = .ok (.iload_n 2, 1) := by decide +kernel
theorem dX7_enoughFor_19 : decode cX7_enoughFor 19 = .ok (.invokevirtual 82, 3) := by decide +kernel
theorem dX7_enoughFor_22 : decode cX7_enoughFor 22 = .ok (.pop, 1) := by decide +kernel
theorem dX7_enoughFor_23 : decode cX7_enoughFor 23 = .ok (.aload_n 0, 1) := by decide +kernel
theorem dX7_enoughFor_24 : decode cX7_enoughFor 24 = .ok (.getfield 29, 3) := by decide +kernel
theorem dX7_enoughFor_27 : decode cX7_enoughFor 27 = .ok (.iload_n 1, 1) := by decide +kernel
theorem dX7_enoughFor_28 : decode cX7_enoughFor 28 = .ok (.iaload, 1) := by decide +kernel
theorem dX7_enoughFor_29 : decode cX7_enoughFor 29 = .ok (.aload_n 0, 1) := by decide +kernel
theorem dX7_enoughFor_30 : decode cX7_enoughFor 30 = .ok (.getfield 7, 3) := by decide +kernel
theorem dX7_enoughFor_33 : decode cX7_enoughFor 33 = .ok (.iconst 0, 1) := by decide +kernel
theorem dX7_enoughFor_34 : decode cX7_enoughFor 34 = .ok (.iaload, 1) := by decide +kernel
theorem dX7_enoughFor_35 : decode cX7_enoughFor 35 = .ok (.if_icmp .lt 5, 3) := by decide +kernel
theorem dX7_enoughFor_38 : decode cX7_enoughFor 38 = .ok (.iload_n 2, 1) := by decide +kernel
theorem dX7_enoughFor_39 : decode cX7_enoughFor 39 = .ok (.ireturn, 1) := by decide +kernel
theorem dX7_enoughFor_40 : decode cX7_enoughFor 40 = .ok (.iinc 2 1, 3) := by decide +kernel
theorem dX7_enoughFor_43 : decode cX7_enoughFor 43 = .ok (.goto (-32), 3) := by decide +kernel
theorem dX7_enoughFor_46 : decode cX7_enoughFor 46 = .ok (.bipush (-6), 2) := by decide +kernel
theorem dX7_enoughFor_48 : decode cX7_enoughFor 48 = .ok (.ireturn, 1) := by decide +kernel
theorem dX7_keep_0 : decode cX7_keep 0 = .ok (.iconst 0, 1) := by decide +kernel
theorem dX7_keep_1 : decode cX7_keep 1 = .ok (.istore_n 1, 1) := by decide +kernel
theorem dX7_keep_2 : decode cX7_keep 2 = .ok (.iload_n 1, 1) := by decide +kernel
theorem dX7_keep_3 : decode cX7_keep 3 = .ok (.sipush 470, 3) := by decide +kernel
theorem dX7_keep_6 : decode cX7_keep 6 = .ok (.if_icmp .ge 21, 3) := by decide +kernel
theorem dX7_keep_9 : decode cX7_keep 9 = .ok (.aload_n 0, 1) := by decide +kernel
theorem dX7_keep_10 : decode cX7_keep 10 = .ok (.getfield 13, 3) := by decide +kernel
theorem dX7_keep_13 : decode cX7_keep 13 = .ok (.iload_n 1, 1) := by decide +kernel
theorem dX7_keep_14 : decode cX7_keep 14 = .ok (.aload_n 0, 1) := by decide +kernel
theorem dX7_keep_15 : decode cX7_keep 15 = .ok (.getfield 7, 3) := by decide +kernel
theorem dX7_keep_18 : decode cX7_keep 18 = .ok (.iload_n 1, 1) := by decide +kernel
theorem dX7_keep_19 : decode cX7_keep 19 = .ok (.iaload, 1) := by decide +kernel
theorem dX7_keep_20 : decode cX7_keep 20 = .ok (.iastore, 1) := by decide +kernel
theorem dX7_keep_21 : decode cX7_keep 21 = .ok (.iinc 1 1, 3) := by decide +kernel
theorem dX7_keep_24 : decode cX7_keep 24 = .ok (.goto (-22), 3) := by decide +kernel
theorem dX7_keep_27 : decode cX7_keep 27 = .ok (.return_, 1) := by decide +kernel
theorem dX7_comeBack_0 : decode cX7_comeBack 0 = .ok (.iconst 0, 1) := by decide +kernel
theorem dX7_comeBack_1 : decode cX7_comeBack 1 = .ok (.istore_n 1, 1) := by decide +kernel
theorem dX7_comeBack_2 : decode cX7_comeBack 2 = .ok (.iload_n 1, 1) := by decide +kernel
theorem dX7_comeBack_3 : decode cX7_comeBack 3 = .ok (.sipush 470, 3) := by decide +kernel
theorem dX7_comeBack_6 : decode cX7_comeBack 6 = .ok (.if_icmp .ge 21, 3) := by decide +kernel
theorem dX7_comeBack_9 : decode cX7_comeBack 9 = .ok (.aload_n 0, 1) := by decide +kernel
theorem dX7_comeBack_10 : decode cX7_comeBack 10 = .ok (.getfield 7, 3) := by decide +kernel
theorem dX7_comeBack_13 : decode cX7_comeBack 13 = .ok (.iload_n 1, 1) := by decide +kernel
theorem dX7_comeBack_14 : decode cX7_comeBack 14 = .ok (.aload_n 0, 1) := by decide +kernel
theorem dX7_comeBack_15 : decode cX7_comeBack 15 = .ok (.getfield 13, 3) := by decide +kernel
theorem dX7_comeBack_18 : decode cX7_comeBack 18 = .ok (.iload_n 1, 1) := by decide +kernel
theorem dX7_comeBack_19 : decode cX7_comeBack 19 = .ok (.iaload, 1) := by decide +kernel
theorem dX7_comeBack_20 : decode cX7_comeBack 20 = .ok (.iastore, 1) := by decide +kernel
theorem dX7_comeBack_21 : decode cX7_comeBack 21 = .ok (.iinc 1 1, 3) := by decide +kernel
theorem dX7_comeBack_24 : decode cX7_comeBack 24 = .ok (.goto (-22), 3) := by decide +kernel
theorem dX7_comeBack_27 : decode cX7_comeBack 27 = .ok (.return_, 1) := by decide +kernel
theorem dX7_isEmptyInStack_0 : decode cX7_isEmptyInStack 0 = .ok (.iconst 1, 1) := by decide +kernel
theorem dX7_isEmptyInStack_1 : decode cX7_isEmptyInStack 1 = .ok (.istore_n 2, 1) := by decide +kernel
theorem dX7_isEmptyInStack_2 : decode cX7_isEmptyInStack 2 = .ok (.aload_n 0, 1) := by decide +kernel
theorem dX7_isEmptyInStack_3 : decode cX7_isEmptyInStack 3 = .ok (.getfield 7, 3) := by decide +kernel
theorem dX7_isEmptyInStack_6 : decode cX7_isEmptyInStack 6 = .ok (.iconst 2, 1) := by decide +kernel
theorem dX7_isEmptyInStack_7 : decode cX7_isEmptyInStack 7 = .ok (.iaload, 1) := by decide +kernel
theorem dX7_isEmptyInStack_8 : decode cX7_isEmptyInStack 8 = .ok (.istore_n 3, 1) := by decide +kernel
theorem dX7_isEmptyInStack_9 : decode cX7_isEmptyInStack 9 = .ok (.iload_n 3, 1) := by decide +kernel
theorem dX7_isEmptyInStack_10 : decode cX7_isEmptyInStack 10 = .ok (.aload_n 0, 1) := by decide +kernel
theorem dX7_isEmptyInStack_11 : decode cX7_isEmptyInStack 11 = .ok (.getfield 7, 3) := by decide +kernel
theorem dX7_isEmptyInStack_14 : decode cX7_isEmptyInStack 14 = .ok (.iconst 3, 1) := by decide +kernel
theorem dX7_isEmptyInStack_15 : decode cX7_isEmptyInStack 15 = .ok (.iaload, 1) := by decide +kernel
theorem dX7_isEmptyInStack_16 : decode cX7_isEmptyInStack 16 = .ok (.if_icmp .gt 28, 3) := by decide +kernel
theorem dX7_isEmptyInStack_19 : decode cX7_isEmptyInStack 19 = .ok (.iload_n 2, 1) := by decide +kernel
theorem dX7_isEmptyInStack_20 : decode cX7_isEmptyInStack 20 = .ok (.ifCond .eq 16, 3) := by decide +kernel
theorem dX7_isEmptyInStack_23 : decode cX7_isEmptyInStack 23 = .ok (.aload_n 0, 1) := by decide +kernel
theorem dX7_isEmptyInStack_24 : decode cX7_isEmptyInStack 24 = .ok (.iload_n 3, 1) := by decide +kernel
theorem dX7_isEmptyInStack_25 : decode cX7_isEmptyInStack 25 = .ok (.iload_n 1, 1) := by decide +kernel
theorem dX7_isEmptyInStack_26 : decode cX7_isEmptyInStack 26 = .ok (.invokevirtual 108, 3) := by decide +kernel
theorem dX7_isEmptyInStack_29 : decode cX7_isEmptyInStack 29 = .ok (.ifCond .ge 7, 3) := by decide +kernel
theorem dX7_isEmptyInStack_32 : decode cX7_isEmptyInStack 32 = .ok (.iconst 1, 1) := by decide +kernel
theorem dX7_isEmptyInStack_33 : decode cX7_isEmptyInStack 33 = .ok (.goto 4, 3) := by decide +kernel
theorem dX7_isEmptyInStack_36 : decode cX7_isEmptyInStack 36 = .ok (.iconst 0, 1) := by decide +kernel
theorem dX7_isEmptyInStack_37 : decode cX7_isEmptyInStack 37 = .ok (.istore_n 2, 1) := by decide +kernel
theorem dX7_isEmptyInStack_38 : decode cX7_isEmptyInStack 38 = .ok (.iinc 3 1, 3) := by decide +kernel
theorem dX7_isEmptyInStack_41 : decode cX7_isEmptyInStack 41 = .ok (.goto (-32), 3) := by decide +kernel
theorem dX7_isEmptyInStack_44 : decode cX7_isEmptyInStack 44 = .ok (.iload_n 2, 1) := by decide +kernel
theorem dX7_isEmptyInStack_45 : decode cX7_isEmptyInStack 45 = .ok (.ireturn, 1) := by decide +kernel
theorem dX7_strikeFor_0 : decode cX7_strikeFor 0 = .ok (.iload_n 1, 1) := by decide +kernel
theorem dX7_strikeFor_1 : decode cX7_strikeFor 1 = .ok (.invokestatic 75, 3) := by decide +kernel
theorem dX7_strikeFor_4 : decode cX7_strikeFor 4 = .ok (.ifCond .ne 5, 3) := by decide +kernel
theorem dX7_strikeFor_7 : decode cX7_strikeFor 7 = .ok (.iconst (-1), 1) := by decide +kernel
theorem dX7_strikeFor_8 : decode cX7_strikeFor 8 = .ok (.ireturn, 1) := by decide +kernel
theorem dX7_strikeFor_9 : decode cX7_strikeFor 9 = .ok (.aload_n 0, 1) := by decide +kernel
theorem dX7_strikeFor_10 : decode cX7_strikeFor 10 = .ok (.invokevirtual 78, 3) := by decide +kernel
theorem dX7_strikeFor_13 : decode cX7_strikeFor 13 = .ok (.ifCond .ne 6, 3) := by decide +kernel
theorem dX7_strikeFor_16 : decode cX7_strikeFor 16 = .ok (.bipush (-6), 2) := by decide +kernel
theorem dX7_strikeFor_18 : decode cX7_strikeFor 18 = .ok (.ireturn, 1) := by decide +kernel
theorem dX7_strikeFor_19 : decode cX7_strikeFor 19 = .ok (.aload_n 0, 1) := by decide +kernel
theorem dX7_strikeFor_20 : decode cX7_strikeFor 20 = .ok (.invokevirtual 159, 3) := by decide +kernel
theorem dX7_strikeFor_23 : decode cX7_strikeFor 23 = .ok (.iconst 1, 1) := by decide +kernel
theorem dX7_strikeFor_24 : decode cX7_strikeFor 24 = .ok (.istore_n 2, 1) := by decide +kernel
theorem dX7_strikeFor_25 : decode cX7_strikeFor 25 = .ok (.iload_n 2, 1) := by decide +kernel
theorem dX7_strikeFor_26 : decode cX7_strikeFor 26 = .ok (.bipush 10, 2) := by decide +kernel
theorem dX7_strikeFor_28 : decode cX7_strikeFor 28 = .ok (.if_icmp .ge 32, 3) := by decide +kernel
theorem dX7_strikeFor_31 : decode cX7_strikeFor 31 = .ok (.aload_n 0, 1) := by decide +kernel
theorem dX7_strikeFor_32 : decode cX7_strikeFor 32 = .ok (.iload_n 1, 1) := by decide +kernel
theorem dX7_strikeFor_33 : decode cX7_strikeFor 33 = .ok (.iload_n 2, 1) := by decide +kernel
theorem dX7_strikeFor_34 : decode cX7_strikeFor 34 = .ok (.invokevirtual 102, 3) := by decide +kernel
theorem dX7_strikeFor_37 : decode cX7_strikeFor 37 = .ok (.pop, 1) := by decide +kernel
theorem dX7_strikeFor_38 : decode cX7_strikeFor 38 = .ok (.aload_n 0, 1) := by decide +kernel
theorem dX7_strikeFor_39 : decode cX7_strikeFor 39 = .ok (.iload_n 1, 1) := by decide +kernel
theorem dX7_strikeFor_40 : decode cX7_strikeFor 40 = .ok (.invokevirtual 162, 3) := by decide +kernel
theorem dX7_strikeFor_43 : decode cX7_strikeFor 43 = .ok (.istore_n 3, 1) := by decide +kernel
theorem dX7_strikeFor_44 : decode cX7_strikeFor 44 = .ok (.aload_n 0, 1) := by decide +kernel
theorem dX7_strikeFor_45 : decode cX7_strikeFor 45 = .ok (.invokevirtual 165, 3) := by decide +kernel
theorem dX7_strikeFor_48 : decode cX7_strikeFor 48 = .ok (.iload_n 3, 1) := by decide +kernel
theorem dX7_strikeFor_49 : decode cX7_strikeFor 49 = .ok (.ifCond .eq 5, 3) := by decide +kernel
theorem dX7_strikeFor_52 : decode cX7_strikeFor 52 = .ok (.iload_n 2, 1) := by decide +kernel
theorem dX7_strikeFor_53 : decode cX7_strikeFor 53 = .ok (.ireturn, 1) := by decide +kernel
theorem dX7_strikeFor_54 : decode cX7_strikeFor 54 = .ok (.iinc 2 1, 3) := by decide +kernel
theorem dX7_strikeFor_57 : decode cX7_strikeFor 57 = .ok (.goto (-32), 3) := by decide +kernel
theorem dX7_strikeFor_60 : decode cX7_strikeFor 60 = .ok (.bipush (-6), 2) := by decide +kernel
theorem dX7_strikeFor_62 : decode cX7_strikeFor 62 = .ok (.ireturn, 1) := by decide +kernel
theorem dX7_lasts_0 : decode cX7_lasts 0 = .ok (.iload_n 1, 1) := by decide +kernel
theorem dX7_lasts_1 : decode cX7_lasts 1 = .ok (.iconst 1, 1) := by decide +kernel
theorem dX7_lasts_2 : decode cX7_lasts 2 = .ok (.bipush 9, 2) := by decide +kernel
theorem dX7_lasts_4 : decode cX7_lasts 4 = .ok (.invokestatic 43, 3) := by decide +kernel
theorem dX7_lasts_7 : decode cX7_lasts 7 = .ok (.ifCond .ne 6, 3) := by decide +kernel
theorem dX7_lasts_10 : decode cX7_lasts 10 = .ok (.bipush (-2), 2) := by decide +kernel
theorem dX7_lasts_12 : decode cX7_lasts 12 = .ok (.ireturn, 1) := by decide +kernel
theorem dX7_lasts_13 : decode cX7_lasts 13 = .ok (.aload_n 0, 1) := by decide +kernel
theorem dX7_lasts_14 : decode cX7_lasts 14 = .ok (.invokevirtual 78, 3) := by decide +kernel
theorem dX7_lasts_17 : decode cX7_lasts 17 = .ok (.ifCond .ne 6, 3) := by decide +kernel
theorem dX7_lasts_20 : decode cX7_lasts 20 = .ok (.bipush (-5), 2) := by decide +kernel
theorem dX7_lasts_22 : decode cX7_lasts 22 = .ok (.ireturn, 1) := by decide +kernel
theorem dX7_lasts_23 : decode cX7_lasts 23 = .ok (.sipush 1000, 3) := by decide +kernel
theorem dX7_lasts_26 : decode cX7_lasts 26 = .ok (.istore_n 2, 1) := by decide +kernel
theorem dX7_lasts_27 : decode cX7_lasts 27 = .ok (.iload_n 1, 1) := by decide +kernel
theorem dX7_lasts_28 : decode cX7_lasts 28 = .ok (.istore_n 3, 1) := by decide +kernel
theorem dX7_lasts_29 : decode cX7_lasts 29 = .ok (.aload_n 0, 1) := by decide +kernel
theorem dX7_lasts_30 : decode cX7_lasts 30 = .ok (.getfield 7, 3) := by decide +kernel
theorem dX7_lasts_33 : decode cX7_lasts 33 = .ok (.iconst 2, 1) := by decide +kernel
theorem dX7_lasts_34 : decode cX7_lasts 34 = .ok (.iaload, 1) := by decide +kernel
theorem dX7_lasts_35 : decode cX7_lasts 35 = .ok (.istore 4, 2) := by decide +kernel
theorem dX7_lasts_37 : decode cX7_lasts 37 = .ok (.iload 4, 2) := by decide +kernel
theorem dX7_lasts_39 : decode cX7_lasts 39 = .ok (.aload_n 0, 1) := by decide +kernel
theorem dX7_lasts_40 : decode cX7_lasts 40 = .ok (.getfield 7, 3) := by decide +kernel
theorem dX7_lasts_43 : decode cX7_lasts 43 = .ok (.iconst 3, 1) := by decide +kernel
theorem dX7_lasts_44 : decode cX7_lasts 44 = .ok (.iaload, 1) := by decide +kernel
theorem dX7_lasts_45 : decode cX7_lasts 45 = .ok (.if_icmp .ge 60, 3) := by decide +kernel
theorem dX7_lasts_48 : decode cX7_lasts 48 = .ok (.iload_n 3, 1) := by decide +kernel
theorem dX7_lasts_49 : decode cX7_lasts 49 = .ok (.aload_n 0, 1) := by decide +kernel
theorem dX7_lasts_50 : decode cX7_lasts 50 = .ok (.getfield 7, 3) := by decide +kernel
theorem dX7_lasts_53 : decode cX7_lasts 53 = .ok (.iconst 4, 1) := by decide +kernel
theorem dX7_lasts_54 : decode cX7_lasts 54 = .ok (.iload 4, 2) := by decide +kernel
theorem dX7_lasts_56 : decode cX7_lasts 56 = .ok (.iadd, 1) := by decide +kernel
theorem dX7_lasts_57 : decode cX7_lasts 57 = .ok (.iaload, 1) := by decide +kernel
theorem dX7_lasts_58 : decode cX7_lasts 58 = .ok (.isub, 1) := by decide +kernel
theorem dX7_lasts_59 : decode cX7_lasts 59 = .ok (.istore_n 3, 1) := by decide +kernel
theorem dX7_lasts_60 : decode cX7_lasts 60 = .ok (.aload_n 0, 1) := by decide +kernel
theorem dX7_lasts_61 : decode cX7_lasts 61 = .ok (.getfield 7, 3) := by decide +kernel
theorem dX7_lasts_64 : decode cX7_lasts 64 = .ok (.bipush 9, 2) := by decide +kernel
theorem dX7_lasts_66 : decode cX7_lasts 66 = .ok (.iload 4, 2) := by decide +kernel
theorem dX7_lasts_68 : decode cX7_lasts 68 = .ok (.iadd, 1) := by decide +kernel
theorem dX7_lasts_69 : decode cX7_lasts 69 = .ok (.iaload, 1) := by decide +kernel
theorem dX7_lasts_70 : decode cX7_lasts 70 = .ok (.iload_n 2, 1) := by decide +kernel
theorem dX7_lasts_71 : decode cX7_lasts 71 = .ok (.if_icmp .ge 16, 3) := by decide +kernel
theorem dX7_lasts_74 : decode cX7_lasts 74 = .ok (.aload_n 0, 1) := by decide +kernel
theorem dX7_lasts_75 : decode cX7_lasts 75 = .ok (.getfield 7, 3) := by decide +kernel
theorem dX7_lasts_78 : decode cX7_lasts 78 = .ok (.bipush 9, 2) := by decide +kernel
theorem dX7_lasts_80 : decode cX7_lasts 80 = .ok (.iload 4, 2) := by decide +kernel
theorem dX7_lasts_82 : decode cX7_lasts 82 = .ok (.iadd, 1) := by decide +kernel
theorem dX7_lasts_83 : decode cX7_lasts 83 = .ok (.iaload, 1) := by decide +kernel
theorem dX7_lasts_84 : decode cX7_lasts 84 = .ok (.goto 4, 3) := by decide +kernel
theorem dX7_lasts_87 : decode cX7_lasts 87 = .ok (.iload_n 2, 1) := by decide +kernel
theorem dX7_lasts_88 : decode cX7_lasts 88 = .ok (.istore_n 2, 1) := by decide +kernel
theorem dX7_lasts_89 : decode cX7_lasts 89 = .ok (.iload_n 3, 1) := by decide +kernel
theorem dX7_lasts_90 : decode cX7_lasts 90 = .ok (.ifCond .gt 7, 3) := by decide +kernel
theorem dX7_lasts_93 : decode cX7_lasts 93 = .ok (.iconst 0, 1) := by decide +kernel
theorem dX7_lasts_94 : decode cX7_lasts 94 = .ok (.goto 4, 3) := by decide +kernel
theorem dX7_lasts_97 : decode cX7_lasts 97 = .ok (.iload_n 2, 1) := by decide +kernel
theorem dX7_lasts_98 : decode cX7_lasts 98 = .ok (.istore_n 2, 1) := by decide +kernel
theorem dX7_lasts_99 : decode cX7_lasts 99 = .ok (.iinc 4 1, 3) := by decide +kernel
theorem dX7_lasts_102 : decode cX7_lasts 102 = .ok (.goto (-65), 3) := by decide +kernel
theorem dX7_lasts_105 : decode cX7_lasts 105 = .ok (.iload_n 2, 1) := by decide +kernel
theorem dX7_lasts_106 : decode cX7_lasts 106 = .ok (.ireturn, 1) := by decide +kernel
theorem dX7_ifWritten_0 : decode cX7_ifWritten 0 = .ok (.aload_n 0, 1) := by decide +kernel
theorem dX7_ifWritten_1 : decode cX7_ifWritten 1 = .ok (.iload_n 1, 1) := by decide +kernel
theorem dX7_ifWritten_2 : decode cX7_ifWritten 2 = .ok (.iload_n 2, 1) := by decide +kernel
theorem dX7_ifWritten_3 : decode cX7_ifWritten 3 = .ok (.iload_n 3, 1) := by decide +kernel
theorem dX7_ifWritten_4 : decode cX7_ifWritten 4 = .ok (.invokevirtual 93, 3) := by decide +kernel
theorem dX7_ifWritten_7 : decode cX7_ifWritten 7 = .ok (.istore 4, 2) := by decide +kernel
theorem dX7_ifWritten_9 : decode cX7_ifWritten 9 = .ok (.iload 4, 2) := by decide +kernel
theorem dX7_ifWritten_11 : decode cX7_ifWritten 11 = .ok (.ifCond .ge 6, 3) := by decide +kernel
theorem dX7_ifWritten_14 : decode cX7_ifWritten 14 = .ok (.iload 4, 2) := by decide +kernel
theorem dX7_ifWritten_16 : decode cX7_ifWritten 16 = .ok (.ireturn, 1) := by decide +kernel
theorem dX7_ifWritten_17 : decode cX7_ifWritten 17 = .ok (.aload_n 0, 1) := by decide +kernel
theorem dX7_ifWritten_18 : decode cX7_ifWritten 18 = .ok (.invokevirtual 159, 3) := by decide +kernel
theorem dX7_ifWritten_21 : decode cX7_ifWritten 21 = .ok (.aload_n 0, 1) := by decide +kernel
theorem dX7_ifWritten_22 : decode cX7_ifWritten 22 = .ok (.iload_n 1, 1) := by decide +kernel
theorem dX7_ifWritten_23 : decode cX7_ifWritten 23 = .ok (.iload_n 2, 1) := by decide +kernel
theorem dX7_ifWritten_24 : decode cX7_ifWritten 24 = .ok (.iload_n 3, 1) := by decide +kernel
theorem dX7_ifWritten_25 : decode cX7_ifWritten 25 = .ok (.invokevirtual 96, 3) := by decide +kernel
theorem dX7_ifWritten_28 : decode cX7_ifWritten 28 = .ok (.pop, 1) := by decide +kernel
theorem dX7_ifWritten_29 : decode cX7_ifWritten 29 = .ok (.aload_n 0, 1) := by decide +kernel
theorem dX7_ifWritten_30 : decode cX7_ifWritten 30 = .ok (.iload_n 1, 1) := by decide +kernel
theorem dX7_ifWritten_31 : decode cX7_ifWritten 31 = .ok (.invokevirtual 145, 3) := by decide +kernel
theorem dX7_ifWritten_34 : decode cX7_ifWritten 34 = .ok (.aload_n 0, 1) := by decide +kernel
theorem dX7_ifWritten_35 : decode cX7_ifWritten 35 = .ok (.invokevirtual 165, 3) := by decide +kernel
theorem dX7_ifWritten_38 : decode cX7_ifWritten 38 = .ok (.aload_n 0, 1) := by decide +kernel
theorem dX7_ifWritten_39 : decode cX7_ifWritten 39 = .ok (.getfield 127, 3) := by decide +kernel
theorem dX7_ifWritten_42 : decode cX7_ifWritten 42 = .ok (.iconst 1, 1) := by decide +kernel
theorem dX7_ifWritten_43 : decode cX7_ifWritten 43 = .ok (.if_icmp .ne 10, 3) := by decide +kernel
theorem dX7_ifWritten_46 : decode cX7_ifWritten 46 = .ok (.aload_n 0, 1) := by decide +kernel
theorem dX7_ifWritten_47 : decode cX7_ifWritten 47 = .ok (.getfield 130, 3) := by decide +kernel
theorem dX7_ifWritten_50 : decode cX7_ifWritten 50 = .ok (.goto 5, 3) := by decide +kernel
theorem dX7_ifWritten_53 : decode cX7_ifWritten 53 = .ok (.bipush (-6), 2) := by decide +kernel
theorem dX7_ifWritten_55 : decode cX7_ifWritten 55 = .ok (.ireturn, 1) := by decide +kernel
theorem dX7_sign_0 : decode cX7_sign 0 = .ok (.aload_n 0, 1) := by decide +kernel
theorem dX7_sign_1 : decode cX7_sign 1 = .ok (.getfield 168, 3) := by decide +kernel
theorem dX7_sign_4 : decode cX7_sign 4 = .ok (.aload_n 0, 1) := by decide +kernel
theorem dX7_sign_5 : decode cX7_sign 5 = .ok (.getfield 156, 3) := by decide +kernel
theorem dX7_sign_8 : decode cX7_sign 8 = .ok (.if_icmp .ge 15, 3) := by decide +kernel
theorem dX7_sign_11 : decode cX7_sign 11 = .ok (.aload_n 0, 1) := by decide +kernel
theorem dX7_sign_12 : decode cX7_sign 12 = .ok (.getfield 26, 3) := by decide +kernel
theorem dX7_sign_15 : decode cX7_sign 15 = .ok (.aload_n 0, 1) := by decide +kernel
theorem dX7_sign_16 : decode cX7_sign 16 = .ok (.getfield 168, 3) := by decide +kernel
theorem dX7_sign_19 : decode cX7_sign 19 = .ok (.iaload, 1) := by decide +kernel
theorem dX7_sign_20 : decode cX7_sign 20 = .ok (.goto 4, 3) := by decide +kernel
theorem dX7_sign_23 : decode cX7_sign 23 = .ok (.iconst 0, 1) := by decide +kernel
theorem dX7_sign_24 : decode cX7_sign 24 = .ok (.ireturn, 1) := by decide +kernel
theorem dX7_one_0 : decode cX7_one 0 = .ok (.aload_n 0, 1) := by decide +kernel
theorem dX7_one_1 : decode cX7_one 1 = .ok (.invokevirtual 171, 3) := by decide +kernel
theorem dX7_one_4 : decode cX7_one 4 = .ok (.bipush 48, 2) := by decide +kernel
theorem dX7_one_6 : decode cX7_one 6 = .ok (.isub, 1) := by decide +kernel
theorem dX7_one_7 : decode cX7_one 7 = .ok (.istore_n 3, 1) := by decide +kernel
theorem dX7_one_8 : decode cX7_one 8 = .ok (.aload_n 0, 1) := by decide +kernel
theorem dX7_one_9 : decode cX7_one 9 = .ok (.aload_n 0, 1) := by decide +kernel
theorem dX7_one_10 : decode cX7_one 10 = .ok (.getfield 174, 3) := by decide +kernel
theorem dX7_one_13 : decode cX7_one 13 = .ok (.ifCond .ne 12, 3) := by decide +kernel
theorem dX7_one_16 : decode cX7_one 16 = .ok (.iload_n 3, 1) := by decide +kernel
theorem dX7_one_17 : decode cX7_one 17 = .ok (.iload_n 1, 1) := by decide +kernel
theorem dX7_one_18 : decode cX7_one 18 = .ok (.iload_n 2, 1) := by decide +kernel
theorem dX7_one_19 : decode cX7_one 19 = .ok (.invokestatic 43, 3) := by decide +kernel
theorem dX7_one_22 : decode cX7_one 22 = .ok (.ifCond .ne 7, 3) := by decide +kernel
theorem dX7_one_25 : decode cX7_one 25 = .ok (.iconst 1, 1) := by decide +kernel
theorem dX7_one_26 : decode cX7_one 26 = .ok (.goto 4, 3) := by decide +kernel
theorem dX7_one_29 : decode cX7_one 29 = .ok (.iconst 0, 1) := by decide +kernel
theorem dX7_one_30 : decode cX7_one 30 = .ok (.putfield 174, 3) := by decide +kernel
theorem dX7_one_33 : decode cX7_one 33 = .ok (.aload_n 0, 1) := by decide +kernel
theorem dX7_one_34 : decode cX7_one 34 = .ok (.dup, 1) := by decide +kernel
theorem dX7_one_35 : decode cX7_one 35 = .ok (.getfield 168, 3) := by decide +kernel
theorem dX7_one_38 : decode cX7_one 38 = .ok (.aload_n 0, 1) := by decide +kernel
theorem dX7_one_39 : decode cX7_one 39 = .ok (.getfield 174, 3) := by decide +kernel
theorem dX7_one_42 : decode cX7_one 42 = .ok (.ifCond .eq 7, 3) := by decide +kernel
theorem dX7_one_45 : decode cX7_one 45 = .ok (.iconst 0, 1) := by decide +kernel
theorem dX7_one_46 : decode cX7_one 46 = .ok (.goto 4, 3) := by decide +kernel
theorem dX7_one_49 : decode cX7_one 49 = .ok (.iconst 1, 1) := by decide +kernel
theorem dX7_one_50 : decode cX7_one 50 = .ok (.iadd, 1) := by decide +kernel
theorem dX7_one_51 : decode cX7_one 51 = .ok (.putfield 168, 3) := by decide +kernel
theorem dX7_one_54 : decode cX7_one 54 = .ok (.iload_n 3, 1) := by decide +kernel
theorem dX7_one_55 : decode cX7_one 55 = .ok (.ireturn, 1) := by decide +kernel
theorem dX7_between_0 : decode cX7_between 0 = .ok (.aload_n 0, 1) := by decide +kernel
theorem dX7_between_1 : decode cX7_between 1 = .ok (.aload_n 0, 1) := by decide +kernel
theorem dX7_between_2 : decode cX7_between 2 = .ok (.getfield 174, 3) := by decide +kernel
theorem dX7_between_5 : decode cX7_between 5 = .ok (.ifCond .ne 11, 3) := by decide +kernel
theorem dX7_between_8 : decode cX7_between 8 = .ok (.aload_n 0, 1) := by decide +kernel
theorem dX7_between_9 : decode cX7_between 9 = .ok (.invokevirtual 171, 3) := by decide +kernel
theorem dX7_between_12 : decode cX7_between 12 = .ok (.iload_n 1, 1) := by decide +kernel
theorem dX7_between_13 : decode cX7_between 13 = .ok (.if_icmp .eq 7, 3) := by decide +kernel
theorem dX7_between_16 : decode cX7_between 16 = .ok (.iconst 1, 1) := by decide +kernel
theorem dX7_between_17 : decode cX7_between 17 = .ok (.goto 4, 3) := by decide +kernel
theorem dX7_between_20 : decode cX7_between 20 = .ok (.iconst 0, 1) := by decide +kernel
theorem dX7_between_21 : decode cX7_between 21 = .ok (.putfield 174, 3) := by decide +kernel
theorem dX7_between_24 : decode cX7_between 24 = .ok (.aload_n 0, 1) := by decide +kernel
theorem dX7_between_25 : decode cX7_between 25 = .ok (.dup, 1) := by decide +kernel
theorem dX7_between_26 : decode cX7_between 26 = .ok (.getfield 168, 3) := by decide +kernel
theorem dX7_between_29 : decode cX7_between 29 = .ok (.aload_n 0, 1) := by decide +kernel
theorem dX7_between_30 : decode cX7_between 30 = .ok (.getfield 174, 3) := by decide +kernel
theorem dX7_between_33 : decode cX7_between 33 = .ok (.ifCond .eq 7, 3) := by decide +kernel
theorem dX7_between_36 : decode cX7_between 36 = .ok (.iconst 0, 1) := by decide +kernel
theorem dX7_between_37 : decode cX7_between 37 = .ok (.goto 4, 3) := by decide +kernel
theorem dX7_between_40 : decode cX7_between 40 = .ok (.iconst 1, 1) := by decide +kernel
theorem dX7_between_41 : decode cX7_between 41 = .ok (.iadd, 1) := by decide +kernel
theorem dX7_between_42 : decode cX7_between 42 = .ok (.putfield 168, 3) := by decide +kernel
theorem dX7_between_45 : decode cX7_between 45 = .ok (.return_, 1) := by decide +kernel
theorem dX7_number_0 : decode cX7_number 0 = .ok (.aload_n 0, 1) := by decide +kernel
theorem dX7_number_1 : decode cX7_number 1 = .ok (.iconst 0, 1) := by decide +kernel
theorem dX7_number_2 : decode cX7_number 2 = .ok (.bipush 9, 2) := by decide +kernel
theorem dX7_number_4 : decode cX7_number 4 = .ok (.invokevirtual 177, 3) := by decide +kernel
theorem dX7_number_7 : decode cX7_number 7 = .ok (.istore_n 1, 1) := by decide +kernel
theorem dX7_number_8 : decode cX7_number 8 = .ok (.aload_n 0, 1) := by decide +kernel
theorem dX7_number_9 : decode cX7_number 9 = .ok (.getfield 174, 3) := by decide +kernel
theorem dX7_number_12 : decode cX7_number 12 = .ok (.ifCond .ne 65, 3) := by decide +kernel
theorem dX7_number_15 : decode cX7_number 15 = .ok (.iload_n 1, 1) := by decide +kernel
theorem dX7_number_16 : decode cX7_number 16 = .ok (.ifCond .le 61, 3) := by decide +kernel
theorem dX7_number_19 : decode cX7_number 19 = .ok (.aload_n 0, 1) := by decide +kernel
theorem dX7_number_20 : decode cX7_number 20 = .ok (.invokevirtual 171, 3) := by decide +kernel
theorem dX7_number_23 : decode cX7_number 23 = .ok (.bipush 48, 2) := by decide +kernel
theorem dX7_number_25 : decode cX7_number 25 = .ok (.bipush 57, 2) := by decide +kernel
theorem dX7_number_27 : decode cX7_number 27 = .ok (.invokestatic 43, 3) := by decide +kernel
theorem dX7_number_30 : decode cX7_number 30 = .ok (.ifCond .eq 47, 3) := by decide +kernel
theorem dX7_number_33 : decode cX7_number 33 = .ok (.bipush 10, 2) := by decide +kernel
theorem dX7_number_35 : decode cX7_number 35 = .ok (.iload_n 1, 1) := by decide +kernel
theorem dX7_number_36 : decode cX7_number 36 = .ok (.imul, 1) := by decide +kernel
theorem dX7_number_37 : decode cX7_number 37 = .ok (.aload_n 0, 1) := by decide +kernel
theorem dX7_number_38 : decode cX7_number 38 = .ok (.invokevirtual 171, 3) := by decide +kernel
theorem dX7_number_41 : decode cX7_number 41 = .ok (.iadd, 1) := by decide +kernel
theorem dX7_number_42 : decode cX7_number 42 = .ok (.bipush 48, 2) := by decide +kernel
theorem dX7_number_44 : decode cX7_number 44 = .ok (.isub, 1) := by decide +kernel
theorem dX7_number_45 : decode cX7_number 45 = .ok (.sipush 999, 3) := by decide +kernel
theorem dX7_number_48 : decode cX7_number 48 = .ok (.if_icmp .gt 29, 3) := by decide +kernel
theorem dX7_number_51 : decode cX7_number 51 = .ok (.bipush 10, 2) := by decide +kernel
theorem dX7_number_53 : decode cX7_number 53 = .ok (.iload_n 1, 1) := by decide +kernel
theorem dX7_number_54 : decode cX7_number 54 = .ok (.imul, 1) := by decide +kernel
theorem dX7_number_55 : decode cX7_number 55 = .ok (.aload_n 0, 1) := by decide +kernel
theorem dX7_number_56 : decode cX7_number 56 = .ok (.invokevirtual 171, 3) := by decide +kernel
theorem dX7_number_59 : decode cX7_number 59 = .ok (.iadd, 1) := by decide +kernel
theorem dX7_number_60 : decode cX7_number 60 = .ok (.bipush 48, 2) := by decide +kernel
theorem dX7_number_62 : decode cX7_number 62 = .ok (.isub, 1) := by decide +kernel
theorem dX7_number_63 : decode cX7_number 63 = .ok (.istore_n 1, 1) := by decide +kernel
theorem dX7_number_64 : decode cX7_number 64 = .ok (.aload_n 0, 1) := by decide +kernel
theorem dX7_number_65 : decode cX7_number 65 = .ok (.dup, 1) := by decide +kernel
theorem dX7_number_66 : decode cX7_number 66 = .ok (.getfield 168, 3) := by decide +kernel
theorem dX7_number_69 : decode cX7_number 69 = .ok (.iconst 1, 1) := by decide +kernel
theorem dX7_number_70 : decode cX7_number 70 = .ok (.iadd, 1) := by decide +kernel
theorem dX7_number_71 : decode cX7_number 71 = .ok (.putfield 168, 3) := by decide +kernel
theorem dX7_number_74 : decode cX7_number 74 = .ok (.goto (-66), 3) := by decide +kernel
theorem dX7_number_77 : decode cX7_number 77 = .ok (.iload_n 1, 1) := by decide +kernel
theorem dX7_number_78 : decode cX7_number 78 = .ok (.ireturn, 1) := by decide +kernel
theorem dX7_readOne_0 : decode cX7_readOne 0 = .ok (.iconst 4, 1) := by decide +kernel
theorem dX7_readOne_1 : decode cX7_readOne 1 = .ok (.aload_n 0, 1) := by decide +kernel
theorem dX7_readOne_2 : decode cX7_readOne 2 = .ok (.getfield 180, 3) := by decide +kernel
theorem dX7_readOne_5 : decode cX7_readOne 5 = .ok (.imul, 1) := by decide +kernel
theorem dX7_readOne_6 : decode cX7_readOne 6 = .ok (.istore_n 1, 1) := by decide +kernel
theorem dX7_readOne_7 : decode cX7_readOne 7 = .ok (.aload_n 0, 1) := by decide +kernel
theorem dX7_readOne_8 : decode cX7_readOne 8 = .ok (.invokevirtual 171, 3) := by decide +kernel
theorem dX7_readOne_11 : decode cX7_readOne 11 = .ok (.istore_n 2, 1) := by decide +kernel
theorem dX7_readOne_12 : decode cX7_readOne 12 = .ok (.aload_n 0, 1) := by decide +kernel
theorem dX7_readOne_13 : decode cX7_readOne 13 = .ok (.getfield 32, 3) := by decide +kernel
theorem dX7_readOne_16 : decode cX7_readOne 16 = .ok (.iload_n 1, 1) := by decide +kernel
theorem dX7_readOne_17 : decode cX7_readOne 17 = .ok (.iload_n 2, 1) := by decide +kernel
theorem dX7_readOne_18 : decode cX7_readOne 18 = .ok (.iastore, 1) := by decide +kernel
theorem dX7_readOne_19 : decode cX7_readOne 19 = .ok (.aload_n 0, 1) := by decide +kernel
theorem dX7_readOne_20 : decode cX7_readOne 20 = .ok (.iload_n 2, 1) := by decide +kernel
theorem dX7_readOne_21 : decode cX7_readOne 21 = .ok (.bipush 119, 2) := by decide +kernel
theorem dX7_readOne_23 : decode cX7_readOne 23 = .ok (.if_icmp .eq 25, 3) := by decide +kernel
theorem dX7_readOne_26 : decode cX7_readOne 26 = .ok (.iload_n 2, 1) := by decide +kernel
theorem dX7_readOne_27 : decode cX7_readOne 27 = .ok (.bipush 115, 2) := by decide +kernel
theorem dX7_readOne_29 : decode cX7_readOne 29 = .ok (.if_icmp .eq 19, 3) := by decide +kernel
theorem dX7_readOne_32 : decode cX7_readOne 32 = .ok (.iload_n 2, 1) := by decide +kernel
theorem dX7_readOne_33 : decode cX7_readOne 33 = .ok (.bipush 116, 2) := by decide +kernel
theorem dX7_readOne_35 : decode cX7_readOne 35 = .ok (.if_icmp .eq 13, 3) := by decide +kernel
theorem dX7_readOne_38 : decode cX7_readOne 38 = .ok (.iload_n 2, 1) := by decide +kernel
theorem dX7_readOne_39 : decode cX7_readOne 39 = .ok (.bipush 98, 2) := by decide +kernel
theorem dX7_readOne_41 : decode cX7_readOne 41 = .ok (.if_icmp .eq 7, 3) := by decide +kernel
theorem dX7_readOne_44 : decode cX7_readOne 44 = .ok (.iconst 1, 1) := by decide +kernel
theorem dX7_readOne_45 : decode cX7_readOne 45 = .ok (.goto 4, 3) := by decide +kernel
theorem dX7_readOne_48 : decode cX7_readOne 48 = .ok (.iconst 0, 1) := by decide +kernel
theorem dX7_readOne_49 : decode cX7_readOne 49 = .ok (.putfield 174, 3) := by decide +kernel
theorem dX7_readOne_52 : decode cX7_readOne 52 = .ok (.aload_n 0, 1) := by decide +kernel
theorem dX7_readOne_53 : decode cX7_readOne 53 = .ok (.getfield 174, 3) := by decide +kernel
theorem dX7_readOne_56 : decode cX7_readOne 56 = .ok (.ifCond .eq 4, 3) := by decide +kernel
theorem dX7_readOne_59 : decode cX7_readOne 59 = .ok (.return_, 1) := by decide +kernel
theorem dX7_readOne_60 : decode cX7_readOne 60 = .ok (.aload_n 0, 1) := by decide +kernel
theorem dX7_readOne_61 : decode cX7_readOne 61 = .ok (.dup, 1) := by decide +kernel
theorem dX7_readOne_62 : decode cX7_readOne 62 = .ok (.getfield 168, 3) := by decide +kernel
theorem dX7_readOne_65 : decode cX7_readOne 65 = .ok (.iconst 1, 1) := by decide +kernel
theorem dX7_readOne_66 : decode cX7_readOne 66 = .ok (.iadd, 1) := by decide +kernel
theorem dX7_readOne_67 : decode cX7_readOne 67 = .ok (.putfield 168, 3) := by decide +kernel
theorem dX7_readOne_70 : decode cX7_readOne 70 = .ok (.iload_n 2, 1) := by decide +kernel
theorem dX7_readOne_71 : decode cX7_readOne 71 = .ok (.bipush 119, 2) := by decide +kernel
theorem dX7_readOne_73 : decode cX7_readOne 73 = .ok (.if_icmp .eq 9, 3) := by decide +kernel
theorem dX7_readOne_76 : decode cX7_readOne 76 = .ok (.iload_n 2, 1) := by decide +kernel
theorem dX7_readOne_77 : decode cX7_readOne 77 = .ok (.bipush 115, 2) := by decide +kernel
theorem dX7_readOne_79 : decode cX7_readOne 79 = .ok (.if_icmp .ne 85, 3) := by decide +kernel
theorem dX7_readOne_82 : decode cX7_readOne 82 = .ok (.aload_n 0, 1) := by decide +kernel
theorem dX7_readOne_83 : decode cX7_readOne 83 = .ok (.getfield 32, 3) := by decide +kernel
theorem dX7_readOne_86 : decode cX7_readOne 86 = .ok (.iload_n 1, 1) := by decide +kernel
theorem dX7_readOne_87 : decode cX7_readOne 87 = .ok (.iconst 1, 1) := by decide +kernel
theorem dX7_readOne_88 : decode cX7_readOne 88 = .ok (.iadd, 1) := by decide +kernel
theorem dX7_readOne_89 : decode cX7_readOne 89 = .ok (.aload_n 0, 1) := by decide +kernel
theorem dX7_readOne_90 : decode cX7_readOne 90 = .ok (.iconst 0, 1) := by decide +kernel
theorem dX7_readOne_91 : decode cX7_readOne 91 = .ok (.bipush 9, 2) := by decide +kernel
theorem dX7_readOne_93 : decode cX7_readOne 93 = .ok (.invokevirtual 177, 3) := by decide +kernel
theorem dX7_readOne_96 : decode cX7_readOne 96 = .ok (.iastore, 1) := by decide +kernel
theorem dX7_readOne_97 : decode cX7_readOne 97 = .ok (.iload_n 2, 1) := by decide +kernel
theorem dX7_readOne_98 : decode cX7_readOne 98 = .ok (.bipush 119, 2) := by decide +kernel
theorem dX7_readOne_100 : decode cX7_readOne 100 = .ok (.if_icmp .ne 32, 3) := by decide +kernel
theorem dX7_readOne_103 : decode cX7_readOne 103 = .ok (.aload_n 0, 1) := by decide +kernel
theorem dX7_readOne_104 : decode cX7_readOne 104 = .ok (.bipush 61, 2) := by decide +kernel
theorem dX7_readOne_106 : decode cX7_readOne 106 = .ok (.invokevirtual 183, 3) := by decide +kernel
theorem dX7_readOne_109 : decode cX7_readOne 109 = .ok (.aload_n 0, 1) := by decide +kernel
theorem dX7_readOne_110 : decode cX7_readOne 110 = .ok (.getfield 32, 3) := by decide +kernel
theorem dX7_readOne_113 : decode cX7_readOne 113 = .ok (.iload_n 1, 1) := by decide +kernel
theorem dX7_readOne_114 : decode cX7_readOne 114 = .ok (.iconst 2, 1) := by decide +kernel
theorem dX7_readOne_115 : decode cX7_readOne 115 = .ok (.iadd, 1) := by decide +kernel
theorem dX7_readOne_116 : decode cX7_readOne 116 = .ok (.aload_n 0, 1) := by decide +kernel
theorem dX7_readOne_117 : decode cX7_readOne 117 = .ok (.getfield 174, 3) := by decide +kernel
theorem dX7_readOne_120 : decode cX7_readOne 120 = .ok (.ifCond .eq 7, 3) := by decide +kernel
theorem dX7_readOne_123 : decode cX7_readOne 123 = .ok (.iconst 0, 1) := by decide +kernel
theorem dX7_readOne_124 : decode cX7_readOne 124 = .ok (.goto 7, 3) := by decide +kernel
theorem dX7_readOne_127 : decode cX7_readOne 127 = .ok (.aload_n 0, 1) := by decide +kernel
theorem dX7_readOne_128 : decode cX7_readOne 128 = .ok (.invokevirtual 186, 3) := by decide +kernel
theorem dX7_readOne_131 : decode cX7_readOne 131 = .ok (.iastore, 1) := by decide +kernel
theorem dX7_readOne_132 : decode cX7_readOne 132 = .ok (.aload_n 0, 1) := by decide +kernel
theorem dX7_readOne_133 : decode cX7_readOne 133 = .ok (.bipush 33, 2) := by decide +kernel
theorem dX7_readOne_135 : decode cX7_readOne 135 = .ok (.invokevirtual 183, 3) := by decide +kernel
theorem dX7_readOne_138 : decode cX7_readOne 138 = .ok (.aload_n 0, 1) := by decide +kernel
theorem dX7_readOne_139 : decode cX7_readOne 139 = .ok (.getfield 32, 3) := by decide +kernel
theorem dX7_readOne_142 : decode cX7_readOne 142 = .ok (.iload_n 1, 1) := by decide +kernel
theorem dX7_readOne_143 : decode cX7_readOne 143 = .ok (.iconst 3, 1) := by decide +kernel
theorem dX7_readOne_144 : decode cX7_readOne 144 = .ok (.iadd, 1) := by decide +kernel
theorem dX7_readOne_145 : decode cX7_readOne 145 = .ok (.aload_n 0, 1) := by decide +kernel
theorem dX7_readOne_146 : decode cX7_readOne 146 = .ok (.getfield 174, 3) := by decide +kernel
theorem dX7_readOne_149 : decode cX7_readOne 149 = .ok (.ifCond .eq 7, 3) := by decide +kernel
theorem dX7_readOne_152 : decode cX7_readOne 152 = .ok (.iconst 0, 1) := by decide +kernel
theorem dX7_readOne_153 : decode cX7_readOne 153 = .ok (.goto 10, 3) := by decide +kernel
theorem dX7_readOne_156 : decode cX7_readOne 156 = .ok (.aload_n 0, 1) := by decide +kernel
theorem dX7_readOne_157 : decode cX7_readOne 157 = .ok (.iconst 1, 1) := by decide +kernel
theorem dX7_readOne_158 : decode cX7_readOne 158 = .ok (.bipush 9, 2) := by decide +kernel
theorem dX7_readOne_160 : decode cX7_readOne 160 = .ok (.invokevirtual 177, 3) := by decide +kernel
theorem dX7_readOne_163 : decode cX7_readOne 163 = .ok (.iastore, 1) := by decide +kernel
end
section
/-! The judgement G: the machine at a place of a method, over ONE world of cells: a shape (which cell is what), addresses, and numbers X cell place. -/
def TB : List Cond := lw_tbl.filter goodWord
theorem tb_in {w : Cond} (h : w ∈ lw_tbl) (hg : goodWord w = true) : w ∈ TB := List.mem_filter.mpr ⟨h, hg⟩
theorem tb_good : ∀ w ∈ TB, goodWord w = true := fun _ h => (List.mem_filter.mp h).2
abbrev gE : Type := (Nat × List (Option (Option Nat))) ⊕ (Nat × Nat × List Nat)
abbrev gS : Type := Nat × (Nat → gE) × (Nat → Nat)
abbrev gX : Type := Nat → Nat → Int32
abbrev gL : Type := va_G × (Nat → ClassId)
abbrev gF : Type := Program × Launch × Env × Room × State × MethodId × Array Value × List Frame × Method × Code × gL × (Nat → Prop) × (State → Prop)
abbrev gCl : List vw_C := [(RX0, TX0, 3), (RX1, TX1, 5), (RX2, TX2, 2), (RX3, TX3, 5), (RX4, TX4, 5), (RX5, TX5, 8), (RX6, TX6, 8), (RX7, TX7, 19)]
def gfv (S : gS) (X : gX) (id k : Nat) : Option (Option Nat) → Value
  | none => .int (X id k)
  | some none => .null
  | some (some r) => .ref (S.2.2 r)
def gcell (Γ : gL) (S : gS) (X : gX) (id : Nat) : gE → va_E
  | .inl (ci, fs) => .inr (ci, (List.range fs.length).map (fun k => gfv S X id k ((fs[k]?).getD none)))
  | .inr (t, n, l) => .inl (Γ.2 t, n, if t < 3 then .inl (X id) else .inr (.inr (.inr (.inr (fun j => (l[j]?).map S.2.2)))))
def gws (Γ : gL) (S : gS) (X : gX) : va_W := (List.range S.1).map (fun id => (S.2.2 id, gcell Γ S X id (S.2.1 id)))
def gty (Γ : gL) : List (ClassId × FieldType) := [(Γ.2 0, .int), (Γ.2 1, .char), (Γ.2 2, .boolean), (Γ.2 3, .object RX4), (Γ.2 4, .object RX3)]
/-- the cell id is of this shape -/
def gat (S : gS) (id : Nat) (e : gE) : Prop := id < S.1 ∧ S.2.1 id = e
def grefs : gE → List Nat
  | .inl (_, fs) => fs.filterMap (fun o => match o with | some (some r) => some r | _ => none)
  | .inr (_, _, l) => l
/-- every reference that the world holds is a cell of it -/
def gcl (S : gS) : Prop := ∀ id, id < S.1 → ∀ r ∈ grefs (S.2.1 id), r < S.1
/-- the links between nest mates, by the tables -/
def NW : List (String × Nat × MethodName × String) := [(RX4, 31, yX3_init, RX6), (RX6, 21, yX5_init, RX6), (RX6, 43, yX2_init, RX6), (RX6, 50, yX1_init, RX6), (RX4, 55, yX6_isField, RX6), (RX4, 58, yX6_isValue, RX6), (RX4, 61, yX6_isPressure, RX6), (RX2, 21, yX6_isWithin, RX6), (RX1, 50, yX6_isPressure, RX6)]
def gK (Γ : gL) (U : State) : Prop := va_K Γ.1 gCl (gty Γ) U ∧ (va_AO RX3 U ∧ va_AO RX4 U) ∧ ∀ q ∈ NW, va_Nw (.methodLinkNest q.1 q.2.1 q.2.2.1 q.2.2.2) U
theorem gK.moved {Γ : gL} {u U : State} (hW : u.WarmedH U.vm) (h : gK Γ u) : gK Γ U := ⟨va_K.moved hW.alike h.1, ⟨va_AO.moved hW.alike h.2.1.1, va_AO.moved hW.alike h.2.1.2⟩, fun q hq => va_Nw.warmM hW (h.2.2 q hq)⟩
theorem gK.same {Γ : gL} {u U : State} (hv : u.vm = U.vm) (h : gK Γ u) : gK Γ U := by
  have ha : u.vm.Alike U.vm := by rw [hv]; exact Vm.Alike.refl _
  exact ⟨va_K.moved ha h.1, ⟨va_AO.moved ha h.2.1.1, va_AO.moved ha h.2.1.2⟩, fun q hq => va_Nw.same rfl hv (h.2.2 q hq)⟩
def cv (S : gS) : Value → Value
  | .ref r => .ref (S.2.2 r)
  | v => v
theorem cv_cat (S : gS) (v : Value) : (cv S v).category = v.category := by cases v <;> rfl
def gLoc (S : gS) (L : Array Slot) (nL : Nat) (ls : List Value) : Prop := L.size = nL ∧ lv_wf L ∧ ∀ (i : Nat) (v : Value), ls[i]? = some v → v ≠ .null → L[i]? = some (.val (cv S v))
def G (F : gF) (S : gS) (K : Nat × Nat) (X : gX) (pc : Nat) (ls st : List Value) : Prop := match F with
  | (p, l, e, R, s, m, args, below, meth, c, Γ, A, Q) => ∀ (H : Heap) (locs : List Loc) (L : Array Slot), gLoc S L c.maxLocals ls → gcl S → va_P Γ.1 gCl (gws Γ S X) H → va_D A (gws Γ S X) → va_S A s.heap H locs → W p l e R s m args below meth c H locs K.1 K.2 Q (F0 m pc L (st.map (cv S)))
def Cx (F : gF) (own : String) (cc : ByteArray) (nL : Nat) (rm : Room) : Prop := match F with
  | (p, _, _, R, s, m, args, _, meth, c, Γ, A, _) => p.tables.exec = Jvm.exec ∧ c.code = cc ∧ c.maxLocals = nL ∧ s.vm.findClass own = some m.cls ∧ (∀ w ∈ TB, w.before args s = true) ∧ meth.locks = false ∧ R = rm ∧ gK Γ s ∧ ∀ q : Nat, s.heap.size ≤ q → A q
def gQ (Γ : gL) (A : Nat → Prop) (post : gS → Option Value → gX → Prop) : Array Value → State → Outcome → State → Prop := fun _ st o t =>
  (∃ (S' : gS) (r : Option Value) (X' : gX), o = .returned (r.map (cv S')) ∧ post S' r X' ∧ gcl S' ∧ va_P Γ.1 gCl (gws Γ S' X') t.heap ∧ va_D A (gws Γ S' X')) ∧ va_F A st t
def Rt (F : gF) (rt : Option FieldType) (mc ms : Nat) (post : gS → Option Value → gX → Prop) : Prop := match F with
  | (_, _, _, _, s, _, args, below, meth, _, Γ, A, Q) => meth.sig.returnType = rt ∧ Q = MQ below (gQ Γ A post) args s mc ms A
def gPc (Γ : gL) (A : Nat → Prop) (S : gS) (X : gX) (as : List Value) : Array Value → State → Prop := va_Pc (as.map (cv S)) (fun U => va_P Γ.1 gCl (gws Γ S X) U.heap ∧ gK Γ U ∧ gcl S ∧ va_D A (gws Γ S X) ∧ ∀ q : Nat, U.heap.size ≤ q → A q)
/-- a contract: from every heap that holds the world (S, X), with the arguments as, the method returns, and post holds of the world and the answer behind it -/
def Ct (l : Launch) (S : gS) (y : MethodName) (cc : ByteArray) (nL : Nat) (rt : Option FieldType) (fr lo : Nat) (as : List Value) (X : gX) (mc ms : Nat) (post : gS → Option Value → gX → Prop) : Prop :=
  ∀ (Γ : gL) (A : Nat → Prop), Met l y (.code y cc nL rt :: TB) { frames := fr, cells := mc, slots := ms, locals := lo } (gPc Γ A S X as) (gQ Γ A post) mc ms A
/-- the post of a method that makes nothing and answers an int (or boolean) -/
def pI (S : gS) (post : Int32 → gX → Prop) : gS → Option Value → gX → Prop := fun S' r X' => S' = S ∧ ∃ v, r = some (.int v) ∧ post v X'
def pV (S : gS) (post : gX → Prop) : gS → Option Value → gX → Prop := fun S' r X' => S' = S ∧ r = none ∧ post X'
def zI (b : Bool) : Int32 := if b then 1 else 0
/-! the world's list -/
theorem gws_at {Γ : gL} {S : gS} {X : gX} {id : Nat} {e : gE} (h : gat S id e) : (gws Γ S X)[id]? = some (S.2.2 id, gcell Γ S X id e) := by
  unfold gws
  rw [List.getElem?_map, List.getElem?_range h.1]
  show some (S.2.2 id, gcell Γ S X id (S.2.1 id)) = _
  rw [h.2]
theorem gcell_congr {Γ : gL} {S : gS} {X X' : gX} {id : Nat} (h : X id = X' id) (e : gE) : gcell Γ S X id e = gcell Γ S X' id e := by
  rcases e with ⟨ci, fs⟩ | ⟨t, n, l⟩
  · have : (fun k => gfv S X id k ((fs[k]?).getD none)) = (fun k => gfv S X' id k ((fs[k]?).getD none)) := by
      funext k
      rcases (fs[k]?).getD none with _ | _ | r
      · simp only [gfv, h]
      · rfl
      · rfl
    simp only [gcell, this]
  · simp only [gcell, h]
theorem gws_len {Γ : gL} {S : gS} {X : gX} : (gws Γ S X).length = S.1 := by simp [gws]
theorem gws_set {Γ : gL} {S : gS} {X X' : gX} {id : Nat} {e : gE} (h : gat S id e) (ho : ∀ i, i ≠ id → X' i = X i) : (gws Γ S X).set id (S.2.2 id, gcell Γ S X' id e) = gws Γ S X' := by
  apply List.ext_getElem?
  intro i
  by_cases hi : i = id
  · subst hi
    rw [List.getElem?_set_self (by rw [gws_len]; exact h.1), gws_at h]
  · rw [List.getElem?_set_ne (Ne.symm hi)]
    by_cases hil : i < S.1
    · rw [gws_at ⟨hil, rfl⟩, gws_at ⟨hil, rfl⟩, gcell_congr (ho i hi).symm]
    · rw [List.getElem?_eq_none (by rw [gws_len]; omega), List.getElem?_eq_none (by rw [gws_len]; omega)]
theorem gcell_i {Γ : gL} {S : gS} {X : gX} {id t n : Nat} {l : List Nat} (ht : t < 3) : gcell Γ S X id (.inr (t, n, l)) = .inl (Γ.2 t, n, .inl (X id)) := by simp [gcell, ht]
theorem gcell_q {Γ : gL} {S : gS} {X : gX} {id t n : Nat} {l : List Nat} (ht : ¬ t < 3) : gcell Γ S X id (.inr (t, n, l)) = .inl (Γ.2 t, n, .inr (.inr (.inr (.inr (fun j => (l[j]?).map S.2.2))))) := by simp [gcell, ht]
def gu (X : gX) (id j : Nat) (x : Int32) : gX := fun i => if i = id then upd (X id) j x else X i
theorem gu_self {X : gX} {id j : Nat} {x : Int32} : gu X id j x id = upd (X id) j x := by simp [gu]
theorem gu_ne {X : gX} {id j : Nat} {x : Int32} : ∀ i, i ≠ id → gu X id j x i = X i := fun i h => by simp [gu, h]
theorem gu_at {X : gX} {id j : Nat} {x : Int32} : gu X id j x id j = x := by simp [gu, upd]
theorem gu_other {X : gX} {id j i k : Nat} {x : Int32} (h : ¬ (i = id ∧ k = j)) : gu X id j x i k = X i k := by
  by_cases hi : i = id
  · subst hi
    have hk : k ≠ j := fun e => h ⟨rfl, e⟩
    simp [gu, upd, hk]
  · simp [gu, hi]
/-! locals -/
def gent : List Value → List Value
  | [] => []
  | v :: vs => if v.category = 2 then v :: .null :: gent vs else v :: gent vs
theorem gent_in (S : gS) : ∀ (vs : List Value) (b i : Nat) (v : Value), (gent vs)[i]? = some v → v ≠ .null → (b + i, cv S v) ∈ lv_args b (vs.map (cv S)) := by
  intro vs
  induction vs with
  | nil => intro b i v h; simp [gent] at h
  | cons a vs ih =>
    intro b i v h hv
    simp only [List.map_cons, lv_args, cv_cat]
    by_cases hc : a.category = 2
    · simp only [gent, hc, if_true] at h ⊢
      match i, h with
      | 0, h => simp at h; subst h; exact List.mem_cons_self
      | 1, h => simp at h; exact absurd h.symm hv
      | i + 2, h =>
        simp at h
        have := ih (b + 2) i v h hv
        rw [show b + 2 + i = b + (i + 2) by omega] at this
        exact List.mem_cons_of_mem _ this
    · simp only [gent, hc, if_false] at h ⊢
      match i, h with
      | 0, h => simp at h; subst h; exact List.mem_cons_self
      | i + 1, h =>
        simp at h
        have := ih (b + 1) i v h hv
        rw [show b + 1 + i = b + (i + 1) by omega] at this
        exact List.mem_cons_of_mem _ this
theorem gent_len (S : gS) : ∀ (vs : List Value), (lg_sl (vs.map (cv S))).length = (gent vs).length := by
  intro vs
  induction vs with
  | nil => rfl
  | cons a vs ih =>
    have e : lg_sl ((a :: vs).map (cv S)) = (if a.category = 2 then [.val (cv S a), .second] else [.val (cv S a)]) ++ lg_sl (vs.map (cv S)) := by
      simp [lg_sl, cv_cat]
    rw [e, List.length_append, ih]
    by_cases hc : a.category = 2
    · simp [gent, hc]; omega
    · simp [gent, hc]; omega
theorem gLoc_entry {S : gS} {as ls : List Value} {nL k : Nat} (h0 : gent as ++ List.replicate k .null = ls) (hk : (gent as).length ≤ nL) :
    gLoc S ((lg_sl (as.map (cv S)) ++ List.replicate (nL - (lg_sl (as.map (cv S))).length) Slot.unset).toArray) nL ls := by
  have h := lv_entry (as.map (cv S)) (n := nL) (by rw [gent_len]; exact hk)
  refine ⟨h.1, h.2.1, fun i v hi hv => ?_⟩
  subst h0
  by_cases hl : i < (gent as).length
  · rw [List.getElem?_append_left hl] at hi
    have := gent_in S as 0 i v hi hv
    rw [Nat.zero_add] at this
    exact h.2.2 _ this
  · rw [List.getElem?_append_right (by omega)] at hi
    have := List.mem_of_getElem? hi
    exact absurd (List.eq_of_mem_replicate this) hv
def gass (S : gS) (ls : List Value) : List (Nat × Value) := (List.range ls.length).filterMap (fun i => match ls[i]? with | none => none | some Value.null => none | some v => some (i, cv S v))
theorem gass_mem {S : gS} {ls : List Value} {i : Nat} {v : Value} (h : ls[i]? = some v) (hv : v ≠ .null) : (i, cv S v) ∈ gass S ls := by
  have hl : i < ls.length := (List.getElem?_eq_some_iff.mp h).1
  refine List.mem_filterMap.mpr ⟨i, List.mem_range.mpr hl, ?_⟩
  rw [h]
  cases v with
  | null => exact absurd rfl hv
  | _ => rfl
theorem gass_has {S : gS} {L : Array Slot} {nL : Nat} {ls : List Value} (h : gLoc S L nL ls) : lv_has L nL (gass S ls) := by
  refine ⟨h.1, h.2.1, fun q hq => ?_⟩
  obtain ⟨i, -, hi⟩ := List.mem_filterMap.mp hq
  cases hv : ls[i]? with
  | none => rw [hv] at hi; cases hi
  | some v =>
    rw [hv] at hi
    have hn : v ≠ .null := by intro e; subst e; cases hi
    have : q = (i, cv S v) := by
      cases v with
      | null => exact absurd rfl hn
      | _ => exact (Option.some.inj hi).symm
    subst this
    exact h.2.2 i v hv hn
/-- what a store of one slot leaves -/
theorem gLoc_st1 {S : gS} {L' : Array Slot} {nL i : Nat} {ls : List Value} {v : Value} (h : lv_has L' nL ((i, cv S v) :: (gass S ls).filter (fun q => !(q.1 == i) && !(q.1 + 1 == i && q.2.category == 2)))) (hc : ∀ w, ls[i - 1]? = some w → 0 < i → w.category = 1) : gLoc S L' nL (ls.set i v) := by
  refine ⟨h.1, h.2.1, fun j w hj hw => ?_⟩
  by_cases hji : j = i
  · subst hji
    rw [List.getElem?_set] at hj
    split at hj
    · split at hj
      · cases hj; exact h.2.2 _ List.mem_cons_self
      · cases hj
    · exact absurd rfl ‹_›
  · rw [List.getElem?_set_ne (Ne.symm hji)] at hj
    refine h.2.2 (j, cv S w) (List.mem_cons_of_mem _ (List.mem_filter.mpr ⟨gass_mem hj hw, ?_⟩))
    by_cases hji1 : j + 1 = i
    · have h1 := hc w (by rw [← hji1]; simpa using hj) (by omega)
      simp [cv_cat, h1, hji]
    · simp [hji, hji1]
theorem gLoc_st2 {S : gS} {L' : Array Slot} {nL i : Nat} {ls : List Value} {v : Value} (h : lv_has L' nL ((i, cv S v) :: (gass S ls).filter (fun q => !(q.1 == i) && (!(q.1 == i + 1) && !(q.1 + 1 == i && q.2.category == 2))))) (hc : ∀ w, ls[i - 1]? = some w → 0 < i → w.category = 1) : gLoc S L' nL ((ls.set i v).set (i + 1) .null) := by
  refine ⟨h.1, h.2.1, fun j w hj hw => ?_⟩
  by_cases hj2 : j = i + 1
  · subst hj2
    rw [List.getElem?_set] at hj
    split at hj
    · split at hj
      · cases hj; exact absurd rfl hw
      · cases hj
    · exact absurd rfl ‹_›
  · rw [List.getElem?_set_ne (Ne.symm hj2)] at hj
    by_cases hji : j = i
    · subst hji
      rw [List.getElem?_set] at hj
      split at hj
      · split at hj
        · cases hj; exact h.2.2 _ List.mem_cons_self
        · cases hj
      · exact absurd rfl ‹_›
    · rw [List.getElem?_set_ne (Ne.symm hji)] at hj
      refine h.2.2 (j, cv S w) (List.mem_cons_of_mem _ (List.mem_filter.mpr ⟨gass_mem hj hw, ?_⟩))
      by_cases hji1 : j + 1 = i
      · have h1 := hc w (by rw [← hji1]; simpa using hj) (by omega)
        simp [cv_cat, h1, hji, hj2]
      · simp [hji, hji1, hj2]
/-! opening a contract -/
theorem Ct.of {l : Launch} {S : gS} {y : MethodName} {cc : ByteArray} {nL : Nat} {rt : Option FieldType} {fr lo : Nat} {as : List Value} {X : gX} {mc ms : Nat} {post : gS → Option Value → gX → Prop} (ls : List Value) (k : Nat) (hy : plainName y.cls = true) (h0 : gent as ++ List.replicate k .null = ls) (hk : (gent as).length ≤ nL)
    (body : ∀ (F : gF), F.2.1 = l → Cx F y.cls cc nL { frames := fr, cells := mc, slots := ms, locals := lo } → Rt F rt mc ms post → (y.name = "<init>" → F.2.2.2.2.2.2.2.2.1.name = "<init>") → G F S (0, 0) X 0 ls []) : Ct l S y cc nL rt fr lo as X mc ms post := by
  intro Γ A
  refine Met.ofW (cc := cc) (maxL := nL) (ret := rt) hy rfl ?_
  intro p e s m args below meth c s₁ B hml hv
  obtain ⟨rfl, hP, hK, hc0, hD, hA⟩ := hv
  have hts0 := atoms_spec (ws := .code y cc nL rt :: TB) B.pre
  have hown : s.vm.findClass y.cls = some m.cls := findClass_of_methodNamed B.named
  have g := body (p, l, e, { frames := fr, cells := mc, slots := ms, locals := lo }, s, m, (as.map (cv S)).toArray, below, meth, c, Γ, A, MQ below (gQ Γ A post) (as.map (cv S)).toArray s mc ms A) rfl
    ⟨B.exec, B.bytes, hml, hown, fun w hw => hts0 w (List.mem_cons_of_mem _ hw), B.notSynchronized, rfl, hK, hA⟩ ⟨B.returns, rfl⟩ (fun hi => by
      have := (name_of_methodNamed B.named B.method).1
      exact this.trans hi)
  rw [lg_entry_eq]
  refine g s.heap [] _ ?_ hc0 hP hD va_S.rf
  rw [hml]
  exact gLoc_entry h0 hk
section
variable {F : gF} {own : String} {cc : ByteArray} {nL : Nat} {rm : Room} {S : gS} {K : Nat × Nat} {X : gX} {pc pc' : Nat} {ls st : List Value}

theorem g_iconst (hC : Cx F own cc nL rm) {n : Int} {v : Int32} (d : decode cc pc = .ok (.iconst n, 1)) (hv : Int32.ofInt n = v) (hp : pc + 1 = pc') (k : G F S K X pc' ls (.int v :: st)) : G F S K X pc ls (st) := by
  obtain ⟨p, l, e, R, s, m, args, below, meth, c, Γ, A, Q⟩ := F
  obtain ⟨hx, hb, hml, hown, hts, hlk, rfl, hK, hA⟩ := hC
  subst hp
  intro H locs L hL hc0 hP hD hS
  exact lv_iconst hx hb d hv (k H locs L hL hc0 hP hD hS)
theorem g_bipush (hC : Cx F own cc nL rm) {n : Int} {v : Int32} (d : decode cc pc = .ok (.bipush n, 2)) (hv : (Int8.ofInt n).toInt32 = v) (hp : pc + 2 = pc') (k : G F S K X pc' ls (.int v :: st)) : G F S K X pc ls (st) := by
  obtain ⟨p, l, e, R, s, m, args, below, meth, c, Γ, A, Q⟩ := F
  obtain ⟨hx, hb, hml, hown, hts, hlk, rfl, hK, hA⟩ := hC
  subst hp
  intro H locs L hL hc0 hP hD hS
  exact lv_bipush hx hb d hv (k H locs L hL hc0 hP hD hS)
theorem g_sipush (hC : Cx F own cc nL rm) {n : Int} {v : Int32} (d : decode cc pc = .ok (.sipush n, 3)) (hv : (Int16.ofInt n).toInt32 = v) (hp : pc + 3 = pc') (k : G F S K X pc' ls (.int v :: st)) : G F S K X pc ls (st) := by
  obtain ⟨p, l, e, R, s, m, args, below, meth, c, Γ, A, Q⟩ := F
  obtain ⟨hx, hb, hml, hown, hts, hlk, rfl, hK, hA⟩ := hC
  subst hp
  intro H locs L hL hc0 hP hD hS
  exact lv_sipush hx hb d hv (k H locs L hL hc0 hP hD hS)
theorem g_lconst (hC : Cx F own cc nL rm) {n : Fin 2} {v : Int64} (d : decode cc pc = .ok (.lconst n, 1)) (hv : Int64.ofNat (n : Nat) = v) (hp : pc + 1 = pc') (k : G F S K X pc' ls (.long v :: st)) : G F S K X pc ls (st) := by
  obtain ⟨p, l, e, R, s, m, args, below, meth, c, Γ, A, Q⟩ := F
  obtain ⟨hx, hb, hml, hown, hts, hlk, rfl, hK, hA⟩ := hC
  subst hp
  intro H locs L hL hc0 hP hD hS
  exact lv_lconst hx hb d hv (k H locs L hL hc0 hP hD hS)
theorem g_iadd (hC : Cx F own cc nL rm) {x y : Int32} (d : decode cc pc = .ok (.iadd, 1)) (hp : pc + 1 = pc') (k : G F S K X pc' ls (.int (x + y) :: st)) : G F S K X pc ls (.int y :: .int x :: st) := by
  obtain ⟨p, l, e, R, s, m, args, below, meth, c, Γ, A, Q⟩ := F
  obtain ⟨hx, hb, hml, hown, hts, hlk, rfl, hK, hA⟩ := hC
  subst hp
  intro H locs L hL hc0 hP hD hS
  exact lv_iadd hx hb d (k H locs L hL hc0 hP hD hS)
theorem g_isub (hC : Cx F own cc nL rm) {x y : Int32} (d : decode cc pc = .ok (.isub, 1)) (hp : pc + 1 = pc') (k : G F S K X pc' ls (.int (x - y) :: st)) : G F S K X pc ls (.int y :: .int x :: st) := by
  obtain ⟨p, l, e, R, s, m, args, below, meth, c, Γ, A, Q⟩ := F
  obtain ⟨hx, hb, hml, hown, hts, hlk, rfl, hK, hA⟩ := hC
  subst hp
  intro H locs L hL hc0 hP hD hS
  exact lv_isub hx hb d (k H locs L hL hc0 hP hD hS)
theorem g_imul (hC : Cx F own cc nL rm) {x y : Int32} (d : decode cc pc = .ok (.imul, 1)) (hp : pc + 1 = pc') (k : G F S K X pc' ls (.int (x * y) :: st)) : G F S K X pc ls (.int y :: .int x :: st) := by
  obtain ⟨p, l, e, R, s, m, args, below, meth, c, Γ, A, Q⟩ := F
  obtain ⟨hx, hb, hml, hown, hts, hlk, rfl, hK, hA⟩ := hC
  subst hp
  intro H locs L hL hc0 hP hD hS
  exact lv_imul hx hb d (k H locs L hL hc0 hP hD hS)
theorem g_iand (hC : Cx F own cc nL rm) {x y : Int32} (d : decode cc pc = .ok (.iand, 1)) (hp : pc + 1 = pc') (k : G F S K X pc' ls (.int (x &&& y) :: st)) : G F S K X pc ls (.int y :: .int x :: st) := by
  obtain ⟨p, l, e, R, s, m, args, below, meth, c, Γ, A, Q⟩ := F
  obtain ⟨hx, hb, hml, hown, hts, hlk, rfl, hK, hA⟩ := hC
  subst hp
  intro H locs L hL hc0 hP hD hS
  exact lv_iand hx hb d (k H locs L hL hc0 hP hD hS)
theorem g_ior (hC : Cx F own cc nL rm) {x y : Int32} (d : decode cc pc = .ok (.ior, 1)) (hp : pc + 1 = pc') (k : G F S K X pc' ls (.int (x ||| y) :: st)) : G F S K X pc ls (.int y :: .int x :: st) := by
  obtain ⟨p, l, e, R, s, m, args, below, meth, c, Γ, A, Q⟩ := F
  obtain ⟨hx, hb, hml, hown, hts, hlk, rfl, hK, hA⟩ := hC
  subst hp
  intro H locs L hL hc0 hP hD hS
  exact lv_ior hx hb d (k H locs L hL hc0 hP hD hS)
theorem g_ishl (hC : Cx F own cc nL rm) {x y : Int32} (d : decode cc pc = .ok (.ishl, 1)) (hp : pc + 1 = pc') (k : G F S K X pc' ls (.int (x <<< (y &&& 31)) :: st)) : G F S K X pc ls (.int y :: .int x :: st) := by
  obtain ⟨p, l, e, R, s, m, args, below, meth, c, Γ, A, Q⟩ := F
  obtain ⟨hx, hb, hml, hown, hts, hlk, rfl, hK, hA⟩ := hC
  subst hp
  intro H locs L hL hc0 hP hD hS
  exact lv_ishl hx hb d (k H locs L hL hc0 hP hD hS)
theorem g_ishr (hC : Cx F own cc nL rm) {x y : Int32} (d : decode cc pc = .ok (.ishr, 1)) (hp : pc + 1 = pc') (k : G F S K X pc' ls (.int (x >>> (y &&& 31)) :: st)) : G F S K X pc ls (.int y :: .int x :: st) := by
  obtain ⟨p, l, e, R, s, m, args, below, meth, c, Γ, A, Q⟩ := F
  obtain ⟨hx, hb, hml, hown, hts, hlk, rfl, hK, hA⟩ := hC
  subst hp
  intro H locs L hL hc0 hP hD hS
  exact lv_ishr hx hb d (k H locs L hL hc0 hP hD hS)
theorem g_idiv (hC : Cx F own cc nL rm) {x y : Int32} (d : decode cc pc = .ok (.idiv, 1)) (hne : ¬ y = 0) (hp : pc + 1 = pc') (k : G F S K X pc' ls (.int (x / y) :: st)) : G F S K X pc ls (.int y :: .int x :: st) := by
  obtain ⟨p, l, e, R, s, m, args, below, meth, c, Γ, A, Q⟩ := F
  obtain ⟨hx, hb, hml, hown, hts, hlk, rfl, hK, hA⟩ := hC
  subst hp
  intro H locs L hL hc0 hP hD hS
  exact lv_idiv hx hb d hne (k H locs L hL hc0 hP hD hS)
theorem g_irem (hC : Cx F own cc nL rm) {x y : Int32} (d : decode cc pc = .ok (.irem, 1)) (hne : ¬ y = 0) (hp : pc + 1 = pc') (k : G F S K X pc' ls (.int (x - x / y * y) :: st)) : G F S K X pc ls (.int y :: .int x :: st) := by
  obtain ⟨p, l, e, R, s, m, args, below, meth, c, Γ, A, Q⟩ := F
  obtain ⟨hx, hb, hml, hown, hts, hlk, rfl, hK, hA⟩ := hC
  subst hp
  intro H locs L hL hc0 hP hD hS
  exact lv_irem hx hb d hne (k H locs L hL hc0 hP hD hS)
theorem g_land (hC : Cx F own cc nL rm) {x y : Int64} (d : decode cc pc = .ok (.land, 1)) (hp : pc + 1 = pc') (k : G F S K X pc' ls (.long (x &&& y) :: st)) : G F S K X pc ls (.long y :: .long x :: st) := by
  obtain ⟨p, l, e, R, s, m, args, below, meth, c, Γ, A, Q⟩ := F
  obtain ⟨hx, hb, hml, hown, hts, hlk, rfl, hK, hA⟩ := hC
  subst hp
  intro H locs L hL hc0 hP hD hS
  exact lv_land hx hb d (k H locs L hL hc0 hP hD hS)
theorem g_lor (hC : Cx F own cc nL rm) {x y : Int64} (d : decode cc pc = .ok (.lor, 1)) (hp : pc + 1 = pc') (k : G F S K X pc' ls (.long (x ||| y) :: st)) : G F S K X pc ls (.long y :: .long x :: st) := by
  obtain ⟨p, l, e, R, s, m, args, below, meth, c, Γ, A, Q⟩ := F
  obtain ⟨hx, hb, hml, hown, hts, hlk, rfl, hK, hA⟩ := hC
  subst hp
  intro H locs L hL hc0 hP hD hS
  exact lv_lor hx hb d (k H locs L hL hc0 hP hD hS)
theorem g_lshl (hC : Cx F own cc nL rm) {x v : Int64} {y : Int32} (d : decode cc pc = .ok (.lshl, 1)) (hv : x <<< (y.toInt64 &&& 63) = v) (hp : pc + 1 = pc') (k : G F S K X pc' ls (.long v :: st)) : G F S K X pc ls (.int y :: .long x :: st) := by
  obtain ⟨p, l, e, R, s, m, args, below, meth, c, Γ, A, Q⟩ := F
  obtain ⟨hx, hb, hml, hown, hts, hlk, rfl, hK, hA⟩ := hC
  subst hp
  intro H locs L hL hc0 hP hD hS
  exact lv_lshl hx hb d hv (k H locs L hL hc0 hP hD hS)
theorem g_lushr (hC : Cx F own cc nL rm) {x v : Int64} {y : Int32} (d : decode cc pc = .ok (.lushr, 1)) (hv : (x.toUInt64 >>> (y.toInt64.toUInt64 &&& Int64.toUInt64 63)).toInt64 = v) (hp : pc + 1 = pc') (k : G F S K X pc' ls (.long v :: st)) : G F S K X pc ls (.int y :: .long x :: st) := by
  obtain ⟨p, l, e, R, s, m, args, below, meth, c, Γ, A, Q⟩ := F
  obtain ⟨hx, hb, hml, hown, hts, hlk, rfl, hK, hA⟩ := hC
  subst hp
  intro H locs L hL hc0 hP hD hS
  exact lv_lushr hx hb d hv (k H locs L hL hc0 hP hD hS)
theorem g_l2i (hC : Cx F own cc nL rm) {x : Int64} {v : Int32} (d : decode cc pc = .ok (.l2i, 1)) (hv : x.toInt32 = v) (hp : pc + 1 = pc') (k : G F S K X pc' ls (.int v :: st)) : G F S K X pc ls (.long x :: st) := by
  obtain ⟨p, l, e, R, s, m, args, below, meth, c, Γ, A, Q⟩ := F
  obtain ⟨hx, hb, hml, hown, hts, hlk, rfl, hK, hA⟩ := hC
  subst hp
  intro H locs L hL hc0 hP hD hS
  exact lv_l2i hx hb d hv (k H locs L hL hc0 hP hD hS)
theorem g_i2l (hC : Cx F own cc nL rm) {x : Int32} {v : Int64} (d : decode cc pc = .ok (.i2l, 1)) (hv : x.toInt64 = v) (hp : pc + 1 = pc') (k : G F S K X pc' ls (.long v :: st)) : G F S K X pc ls (.int x :: st) := by
  obtain ⟨p, l, e, R, s, m, args, below, meth, c, Γ, A, Q⟩ := F
  obtain ⟨hx, hb, hml, hown, hts, hlk, rfl, hK, hA⟩ := hC
  subst hp
  intro H locs L hL hc0 hP hD hS
  exact lv_i2l hx hb d hv (k H locs L hL hc0 hP hD hS)
theorem g_i2c (hC : Cx F own cc nL rm) {x v : Int32} (d : decode cc pc = .ok (.i2c, 1)) (hv : (x.toUInt32 % 65536).toInt32 = v) (hp : pc + 1 = pc') (k : G F S K X pc' ls (.int v :: st)) : G F S K X pc ls (.int x :: st) := by
  obtain ⟨p, l, e, R, s, m, args, below, meth, c, Γ, A, Q⟩ := F
  obtain ⟨hx, hb, hml, hown, hts, hlk, rfl, hK, hA⟩ := hC
  subst hp
  intro H locs L hL hc0 hP hD hS
  exact lv_i2c hx hb d hv (k H locs L hL hc0 hP hD hS)
theorem g_lcmp (hC : Cx F own cc nL rm) {x y : Int64} (d : decode cc pc = .ok (.lcmp, 1)) (hp : pc + 1 = pc') (k : G F S K X pc' ls (.int (lg_cmp x y) :: st)) : G F S K X pc ls (.long y :: .long x :: st) := by
  obtain ⟨p, l, e, R, s, m, args, below, meth, c, Γ, A, Q⟩ := F
  obtain ⟨hx, hb, hml, hown, hts, hlk, rfl, hK, hA⟩ := hC
  subst hp
  intro H locs L hL hc0 hP hD hS
  exact W.lcmp hx hb d (k H locs L hL hc0 hP hD hS)
theorem g_dup (hC : Cx F own cc nL rm) {v : Value} (d : decode cc pc = .ok (.dup, 1)) (hv : v.category = 1) (hp : pc + 1 = pc') (k : G F S K X pc' ls (v :: v :: st)) : G F S K X pc ls (v :: st) := by
  obtain ⟨p, l, e, R, s, m, args, below, meth, c, Γ, A, Q⟩ := F
  obtain ⟨hx, hb, hml, hown, hts, hlk, rfl, hK, hA⟩ := hC
  subst hp
  intro H locs L hL hc0 hP hD hS
  exact lv_dup hx hb d (by rw [cv_cat]; exact hv) (k H locs L hL hc0 hP hD hS)
theorem g_pop (hC : Cx F own cc nL rm) {v : Value} (d : decode cc pc = .ok (.pop, 1)) (hv : v.category = 1) (hp : pc + 1 = pc') (k : G F S K X pc' ls (st)) : G F S K X pc ls (v :: st) := by
  obtain ⟨p, l, e, R, s, m, args, below, meth, c, Γ, A, Q⟩ := F
  obtain ⟨hx, hb, hml, hown, hts, hlk, rfl, hK, hA⟩ := hC
  subst hp
  intro H locs L hL hc0 hP hD hS
  exact lv_pop hx hb d (by rw [cv_cat]; exact hv) (k H locs L hL hc0 hP hD hS)
theorem g_dup2 (hC : Cx F own cc nL rm) {v u : Value} (d : decode cc pc = .ok (.dup2, 1)) (hv : v.category = 1) (hu : u.category = 1) (hp : pc + 1 = pc') (k : G F S K X pc' ls (v :: u :: v :: u :: st)) : G F S K X pc ls (v :: u :: st) := by
  obtain ⟨p, l, e, R, s, m, args, below, meth, c, Γ, A, Q⟩ := F
  obtain ⟨hx, hb, hml, hown, hts, hlk, rfl, hK, hA⟩ := hC
  subst hp
  intro H locs L hL hc0 hP hD hS
  exact lv_dup2_11 hx hb d (by rw [cv_cat]; exact hv) (by rw [cv_cat]; exact hu) (k H locs L hL hc0 hP hD hS)
theorem g_ldc2 (hC : Cx F own cc nL rm) {i : Nat} {v : Int64} (hw : Cond.constantLong own i v ∈ TB) (d : decode cc pc = .ok (.ldc2_w i, 3)) (hp : pc + 3 = pc') (k : G F S K X pc' ls (.long v :: st)) : G F S K X pc ls st := by
  obtain ⟨p, l, e, R, s, m, args, below, meth, c, Γ, A, Q⟩ := F
  obtain ⟨hx, hb, hml, hown, hts, hlk, rfl, hK, hA⟩ := hC
  subst hp
  intro H locs L hL hc0 hP hD hS
  exact lv_ldc2 hx hb hown (hts _ hw) d (k H locs L hL hc0 hP hD hS)
theorem g_goto (hC : Cx F own cc nL rm) {off : Int} {tgt : Nat} (d : decode cc pc = .ok (.goto off, 3)) (ht : (pc : Int) + off = (tgt : Int)) (k : G F S K X tgt ls st) : G F S K X pc ls st := by
  obtain ⟨p, l, e, R, s, m, args, below, meth, c, Γ, A, Q⟩ := F
  obtain ⟨hx, hb, hml, hown, hts, hlk, rfl, hK, hA⟩ := hC
  intro H locs L hL hc0 hP hD hS
  exact lv_goto hx hb d ht (k H locs L hL hc0 hP hD hS)
theorem g_if_eq (hC : Cx F own cc nL rm) {x : Int32} {off : Int} {tgt : Nat} (d : decode cc pc = .ok (.ifCond .eq off, 3)) (ht : (pc : Int) + off = (tgt : Int)) (hp : pc + 3 = pc') (kt : x = 0 → G F S K X tgt ls st) (kf : ¬ x = 0 → G F S K X pc' ls st) : G F S K X pc ls (.int x :: st) := by
  obtain ⟨p, l, e, R, s, m, args, below, meth, c, Γ, A, Q⟩ := F
  obtain ⟨hx, hb, hml, hown, hts, hlk, rfl, hK, hA⟩ := hC
  subst hp
  intro H locs L hL hc0 hP hD hS
  exact lv_if_eq hx hb d ht (fun h => kt h H locs L hL hc0 hP hD hS) (fun h => kf h H locs L hL hc0 hP hD hS)
theorem g_icmp_eq (hC : Cx F own cc nL rm) {x y : Int32} {off : Int} {tgt : Nat} (d : decode cc pc = .ok (.if_icmp .eq off, 3)) (ht : (pc : Int) + off = (tgt : Int)) (hp : pc + 3 = pc') (kt : x = y → G F S K X tgt ls st) (kf : ¬ x = y → G F S K X pc' ls st) : G F S K X pc ls (.int y :: .int x :: st) := by
  obtain ⟨p, l, e, R, s, m, args, below, meth, c, Γ, A, Q⟩ := F
  obtain ⟨hx, hb, hml, hown, hts, hlk, rfl, hK, hA⟩ := hC
  subst hp
  intro H locs L hL hc0 hP hD hS
  exact lv_icmp_eq hx hb d ht (fun h => kt h H locs L hL hc0 hP hD hS) (fun h => kf h H locs L hL hc0 hP hD hS)
theorem g_if_ne (hC : Cx F own cc nL rm) {x : Int32} {off : Int} {tgt : Nat} (d : decode cc pc = .ok (.ifCond .ne off, 3)) (ht : (pc : Int) + off = (tgt : Int)) (hp : pc + 3 = pc') (kt : ¬ x = 0 → G F S K X tgt ls st) (kf : x = 0 → G F S K X pc' ls st) : G F S K X pc ls (.int x :: st) := by
  obtain ⟨p, l, e, R, s, m, args, below, meth, c, Γ, A, Q⟩ := F
  obtain ⟨hx, hb, hml, hown, hts, hlk, rfl, hK, hA⟩ := hC
  subst hp
  intro H locs L hL hc0 hP hD hS
  exact lv_if_ne hx hb d ht (fun h => kt h H locs L hL hc0 hP hD hS) (fun h => kf h H locs L hL hc0 hP hD hS)
theorem g_icmp_ne (hC : Cx F own cc nL rm) {x y : Int32} {off : Int} {tgt : Nat} (d : decode cc pc = .ok (.if_icmp .ne off, 3)) (ht : (pc : Int) + off = (tgt : Int)) (hp : pc + 3 = pc') (kt : ¬ x = y → G F S K X tgt ls st) (kf : x = y → G F S K X pc' ls st) : G F S K X pc ls (.int y :: .int x :: st) := by
  obtain ⟨p, l, e, R, s, m, args, below, meth, c, Γ, A, Q⟩ := F
  obtain ⟨hx, hb, hml, hown, hts, hlk, rfl, hK, hA⟩ := hC
  subst hp
  intro H locs L hL hc0 hP hD hS
  exact lv_icmp_ne hx hb d ht (fun h => kt h H locs L hL hc0 hP hD hS) (fun h => kf h H locs L hL hc0 hP hD hS)
theorem g_if_lt (hC : Cx F own cc nL rm) {x : Int32} {off : Int} {tgt : Nat} (d : decode cc pc = .ok (.ifCond .lt off, 3)) (ht : (pc : Int) + off = (tgt : Int)) (hp : pc + 3 = pc') (kt : x < 0 → G F S K X tgt ls st) (kf : ¬ x < 0 → G F S K X pc' ls st) : G F S K X pc ls (.int x :: st) := by
  obtain ⟨p, l, e, R, s, m, args, below, meth, c, Γ, A, Q⟩ := F
  obtain ⟨hx, hb, hml, hown, hts, hlk, rfl, hK, hA⟩ := hC
  subst hp
  intro H locs L hL hc0 hP hD hS
  exact lv_if_lt hx hb d ht (fun h => kt h H locs L hL hc0 hP hD hS) (fun h => kf h H locs L hL hc0 hP hD hS)
theorem g_icmp_lt (hC : Cx F own cc nL rm) {x y : Int32} {off : Int} {tgt : Nat} (d : decode cc pc = .ok (.if_icmp .lt off, 3)) (ht : (pc : Int) + off = (tgt : Int)) (hp : pc + 3 = pc') (kt : x < y → G F S K X tgt ls st) (kf : ¬ x < y → G F S K X pc' ls st) : G F S K X pc ls (.int y :: .int x :: st) := by
  obtain ⟨p, l, e, R, s, m, args, below, meth, c, Γ, A, Q⟩ := F
  obtain ⟨hx, hb, hml, hown, hts, hlk, rfl, hK, hA⟩ := hC
  subst hp
  intro H locs L hL hc0 hP hD hS
  exact lv_icmp_lt hx hb d ht (fun h => kt h H locs L hL hc0 hP hD hS) (fun h => kf h H locs L hL hc0 hP hD hS)
theorem g_if_ge (hC : Cx F own cc nL rm) {x : Int32} {off : Int} {tgt : Nat} (d : decode cc pc = .ok (.ifCond .ge off, 3)) (ht : (pc : Int) + off = (tgt : Int)) (hp : pc + 3 = pc') (kt : 0 ≤ x → G F S K X tgt ls st) (kf : ¬ 0 ≤ x → G F S K X pc' ls st) : G F S K X pc ls (.int x :: st) := by
  obtain ⟨p, l, e, R, s, m, args, below, meth, c, Γ, A, Q⟩ := F
  obtain ⟨hx, hb, hml, hown, hts, hlk, rfl, hK, hA⟩ := hC
  subst hp
  intro H locs L hL hc0 hP hD hS
  exact lv_if_ge hx hb d ht (fun h => kt h H locs L hL hc0 hP hD hS) (fun h => kf h H locs L hL hc0 hP hD hS)
theorem g_icmp_ge (hC : Cx F own cc nL rm) {x y : Int32} {off : Int} {tgt : Nat} (d : decode cc pc = .ok (.if_icmp .ge off, 3)) (ht : (pc : Int) + off = (tgt : Int)) (hp : pc + 3 = pc') (kt : y ≤ x → G F S K X tgt ls st) (kf : ¬ y ≤ x → G F S K X pc' ls st) : G F S K X pc ls (.int y :: .int x :: st) := by
  obtain ⟨p, l, e, R, s, m, args, below, meth, c, Γ, A, Q⟩ := F
  obtain ⟨hx, hb, hml, hown, hts, hlk, rfl, hK, hA⟩ := hC
  subst hp
  intro H locs L hL hc0 hP hD hS
  exact lv_icmp_ge hx hb d ht (fun h => kt h H locs L hL hc0 hP hD hS) (fun h => kf h H locs L hL hc0 hP hD hS)
theorem g_if_gt (hC : Cx F own cc nL rm) {x : Int32} {off : Int} {tgt : Nat} (d : decode cc pc = .ok (.ifCond .gt off, 3)) (ht : (pc : Int) + off = (tgt : Int)) (hp : pc + 3 = pc') (kt : 0 < x → G F S K X tgt ls st) (kf : ¬ 0 < x → G F S K X pc' ls st) : G F S K X pc ls (.int x :: st) := by
  obtain ⟨p, l, e, R, s, m, args, below, meth, c, Γ, A, Q⟩ := F
  obtain ⟨hx, hb, hml, hown, hts, hlk, rfl, hK, hA⟩ := hC
  subst hp
  intro H locs L hL hc0 hP hD hS
  exact lv_if_gt hx hb d ht (fun h => kt h H locs L hL hc0 hP hD hS) (fun h => kf h H locs L hL hc0 hP hD hS)
theorem g_icmp_gt (hC : Cx F own cc nL rm) {x y : Int32} {off : Int} {tgt : Nat} (d : decode cc pc = .ok (.if_icmp .gt off, 3)) (ht : (pc : Int) + off = (tgt : Int)) (hp : pc + 3 = pc') (kt : y < x → G F S K X tgt ls st) (kf : ¬ y < x → G F S K X pc' ls st) : G F S K X pc ls (.int y :: .int x :: st) := by
  obtain ⟨p, l, e, R, s, m, args, below, meth, c, Γ, A, Q⟩ := F
  obtain ⟨hx, hb, hml, hown, hts, hlk, rfl, hK, hA⟩ := hC
  subst hp
  intro H locs L hL hc0 hP hD hS
  exact lv_icmp_gt hx hb d ht (fun h => kt h H locs L hL hc0 hP hD hS) (fun h => kf h H locs L hL hc0 hP hD hS)
theorem g_if_le (hC : Cx F own cc nL rm) {x : Int32} {off : Int} {tgt : Nat} (d : decode cc pc = .ok (.ifCond .le off, 3)) (ht : (pc : Int) + off = (tgt : Int)) (hp : pc + 3 = pc') (kt : x ≤ 0 → G F S K X tgt ls st) (kf : ¬ x ≤ 0 → G F S K X pc' ls st) : G F S K X pc ls (.int x :: st) := by
  obtain ⟨p, l, e, R, s, m, args, below, meth, c, Γ, A, Q⟩ := F
  obtain ⟨hx, hb, hml, hown, hts, hlk, rfl, hK, hA⟩ := hC
  subst hp
  intro H locs L hL hc0 hP hD hS
  exact lv_if_le hx hb d ht (fun h => kt h H locs L hL hc0 hP hD hS) (fun h => kf h H locs L hL hc0 hP hD hS)
theorem g_icmp_le (hC : Cx F own cc nL rm) {x y : Int32} {off : Int} {tgt : Nat} (d : decode cc pc = .ok (.if_icmp .le off, 3)) (ht : (pc : Int) + off = (tgt : Int)) (hp : pc + 3 = pc') (kt : x ≤ y → G F S K X tgt ls st) (kf : ¬ x ≤ y → G F S K X pc' ls st) : G F S K X pc ls (.int y :: .int x :: st) := by
  obtain ⟨p, l, e, R, s, m, args, below, meth, c, Γ, A, Q⟩ := F
  obtain ⟨hx, hb, hml, hown, hts, hlk, rfl, hK, hA⟩ := hC
  subst hp
  intro H locs L hL hc0 hP hD hS
  exact lv_icmp_le hx hb d ht (fun h => kt h H locs L hL hc0 hP hD hS) (fun h => kf h H locs L hL hc0 hP hD hS)
theorem nI_ltD {a b : Nat} (ha : a < 2147483648) (hb : b < 2147483648) : nI a < nI b ↔ a < b := nI_ltI ha hb
theorem nI_leD {a b : Nat} (ha : a < 2147483648) (hb : b < 2147483648) : nI a ≤ nI b ↔ a ≤ b := nI_leI ha hb
theorem nI_eqD {a b : Nat} (ha : a < 2147483648) (hb : b < 2147483648) : nI a = nI b ↔ a = b := nI_eq ha hb
theorem nI_eq0 {a : Nat} (ha : a < 2147483648) : nI a = 0 ↔ a = 0 := by rw [← nI_0]; exact nI_eqD ha (by omega)
theorem nI_gt0 {a : Nat} (ha : a < 2147483648) : 0 < nI a ↔ 0 < a := by rw [← nI_0]; exact nI_ltD (by omega) ha
theorem nI_le0 {a : Nat} (ha : a < 2147483648) : nI a ≤ 0 ↔ a = 0 := by rw [← nI_0]; exact (nI_leD ha (by omega)).trans (by omega)
theorem zI_eq0 {b : Bool} : zI b = 0 ↔ b = false := by cases b <;> decide
theorem g_icmpN_eq (hC : Cx F own cc nL rm) {a b : Nat} {off : Int} {tgt : Nat} (d : decode cc pc = .ok (.if_icmp .eq off, 3)) (ht : (pc : Int) + off = (tgt : Int)) (hp : pc + 3 = pc') (ha : a < 2147483648) (hb : b < 2147483648) (kt : a = b → G F S K X tgt ls st) (kf : ¬ a = b → G F S K X pc' ls st) : G F S K X pc ls (.int (nI b) :: .int (nI a) :: st) := g_icmp_eq hC d ht hp (fun h => kt ((nI_eqD ha hb).mp h)) (fun h => kf (fun z => h ((nI_eqD ha hb).mpr z)))
theorem g_icmpN_ne (hC : Cx F own cc nL rm) {a b : Nat} {off : Int} {tgt : Nat} (d : decode cc pc = .ok (.if_icmp .ne off, 3)) (ht : (pc : Int) + off = (tgt : Int)) (hp : pc + 3 = pc') (ha : a < 2147483648) (hb : b < 2147483648) (kt : ¬ a = b → G F S K X tgt ls st) (kf : a = b → G F S K X pc' ls st) : G F S K X pc ls (.int (nI b) :: .int (nI a) :: st) := g_icmp_ne hC d ht hp (fun h => kt (fun z => h ((nI_eqD ha hb).mpr z))) (fun h => kf ((nI_eqD ha hb).mp (h)))
theorem g_icmpN_lt (hC : Cx F own cc nL rm) {a b : Nat} {off : Int} {tgt : Nat} (d : decode cc pc = .ok (.if_icmp .lt off, 3)) (ht : (pc : Int) + off = (tgt : Int)) (hp : pc + 3 = pc') (ha : a < 2147483648) (hb : b < 2147483648) (kt : a < b → G F S K X tgt ls st) (kf : b ≤ a → G F S K X pc' ls st) : G F S K X pc ls (.int (nI b) :: .int (nI a) :: st) := g_icmp_lt hC d ht hp (fun h => kt ((nI_ltD ha hb).mp h)) (fun h => kf (Nat.not_lt.mp fun z => h ((nI_ltD ha hb).mpr z)))
theorem g_icmpN_ge (hC : Cx F own cc nL rm) {a b : Nat} {off : Int} {tgt : Nat} (d : decode cc pc = .ok (.if_icmp .ge off, 3)) (ht : (pc : Int) + off = (tgt : Int)) (hp : pc + 3 = pc') (ha : a < 2147483648) (hb : b < 2147483648) (kt : b ≤ a → G F S K X tgt ls st) (kf : a < b → G F S K X pc' ls st) : G F S K X pc ls (.int (nI b) :: .int (nI a) :: st) := g_icmp_ge hC d ht hp (fun h => kt ((nI_leD hb ha).mp h)) (fun h => kf (Nat.not_le.mp fun z => h ((nI_leD hb ha).mpr z)))
theorem g_icmpN_gt (hC : Cx F own cc nL rm) {a b : Nat} {off : Int} {tgt : Nat} (d : decode cc pc = .ok (.if_icmp .gt off, 3)) (ht : (pc : Int) + off = (tgt : Int)) (hp : pc + 3 = pc') (ha : a < 2147483648) (hb : b < 2147483648) (kt : b < a → G F S K X tgt ls st) (kf : a ≤ b → G F S K X pc' ls st) : G F S K X pc ls (.int (nI b) :: .int (nI a) :: st) := g_icmp_gt hC d ht hp (fun h => kt ((nI_ltD hb ha).mp h)) (fun h => kf (Nat.not_lt.mp fun z => h ((nI_ltD hb ha).mpr z)))
theorem g_icmpN_le (hC : Cx F own cc nL rm) {a b : Nat} {off : Int} {tgt : Nat} (d : decode cc pc = .ok (.if_icmp .le off, 3)) (ht : (pc : Int) + off = (tgt : Int)) (hp : pc + 3 = pc') (ha : a < 2147483648) (hb : b < 2147483648) (kt : a ≤ b → G F S K X tgt ls st) (kf : b < a → G F S K X pc' ls st) : G F S K X pc ls (.int (nI b) :: .int (nI a) :: st) := g_icmp_le hC d ht hp (fun h => kt ((nI_leD ha hb).mp h)) (fun h => kf (Nat.not_le.mp fun z => h ((nI_leD ha hb).mpr z)))
theorem g_ifN_eq (hC : Cx F own cc nL rm) {a : Nat} {off : Int} {tgt : Nat} (d : decode cc pc = .ok (.ifCond .eq off, 3)) (ht : (pc : Int) + off = (tgt : Int)) (hp : pc + 3 = pc') (ha : a < 2147483648) (kt : a = 0 → G F S K X tgt ls st) (kf : ¬ a = 0 → G F S K X pc' ls st) : G F S K X pc ls (.int (nI a) :: st) := g_if_eq hC d ht hp (fun h => kt ((nI_eq0 ha).mp h)) (fun h => kf (fun z => h ((nI_eq0 ha).mpr z)))
theorem g_ifN_ne (hC : Cx F own cc nL rm) {a : Nat} {off : Int} {tgt : Nat} (d : decode cc pc = .ok (.ifCond .ne off, 3)) (ht : (pc : Int) + off = (tgt : Int)) (hp : pc + 3 = pc') (ha : a < 2147483648) (kt : ¬ a = 0 → G F S K X tgt ls st) (kf : a = 0 → G F S K X pc' ls st) : G F S K X pc ls (.int (nI a) :: st) := g_if_ne hC d ht hp (fun h => kt (fun z => h ((nI_eq0 ha).mpr z))) (fun h => kf ((nI_eq0 ha).mp (h)))
theorem g_ifN_gt (hC : Cx F own cc nL rm) {a : Nat} {off : Int} {tgt : Nat} (d : decode cc pc = .ok (.ifCond .gt off, 3)) (ht : (pc : Int) + off = (tgt : Int)) (hp : pc + 3 = pc') (ha : a < 2147483648) (kt : 0 < a → G F S K X tgt ls st) (kf : a = 0 → G F S K X pc' ls st) : G F S K X pc ls (.int (nI a) :: st) := g_if_gt hC d ht hp (fun h => kt ((nI_gt0 ha).mp h)) (fun h => kf (Nat.eq_zero_of_not_pos fun z => h ((nI_gt0 ha).mpr z)))
theorem g_ifN_le (hC : Cx F own cc nL rm) {a : Nat} {off : Int} {tgt : Nat} (d : decode cc pc = .ok (.ifCond .le off, 3)) (ht : (pc : Int) + off = (tgt : Int)) (hp : pc + 3 = pc') (ha : a < 2147483648) (kt : a = 0 → G F S K X tgt ls st) (kf : 0 < a → G F S K X pc' ls st) : G F S K X pc ls (.int (nI a) :: st) := g_if_le hC d ht hp (fun h => kt ((nI_le0 ha).mp h)) (fun h => kf (Nat.pos_of_ne_zero fun z => h ((nI_le0 ha).mpr z)))
theorem g_ifZ_eq (hC : Cx F own cc nL rm) {b : Bool} {off : Int} {tgt : Nat} (d : decode cc pc = .ok (.ifCond .eq off, 3)) (ht : (pc : Int) + off = (tgt : Int)) (hp : pc + 3 = pc') (kt : b = false → G F S K X tgt ls st) (kf : b = true → G F S K X pc' ls st) : G F S K X pc ls (.int (zI b) :: st) := g_if_eq hC d ht hp (fun h => kt (zI_eq0.mp h)) (fun h => kf (by cases b with | false => exact absurd (zI_eq0.mpr rfl) h | true => rfl))
theorem g_ifZ_ne (hC : Cx F own cc nL rm) {b : Bool} {off : Int} {tgt : Nat} (d : decode cc pc = .ok (.ifCond .ne off, 3)) (ht : (pc : Int) + off = (tgt : Int)) (hp : pc + 3 = pc') (kt : b = true → G F S K X tgt ls st) (kf : b = false → G F S K X pc' ls st) : G F S K X pc ls (.int (zI b) :: st) := g_if_ne hC d ht hp (fun h => kt (by cases b with | false => exact absurd (zI_eq0.mpr rfl) h | true => rfl)) (fun h => kf (zI_eq0.mp (h)))
theorem nI_subD {a b : Nat} (h : b ≤ a) : nI a - nI b = nI (a - b) := pk_sub h
theorem g_iaddN (hC : Cx F own cc nL rm) {a b : Nat} (d : decode cc pc = .ok (.iadd, 1)) (hp : pc + 1 = pc') (k : G F S K X pc' ls (.int (nI (a + b)) :: st)) : G F S K X pc ls (.int (nI b) :: .int (nI a) :: st) := g_iadd hC d hp (by rw [nI_add]; exact k)
theorem g_isubN (hC : Cx F own cc nL rm) {a b : Nat} (d : decode cc pc = .ok (.isub, 1)) (hp : pc + 1 = pc') (h : b ≤ a) (k : G F S K X pc' ls (.int (nI (a - b)) :: st)) : G F S K X pc ls (.int (nI b) :: .int (nI a) :: st) := g_isub hC d hp (by rw [pk_sub h]; exact k)
theorem g_imulN (hC : Cx F own cc nL rm) {a b : Nat} (d : decode cc pc = .ok (.imul, 1)) (hp : pc + 1 = pc') (k : G F S K X pc' ls (.int (nI (a * b)) :: st)) : G F S K X pc ls (.int (nI b) :: .int (nI a) :: st) := g_imul hC d hp (by rw [pk_mul]; exact k)
theorem nI_ne0D {b : Nat} (h0 : 0 < b) (hb : b < 2147483648) : ¬ nI b = 0 := fun h => by have := (nI_eq0 hb).mp h; omega
theorem g_idivN (hC : Cx F own cc nL rm) {a b : Nat} (d : decode cc pc = .ok (.idiv, 1)) (hp : pc + 1 = pc') (ha : a < 2147483648) (h0 : 0 < b) (hb : b < 2147483648) (k : G F S K X pc' ls (.int (nI (a / b)) :: st)) : G F S K X pc ls (.int (nI b) :: .int (nI a) :: st) := g_idiv hC d (nI_ne0D h0 hb) hp (by rw [pk_div ha h0 hb]; exact k)
theorem g_iremN (hC : Cx F own cc nL rm) {a b : Nat} (d : decode cc pc = .ok (.irem, 1)) (hp : pc + 1 = pc') (ha : a < 2147483648) (h0 : 0 < b) (hb : b < 2147483648) (k : G F S K X pc' ls (.int (nI (a % b)) :: st)) : G F S K X pc ls (.int (nI b) :: .int (nI a) :: st) := g_irem hC d (nI_ne0D h0 hb) hp (by rw [pk_rem ha h0 hb]; exact k)
theorem sh_l : ∀ n, n < 32 → ((nI n &&& 31).toBitVec.smod 32).toNat = n := by decide +kernel
theorem nI_shl {a b : Nat} (hb : b < 32) (h : a * 2 ^ b < 2 ^ 32) : nI a <<< (nI b &&& 31) = nI (a * 2 ^ b) := pk_shlN _ b (sh_l b hb) h
theorem nI_shr {a b : Nat} (hb : b < 32) (h : a < 2147483648) : nI a >>> (nI b &&& 31) = nI (a / 2 ^ b) := pk_shrN h _ b (sh_l b hb)
theorem nI_and (a b : Nat) : nI a &&& nI b = nI (a &&& b) := by
  apply Int32.toBitVec_inj.1
  show BitVec.ofNat 32 a &&& BitVec.ofNat 32 b = BitVec.ofNat 32 (a &&& b)
  apply BitVec.eq_of_getLsbD_eq
  intro i hi
  simp [hi]
theorem nI_or (a b : Nat) : nI a ||| nI b = nI (a ||| b) := by
  apply Int32.toBitVec_inj.1
  show BitVec.ofNat 32 a ||| BitVec.ofNat 32 b = BitVec.ofNat 32 (a ||| b)
  apply BitVec.eq_of_getLsbD_eq
  intro i hi
  simp [hi]
theorem g_ishlN (hC : Cx F own cc nL rm) {a b : Nat} (d : decode cc pc = .ok (.ishl, 1)) (hp : pc + 1 = pc') (hb : b < 32) (h : a * 2 ^ b < 2 ^ 32) (k : G F S K X pc' ls (.int (nI (a * 2 ^ b)) :: st)) : G F S K X pc ls (.int (nI b) :: .int (nI a) :: st) := g_ishl hC d hp (by rw [nI_shl hb h]; exact k)
theorem g_ishrN (hC : Cx F own cc nL rm) {a b : Nat} (d : decode cc pc = .ok (.ishr, 1)) (hp : pc + 1 = pc') (hb : b < 32) (h : a < 2147483648) (k : G F S K X pc' ls (.int (nI (a / 2 ^ b)) :: st)) : G F S K X pc ls (.int (nI b) :: .int (nI a) :: st) := g_ishr hC d hp (by rw [nI_shr hb h]; exact k)
theorem g_iandN (hC : Cx F own cc nL rm) {a b : Nat} (d : decode cc pc = .ok (.iand, 1)) (hp : pc + 1 = pc') (k : G F S K X pc' ls (.int (nI (a &&& b)) :: st)) : G F S K X pc ls (.int (nI b) :: .int (nI a) :: st) := g_iand hC d hp (by rw [nI_and]; exact k)
theorem g_iorN (hC : Cx F own cc nL rm) {a b : Nat} (d : decode cc pc = .ok (.ior, 1)) (hp : pc + 1 = pc') (k : G F S K X pc' ls (.int (nI (a ||| b)) :: st)) : G F S K X pc ls (.int (nI b) :: .int (nI a) :: st) := g_ior hC d hp (by rw [nI_or]; exact k)
theorem g_iload_0 (hC : Cx F own cc nL rm) {r : List Value} {x : Int32} (d : decode cc pc = .ok (.iload_n 0, 1)) (hp : pc + 1 = pc') (k : G F S K X pc' (.int x :: r) (.int x :: st)) : G F S K X pc (.int x :: r) st := by
  obtain ⟨p, l, e, R, s, m, args, below, meth, c, Γ, A, Q⟩ := F
  obtain ⟨hx, hb, hml, hown, hts, hlk, rfl, hK, hA⟩ := hC
  subst hp
  intro H locs L hL hc0 hP hD hS
  exact lv_iload_n hx hb d rfl (hL.2.2 0 (.int x) rfl (fun h => by cases h)) (k H locs L hL hc0 hP hD hS)
theorem g_iload_1 (hC : Cx F own cc nL rm) {v0 : Value} {r : List Value} {x : Int32} (d : decode cc pc = .ok (.iload_n 1, 1)) (hp : pc + 1 = pc') (k : G F S K X pc' (v0 :: .int x :: r) (.int x :: st)) : G F S K X pc (v0 :: .int x :: r) st := by
  obtain ⟨p, l, e, R, s, m, args, below, meth, c, Γ, A, Q⟩ := F
  obtain ⟨hx, hb, hml, hown, hts, hlk, rfl, hK, hA⟩ := hC
  subst hp
  intro H locs L hL hc0 hP hD hS
  exact lv_iload_n hx hb d rfl (hL.2.2 1 (.int x) rfl (fun h => by cases h)) (k H locs L hL hc0 hP hD hS)
theorem g_iload_2 (hC : Cx F own cc nL rm) {v0 v1 : Value} {r : List Value} {x : Int32} (d : decode cc pc = .ok (.iload_n 2, 1)) (hp : pc + 1 = pc') (k : G F S K X pc' (v0 :: v1 :: .int x :: r) (.int x :: st)) : G F S K X pc (v0 :: v1 :: .int x :: r) st := by
  obtain ⟨p, l, e, R, s, m, args, below, meth, c, Γ, A, Q⟩ := F
  obtain ⟨hx, hb, hml, hown, hts, hlk, rfl, hK, hA⟩ := hC
  subst hp
  intro H locs L hL hc0 hP hD hS
  exact lv_iload_n hx hb d rfl (hL.2.2 2 (.int x) rfl (fun h => by cases h)) (k H locs L hL hc0 hP hD hS)
theorem g_iload_3 (hC : Cx F own cc nL rm) {v0 v1 v2 : Value} {r : List Value} {x : Int32} (d : decode cc pc = .ok (.iload_n 3, 1)) (hp : pc + 1 = pc') (k : G F S K X pc' (v0 :: v1 :: v2 :: .int x :: r) (.int x :: st)) : G F S K X pc (v0 :: v1 :: v2 :: .int x :: r) st := by
  obtain ⟨p, l, e, R, s, m, args, below, meth, c, Γ, A, Q⟩ := F
  obtain ⟨hx, hb, hml, hown, hts, hlk, rfl, hK, hA⟩ := hC
  subst hp
  intro H locs L hL hc0 hP hD hS
  exact lv_iload_n hx hb d rfl (hL.2.2 3 (.int x) rfl (fun h => by cases h)) (k H locs L hL hc0 hP hD hS)
theorem g_iload_4 (hC : Cx F own cc nL rm) {v0 v1 v2 v3 : Value} {r : List Value} {x : Int32} (d : decode cc pc = .ok (.iload 4, 2)) (hp : pc + 2 = pc') (k : G F S K X pc' (v0 :: v1 :: v2 :: v3 :: .int x :: r) (.int x :: st)) : G F S K X pc (v0 :: v1 :: v2 :: v3 :: .int x :: r) st := by
  obtain ⟨p, l, e, R, s, m, args, below, meth, c, Γ, A, Q⟩ := F
  obtain ⟨hx, hb, hml, hown, hts, hlk, rfl, hK, hA⟩ := hC
  subst hp
  intro H locs L hL hc0 hP hD hS
  exact lv_iload hx hb d (hL.2.2 4 (.int x) rfl (fun h => by cases h)) (k H locs L hL hc0 hP hD hS)
theorem g_iload_5 (hC : Cx F own cc nL rm) {v0 v1 v2 v3 v4 : Value} {r : List Value} {x : Int32} (d : decode cc pc = .ok (.iload 5, 2)) (hp : pc + 2 = pc') (k : G F S K X pc' (v0 :: v1 :: v2 :: v3 :: v4 :: .int x :: r) (.int x :: st)) : G F S K X pc (v0 :: v1 :: v2 :: v3 :: v4 :: .int x :: r) st := by
  obtain ⟨p, l, e, R, s, m, args, below, meth, c, Γ, A, Q⟩ := F
  obtain ⟨hx, hb, hml, hown, hts, hlk, rfl, hK, hA⟩ := hC
  subst hp
  intro H locs L hL hc0 hP hD hS
  exact lv_iload hx hb d (hL.2.2 5 (.int x) rfl (fun h => by cases h)) (k H locs L hL hc0 hP hD hS)
theorem g_iload_6 (hC : Cx F own cc nL rm) {v0 v1 v2 v3 v4 v5 : Value} {r : List Value} {x : Int32} (d : decode cc pc = .ok (.iload 6, 2)) (hp : pc + 2 = pc') (k : G F S K X pc' (v0 :: v1 :: v2 :: v3 :: v4 :: v5 :: .int x :: r) (.int x :: st)) : G F S K X pc (v0 :: v1 :: v2 :: v3 :: v4 :: v5 :: .int x :: r) st := by
  obtain ⟨p, l, e, R, s, m, args, below, meth, c, Γ, A, Q⟩ := F
  obtain ⟨hx, hb, hml, hown, hts, hlk, rfl, hK, hA⟩ := hC
  subst hp
  intro H locs L hL hc0 hP hD hS
  exact lv_iload hx hb d (hL.2.2 6 (.int x) rfl (fun h => by cases h)) (k H locs L hL hc0 hP hD hS)
theorem g_iload_7 (hC : Cx F own cc nL rm) {v0 v1 v2 v3 v4 v5 v6 : Value} {r : List Value} {x : Int32} (d : decode cc pc = .ok (.iload 7, 2)) (hp : pc + 2 = pc') (k : G F S K X pc' (v0 :: v1 :: v2 :: v3 :: v4 :: v5 :: v6 :: .int x :: r) (.int x :: st)) : G F S K X pc (v0 :: v1 :: v2 :: v3 :: v4 :: v5 :: v6 :: .int x :: r) st := by
  obtain ⟨p, l, e, R, s, m, args, below, meth, c, Γ, A, Q⟩ := F
  obtain ⟨hx, hb, hml, hown, hts, hlk, rfl, hK, hA⟩ := hC
  subst hp
  intro H locs L hL hc0 hP hD hS
  exact lv_iload hx hb d (hL.2.2 7 (.int x) rfl (fun h => by cases h)) (k H locs L hL hc0 hP hD hS)
theorem g_iload_8 (hC : Cx F own cc nL rm) {v0 v1 v2 v3 v4 v5 v6 v7 : Value} {r : List Value} {x : Int32} (d : decode cc pc = .ok (.iload 8, 2)) (hp : pc + 2 = pc') (k : G F S K X pc' (v0 :: v1 :: v2 :: v3 :: v4 :: v5 :: v6 :: v7 :: .int x :: r) (.int x :: st)) : G F S K X pc (v0 :: v1 :: v2 :: v3 :: v4 :: v5 :: v6 :: v7 :: .int x :: r) st := by
  obtain ⟨p, l, e, R, s, m, args, below, meth, c, Γ, A, Q⟩ := F
  obtain ⟨hx, hb, hml, hown, hts, hlk, rfl, hK, hA⟩ := hC
  subst hp
  intro H locs L hL hc0 hP hD hS
  exact lv_iload hx hb d (hL.2.2 8 (.int x) rfl (fun h => by cases h)) (k H locs L hL hc0 hP hD hS)
theorem g_iload_9 (hC : Cx F own cc nL rm) {v0 v1 v2 v3 v4 v5 v6 v7 v8 : Value} {r : List Value} {x : Int32} (d : decode cc pc = .ok (.iload 9, 2)) (hp : pc + 2 = pc') (k : G F S K X pc' (v0 :: v1 :: v2 :: v3 :: v4 :: v5 :: v6 :: v7 :: v8 :: .int x :: r) (.int x :: st)) : G F S K X pc (v0 :: v1 :: v2 :: v3 :: v4 :: v5 :: v6 :: v7 :: v8 :: .int x :: r) st := by
  obtain ⟨p, l, e, R, s, m, args, below, meth, c, Γ, A, Q⟩ := F
  obtain ⟨hx, hb, hml, hown, hts, hlk, rfl, hK, hA⟩ := hC
  subst hp
  intro H locs L hL hc0 hP hD hS
  exact lv_iload hx hb d (hL.2.2 9 (.int x) rfl (fun h => by cases h)) (k H locs L hL hc0 hP hD hS)
theorem g_iload_10 (hC : Cx F own cc nL rm) {v0 v1 v2 v3 v4 v5 v6 v7 v8 v9 : Value} {r : List Value} {x : Int32} (d : decode cc pc = .ok (.iload 10, 2)) (hp : pc + 2 = pc') (k : G F S K X pc' (v0 :: v1 :: v2 :: v3 :: v4 :: v5 :: v6 :: v7 :: v8 :: v9 :: .int x :: r) (.int x :: st)) : G F S K X pc (v0 :: v1 :: v2 :: v3 :: v4 :: v5 :: v6 :: v7 :: v8 :: v9 :: .int x :: r) st := by
  obtain ⟨p, l, e, R, s, m, args, below, meth, c, Γ, A, Q⟩ := F
  obtain ⟨hx, hb, hml, hown, hts, hlk, rfl, hK, hA⟩ := hC
  subst hp
  intro H locs L hL hc0 hP hD hS
  exact lv_iload hx hb d (hL.2.2 10 (.int x) rfl (fun h => by cases h)) (k H locs L hL hc0 hP hD hS)
theorem g_iload_11 (hC : Cx F own cc nL rm) {v0 v1 v2 v3 v4 v5 v6 v7 v8 v9 v10 : Value} {r : List Value} {x : Int32} (d : decode cc pc = .ok (.iload 11, 2)) (hp : pc + 2 = pc') (k : G F S K X pc' (v0 :: v1 :: v2 :: v3 :: v4 :: v5 :: v6 :: v7 :: v8 :: v9 :: v10 :: .int x :: r) (.int x :: st)) : G F S K X pc (v0 :: v1 :: v2 :: v3 :: v4 :: v5 :: v6 :: v7 :: v8 :: v9 :: v10 :: .int x :: r) st := by
  obtain ⟨p, l, e, R, s, m, args, below, meth, c, Γ, A, Q⟩ := F
  obtain ⟨hx, hb, hml, hown, hts, hlk, rfl, hK, hA⟩ := hC
  subst hp
  intro H locs L hL hc0 hP hD hS
  exact lv_iload hx hb d (hL.2.2 11 (.int x) rfl (fun h => by cases h)) (k H locs L hL hc0 hP hD hS)
theorem g_aload_0 (hC : Cx F own cc nL rm) {r : List Value} {x : Nat} (d : decode cc pc = .ok (.aload_n 0, 1)) (hp : pc + 1 = pc') (k : G F S K X pc' (.ref x :: r) (.ref x :: st)) : G F S K X pc (.ref x :: r) st := by
  obtain ⟨p, l, e, R, s, m, args, below, meth, c, Γ, A, Q⟩ := F
  obtain ⟨hx, hb, hml, hown, hts, hlk, rfl, hK, hA⟩ := hC
  subst hp
  intro H locs L hL hc0 hP hD hS
  exact lv_aload_n hx hb d rfl (hL.2.2 0 (.ref x) rfl (fun h => by cases h)) (k H locs L hL hc0 hP hD hS)
theorem g_aload_1 (hC : Cx F own cc nL rm) {v0 : Value} {r : List Value} {x : Nat} (d : decode cc pc = .ok (.aload_n 1, 1)) (hp : pc + 1 = pc') (k : G F S K X pc' (v0 :: .ref x :: r) (.ref x :: st)) : G F S K X pc (v0 :: .ref x :: r) st := by
  obtain ⟨p, l, e, R, s, m, args, below, meth, c, Γ, A, Q⟩ := F
  obtain ⟨hx, hb, hml, hown, hts, hlk, rfl, hK, hA⟩ := hC
  subst hp
  intro H locs L hL hc0 hP hD hS
  exact lv_aload_n hx hb d rfl (hL.2.2 1 (.ref x) rfl (fun h => by cases h)) (k H locs L hL hc0 hP hD hS)
theorem g_aload_2 (hC : Cx F own cc nL rm) {v0 v1 : Value} {r : List Value} {x : Nat} (d : decode cc pc = .ok (.aload_n 2, 1)) (hp : pc + 1 = pc') (k : G F S K X pc' (v0 :: v1 :: .ref x :: r) (.ref x :: st)) : G F S K X pc (v0 :: v1 :: .ref x :: r) st := by
  obtain ⟨p, l, e, R, s, m, args, below, meth, c, Γ, A, Q⟩ := F
  obtain ⟨hx, hb, hml, hown, hts, hlk, rfl, hK, hA⟩ := hC
  subst hp
  intro H locs L hL hc0 hP hD hS
  exact lv_aload_n hx hb d rfl (hL.2.2 2 (.ref x) rfl (fun h => by cases h)) (k H locs L hL hc0 hP hD hS)
theorem g_aload_3 (hC : Cx F own cc nL rm) {v0 v1 v2 : Value} {r : List Value} {x : Nat} (d : decode cc pc = .ok (.aload_n 3, 1)) (hp : pc + 1 = pc') (k : G F S K X pc' (v0 :: v1 :: v2 :: .ref x :: r) (.ref x :: st)) : G F S K X pc (v0 :: v1 :: v2 :: .ref x :: r) st := by
  obtain ⟨p, l, e, R, s, m, args, below, meth, c, Γ, A, Q⟩ := F
  obtain ⟨hx, hb, hml, hown, hts, hlk, rfl, hK, hA⟩ := hC
  subst hp
  intro H locs L hL hc0 hP hD hS
  exact lv_aload_n hx hb d rfl (hL.2.2 3 (.ref x) rfl (fun h => by cases h)) (k H locs L hL hc0 hP hD hS)
theorem g_aload_4 (hC : Cx F own cc nL rm) {v0 v1 v2 v3 : Value} {r : List Value} {x : Nat} (d : decode cc pc = .ok (.aload 4, 2)) (hp : pc + 2 = pc') (k : G F S K X pc' (v0 :: v1 :: v2 :: v3 :: .ref x :: r) (.ref x :: st)) : G F S K X pc (v0 :: v1 :: v2 :: v3 :: .ref x :: r) st := by
  obtain ⟨p, l, e, R, s, m, args, below, meth, c, Γ, A, Q⟩ := F
  obtain ⟨hx, hb, hml, hown, hts, hlk, rfl, hK, hA⟩ := hC
  subst hp
  intro H locs L hL hc0 hP hD hS
  exact lv_aload hx hb d (hL.2.2 4 (.ref x) rfl (fun h => by cases h)) (k H locs L hL hc0 hP hD hS)
theorem g_aload_5 (hC : Cx F own cc nL rm) {v0 v1 v2 v3 v4 : Value} {r : List Value} {x : Nat} (d : decode cc pc = .ok (.aload 5, 2)) (hp : pc + 2 = pc') (k : G F S K X pc' (v0 :: v1 :: v2 :: v3 :: v4 :: .ref x :: r) (.ref x :: st)) : G F S K X pc (v0 :: v1 :: v2 :: v3 :: v4 :: .ref x :: r) st := by
  obtain ⟨p, l, e, R, s, m, args, below, meth, c, Γ, A, Q⟩ := F
  obtain ⟨hx, hb, hml, hown, hts, hlk, rfl, hK, hA⟩ := hC
  subst hp
  intro H locs L hL hc0 hP hD hS
  exact lv_aload hx hb d (hL.2.2 5 (.ref x) rfl (fun h => by cases h)) (k H locs L hL hc0 hP hD hS)
theorem g_aload_6 (hC : Cx F own cc nL rm) {v0 v1 v2 v3 v4 v5 : Value} {r : List Value} {x : Nat} (d : decode cc pc = .ok (.aload 6, 2)) (hp : pc + 2 = pc') (k : G F S K X pc' (v0 :: v1 :: v2 :: v3 :: v4 :: v5 :: .ref x :: r) (.ref x :: st)) : G F S K X pc (v0 :: v1 :: v2 :: v3 :: v4 :: v5 :: .ref x :: r) st := by
  obtain ⟨p, l, e, R, s, m, args, below, meth, c, Γ, A, Q⟩ := F
  obtain ⟨hx, hb, hml, hown, hts, hlk, rfl, hK, hA⟩ := hC
  subst hp
  intro H locs L hL hc0 hP hD hS
  exact lv_aload hx hb d (hL.2.2 6 (.ref x) rfl (fun h => by cases h)) (k H locs L hL hc0 hP hD hS)
theorem g_aload_7 (hC : Cx F own cc nL rm) {v0 v1 v2 v3 v4 v5 v6 : Value} {r : List Value} {x : Nat} (d : decode cc pc = .ok (.aload 7, 2)) (hp : pc + 2 = pc') (k : G F S K X pc' (v0 :: v1 :: v2 :: v3 :: v4 :: v5 :: v6 :: .ref x :: r) (.ref x :: st)) : G F S K X pc (v0 :: v1 :: v2 :: v3 :: v4 :: v5 :: v6 :: .ref x :: r) st := by
  obtain ⟨p, l, e, R, s, m, args, below, meth, c, Γ, A, Q⟩ := F
  obtain ⟨hx, hb, hml, hown, hts, hlk, rfl, hK, hA⟩ := hC
  subst hp
  intro H locs L hL hc0 hP hD hS
  exact lv_aload hx hb d (hL.2.2 7 (.ref x) rfl (fun h => by cases h)) (k H locs L hL hc0 hP hD hS)
theorem g_aload_8 (hC : Cx F own cc nL rm) {v0 v1 v2 v3 v4 v5 v6 v7 : Value} {r : List Value} {x : Nat} (d : decode cc pc = .ok (.aload 8, 2)) (hp : pc + 2 = pc') (k : G F S K X pc' (v0 :: v1 :: v2 :: v3 :: v4 :: v5 :: v6 :: v7 :: .ref x :: r) (.ref x :: st)) : G F S K X pc (v0 :: v1 :: v2 :: v3 :: v4 :: v5 :: v6 :: v7 :: .ref x :: r) st := by
  obtain ⟨p, l, e, R, s, m, args, below, meth, c, Γ, A, Q⟩ := F
  obtain ⟨hx, hb, hml, hown, hts, hlk, rfl, hK, hA⟩ := hC
  subst hp
  intro H locs L hL hc0 hP hD hS
  exact lv_aload hx hb d (hL.2.2 8 (.ref x) rfl (fun h => by cases h)) (k H locs L hL hc0 hP hD hS)
theorem g_aload_9 (hC : Cx F own cc nL rm) {v0 v1 v2 v3 v4 v5 v6 v7 v8 : Value} {r : List Value} {x : Nat} (d : decode cc pc = .ok (.aload 9, 2)) (hp : pc + 2 = pc') (k : G F S K X pc' (v0 :: v1 :: v2 :: v3 :: v4 :: v5 :: v6 :: v7 :: v8 :: .ref x :: r) (.ref x :: st)) : G F S K X pc (v0 :: v1 :: v2 :: v3 :: v4 :: v5 :: v6 :: v7 :: v8 :: .ref x :: r) st := by
  obtain ⟨p, l, e, R, s, m, args, below, meth, c, Γ, A, Q⟩ := F
  obtain ⟨hx, hb, hml, hown, hts, hlk, rfl, hK, hA⟩ := hC
  subst hp
  intro H locs L hL hc0 hP hD hS
  exact lv_aload hx hb d (hL.2.2 9 (.ref x) rfl (fun h => by cases h)) (k H locs L hL hc0 hP hD hS)
theorem g_aload_10 (hC : Cx F own cc nL rm) {v0 v1 v2 v3 v4 v5 v6 v7 v8 v9 : Value} {r : List Value} {x : Nat} (d : decode cc pc = .ok (.aload 10, 2)) (hp : pc + 2 = pc') (k : G F S K X pc' (v0 :: v1 :: v2 :: v3 :: v4 :: v5 :: v6 :: v7 :: v8 :: v9 :: .ref x :: r) (.ref x :: st)) : G F S K X pc (v0 :: v1 :: v2 :: v3 :: v4 :: v5 :: v6 :: v7 :: v8 :: v9 :: .ref x :: r) st := by
  obtain ⟨p, l, e, R, s, m, args, below, meth, c, Γ, A, Q⟩ := F
  obtain ⟨hx, hb, hml, hown, hts, hlk, rfl, hK, hA⟩ := hC
  subst hp
  intro H locs L hL hc0 hP hD hS
  exact lv_aload hx hb d (hL.2.2 10 (.ref x) rfl (fun h => by cases h)) (k H locs L hL hc0 hP hD hS)
theorem g_aload_11 (hC : Cx F own cc nL rm) {v0 v1 v2 v3 v4 v5 v6 v7 v8 v9 v10 : Value} {r : List Value} {x : Nat} (d : decode cc pc = .ok (.aload 11, 2)) (hp : pc + 2 = pc') (k : G F S K X pc' (v0 :: v1 :: v2 :: v3 :: v4 :: v5 :: v6 :: v7 :: v8 :: v9 :: v10 :: .ref x :: r) (.ref x :: st)) : G F S K X pc (v0 :: v1 :: v2 :: v3 :: v4 :: v5 :: v6 :: v7 :: v8 :: v9 :: v10 :: .ref x :: r) st := by
  obtain ⟨p, l, e, R, s, m, args, below, meth, c, Γ, A, Q⟩ := F
  obtain ⟨hx, hb, hml, hown, hts, hlk, rfl, hK, hA⟩ := hC
  subst hp
  intro H locs L hL hc0 hP hD hS
  exact lv_aload hx hb d (hL.2.2 11 (.ref x) rfl (fun h => by cases h)) (k H locs L hL hc0 hP hD hS)
theorem g_lload_0 (hC : Cx F own cc nL rm) {r : List Value} {x : Int64} (d : decode cc pc = .ok (.lload_n 0, 1)) (hp : pc + 1 = pc') (k : G F S K X pc' (.long x :: r) (.long x :: st)) : G F S K X pc (.long x :: r) st := by
  obtain ⟨p, l, e, R, s, m, args, below, meth, c, Γ, A, Q⟩ := F
  obtain ⟨hx, hb, hml, hown, hts, hlk, rfl, hK, hA⟩ := hC
  subst hp
  intro H locs L hL hc0 hP hD hS
  exact lv_lload_n hx hb d rfl (hL.2.2 0 (.long x) rfl (fun h => by cases h)) (k H locs L hL hc0 hP hD hS)
theorem g_lload_1 (hC : Cx F own cc nL rm) {v0 : Value} {r : List Value} {x : Int64} (d : decode cc pc = .ok (.lload_n 1, 1)) (hp : pc + 1 = pc') (k : G F S K X pc' (v0 :: .long x :: r) (.long x :: st)) : G F S K X pc (v0 :: .long x :: r) st := by
  obtain ⟨p, l, e, R, s, m, args, below, meth, c, Γ, A, Q⟩ := F
  obtain ⟨hx, hb, hml, hown, hts, hlk, rfl, hK, hA⟩ := hC
  subst hp
  intro H locs L hL hc0 hP hD hS
  exact lv_lload_n hx hb d rfl (hL.2.2 1 (.long x) rfl (fun h => by cases h)) (k H locs L hL hc0 hP hD hS)
theorem g_lload_2 (hC : Cx F own cc nL rm) {v0 v1 : Value} {r : List Value} {x : Int64} (d : decode cc pc = .ok (.lload_n 2, 1)) (hp : pc + 1 = pc') (k : G F S K X pc' (v0 :: v1 :: .long x :: r) (.long x :: st)) : G F S K X pc (v0 :: v1 :: .long x :: r) st := by
  obtain ⟨p, l, e, R, s, m, args, below, meth, c, Γ, A, Q⟩ := F
  obtain ⟨hx, hb, hml, hown, hts, hlk, rfl, hK, hA⟩ := hC
  subst hp
  intro H locs L hL hc0 hP hD hS
  exact lv_lload_n hx hb d rfl (hL.2.2 2 (.long x) rfl (fun h => by cases h)) (k H locs L hL hc0 hP hD hS)
theorem g_lload_3 (hC : Cx F own cc nL rm) {v0 v1 v2 : Value} {r : List Value} {x : Int64} (d : decode cc pc = .ok (.lload_n 3, 1)) (hp : pc + 1 = pc') (k : G F S K X pc' (v0 :: v1 :: v2 :: .long x :: r) (.long x :: st)) : G F S K X pc (v0 :: v1 :: v2 :: .long x :: r) st := by
  obtain ⟨p, l, e, R, s, m, args, below, meth, c, Γ, A, Q⟩ := F
  obtain ⟨hx, hb, hml, hown, hts, hlk, rfl, hK, hA⟩ := hC
  subst hp
  intro H locs L hL hc0 hP hD hS
  exact lv_lload_n hx hb d rfl (hL.2.2 3 (.long x) rfl (fun h => by cases h)) (k H locs L hL hc0 hP hD hS)
theorem g_lload_4 (hC : Cx F own cc nL rm) {v0 v1 v2 v3 : Value} {r : List Value} {x : Int64} (d : decode cc pc = .ok (.lload 4, 2)) (hp : pc + 2 = pc') (k : G F S K X pc' (v0 :: v1 :: v2 :: v3 :: .long x :: r) (.long x :: st)) : G F S K X pc (v0 :: v1 :: v2 :: v3 :: .long x :: r) st := by
  obtain ⟨p, l, e, R, s, m, args, below, meth, c, Γ, A, Q⟩ := F
  obtain ⟨hx, hb, hml, hown, hts, hlk, rfl, hK, hA⟩ := hC
  subst hp
  intro H locs L hL hc0 hP hD hS
  exact lv_lload hx hb d (hL.2.2 4 (.long x) rfl (fun h => by cases h)) (k H locs L hL hc0 hP hD hS)
theorem g_lload_5 (hC : Cx F own cc nL rm) {v0 v1 v2 v3 v4 : Value} {r : List Value} {x : Int64} (d : decode cc pc = .ok (.lload 5, 2)) (hp : pc + 2 = pc') (k : G F S K X pc' (v0 :: v1 :: v2 :: v3 :: v4 :: .long x :: r) (.long x :: st)) : G F S K X pc (v0 :: v1 :: v2 :: v3 :: v4 :: .long x :: r) st := by
  obtain ⟨p, l, e, R, s, m, args, below, meth, c, Γ, A, Q⟩ := F
  obtain ⟨hx, hb, hml, hown, hts, hlk, rfl, hK, hA⟩ := hC
  subst hp
  intro H locs L hL hc0 hP hD hS
  exact lv_lload hx hb d (hL.2.2 5 (.long x) rfl (fun h => by cases h)) (k H locs L hL hc0 hP hD hS)
theorem g_lload_6 (hC : Cx F own cc nL rm) {v0 v1 v2 v3 v4 v5 : Value} {r : List Value} {x : Int64} (d : decode cc pc = .ok (.lload 6, 2)) (hp : pc + 2 = pc') (k : G F S K X pc' (v0 :: v1 :: v2 :: v3 :: v4 :: v5 :: .long x :: r) (.long x :: st)) : G F S K X pc (v0 :: v1 :: v2 :: v3 :: v4 :: v5 :: .long x :: r) st := by
  obtain ⟨p, l, e, R, s, m, args, below, meth, c, Γ, A, Q⟩ := F
  obtain ⟨hx, hb, hml, hown, hts, hlk, rfl, hK, hA⟩ := hC
  subst hp
  intro H locs L hL hc0 hP hD hS
  exact lv_lload hx hb d (hL.2.2 6 (.long x) rfl (fun h => by cases h)) (k H locs L hL hc0 hP hD hS)
theorem g_lload_7 (hC : Cx F own cc nL rm) {v0 v1 v2 v3 v4 v5 v6 : Value} {r : List Value} {x : Int64} (d : decode cc pc = .ok (.lload 7, 2)) (hp : pc + 2 = pc') (k : G F S K X pc' (v0 :: v1 :: v2 :: v3 :: v4 :: v5 :: v6 :: .long x :: r) (.long x :: st)) : G F S K X pc (v0 :: v1 :: v2 :: v3 :: v4 :: v5 :: v6 :: .long x :: r) st := by
  obtain ⟨p, l, e, R, s, m, args, below, meth, c, Γ, A, Q⟩ := F
  obtain ⟨hx, hb, hml, hown, hts, hlk, rfl, hK, hA⟩ := hC
  subst hp
  intro H locs L hL hc0 hP hD hS
  exact lv_lload hx hb d (hL.2.2 7 (.long x) rfl (fun h => by cases h)) (k H locs L hL hc0 hP hD hS)
theorem g_lload_8 (hC : Cx F own cc nL rm) {v0 v1 v2 v3 v4 v5 v6 v7 : Value} {r : List Value} {x : Int64} (d : decode cc pc = .ok (.lload 8, 2)) (hp : pc + 2 = pc') (k : G F S K X pc' (v0 :: v1 :: v2 :: v3 :: v4 :: v5 :: v6 :: v7 :: .long x :: r) (.long x :: st)) : G F S K X pc (v0 :: v1 :: v2 :: v3 :: v4 :: v5 :: v6 :: v7 :: .long x :: r) st := by
  obtain ⟨p, l, e, R, s, m, args, below, meth, c, Γ, A, Q⟩ := F
  obtain ⟨hx, hb, hml, hown, hts, hlk, rfl, hK, hA⟩ := hC
  subst hp
  intro H locs L hL hc0 hP hD hS
  exact lv_lload hx hb d (hL.2.2 8 (.long x) rfl (fun h => by cases h)) (k H locs L hL hc0 hP hD hS)
theorem g_lload_9 (hC : Cx F own cc nL rm) {v0 v1 v2 v3 v4 v5 v6 v7 v8 : Value} {r : List Value} {x : Int64} (d : decode cc pc = .ok (.lload 9, 2)) (hp : pc + 2 = pc') (k : G F S K X pc' (v0 :: v1 :: v2 :: v3 :: v4 :: v5 :: v6 :: v7 :: v8 :: .long x :: r) (.long x :: st)) : G F S K X pc (v0 :: v1 :: v2 :: v3 :: v4 :: v5 :: v6 :: v7 :: v8 :: .long x :: r) st := by
  obtain ⟨p, l, e, R, s, m, args, below, meth, c, Γ, A, Q⟩ := F
  obtain ⟨hx, hb, hml, hown, hts, hlk, rfl, hK, hA⟩ := hC
  subst hp
  intro H locs L hL hc0 hP hD hS
  exact lv_lload hx hb d (hL.2.2 9 (.long x) rfl (fun h => by cases h)) (k H locs L hL hc0 hP hD hS)
theorem g_lload_10 (hC : Cx F own cc nL rm) {v0 v1 v2 v3 v4 v5 v6 v7 v8 v9 : Value} {r : List Value} {x : Int64} (d : decode cc pc = .ok (.lload 10, 2)) (hp : pc + 2 = pc') (k : G F S K X pc' (v0 :: v1 :: v2 :: v3 :: v4 :: v5 :: v6 :: v7 :: v8 :: v9 :: .long x :: r) (.long x :: st)) : G F S K X pc (v0 :: v1 :: v2 :: v3 :: v4 :: v5 :: v6 :: v7 :: v8 :: v9 :: .long x :: r) st := by
  obtain ⟨p, l, e, R, s, m, args, below, meth, c, Γ, A, Q⟩ := F
  obtain ⟨hx, hb, hml, hown, hts, hlk, rfl, hK, hA⟩ := hC
  subst hp
  intro H locs L hL hc0 hP hD hS
  exact lv_lload hx hb d (hL.2.2 10 (.long x) rfl (fun h => by cases h)) (k H locs L hL hc0 hP hD hS)
theorem g_lload_11 (hC : Cx F own cc nL rm) {v0 v1 v2 v3 v4 v5 v6 v7 v8 v9 v10 : Value} {r : List Value} {x : Int64} (d : decode cc pc = .ok (.lload 11, 2)) (hp : pc + 2 = pc') (k : G F S K X pc' (v0 :: v1 :: v2 :: v3 :: v4 :: v5 :: v6 :: v7 :: v8 :: v9 :: v10 :: .long x :: r) (.long x :: st)) : G F S K X pc (v0 :: v1 :: v2 :: v3 :: v4 :: v5 :: v6 :: v7 :: v8 :: v9 :: v10 :: .long x :: r) st := by
  obtain ⟨p, l, e, R, s, m, args, below, meth, c, Γ, A, Q⟩ := F
  obtain ⟨hx, hb, hml, hown, hts, hlk, rfl, hK, hA⟩ := hC
  subst hp
  intro H locs L hL hc0 hP hD hS
  exact lv_lload hx hb d (hL.2.2 11 (.long x) rfl (fun h => by cases h)) (k H locs L hL hc0 hP hD hS)
theorem g_istore_0 (hC : Cx F own cc nL rm) {r : List Value} {x : Int32} {v : Value} (d : decode cc pc = .ok (.istore_n 0, 1)) (hp : pc + 1 = pc') (hn : 0 < nL) (k : G F S K X pc' (.int x :: r) st) : G F S K X pc (v :: r) (.int x :: st) := by
  obtain ⟨p, l, e, R, s, m, args, below, meth, c, Γ, A, Q⟩ := F
  obtain ⟨hx, hb, hml, hown, hts, hlk, rfl, hK, hA⟩ := hC
  subst hp
  intro H locs L hL hc0 hP hD hS
  refine lv_istore_n hx hb d rfl (gass_has hL) (by rw [hml]; exact hn) rfl (fun L' h' => k H locs L' ?_ hc0 hP hD hS)
  exact gLoc_st1 (S := S) (v := .int x) (ls := v :: r) h' (fun w _ h0 => absurd h0 (Nat.lt_irrefl 0))
theorem g_istore_1 (hC : Cx F own cc nL rm) {v0 : Value} {r : List Value} {x : Int32} {v : Value} (d : decode cc pc = .ok (.istore_n 1, 1)) (hp : pc + 1 = pc') (hn : 1 < nL) (hc : v0.category = 1) (k : G F S K X pc' (v0 :: .int x :: r) st) : G F S K X pc (v0 :: v :: r) (.int x :: st) := by
  obtain ⟨p, l, e, R, s, m, args, below, meth, c, Γ, A, Q⟩ := F
  obtain ⟨hx, hb, hml, hown, hts, hlk, rfl, hK, hA⟩ := hC
  subst hp
  intro H locs L hL hc0 hP hD hS
  refine lv_istore_n hx hb d rfl (gass_has hL) (by rw [hml]; exact hn) rfl (fun L' h' => k H locs L' ?_ hc0 hP hD hS)
  exact gLoc_st1 (S := S) (v := .int x) (ls := v0 :: v :: r) h' (fun w hw _ => by cases hw; exact hc)
theorem g_istore_2 (hC : Cx F own cc nL rm) {v0 v1 : Value} {r : List Value} {x : Int32} {v : Value} (d : decode cc pc = .ok (.istore_n 2, 1)) (hp : pc + 1 = pc') (hn : 2 < nL) (hc : v1.category = 1) (k : G F S K X pc' (v0 :: v1 :: .int x :: r) st) : G F S K X pc (v0 :: v1 :: v :: r) (.int x :: st) := by
  obtain ⟨p, l, e, R, s, m, args, below, meth, c, Γ, A, Q⟩ := F
  obtain ⟨hx, hb, hml, hown, hts, hlk, rfl, hK, hA⟩ := hC
  subst hp
  intro H locs L hL hc0 hP hD hS
  refine lv_istore_n hx hb d rfl (gass_has hL) (by rw [hml]; exact hn) rfl (fun L' h' => k H locs L' ?_ hc0 hP hD hS)
  exact gLoc_st1 (S := S) (v := .int x) (ls := v0 :: v1 :: v :: r) h' (fun w hw _ => by cases hw; exact hc)
theorem g_istore_3 (hC : Cx F own cc nL rm) {v0 v1 v2 : Value} {r : List Value} {x : Int32} {v : Value} (d : decode cc pc = .ok (.istore_n 3, 1)) (hp : pc + 1 = pc') (hn : 3 < nL) (hc : v2.category = 1) (k : G F S K X pc' (v0 :: v1 :: v2 :: .int x :: r) st) : G F S K X pc (v0 :: v1 :: v2 :: v :: r) (.int x :: st) := by
  obtain ⟨p, l, e, R, s, m, args, below, meth, c, Γ, A, Q⟩ := F
  obtain ⟨hx, hb, hml, hown, hts, hlk, rfl, hK, hA⟩ := hC
  subst hp
  intro H locs L hL hc0 hP hD hS
  refine lv_istore_n hx hb d rfl (gass_has hL) (by rw [hml]; exact hn) rfl (fun L' h' => k H locs L' ?_ hc0 hP hD hS)
  exact gLoc_st1 (S := S) (v := .int x) (ls := v0 :: v1 :: v2 :: v :: r) h' (fun w hw _ => by cases hw; exact hc)
theorem g_istore_4 (hC : Cx F own cc nL rm) {v0 v1 v2 v3 : Value} {r : List Value} {x : Int32} {v : Value} (d : decode cc pc = .ok (.istore 4, 2)) (hp : pc + 2 = pc') (hn : 4 < nL) (hc : v3.category = 1) (k : G F S K X pc' (v0 :: v1 :: v2 :: v3 :: .int x :: r) st) : G F S K X pc (v0 :: v1 :: v2 :: v3 :: v :: r) (.int x :: st) := by
  obtain ⟨p, l, e, R, s, m, args, below, meth, c, Γ, A, Q⟩ := F
  obtain ⟨hx, hb, hml, hown, hts, hlk, rfl, hK, hA⟩ := hC
  subst hp
  intro H locs L hL hc0 hP hD hS
  refine lv_istore hx hb d (gass_has hL) (by rw [hml]; exact hn) rfl (fun L' h' => k H locs L' ?_ hc0 hP hD hS)
  exact gLoc_st1 (S := S) (v := .int x) (ls := v0 :: v1 :: v2 :: v3 :: v :: r) h' (fun w hw _ => by cases hw; exact hc)
theorem g_istore_5 (hC : Cx F own cc nL rm) {v0 v1 v2 v3 v4 : Value} {r : List Value} {x : Int32} {v : Value} (d : decode cc pc = .ok (.istore 5, 2)) (hp : pc + 2 = pc') (hn : 5 < nL) (hc : v4.category = 1) (k : G F S K X pc' (v0 :: v1 :: v2 :: v3 :: v4 :: .int x :: r) st) : G F S K X pc (v0 :: v1 :: v2 :: v3 :: v4 :: v :: r) (.int x :: st) := by
  obtain ⟨p, l, e, R, s, m, args, below, meth, c, Γ, A, Q⟩ := F
  obtain ⟨hx, hb, hml, hown, hts, hlk, rfl, hK, hA⟩ := hC
  subst hp
  intro H locs L hL hc0 hP hD hS
  refine lv_istore hx hb d (gass_has hL) (by rw [hml]; exact hn) rfl (fun L' h' => k H locs L' ?_ hc0 hP hD hS)
  exact gLoc_st1 (S := S) (v := .int x) (ls := v0 :: v1 :: v2 :: v3 :: v4 :: v :: r) h' (fun w hw _ => by cases hw; exact hc)
theorem g_istore_6 (hC : Cx F own cc nL rm) {v0 v1 v2 v3 v4 v5 : Value} {r : List Value} {x : Int32} {v : Value} (d : decode cc pc = .ok (.istore 6, 2)) (hp : pc + 2 = pc') (hn : 6 < nL) (hc : v5.category = 1) (k : G F S K X pc' (v0 :: v1 :: v2 :: v3 :: v4 :: v5 :: .int x :: r) st) : G F S K X pc (v0 :: v1 :: v2 :: v3 :: v4 :: v5 :: v :: r) (.int x :: st) := by
  obtain ⟨p, l, e, R, s, m, args, below, meth, c, Γ, A, Q⟩ := F
  obtain ⟨hx, hb, hml, hown, hts, hlk, rfl, hK, hA⟩ := hC
  subst hp
  intro H locs L hL hc0 hP hD hS
  refine lv_istore hx hb d (gass_has hL) (by rw [hml]; exact hn) rfl (fun L' h' => k H locs L' ?_ hc0 hP hD hS)
  exact gLoc_st1 (S := S) (v := .int x) (ls := v0 :: v1 :: v2 :: v3 :: v4 :: v5 :: v :: r) h' (fun w hw _ => by cases hw; exact hc)
theorem g_istore_7 (hC : Cx F own cc nL rm) {v0 v1 v2 v3 v4 v5 v6 : Value} {r : List Value} {x : Int32} {v : Value} (d : decode cc pc = .ok (.istore 7, 2)) (hp : pc + 2 = pc') (hn : 7 < nL) (hc : v6.category = 1) (k : G F S K X pc' (v0 :: v1 :: v2 :: v3 :: v4 :: v5 :: v6 :: .int x :: r) st) : G F S K X pc (v0 :: v1 :: v2 :: v3 :: v4 :: v5 :: v6 :: v :: r) (.int x :: st) := by
  obtain ⟨p, l, e, R, s, m, args, below, meth, c, Γ, A, Q⟩ := F
  obtain ⟨hx, hb, hml, hown, hts, hlk, rfl, hK, hA⟩ := hC
  subst hp
  intro H locs L hL hc0 hP hD hS
  refine lv_istore hx hb d (gass_has hL) (by rw [hml]; exact hn) rfl (fun L' h' => k H locs L' ?_ hc0 hP hD hS)
  exact gLoc_st1 (S := S) (v := .int x) (ls := v0 :: v1 :: v2 :: v3 :: v4 :: v5 :: v6 :: v :: r) h' (fun w hw _ => by cases hw; exact hc)
theorem g_istore_8 (hC : Cx F own cc nL rm) {v0 v1 v2 v3 v4 v5 v6 v7 : Value} {r : List Value} {x : Int32} {v : Value} (d : decode cc pc = .ok (.istore 8, 2)) (hp : pc + 2 = pc') (hn : 8 < nL) (hc : v7.category = 1) (k : G F S K X pc' (v0 :: v1 :: v2 :: v3 :: v4 :: v5 :: v6 :: v7 :: .int x :: r) st) : G F S K X pc (v0 :: v1 :: v2 :: v3 :: v4 :: v5 :: v6 :: v7 :: v :: r) (.int x :: st) := by
  obtain ⟨p, l, e, R, s, m, args, below, meth, c, Γ, A, Q⟩ := F
  obtain ⟨hx, hb, hml, hown, hts, hlk, rfl, hK, hA⟩ := hC
  subst hp
  intro H locs L hL hc0 hP hD hS
  refine lv_istore hx hb d (gass_has hL) (by rw [hml]; exact hn) rfl (fun L' h' => k H locs L' ?_ hc0 hP hD hS)
  exact gLoc_st1 (S := S) (v := .int x) (ls := v0 :: v1 :: v2 :: v3 :: v4 :: v5 :: v6 :: v7 :: v :: r) h' (fun w hw _ => by cases hw; exact hc)
theorem g_istore_9 (hC : Cx F own cc nL rm) {v0 v1 v2 v3 v4 v5 v6 v7 v8 : Value} {r : List Value} {x : Int32} {v : Value} (d : decode cc pc = .ok (.istore 9, 2)) (hp : pc + 2 = pc') (hn : 9 < nL) (hc : v8.category = 1) (k : G F S K X pc' (v0 :: v1 :: v2 :: v3 :: v4 :: v5 :: v6 :: v7 :: v8 :: .int x :: r) st) : G F S K X pc (v0 :: v1 :: v2 :: v3 :: v4 :: v5 :: v6 :: v7 :: v8 :: v :: r) (.int x :: st) := by
  obtain ⟨p, l, e, R, s, m, args, below, meth, c, Γ, A, Q⟩ := F
  obtain ⟨hx, hb, hml, hown, hts, hlk, rfl, hK, hA⟩ := hC
  subst hp
  intro H locs L hL hc0 hP hD hS
  refine lv_istore hx hb d (gass_has hL) (by rw [hml]; exact hn) rfl (fun L' h' => k H locs L' ?_ hc0 hP hD hS)
  exact gLoc_st1 (S := S) (v := .int x) (ls := v0 :: v1 :: v2 :: v3 :: v4 :: v5 :: v6 :: v7 :: v8 :: v :: r) h' (fun w hw _ => by cases hw; exact hc)
theorem g_istore_10 (hC : Cx F own cc nL rm) {v0 v1 v2 v3 v4 v5 v6 v7 v8 v9 : Value} {r : List Value} {x : Int32} {v : Value} (d : decode cc pc = .ok (.istore 10, 2)) (hp : pc + 2 = pc') (hn : 10 < nL) (hc : v9.category = 1) (k : G F S K X pc' (v0 :: v1 :: v2 :: v3 :: v4 :: v5 :: v6 :: v7 :: v8 :: v9 :: .int x :: r) st) : G F S K X pc (v0 :: v1 :: v2 :: v3 :: v4 :: v5 :: v6 :: v7 :: v8 :: v9 :: v :: r) (.int x :: st) := by
  obtain ⟨p, l, e, R, s, m, args, below, meth, c, Γ, A, Q⟩ := F
  obtain ⟨hx, hb, hml, hown, hts, hlk, rfl, hK, hA⟩ := hC
  subst hp
  intro H locs L hL hc0 hP hD hS
  refine lv_istore hx hb d (gass_has hL) (by rw [hml]; exact hn) rfl (fun L' h' => k H locs L' ?_ hc0 hP hD hS)
  exact gLoc_st1 (S := S) (v := .int x) (ls := v0 :: v1 :: v2 :: v3 :: v4 :: v5 :: v6 :: v7 :: v8 :: v9 :: v :: r) h' (fun w hw _ => by cases hw; exact hc)
theorem g_istore_11 (hC : Cx F own cc nL rm) {v0 v1 v2 v3 v4 v5 v6 v7 v8 v9 v10 : Value} {r : List Value} {x : Int32} {v : Value} (d : decode cc pc = .ok (.istore 11, 2)) (hp : pc + 2 = pc') (hn : 11 < nL) (hc : v10.category = 1) (k : G F S K X pc' (v0 :: v1 :: v2 :: v3 :: v4 :: v5 :: v6 :: v7 :: v8 :: v9 :: v10 :: .int x :: r) st) : G F S K X pc (v0 :: v1 :: v2 :: v3 :: v4 :: v5 :: v6 :: v7 :: v8 :: v9 :: v10 :: v :: r) (.int x :: st) := by
  obtain ⟨p, l, e, R, s, m, args, below, meth, c, Γ, A, Q⟩ := F
  obtain ⟨hx, hb, hml, hown, hts, hlk, rfl, hK, hA⟩ := hC
  subst hp
  intro H locs L hL hc0 hP hD hS
  refine lv_istore hx hb d (gass_has hL) (by rw [hml]; exact hn) rfl (fun L' h' => k H locs L' ?_ hc0 hP hD hS)
  exact gLoc_st1 (S := S) (v := .int x) (ls := v0 :: v1 :: v2 :: v3 :: v4 :: v5 :: v6 :: v7 :: v8 :: v9 :: v10 :: v :: r) h' (fun w hw _ => by cases hw; exact hc)
theorem g_astore_0 (hC : Cx F own cc nL rm) {r : List Value} {x : Nat} {v : Value} (d : decode cc pc = .ok (.astore_n 0, 1)) (hp : pc + 1 = pc') (hn : 0 < nL) (k : G F S K X pc' (.ref x :: r) st) : G F S K X pc (v :: r) (.ref x :: st) := by
  obtain ⟨p, l, e, R, s, m, args, below, meth, c, Γ, A, Q⟩ := F
  obtain ⟨hx, hb, hml, hown, hts, hlk, rfl, hK, hA⟩ := hC
  subst hp
  intro H locs L hL hc0 hP hD hS
  refine lv_astore_n hx hb d rfl (gass_has hL) (by rw [hml]; exact hn) rfl (fun L' h' => k H locs L' ?_ hc0 hP hD hS)
  exact gLoc_st1 (S := S) (v := .ref x) (ls := v :: r) h' (fun w _ h0 => absurd h0 (Nat.lt_irrefl 0))
theorem g_astore_1 (hC : Cx F own cc nL rm) {v0 : Value} {r : List Value} {x : Nat} {v : Value} (d : decode cc pc = .ok (.astore_n 1, 1)) (hp : pc + 1 = pc') (hn : 1 < nL) (hc : v0.category = 1) (k : G F S K X pc' (v0 :: .ref x :: r) st) : G F S K X pc (v0 :: v :: r) (.ref x :: st) := by
  obtain ⟨p, l, e, R, s, m, args, below, meth, c, Γ, A, Q⟩ := F
  obtain ⟨hx, hb, hml, hown, hts, hlk, rfl, hK, hA⟩ := hC
  subst hp
  intro H locs L hL hc0 hP hD hS
  refine lv_astore_n hx hb d rfl (gass_has hL) (by rw [hml]; exact hn) rfl (fun L' h' => k H locs L' ?_ hc0 hP hD hS)
  exact gLoc_st1 (S := S) (v := .ref x) (ls := v0 :: v :: r) h' (fun w hw _ => by cases hw; exact hc)
theorem g_astore_2 (hC : Cx F own cc nL rm) {v0 v1 : Value} {r : List Value} {x : Nat} {v : Value} (d : decode cc pc = .ok (.astore_n 2, 1)) (hp : pc + 1 = pc') (hn : 2 < nL) (hc : v1.category = 1) (k : G F S K X pc' (v0 :: v1 :: .ref x :: r) st) : G F S K X pc (v0 :: v1 :: v :: r) (.ref x :: st) := by
  obtain ⟨p, l, e, R, s, m, args, below, meth, c, Γ, A, Q⟩ := F
  obtain ⟨hx, hb, hml, hown, hts, hlk, rfl, hK, hA⟩ := hC
  subst hp
  intro H locs L hL hc0 hP hD hS
  refine lv_astore_n hx hb d rfl (gass_has hL) (by rw [hml]; exact hn) rfl (fun L' h' => k H locs L' ?_ hc0 hP hD hS)
  exact gLoc_st1 (S := S) (v := .ref x) (ls := v0 :: v1 :: v :: r) h' (fun w hw _ => by cases hw; exact hc)
theorem g_astore_3 (hC : Cx F own cc nL rm) {v0 v1 v2 : Value} {r : List Value} {x : Nat} {v : Value} (d : decode cc pc = .ok (.astore_n 3, 1)) (hp : pc + 1 = pc') (hn : 3 < nL) (hc : v2.category = 1) (k : G F S K X pc' (v0 :: v1 :: v2 :: .ref x :: r) st) : G F S K X pc (v0 :: v1 :: v2 :: v :: r) (.ref x :: st) := by
  obtain ⟨p, l, e, R, s, m, args, below, meth, c, Γ, A, Q⟩ := F
  obtain ⟨hx, hb, hml, hown, hts, hlk, rfl, hK, hA⟩ := hC
  subst hp
  intro H locs L hL hc0 hP hD hS
  refine lv_astore_n hx hb d rfl (gass_has hL) (by rw [hml]; exact hn) rfl (fun L' h' => k H locs L' ?_ hc0 hP hD hS)
  exact gLoc_st1 (S := S) (v := .ref x) (ls := v0 :: v1 :: v2 :: v :: r) h' (fun w hw _ => by cases hw; exact hc)
theorem g_astore_4 (hC : Cx F own cc nL rm) {v0 v1 v2 v3 : Value} {r : List Value} {x : Nat} {v : Value} (d : decode cc pc = .ok (.astore 4, 2)) (hp : pc + 2 = pc') (hn : 4 < nL) (hc : v3.category = 1) (k : G F S K X pc' (v0 :: v1 :: v2 :: v3 :: .ref x :: r) st) : G F S K X pc (v0 :: v1 :: v2 :: v3 :: v :: r) (.ref x :: st) := by
  obtain ⟨p, l, e, R, s, m, args, below, meth, c, Γ, A, Q⟩ := F
  obtain ⟨hx, hb, hml, hown, hts, hlk, rfl, hK, hA⟩ := hC
  subst hp
  intro H locs L hL hc0 hP hD hS
  refine lv_astore hx hb d (gass_has hL) (by rw [hml]; exact hn) rfl (fun L' h' => k H locs L' ?_ hc0 hP hD hS)
  exact gLoc_st1 (S := S) (v := .ref x) (ls := v0 :: v1 :: v2 :: v3 :: v :: r) h' (fun w hw _ => by cases hw; exact hc)
theorem g_astore_5 (hC : Cx F own cc nL rm) {v0 v1 v2 v3 v4 : Value} {r : List Value} {x : Nat} {v : Value} (d : decode cc pc = .ok (.astore 5, 2)) (hp : pc + 2 = pc') (hn : 5 < nL) (hc : v4.category = 1) (k : G F S K X pc' (v0 :: v1 :: v2 :: v3 :: v4 :: .ref x :: r) st) : G F S K X pc (v0 :: v1 :: v2 :: v3 :: v4 :: v :: r) (.ref x :: st) := by
  obtain ⟨p, l, e, R, s, m, args, below, meth, c, Γ, A, Q⟩ := F
  obtain ⟨hx, hb, hml, hown, hts, hlk, rfl, hK, hA⟩ := hC
  subst hp
  intro H locs L hL hc0 hP hD hS
  refine lv_astore hx hb d (gass_has hL) (by rw [hml]; exact hn) rfl (fun L' h' => k H locs L' ?_ hc0 hP hD hS)
  exact gLoc_st1 (S := S) (v := .ref x) (ls := v0 :: v1 :: v2 :: v3 :: v4 :: v :: r) h' (fun w hw _ => by cases hw; exact hc)
theorem g_astore_6 (hC : Cx F own cc nL rm) {v0 v1 v2 v3 v4 v5 : Value} {r : List Value} {x : Nat} {v : Value} (d : decode cc pc = .ok (.astore 6, 2)) (hp : pc + 2 = pc') (hn : 6 < nL) (hc : v5.category = 1) (k : G F S K X pc' (v0 :: v1 :: v2 :: v3 :: v4 :: v5 :: .ref x :: r) st) : G F S K X pc (v0 :: v1 :: v2 :: v3 :: v4 :: v5 :: v :: r) (.ref x :: st) := by
  obtain ⟨p, l, e, R, s, m, args, below, meth, c, Γ, A, Q⟩ := F
  obtain ⟨hx, hb, hml, hown, hts, hlk, rfl, hK, hA⟩ := hC
  subst hp
  intro H locs L hL hc0 hP hD hS
  refine lv_astore hx hb d (gass_has hL) (by rw [hml]; exact hn) rfl (fun L' h' => k H locs L' ?_ hc0 hP hD hS)
  exact gLoc_st1 (S := S) (v := .ref x) (ls := v0 :: v1 :: v2 :: v3 :: v4 :: v5 :: v :: r) h' (fun w hw _ => by cases hw; exact hc)
theorem g_astore_7 (hC : Cx F own cc nL rm) {v0 v1 v2 v3 v4 v5 v6 : Value} {r : List Value} {x : Nat} {v : Value} (d : decode cc pc = .ok (.astore 7, 2)) (hp : pc + 2 = pc') (hn : 7 < nL) (hc : v6.category = 1) (k : G F S K X pc' (v0 :: v1 :: v2 :: v3 :: v4 :: v5 :: v6 :: .ref x :: r) st) : G F S K X pc (v0 :: v1 :: v2 :: v3 :: v4 :: v5 :: v6 :: v :: r) (.ref x :: st) := by
  obtain ⟨p, l, e, R, s, m, args, below, meth, c, Γ, A, Q⟩ := F
  obtain ⟨hx, hb, hml, hown, hts, hlk, rfl, hK, hA⟩ := hC
  subst hp
  intro H locs L hL hc0 hP hD hS
  refine lv_astore hx hb d (gass_has hL) (by rw [hml]; exact hn) rfl (fun L' h' => k H locs L' ?_ hc0 hP hD hS)
  exact gLoc_st1 (S := S) (v := .ref x) (ls := v0 :: v1 :: v2 :: v3 :: v4 :: v5 :: v6 :: v :: r) h' (fun w hw _ => by cases hw; exact hc)
theorem g_astore_8 (hC : Cx F own cc nL rm) {v0 v1 v2 v3 v4 v5 v6 v7 : Value} {r : List Value} {x : Nat} {v : Value} (d : decode cc pc = .ok (.astore 8, 2)) (hp : pc + 2 = pc') (hn : 8 < nL) (hc : v7.category = 1) (k : G F S K X pc' (v0 :: v1 :: v2 :: v3 :: v4 :: v5 :: v6 :: v7 :: .ref x :: r) st) : G F S K X pc (v0 :: v1 :: v2 :: v3 :: v4 :: v5 :: v6 :: v7 :: v :: r) (.ref x :: st) := by
  obtain ⟨p, l, e, R, s, m, args, below, meth, c, Γ, A, Q⟩ := F
  obtain ⟨hx, hb, hml, hown, hts, hlk, rfl, hK, hA⟩ := hC
  subst hp
  intro H locs L hL hc0 hP hD hS
  refine lv_astore hx hb d (gass_has hL) (by rw [hml]; exact hn) rfl (fun L' h' => k H locs L' ?_ hc0 hP hD hS)
  exact gLoc_st1 (S := S) (v := .ref x) (ls := v0 :: v1 :: v2 :: v3 :: v4 :: v5 :: v6 :: v7 :: v :: r) h' (fun w hw _ => by cases hw; exact hc)
theorem g_astore_9 (hC : Cx F own cc nL rm) {v0 v1 v2 v3 v4 v5 v6 v7 v8 : Value} {r : List Value} {x : Nat} {v : Value} (d : decode cc pc = .ok (.astore 9, 2)) (hp : pc + 2 = pc') (hn : 9 < nL) (hc : v8.category = 1) (k : G F S K X pc' (v0 :: v1 :: v2 :: v3 :: v4 :: v5 :: v6 :: v7 :: v8 :: .ref x :: r) st) : G F S K X pc (v0 :: v1 :: v2 :: v3 :: v4 :: v5 :: v6 :: v7 :: v8 :: v :: r) (.ref x :: st) := by
  obtain ⟨p, l, e, R, s, m, args, below, meth, c, Γ, A, Q⟩ := F
  obtain ⟨hx, hb, hml, hown, hts, hlk, rfl, hK, hA⟩ := hC
  subst hp
  intro H locs L hL hc0 hP hD hS
  refine lv_astore hx hb d (gass_has hL) (by rw [hml]; exact hn) rfl (fun L' h' => k H locs L' ?_ hc0 hP hD hS)
  exact gLoc_st1 (S := S) (v := .ref x) (ls := v0 :: v1 :: v2 :: v3 :: v4 :: v5 :: v6 :: v7 :: v8 :: v :: r) h' (fun w hw _ => by cases hw; exact hc)
theorem g_astore_10 (hC : Cx F own cc nL rm) {v0 v1 v2 v3 v4 v5 v6 v7 v8 v9 : Value} {r : List Value} {x : Nat} {v : Value} (d : decode cc pc = .ok (.astore 10, 2)) (hp : pc + 2 = pc') (hn : 10 < nL) (hc : v9.category = 1) (k : G F S K X pc' (v0 :: v1 :: v2 :: v3 :: v4 :: v5 :: v6 :: v7 :: v8 :: v9 :: .ref x :: r) st) : G F S K X pc (v0 :: v1 :: v2 :: v3 :: v4 :: v5 :: v6 :: v7 :: v8 :: v9 :: v :: r) (.ref x :: st) := by
  obtain ⟨p, l, e, R, s, m, args, below, meth, c, Γ, A, Q⟩ := F
  obtain ⟨hx, hb, hml, hown, hts, hlk, rfl, hK, hA⟩ := hC
  subst hp
  intro H locs L hL hc0 hP hD hS
  refine lv_astore hx hb d (gass_has hL) (by rw [hml]; exact hn) rfl (fun L' h' => k H locs L' ?_ hc0 hP hD hS)
  exact gLoc_st1 (S := S) (v := .ref x) (ls := v0 :: v1 :: v2 :: v3 :: v4 :: v5 :: v6 :: v7 :: v8 :: v9 :: v :: r) h' (fun w hw _ => by cases hw; exact hc)
theorem g_astore_11 (hC : Cx F own cc nL rm) {v0 v1 v2 v3 v4 v5 v6 v7 v8 v9 v10 : Value} {r : List Value} {x : Nat} {v : Value} (d : decode cc pc = .ok (.astore 11, 2)) (hp : pc + 2 = pc') (hn : 11 < nL) (hc : v10.category = 1) (k : G F S K X pc' (v0 :: v1 :: v2 :: v3 :: v4 :: v5 :: v6 :: v7 :: v8 :: v9 :: v10 :: .ref x :: r) st) : G F S K X pc (v0 :: v1 :: v2 :: v3 :: v4 :: v5 :: v6 :: v7 :: v8 :: v9 :: v10 :: v :: r) (.ref x :: st) := by
  obtain ⟨p, l, e, R, s, m, args, below, meth, c, Γ, A, Q⟩ := F
  obtain ⟨hx, hb, hml, hown, hts, hlk, rfl, hK, hA⟩ := hC
  subst hp
  intro H locs L hL hc0 hP hD hS
  refine lv_astore hx hb d (gass_has hL) (by rw [hml]; exact hn) rfl (fun L' h' => k H locs L' ?_ hc0 hP hD hS)
  exact gLoc_st1 (S := S) (v := .ref x) (ls := v0 :: v1 :: v2 :: v3 :: v4 :: v5 :: v6 :: v7 :: v8 :: v9 :: v10 :: v :: r) h' (fun w hw _ => by cases hw; exact hc)
theorem g_lstore_0 (hC : Cx F own cc nL rm) {r : List Value} {x : Int64} {v v' : Value} (d : decode cc pc = .ok (.lstore_n 0, 1)) (hp : pc + 1 = pc') (hn : 0 + 1 < nL) (k : G F S K X pc' (.long x :: .null :: r) st) : G F S K X pc (v :: v' :: r) (.long x :: st) := by
  obtain ⟨p, l, e, R, s, m, args, below, meth, c, Γ, A, Q⟩ := F
  obtain ⟨hx, hb, hml, hown, hts, hlk, rfl, hK, hA⟩ := hC
  subst hp
  intro H locs L hL hc0 hP hD hS
  refine lv_lstore_n hx hb d rfl (gass_has hL) (by rw [hml]; exact hn) rfl (fun L' h' => k H locs L' ?_ hc0 hP hD hS)
  exact gLoc_st2 (S := S) (v := .long x) (ls := v :: v' :: r) h' (fun w _ h0 => absurd h0 (Nat.lt_irrefl 0))
theorem g_lstore_1 (hC : Cx F own cc nL rm) {v0 : Value} {r : List Value} {x : Int64} {v v' : Value} (d : decode cc pc = .ok (.lstore_n 1, 1)) (hp : pc + 1 = pc') (hn : 1 + 1 < nL) (hc : v0.category = 1) (k : G F S K X pc' (v0 :: .long x :: .null :: r) st) : G F S K X pc (v0 :: v :: v' :: r) (.long x :: st) := by
  obtain ⟨p, l, e, R, s, m, args, below, meth, c, Γ, A, Q⟩ := F
  obtain ⟨hx, hb, hml, hown, hts, hlk, rfl, hK, hA⟩ := hC
  subst hp
  intro H locs L hL hc0 hP hD hS
  refine lv_lstore_n hx hb d rfl (gass_has hL) (by rw [hml]; exact hn) rfl (fun L' h' => k H locs L' ?_ hc0 hP hD hS)
  exact gLoc_st2 (S := S) (v := .long x) (ls := v0 :: v :: v' :: r) h' (fun w hw _ => by cases hw; exact hc)
theorem g_lstore_2 (hC : Cx F own cc nL rm) {v0 v1 : Value} {r : List Value} {x : Int64} {v v' : Value} (d : decode cc pc = .ok (.lstore_n 2, 1)) (hp : pc + 1 = pc') (hn : 2 + 1 < nL) (hc : v1.category = 1) (k : G F S K X pc' (v0 :: v1 :: .long x :: .null :: r) st) : G F S K X pc (v0 :: v1 :: v :: v' :: r) (.long x :: st) := by
  obtain ⟨p, l, e, R, s, m, args, below, meth, c, Γ, A, Q⟩ := F
  obtain ⟨hx, hb, hml, hown, hts, hlk, rfl, hK, hA⟩ := hC
  subst hp
  intro H locs L hL hc0 hP hD hS
  refine lv_lstore_n hx hb d rfl (gass_has hL) (by rw [hml]; exact hn) rfl (fun L' h' => k H locs L' ?_ hc0 hP hD hS)
  exact gLoc_st2 (S := S) (v := .long x) (ls := v0 :: v1 :: v :: v' :: r) h' (fun w hw _ => by cases hw; exact hc)
theorem g_lstore_3 (hC : Cx F own cc nL rm) {v0 v1 v2 : Value} {r : List Value} {x : Int64} {v v' : Value} (d : decode cc pc = .ok (.lstore_n 3, 1)) (hp : pc + 1 = pc') (hn : 3 + 1 < nL) (hc : v2.category = 1) (k : G F S K X pc' (v0 :: v1 :: v2 :: .long x :: .null :: r) st) : G F S K X pc (v0 :: v1 :: v2 :: v :: v' :: r) (.long x :: st) := by
  obtain ⟨p, l, e, R, s, m, args, below, meth, c, Γ, A, Q⟩ := F
  obtain ⟨hx, hb, hml, hown, hts, hlk, rfl, hK, hA⟩ := hC
  subst hp
  intro H locs L hL hc0 hP hD hS
  refine lv_lstore_n hx hb d rfl (gass_has hL) (by rw [hml]; exact hn) rfl (fun L' h' => k H locs L' ?_ hc0 hP hD hS)
  exact gLoc_st2 (S := S) (v := .long x) (ls := v0 :: v1 :: v2 :: v :: v' :: r) h' (fun w hw _ => by cases hw; exact hc)
theorem g_lstore_4 (hC : Cx F own cc nL rm) {v0 v1 v2 v3 : Value} {r : List Value} {x : Int64} {v v' : Value} (d : decode cc pc = .ok (.lstore 4, 2)) (hp : pc + 2 = pc') (hn : 4 + 1 < nL) (hc : v3.category = 1) (k : G F S K X pc' (v0 :: v1 :: v2 :: v3 :: .long x :: .null :: r) st) : G F S K X pc (v0 :: v1 :: v2 :: v3 :: v :: v' :: r) (.long x :: st) := by
  obtain ⟨p, l, e, R, s, m, args, below, meth, c, Γ, A, Q⟩ := F
  obtain ⟨hx, hb, hml, hown, hts, hlk, rfl, hK, hA⟩ := hC
  subst hp
  intro H locs L hL hc0 hP hD hS
  refine lv_lstore hx hb d (gass_has hL) (by rw [hml]; exact hn) rfl (fun L' h' => k H locs L' ?_ hc0 hP hD hS)
  exact gLoc_st2 (S := S) (v := .long x) (ls := v0 :: v1 :: v2 :: v3 :: v :: v' :: r) h' (fun w hw _ => by cases hw; exact hc)
theorem g_lstore_5 (hC : Cx F own cc nL rm) {v0 v1 v2 v3 v4 : Value} {r : List Value} {x : Int64} {v v' : Value} (d : decode cc pc = .ok (.lstore 5, 2)) (hp : pc + 2 = pc') (hn : 5 + 1 < nL) (hc : v4.category = 1) (k : G F S K X pc' (v0 :: v1 :: v2 :: v3 :: v4 :: .long x :: .null :: r) st) : G F S K X pc (v0 :: v1 :: v2 :: v3 :: v4 :: v :: v' :: r) (.long x :: st) := by
  obtain ⟨p, l, e, R, s, m, args, below, meth, c, Γ, A, Q⟩ := F
  obtain ⟨hx, hb, hml, hown, hts, hlk, rfl, hK, hA⟩ := hC
  subst hp
  intro H locs L hL hc0 hP hD hS
  refine lv_lstore hx hb d (gass_has hL) (by rw [hml]; exact hn) rfl (fun L' h' => k H locs L' ?_ hc0 hP hD hS)
  exact gLoc_st2 (S := S) (v := .long x) (ls := v0 :: v1 :: v2 :: v3 :: v4 :: v :: v' :: r) h' (fun w hw _ => by cases hw; exact hc)
theorem g_lstore_6 (hC : Cx F own cc nL rm) {v0 v1 v2 v3 v4 v5 : Value} {r : List Value} {x : Int64} {v v' : Value} (d : decode cc pc = .ok (.lstore 6, 2)) (hp : pc + 2 = pc') (hn : 6 + 1 < nL) (hc : v5.category = 1) (k : G F S K X pc' (v0 :: v1 :: v2 :: v3 :: v4 :: v5 :: .long x :: .null :: r) st) : G F S K X pc (v0 :: v1 :: v2 :: v3 :: v4 :: v5 :: v :: v' :: r) (.long x :: st) := by
  obtain ⟨p, l, e, R, s, m, args, below, meth, c, Γ, A, Q⟩ := F
  obtain ⟨hx, hb, hml, hown, hts, hlk, rfl, hK, hA⟩ := hC
  subst hp
  intro H locs L hL hc0 hP hD hS
  refine lv_lstore hx hb d (gass_has hL) (by rw [hml]; exact hn) rfl (fun L' h' => k H locs L' ?_ hc0 hP hD hS)
  exact gLoc_st2 (S := S) (v := .long x) (ls := v0 :: v1 :: v2 :: v3 :: v4 :: v5 :: v :: v' :: r) h' (fun w hw _ => by cases hw; exact hc)
theorem g_lstore_7 (hC : Cx F own cc nL rm) {v0 v1 v2 v3 v4 v5 v6 : Value} {r : List Value} {x : Int64} {v v' : Value} (d : decode cc pc = .ok (.lstore 7, 2)) (hp : pc + 2 = pc') (hn : 7 + 1 < nL) (hc : v6.category = 1) (k : G F S K X pc' (v0 :: v1 :: v2 :: v3 :: v4 :: v5 :: v6 :: .long x :: .null :: r) st) : G F S K X pc (v0 :: v1 :: v2 :: v3 :: v4 :: v5 :: v6 :: v :: v' :: r) (.long x :: st) := by
  obtain ⟨p, l, e, R, s, m, args, below, meth, c, Γ, A, Q⟩ := F
  obtain ⟨hx, hb, hml, hown, hts, hlk, rfl, hK, hA⟩ := hC
  subst hp
  intro H locs L hL hc0 hP hD hS
  refine lv_lstore hx hb d (gass_has hL) (by rw [hml]; exact hn) rfl (fun L' h' => k H locs L' ?_ hc0 hP hD hS)
  exact gLoc_st2 (S := S) (v := .long x) (ls := v0 :: v1 :: v2 :: v3 :: v4 :: v5 :: v6 :: v :: v' :: r) h' (fun w hw _ => by cases hw; exact hc)
theorem g_lstore_8 (hC : Cx F own cc nL rm) {v0 v1 v2 v3 v4 v5 v6 v7 : Value} {r : List Value} {x : Int64} {v v' : Value} (d : decode cc pc = .ok (.lstore 8, 2)) (hp : pc + 2 = pc') (hn : 8 + 1 < nL) (hc : v7.category = 1) (k : G F S K X pc' (v0 :: v1 :: v2 :: v3 :: v4 :: v5 :: v6 :: v7 :: .long x :: .null :: r) st) : G F S K X pc (v0 :: v1 :: v2 :: v3 :: v4 :: v5 :: v6 :: v7 :: v :: v' :: r) (.long x :: st) := by
  obtain ⟨p, l, e, R, s, m, args, below, meth, c, Γ, A, Q⟩ := F
  obtain ⟨hx, hb, hml, hown, hts, hlk, rfl, hK, hA⟩ := hC
  subst hp
  intro H locs L hL hc0 hP hD hS
  refine lv_lstore hx hb d (gass_has hL) (by rw [hml]; exact hn) rfl (fun L' h' => k H locs L' ?_ hc0 hP hD hS)
  exact gLoc_st2 (S := S) (v := .long x) (ls := v0 :: v1 :: v2 :: v3 :: v4 :: v5 :: v6 :: v7 :: v :: v' :: r) h' (fun w hw _ => by cases hw; exact hc)
theorem g_lstore_9 (hC : Cx F own cc nL rm) {v0 v1 v2 v3 v4 v5 v6 v7 v8 : Value} {r : List Value} {x : Int64} {v v' : Value} (d : decode cc pc = .ok (.lstore 9, 2)) (hp : pc + 2 = pc') (hn : 9 + 1 < nL) (hc : v8.category = 1) (k : G F S K X pc' (v0 :: v1 :: v2 :: v3 :: v4 :: v5 :: v6 :: v7 :: v8 :: .long x :: .null :: r) st) : G F S K X pc (v0 :: v1 :: v2 :: v3 :: v4 :: v5 :: v6 :: v7 :: v8 :: v :: v' :: r) (.long x :: st) := by
  obtain ⟨p, l, e, R, s, m, args, below, meth, c, Γ, A, Q⟩ := F
  obtain ⟨hx, hb, hml, hown, hts, hlk, rfl, hK, hA⟩ := hC
  subst hp
  intro H locs L hL hc0 hP hD hS
  refine lv_lstore hx hb d (gass_has hL) (by rw [hml]; exact hn) rfl (fun L' h' => k H locs L' ?_ hc0 hP hD hS)
  exact gLoc_st2 (S := S) (v := .long x) (ls := v0 :: v1 :: v2 :: v3 :: v4 :: v5 :: v6 :: v7 :: v8 :: v :: v' :: r) h' (fun w hw _ => by cases hw; exact hc)
theorem g_lstore_10 (hC : Cx F own cc nL rm) {v0 v1 v2 v3 v4 v5 v6 v7 v8 v9 : Value} {r : List Value} {x : Int64} {v v' : Value} (d : decode cc pc = .ok (.lstore 10, 2)) (hp : pc + 2 = pc') (hn : 10 + 1 < nL) (hc : v9.category = 1) (k : G F S K X pc' (v0 :: v1 :: v2 :: v3 :: v4 :: v5 :: v6 :: v7 :: v8 :: v9 :: .long x :: .null :: r) st) : G F S K X pc (v0 :: v1 :: v2 :: v3 :: v4 :: v5 :: v6 :: v7 :: v8 :: v9 :: v :: v' :: r) (.long x :: st) := by
  obtain ⟨p, l, e, R, s, m, args, below, meth, c, Γ, A, Q⟩ := F
  obtain ⟨hx, hb, hml, hown, hts, hlk, rfl, hK, hA⟩ := hC
  subst hp
  intro H locs L hL hc0 hP hD hS
  refine lv_lstore hx hb d (gass_has hL) (by rw [hml]; exact hn) rfl (fun L' h' => k H locs L' ?_ hc0 hP hD hS)
  exact gLoc_st2 (S := S) (v := .long x) (ls := v0 :: v1 :: v2 :: v3 :: v4 :: v5 :: v6 :: v7 :: v8 :: v9 :: v :: v' :: r) h' (fun w hw _ => by cases hw; exact hc)
theorem g_iinc_0 (hC : Cx F own cc nL rm) {r : List Value} {x v : Int32} {n : Int} (d : decode cc pc = .ok (.iinc 0 n, 3)) (hp : pc + 3 = pc') (hn : 0 < nL) (hv : x + Int32.ofInt n = v) (k : G F S K X pc' (.int v :: r) st) : G F S K X pc (.int x :: r) st := by
  obtain ⟨p, l, e, R, s, m, args, below, meth, c, Γ, A, Q⟩ := F
  obtain ⟨hx, hb, hml, hown, hts, hlk, rfl, hK, hA⟩ := hC
  subst hp
  intro H locs L hL hc0 hP hD hS
  obtain ⟨j, hj⟩ := List.getElem?_of_mem (gass_mem (S := S) (ls := .int x :: r) (i := 0) (v := .int x) rfl (fun h => by cases h))
  refine lv_iinc hx hb d (gass_has hL) hj hv (by rw [hml]; exact hn) rfl (fun L' h' => k H locs L' ?_ hc0 hP hD hS)
  exact gLoc_st1 (S := S) (v := .int v) (ls := .int x :: r) h' (fun w _ h0 => absurd h0 (Nat.lt_irrefl 0))
theorem g_iinc_1 (hC : Cx F own cc nL rm) {v0 : Value} {r : List Value} {x v : Int32} {n : Int} (d : decode cc pc = .ok (.iinc 1 n, 3)) (hp : pc + 3 = pc') (hn : 1 < nL) (hc : v0.category = 1) (hv : x + Int32.ofInt n = v) (k : G F S K X pc' (v0 :: .int v :: r) st) : G F S K X pc (v0 :: .int x :: r) st := by
  obtain ⟨p, l, e, R, s, m, args, below, meth, c, Γ, A, Q⟩ := F
  obtain ⟨hx, hb, hml, hown, hts, hlk, rfl, hK, hA⟩ := hC
  subst hp
  intro H locs L hL hc0 hP hD hS
  obtain ⟨j, hj⟩ := List.getElem?_of_mem (gass_mem (S := S) (ls := v0 :: .int x :: r) (i := 1) (v := .int x) rfl (fun h => by cases h))
  refine lv_iinc hx hb d (gass_has hL) hj hv (by rw [hml]; exact hn) rfl (fun L' h' => k H locs L' ?_ hc0 hP hD hS)
  exact gLoc_st1 (S := S) (v := .int v) (ls := v0 :: .int x :: r) h' (fun w hw _ => by cases hw; exact hc)
theorem g_iinc_2 (hC : Cx F own cc nL rm) {v0 v1 : Value} {r : List Value} {x v : Int32} {n : Int} (d : decode cc pc = .ok (.iinc 2 n, 3)) (hp : pc + 3 = pc') (hn : 2 < nL) (hc : v1.category = 1) (hv : x + Int32.ofInt n = v) (k : G F S K X pc' (v0 :: v1 :: .int v :: r) st) : G F S K X pc (v0 :: v1 :: .int x :: r) st := by
  obtain ⟨p, l, e, R, s, m, args, below, meth, c, Γ, A, Q⟩ := F
  obtain ⟨hx, hb, hml, hown, hts, hlk, rfl, hK, hA⟩ := hC
  subst hp
  intro H locs L hL hc0 hP hD hS
  obtain ⟨j, hj⟩ := List.getElem?_of_mem (gass_mem (S := S) (ls := v0 :: v1 :: .int x :: r) (i := 2) (v := .int x) rfl (fun h => by cases h))
  refine lv_iinc hx hb d (gass_has hL) hj hv (by rw [hml]; exact hn) rfl (fun L' h' => k H locs L' ?_ hc0 hP hD hS)
  exact gLoc_st1 (S := S) (v := .int v) (ls := v0 :: v1 :: .int x :: r) h' (fun w hw _ => by cases hw; exact hc)
theorem g_iinc_3 (hC : Cx F own cc nL rm) {v0 v1 v2 : Value} {r : List Value} {x v : Int32} {n : Int} (d : decode cc pc = .ok (.iinc 3 n, 3)) (hp : pc + 3 = pc') (hn : 3 < nL) (hc : v2.category = 1) (hv : x + Int32.ofInt n = v) (k : G F S K X pc' (v0 :: v1 :: v2 :: .int v :: r) st) : G F S K X pc (v0 :: v1 :: v2 :: .int x :: r) st := by
  obtain ⟨p, l, e, R, s, m, args, below, meth, c, Γ, A, Q⟩ := F
  obtain ⟨hx, hb, hml, hown, hts, hlk, rfl, hK, hA⟩ := hC
  subst hp
  intro H locs L hL hc0 hP hD hS
  obtain ⟨j, hj⟩ := List.getElem?_of_mem (gass_mem (S := S) (ls := v0 :: v1 :: v2 :: .int x :: r) (i := 3) (v := .int x) rfl (fun h => by cases h))
  refine lv_iinc hx hb d (gass_has hL) hj hv (by rw [hml]; exact hn) rfl (fun L' h' => k H locs L' ?_ hc0 hP hD hS)
  exact gLoc_st1 (S := S) (v := .int v) (ls := v0 :: v1 :: v2 :: .int x :: r) h' (fun w hw _ => by cases hw; exact hc)
theorem g_iinc_4 (hC : Cx F own cc nL rm) {v0 v1 v2 v3 : Value} {r : List Value} {x v : Int32} {n : Int} (d : decode cc pc = .ok (.iinc 4 n, 3)) (hp : pc + 3 = pc') (hn : 4 < nL) (hc : v3.category = 1) (hv : x + Int32.ofInt n = v) (k : G F S K X pc' (v0 :: v1 :: v2 :: v3 :: .int v :: r) st) : G F S K X pc (v0 :: v1 :: v2 :: v3 :: .int x :: r) st := by
  obtain ⟨p, l, e, R, s, m, args, below, meth, c, Γ, A, Q⟩ := F
  obtain ⟨hx, hb, hml, hown, hts, hlk, rfl, hK, hA⟩ := hC
  subst hp
  intro H locs L hL hc0 hP hD hS
  obtain ⟨j, hj⟩ := List.getElem?_of_mem (gass_mem (S := S) (ls := v0 :: v1 :: v2 :: v3 :: .int x :: r) (i := 4) (v := .int x) rfl (fun h => by cases h))
  refine lv_iinc hx hb d (gass_has hL) hj hv (by rw [hml]; exact hn) rfl (fun L' h' => k H locs L' ?_ hc0 hP hD hS)
  exact gLoc_st1 (S := S) (v := .int v) (ls := v0 :: v1 :: v2 :: v3 :: .int x :: r) h' (fun w hw _ => by cases hw; exact hc)
theorem g_iinc_5 (hC : Cx F own cc nL rm) {v0 v1 v2 v3 v4 : Value} {r : List Value} {x v : Int32} {n : Int} (d : decode cc pc = .ok (.iinc 5 n, 3)) (hp : pc + 3 = pc') (hn : 5 < nL) (hc : v4.category = 1) (hv : x + Int32.ofInt n = v) (k : G F S K X pc' (v0 :: v1 :: v2 :: v3 :: v4 :: .int v :: r) st) : G F S K X pc (v0 :: v1 :: v2 :: v3 :: v4 :: .int x :: r) st := by
  obtain ⟨p, l, e, R, s, m, args, below, meth, c, Γ, A, Q⟩ := F
  obtain ⟨hx, hb, hml, hown, hts, hlk, rfl, hK, hA⟩ := hC
  subst hp
  intro H locs L hL hc0 hP hD hS
  obtain ⟨j, hj⟩ := List.getElem?_of_mem (gass_mem (S := S) (ls := v0 :: v1 :: v2 :: v3 :: v4 :: .int x :: r) (i := 5) (v := .int x) rfl (fun h => by cases h))
  refine lv_iinc hx hb d (gass_has hL) hj hv (by rw [hml]; exact hn) rfl (fun L' h' => k H locs L' ?_ hc0 hP hD hS)
  exact gLoc_st1 (S := S) (v := .int v) (ls := v0 :: v1 :: v2 :: v3 :: v4 :: .int x :: r) h' (fun w hw _ => by cases hw; exact hc)
theorem g_iinc_6 (hC : Cx F own cc nL rm) {v0 v1 v2 v3 v4 v5 : Value} {r : List Value} {x v : Int32} {n : Int} (d : decode cc pc = .ok (.iinc 6 n, 3)) (hp : pc + 3 = pc') (hn : 6 < nL) (hc : v5.category = 1) (hv : x + Int32.ofInt n = v) (k : G F S K X pc' (v0 :: v1 :: v2 :: v3 :: v4 :: v5 :: .int v :: r) st) : G F S K X pc (v0 :: v1 :: v2 :: v3 :: v4 :: v5 :: .int x :: r) st := by
  obtain ⟨p, l, e, R, s, m, args, below, meth, c, Γ, A, Q⟩ := F
  obtain ⟨hx, hb, hml, hown, hts, hlk, rfl, hK, hA⟩ := hC
  subst hp
  intro H locs L hL hc0 hP hD hS
  obtain ⟨j, hj⟩ := List.getElem?_of_mem (gass_mem (S := S) (ls := v0 :: v1 :: v2 :: v3 :: v4 :: v5 :: .int x :: r) (i := 6) (v := .int x) rfl (fun h => by cases h))
  refine lv_iinc hx hb d (gass_has hL) hj hv (by rw [hml]; exact hn) rfl (fun L' h' => k H locs L' ?_ hc0 hP hD hS)
  exact gLoc_st1 (S := S) (v := .int v) (ls := v0 :: v1 :: v2 :: v3 :: v4 :: v5 :: .int x :: r) h' (fun w hw _ => by cases hw; exact hc)
theorem g_iinc_7 (hC : Cx F own cc nL rm) {v0 v1 v2 v3 v4 v5 v6 : Value} {r : List Value} {x v : Int32} {n : Int} (d : decode cc pc = .ok (.iinc 7 n, 3)) (hp : pc + 3 = pc') (hn : 7 < nL) (hc : v6.category = 1) (hv : x + Int32.ofInt n = v) (k : G F S K X pc' (v0 :: v1 :: v2 :: v3 :: v4 :: v5 :: v6 :: .int v :: r) st) : G F S K X pc (v0 :: v1 :: v2 :: v3 :: v4 :: v5 :: v6 :: .int x :: r) st := by
  obtain ⟨p, l, e, R, s, m, args, below, meth, c, Γ, A, Q⟩ := F
  obtain ⟨hx, hb, hml, hown, hts, hlk, rfl, hK, hA⟩ := hC
  subst hp
  intro H locs L hL hc0 hP hD hS
  obtain ⟨j, hj⟩ := List.getElem?_of_mem (gass_mem (S := S) (ls := v0 :: v1 :: v2 :: v3 :: v4 :: v5 :: v6 :: .int x :: r) (i := 7) (v := .int x) rfl (fun h => by cases h))
  refine lv_iinc hx hb d (gass_has hL) hj hv (by rw [hml]; exact hn) rfl (fun L' h' => k H locs L' ?_ hc0 hP hD hS)
  exact gLoc_st1 (S := S) (v := .int v) (ls := v0 :: v1 :: v2 :: v3 :: v4 :: v5 :: v6 :: .int x :: r) h' (fun w hw _ => by cases hw; exact hc)
theorem g_iinc_8 (hC : Cx F own cc nL rm) {v0 v1 v2 v3 v4 v5 v6 v7 : Value} {r : List Value} {x v : Int32} {n : Int} (d : decode cc pc = .ok (.iinc 8 n, 3)) (hp : pc + 3 = pc') (hn : 8 < nL) (hc : v7.category = 1) (hv : x + Int32.ofInt n = v) (k : G F S K X pc' (v0 :: v1 :: v2 :: v3 :: v4 :: v5 :: v6 :: v7 :: .int v :: r) st) : G F S K X pc (v0 :: v1 :: v2 :: v3 :: v4 :: v5 :: v6 :: v7 :: .int x :: r) st := by
  obtain ⟨p, l, e, R, s, m, args, below, meth, c, Γ, A, Q⟩ := F
  obtain ⟨hx, hb, hml, hown, hts, hlk, rfl, hK, hA⟩ := hC
  subst hp
  intro H locs L hL hc0 hP hD hS
  obtain ⟨j, hj⟩ := List.getElem?_of_mem (gass_mem (S := S) (ls := v0 :: v1 :: v2 :: v3 :: v4 :: v5 :: v6 :: v7 :: .int x :: r) (i := 8) (v := .int x) rfl (fun h => by cases h))
  refine lv_iinc hx hb d (gass_has hL) hj hv (by rw [hml]; exact hn) rfl (fun L' h' => k H locs L' ?_ hc0 hP hD hS)
  exact gLoc_st1 (S := S) (v := .int v) (ls := v0 :: v1 :: v2 :: v3 :: v4 :: v5 :: v6 :: v7 :: .int x :: r) h' (fun w hw _ => by cases hw; exact hc)
theorem g_iinc_9 (hC : Cx F own cc nL rm) {v0 v1 v2 v3 v4 v5 v6 v7 v8 : Value} {r : List Value} {x v : Int32} {n : Int} (d : decode cc pc = .ok (.iinc 9 n, 3)) (hp : pc + 3 = pc') (hn : 9 < nL) (hc : v8.category = 1) (hv : x + Int32.ofInt n = v) (k : G F S K X pc' (v0 :: v1 :: v2 :: v3 :: v4 :: v5 :: v6 :: v7 :: v8 :: .int v :: r) st) : G F S K X pc (v0 :: v1 :: v2 :: v3 :: v4 :: v5 :: v6 :: v7 :: v8 :: .int x :: r) st := by
  obtain ⟨p, l, e, R, s, m, args, below, meth, c, Γ, A, Q⟩ := F
  obtain ⟨hx, hb, hml, hown, hts, hlk, rfl, hK, hA⟩ := hC
  subst hp
  intro H locs L hL hc0 hP hD hS
  obtain ⟨j, hj⟩ := List.getElem?_of_mem (gass_mem (S := S) (ls := v0 :: v1 :: v2 :: v3 :: v4 :: v5 :: v6 :: v7 :: v8 :: .int x :: r) (i := 9) (v := .int x) rfl (fun h => by cases h))
  refine lv_iinc hx hb d (gass_has hL) hj hv (by rw [hml]; exact hn) rfl (fun L' h' => k H locs L' ?_ hc0 hP hD hS)
  exact gLoc_st1 (S := S) (v := .int v) (ls := v0 :: v1 :: v2 :: v3 :: v4 :: v5 :: v6 :: v7 :: v8 :: .int x :: r) h' (fun w hw _ => by cases hw; exact hc)
theorem g_iinc_10 (hC : Cx F own cc nL rm) {v0 v1 v2 v3 v4 v5 v6 v7 v8 v9 : Value} {r : List Value} {x v : Int32} {n : Int} (d : decode cc pc = .ok (.iinc 10 n, 3)) (hp : pc + 3 = pc') (hn : 10 < nL) (hc : v9.category = 1) (hv : x + Int32.ofInt n = v) (k : G F S K X pc' (v0 :: v1 :: v2 :: v3 :: v4 :: v5 :: v6 :: v7 :: v8 :: v9 :: .int v :: r) st) : G F S K X pc (v0 :: v1 :: v2 :: v3 :: v4 :: v5 :: v6 :: v7 :: v8 :: v9 :: .int x :: r) st := by
  obtain ⟨p, l, e, R, s, m, args, below, meth, c, Γ, A, Q⟩ := F
  obtain ⟨hx, hb, hml, hown, hts, hlk, rfl, hK, hA⟩ := hC
  subst hp
  intro H locs L hL hc0 hP hD hS
  obtain ⟨j, hj⟩ := List.getElem?_of_mem (gass_mem (S := S) (ls := v0 :: v1 :: v2 :: v3 :: v4 :: v5 :: v6 :: v7 :: v8 :: v9 :: .int x :: r) (i := 10) (v := .int x) rfl (fun h => by cases h))
  refine lv_iinc hx hb d (gass_has hL) hj hv (by rw [hml]; exact hn) rfl (fun L' h' => k H locs L' ?_ hc0 hP hD hS)
  exact gLoc_st1 (S := S) (v := .int v) (ls := v0 :: v1 :: v2 :: v3 :: v4 :: v5 :: v6 :: v7 :: v8 :: v9 :: .int x :: r) h' (fun w hw _ => by cases hw; exact hc)
theorem g_iinc_11 (hC : Cx F own cc nL rm) {v0 v1 v2 v3 v4 v5 v6 v7 v8 v9 v10 : Value} {r : List Value} {x v : Int32} {n : Int} (d : decode cc pc = .ok (.iinc 11 n, 3)) (hp : pc + 3 = pc') (hn : 11 < nL) (hc : v10.category = 1) (hv : x + Int32.ofInt n = v) (k : G F S K X pc' (v0 :: v1 :: v2 :: v3 :: v4 :: v5 :: v6 :: v7 :: v8 :: v9 :: v10 :: .int v :: r) st) : G F S K X pc (v0 :: v1 :: v2 :: v3 :: v4 :: v5 :: v6 :: v7 :: v8 :: v9 :: v10 :: .int x :: r) st := by
  obtain ⟨p, l, e, R, s, m, args, below, meth, c, Γ, A, Q⟩ := F
  obtain ⟨hx, hb, hml, hown, hts, hlk, rfl, hK, hA⟩ := hC
  subst hp
  intro H locs L hL hc0 hP hD hS
  obtain ⟨j, hj⟩ := List.getElem?_of_mem (gass_mem (S := S) (ls := v0 :: v1 :: v2 :: v3 :: v4 :: v5 :: v6 :: v7 :: v8 :: v9 :: v10 :: .int x :: r) (i := 11) (v := .int x) rfl (fun h => by cases h))
  refine lv_iinc hx hb d (gass_has hL) hj hv (by rw [hml]; exact hn) rfl (fun L' h' => k H locs L' ?_ hc0 hP hD hS)
  exact gLoc_st1 (S := S) (v := .int v) (ls := v0 :: v1 :: v2 :: v3 :: v4 :: v5 :: v6 :: v7 :: v8 :: v9 :: v10 :: .int x :: r) h' (fun w hw _ => by cases hw; exact hc)
theorem nI_inc (a b : Nat) {n : Int} (h : Int32.ofInt n = nI b) : nI a + Int32.ofInt n = nI (a + b) := by rw [h, nI_add]
/-! returns -/
theorem g_iret (hC : Cx F own cc nL rm) {mc ms : Nat} {post : gS → Option Value → gX → Prop} {ty : FieldType} {v : Int32} (hRt : Rt F (some ty) mc ms post) (hn : narrow ty (.int v) = .int v) (hm : K = (mc, ms)) (d : decode cc pc = .ok (.ireturn, 1)) (h : post S (some (.int v)) X) : G F S K X pc ls [.int v] := by
  obtain ⟨p, l, e, R, s, m, args, below, meth, c, Γ, A, Q⟩ := F
  obtain ⟨hx, hb, hml, hown, hts, hlk, rfl, hK, hA⟩ := hC
  obtain ⟨hr, rfl⟩ := hRt
  subst hm
  intro H locs L hL hc0 hP hD hS
  exact W.zret hx hb hr hn (fun t ht hW => ⟨⟨S, some (.int v), X, rfl, h, hc0, by rw [ht]; exact hP, hD⟩, hS.F ht⟩) hS.2.2 d hlk
theorem g_vret (hC : Cx F own cc nL rm) {mc ms : Nat} {post : gS → Option Value → gX → Prop} (hRt : Rt F none mc ms post) (hm : K = (mc, ms)) (d : decode cc pc = .ok (.return_, 1)) (h : post S none X) : G F S K X pc ls [] := by
  obtain ⟨p, l, e, R, s, m, args, below, meth, c, Γ, A, Q⟩ := F
  obtain ⟨hx, hb, hml, hown, hts, hlk, rfl, hK, hA⟩ := hC
  obtain ⟨hr, rfl⟩ := hRt
  subst hm
  intro H locs L hL hc0 hP hD hS
  exact W.vret hx hb hr (fun t ht hW => ⟨⟨S, none, X, rfl, h, hc0, by rw [ht]; exact hP, hD⟩, hS.F ht⟩) hS.2.2 d hlk
end
theorem nz_z (b : Bool) : narrow .boolean (.int (zI b)) = .int (zI b) := by cases b <;> decide +kernel
theorem nz_i (v : Int32) : narrow .int (.int v) = .int v := rfl
end
section
/-! rows of G for cells -/
theorem vp_inD {j n : Nat} (h : j < n) (hn : n < 2147483648) : vp_in (nI j) n := nI_in h hn
theorem clampD {j n : Nat} (h : j < n) (hn : n < 2147483648) : (nI j).toNatClampNeg = j := nI_clamp (Nat.lt_trans h hn)
theorem gfs_at {S : gS} {X : gX} {id k : Nat} {fs : List (Option (Option Nat))} {o : Option (Option Nat)} (h : fs[k]? = some o) : ((List.range fs.length).map (fun k => gfv S X id k ((fs[k]?).getD none)))[k]? = some (gfv S X id k o) := by
  have hl : k < fs.length := (List.getElem?_eq_some_iff.mp h).1
  rw [List.getElem?_map, List.getElem?_range hl]
  show some (gfv S X id k ((fs[k]?).getD none)) = _
  rw [h]
  rfl
theorem gfs_set {S : gS} {X X' : gX} {id k : Nat} {fs fs' : List (Option (Option Nat))} {v : Value} (hk : k < fs.length) (hl : fs'.length = fs.length) (hv : gfv S X' id k ((fs'[k]?).getD none) = v) (ho : ∀ j, j ≠ k → gfv S X' id j ((fs'[j]?).getD none) = gfv S X id j ((fs[j]?).getD none)) : ((List.range fs.length).map (fun k => gfv S X id k ((fs[k]?).getD none))).set k v = (List.range fs'.length).map (fun k => gfv S X' id k ((fs'[k]?).getD none)) := by
  apply List.ext_getElem?
  intro i
  by_cases hi : i = k
  · subst hi
    rw [List.getElem?_set_self (by simpa using hk), List.getElem?_map, List.getElem?_range (by omega)]
    exact congrArg some hv.symm
  · rw [List.getElem?_set_ne (Ne.symm hi), List.getElem?_map, List.getElem?_map, hl]
    by_cases hil : i < fs.length
    · rw [List.getElem?_range hil]
      exact congrArg some (ho i hi).symm
    · rw [List.getElem?_eq_none (by simpa using hil)]
      rfl
def FLD (own : String) (idx ci k : Nat) (fin : Bool) (ty : FieldType) : Prop := ∃ (C : String) (T : u_T) (N : Nat) (ty0 : Nat → FieldType), gCl[ci]? = some (C, T, N) ∧ k < N ∧ Cond.fieldLink own idx (T k).1 (T k).2.1 (T k).2.2.1 ∈ TB ∧ (∀ w ∈ u_ws C T N, w ∈ TB) ∧ (∀ k, k < N → parseFieldDescriptor (T k).2.2.1 = some (ty0 k)) ∧ (∀ a, a < N → ∀ b, b < N → a ≠ b → (T a).2.1 ≠ (T b).2.1) ∧ (T k).2.2.2 = fin ∧ ty0 k = ty
section
variable {F : gF} {own : String} {cc : ByteArray} {nL : Nat} {rm : Room} {S : gS} {K : Nat × Nat} {X : gX} {pc pc' : Nat} {ls st : List Value}
theorem g_getI (hC : Cx F own cc nL rm) {id ci k idx : Nat} {fs : List (Option (Option Nat))} {fin : Bool} {ty : FieldType} {v : Int32} (hf : FLD own idx ci k fin ty) (hsh : gat S id (.inl (ci, fs))) (hk : fs[k]? = some none) (hv : X id k = v) (d : decode cc pc = .ok (.getfield idx, 3)) (hp : pc + 3 = pc') (kk : G F S K X pc' ls (.int v :: st)) : G F S K X pc ls (.ref id :: st) := by
  obtain ⟨p, l, e, R, s, m, args, below, meth, c, Γ, A, Q⟩ := F
  obtain ⟨hx, hb, hml, hown, hts, hlk, rfl, hK, hA⟩ := hC
  subst hp
  obtain ⟨C, T, N, ty0, h1, h2, h3, h4, h5, h6, h7, h8⟩ := hf
  intro H locs L hL hc0 hP hD hS
  refine va_get (T := T) hx hb hts h4 hown hK.1 hP id (gws_at hsh) h1 k h2 (hts _ h3) (fun _ h => h) (v := .int v) ?_ d (kk H locs L hL hc0 hP hD hS)
  rw [gfs_at hk]
  exact congrArg (fun z => some (Value.int z)) hv
theorem g_getR (hC : Cx F own cc nL rm) {id ci k idx r : Nat} {fs : List (Option (Option Nat))} {fin : Bool} {ty : FieldType} (hf : FLD own idx ci k fin ty) (hsh : gat S id (.inl (ci, fs))) (hk : fs[k]? = some (some (some r))) (d : decode cc pc = .ok (.getfield idx, 3)) (hp : pc + 3 = pc') (kk : G F S K X pc' ls (.ref r :: st)) : G F S K X pc ls (.ref id :: st) := by
  obtain ⟨p, l, e, R, s, m, args, below, meth, c, Γ, A, Q⟩ := F
  obtain ⟨hx, hb, hml, hown, hts, hlk, rfl, hK, hA⟩ := hC
  subst hp
  obtain ⟨C, T, N, ty0, h1, h2, h3, h4, h5, h6, h7, h8⟩ := hf
  intro H locs L hL hc0 hP hD hS
  refine va_get (T := T) hx hb hts h4 hown hK.1 hP id (gws_at hsh) h1 k h2 (hts _ h3) (fun _ h => h) (v := .ref (S.2.2 r)) ?_ d (kk H locs L hL hc0 hP hD hS)
  rw [gfs_at hk]
  rfl
theorem g_putI (hC : Cx F own cc nL rm) {id ci k idx : Nat} {fs : List (Option (Option Nat))} {ty : FieldType} {v : Int32} (hf : FLD own idx ci k false ty) (hsh : gat S id (.inl (ci, fs))) (hk : fs[k]? = some none) (hn : narrow ty (.int v) = .int v) (hfit : fits ty (.int v) = true) (d : decode cc pc = .ok (.putfield idx, 3)) (hp : pc + 3 = pc') (kk : G F S K (gu X id k v) pc' ls st) : G F S K X pc ls (.int v :: .ref id :: st) := by
  obtain ⟨p, l, e, R, s, m, args, below, meth, c, Γ, A, Q⟩ := F
  obtain ⟨hx, hb, hml, hown, hts, hlk, rfl, hK, hA⟩ := hC
  subst hp
  obtain ⟨C, T, N, ty0, h1, h2, h3, h4, h5, h6, h7, rfl⟩ := hf
  intro H locs L hL hc0 hP hD hS
  have hl : k < fs.length := (List.getElem?_eq_some_iff.mp hk).1
  refine va_put (T := T) hx hb hts h4 ty0 h5 h6 hown hK.1 hP hD hS id (gws_at hsh) h1 k h2 (hts _ h3) (fun _ h => h) h7 (v := Value.int v) (h5 k h2) hn hfit (by simpa using hl) d (fun H1 locs1 hP1 hD1 hS1 => ?_)
  have e : (gws Γ S X).set id (S.2.2 id, .inr (ci, ((List.range fs.length).map (fun k => gfv S X id k ((fs[k]?).getD none))).set k (.int v))) = gws Γ S (gu X id k v) := by
    rw [gfs_set (X' := gu X id k v) hl rfl (by rw [hk]; exact congrArg Value.int gu_at) (fun j hj => by
      rcases (fs[j]?).getD none with _ | _ | r
      · exact congrArg Value.int (gu_other (fun h => hj h.2))
      · rfl
      · rfl)]
    exact gws_set (X' := gu X id k v) hsh gu_ne
  rw [e] at hP1 hD1
  exact kk H1 locs1 L hL hc0 hP1 hD1 hS1

theorem g_iald (hC : Cx F own cc nL rm) {id n j : Nat} {la : List Nat} {v : Int32} (hsh : gat S id (.inr (0, n, la))) (hn : n < 2147483648) (hin : j < n) (hv : X id j = v) (d : decode cc pc = .ok (.iaload, 1)) (hp : pc + 1 = pc') (k : G F S K X pc' ls (.int v :: st)) : G F S K X pc ls (.int (nI j) :: .ref id :: st) := by
  obtain ⟨p, l, e, R, s, m, args, below, meth, c, Γ, A, Q⟩ := F
  obtain ⟨hx, hb, hml, hown, hts, hlk, rfl, hK, hA⟩ := hC
  subst hp
  intro H locs L hL hc0 hP hD hS
  have ha : (gws Γ S X)[id]? = some (S.2.2 id, .inl (Γ.2 0, n, .inl (X id))) := by rw [gws_at hsh, gcell_i (by decide)]
  refine va_iald hx hb hK.1 hP id 0 ha rfl (vp_inD hin hn) d ?_
  rw [clampD hin hn, hv]
  exact k H locs L hL hc0 hP hD hS
theorem g_cald (hC : Cx F own cc nL rm) {id n j : Nat} {la : List Nat} {v : Int32} (hsh : gat S id (.inr (1, n, la))) (hn : n < 2147483648) (hin : j < n) (hv : X id j = v) (d : decode cc pc = .ok (.caload, 1)) (hp : pc + 1 = pc') (k : G F S K X pc' ls (.int v :: st)) : G F S K X pc ls (.int (nI j) :: .ref id :: st) := by
  obtain ⟨p, l, e, R, s, m, args, below, meth, c, Γ, A, Q⟩ := F
  obtain ⟨hx, hb, hml, hown, hts, hlk, rfl, hK, hA⟩ := hC
  subst hp
  intro H locs L hL hc0 hP hD hS
  have ha : (gws Γ S X)[id]? = some (S.2.2 id, .inl (Γ.2 1, n, .inl (X id))) := by rw [gws_at hsh, gcell_i (by decide)]
  refine va_cald hx hb hK.1 hP id 1 ha rfl (vp_inD hin hn) d ?_
  rw [clampD hin hn, hv]
  exact k H locs L hL hc0 hP hD hS
theorem g_zald (hC : Cx F own cc nL rm) {id n j : Nat} {la : List Nat} {v : Int32} (hsh : gat S id (.inr (2, n, la))) (hn : n < 2147483648) (hin : j < n) (hv : X id j = v) (d : decode cc pc = .ok (.baload, 1)) (hp : pc + 1 = pc') (k : G F S K X pc' ls (.int v :: st)) : G F S K X pc ls (.int (nI j) :: .ref id :: st) := by
  obtain ⟨p, l, e, R, s, m, args, below, meth, c, Γ, A, Q⟩ := F
  obtain ⟨hx, hb, hml, hown, hts, hlk, rfl, hK, hA⟩ := hC
  subst hp
  intro H locs L hL hc0 hP hD hS
  have ha : (gws Γ S X)[id]? = some (S.2.2 id, .inl (Γ.2 2, n, .inl (X id))) := by rw [gws_at hsh, gcell_i (by decide)]
  refine va_zald hx hb hK.1 hP id 2 ha rfl (vp_inD hin hn) d ?_
  rw [clampD hin hn, hv]
  exact k H locs L hL hc0 hP hD hS
theorem g_iast (hC : Cx F own cc nL rm) {id n j : Nat} {la : List Nat} {x : Int32} (hsh : gat S id (.inr (0, n, la))) (hn : n < 2147483648) (hin : j < n) (d : decode cc pc = .ok (.iastore, 1)) (hp : pc + 1 = pc') (k : G F S K (gu X id j x) pc' ls st) : G F S K X pc ls (.int x :: .int (nI j) :: .ref id :: st) := by
  obtain ⟨p, l, e, R, s, m, args, below, meth, c, Γ, A, Q⟩ := F
  obtain ⟨hx, hb, hml, hown, hts, hlk, rfl, hK, hA⟩ := hC
  subst hp
  intro H locs L hL hc0 hP hD hS
  have ha : (gws Γ S X)[id]? = some (S.2.2 id, .inl (Γ.2 0, n, .inl (X id))) := by rw [gws_at hsh, gcell_i (by decide)]
  refine va_iast hx hb hK.1 hP hD hS id 0 ha rfl (vp_inD hin hn) d (fun H1 locs1 hP1 hD1 hS1 => ?_)
  rw [clampD hin hn] at hP1 hD1
  have e : (gws Γ S X).set id (S.2.2 id, .inl (Γ.2 0, n, .inl (upd (X id) j x))) = gws Γ S (gu X id j x) := by
    have := gws_set (Γ := Γ) (X := X) (X' := gu X id j x) hsh gu_ne
    rw [gcell_i (by decide), gu_self] at this
    exact this
  rw [e] at hP1 hD1
  exact k H1 locs1 L hL hc0 hP1 hD1 hS1
theorem g_cast (hC : Cx F own cc nL rm) {id n j : Nat} {la : List Nat} {x : Int32} (hsh : gat S id (.inr (1, n, la))) (hn : n < 2147483648) (hin : j < n) (hx2 : vp_nar .char x = x) (d : decode cc pc = .ok (.castore, 1)) (hp : pc + 1 = pc') (k : G F S K (gu X id j x) pc' ls st) : G F S K X pc ls (.int x :: .int (nI j) :: .ref id :: st) := by
  obtain ⟨p, l, e, R, s, m, args, below, meth, c, Γ, A, Q⟩ := F
  obtain ⟨hx, hb, hml, hown, hts, hlk, rfl, hK, hA⟩ := hC
  subst hp
  intro H locs L hL hc0 hP hD hS
  have ha : (gws Γ S X)[id]? = some (S.2.2 id, .inl (Γ.2 1, n, .inl (X id))) := by rw [gws_at hsh, gcell_i (by decide)]
  refine va_cast hx hb hK.1 hP hD hS id 1 ha rfl (vp_inD hin hn) d (fun H1 locs1 hP1 hD1 hS1 => ?_)
  rw [clampD hin hn, hx2] at hP1 hD1
  have e : (gws Γ S X).set id (S.2.2 id, .inl (Γ.2 1, n, .inl (upd (X id) j x))) = gws Γ S (gu X id j x) := by
    have := gws_set (Γ := Γ) (X := X) (X' := gu X id j x) hsh gu_ne
    rw [gcell_i (by decide), gu_self] at this
    exact this
  rw [e] at hP1 hD1
  exact k H1 locs1 L hL hc0 hP1 hD1 hS1
theorem g_zast (hC : Cx F own cc nL rm) {id n j : Nat} {la : List Nat} {x : Int32} (hsh : gat S id (.inr (2, n, la))) (hn : n < 2147483648) (hin : j < n) (hx2 : vp_nar .boolean x = x) (d : decode cc pc = .ok (.bastore, 1)) (hp : pc + 1 = pc') (k : G F S K (gu X id j x) pc' ls st) : G F S K X pc ls (.int x :: .int (nI j) :: .ref id :: st) := by
  obtain ⟨p, l, e, R, s, m, args, below, meth, c, Γ, A, Q⟩ := F
  obtain ⟨hx, hb, hml, hown, hts, hlk, rfl, hK, hA⟩ := hC
  subst hp
  intro H locs L hL hc0 hP hD hS
  have ha : (gws Γ S X)[id]? = some (S.2.2 id, .inl (Γ.2 2, n, .inl (X id))) := by rw [gws_at hsh, gcell_i (by decide)]
  refine va_zast hx hb hK.1 hP hD hS id 2 ha rfl (vp_inD hin hn) d (fun H1 locs1 hP1 hD1 hS1 => ?_)
  rw [clampD hin hn, hx2] at hP1 hD1
  have e : (gws Γ S X).set id (S.2.2 id, .inl (Γ.2 2, n, .inl (upd (X id) j x))) = gws Γ S (gu X id j x) := by
    have := gws_set (Γ := Γ) (X := X) (X' := gu X id j x) hsh gu_ne
    rw [gcell_i (by decide), gu_self] at this
    exact this
  rw [e] at hP1 hD1
  exact k H1 locs1 L hL hc0 hP1 hD1 hS1
theorem g_aald3 (hC : Cx F own cc nL rm) {id n j r : Nat} {la : List Nat} (hsh : gat S id (.inr (3, n, la))) (hn : n < 2147483648) (hin : j < n) (hl : la[j]? = some r) (d : decode cc pc = .ok (.aaload, 1)) (hp : pc + 1 = pc') (k : G F S K X pc' ls (.ref r :: st)) : G F S K X pc ls (.int (nI j) :: .ref id :: st) := by
  obtain ⟨p, l, e, R, s, m, args, below, meth, c, Γ, A, Q⟩ := F
  obtain ⟨hx, hb, hml, hown, hts, hlk, rfl, hK, hA⟩ := hC
  subst hp
  intro H locs L hL hc0 hP hD hS
  have ha : (gws Γ S X)[id]? = some (S.2.2 id, .inl (Γ.2 3, n, .inr (.inr (.inr (.inr (fun j => (la[j]?).map S.2.2)))))) := by rw [gws_at hsh, gcell_q (by decide)]
  refine va_aldq hx hb hK.1 hP id 3 (C := RX4) ha rfl (vp_inD hin hn) d ?_
  rw [clampD hin hn, hl]
  exact k H locs L hL hc0 hP hD hS
theorem g_aald4 (hC : Cx F own cc nL rm) {id n j r : Nat} {la : List Nat} (hsh : gat S id (.inr (4, n, la))) (hn : n < 2147483648) (hin : j < n) (hl : la[j]? = some r) (d : decode cc pc = .ok (.aaload, 1)) (hp : pc + 1 = pc') (k : G F S K X pc' ls (.ref r :: st)) : G F S K X pc ls (.int (nI j) :: .ref id :: st) := by
  obtain ⟨p, l, e, R, s, m, args, below, meth, c, Γ, A, Q⟩ := F
  obtain ⟨hx, hb, hml, hown, hts, hlk, rfl, hK, hA⟩ := hC
  subst hp
  intro H locs L hL hc0 hP hD hS
  have ha : (gws Γ S X)[id]? = some (S.2.2 id, .inl (Γ.2 4, n, .inr (.inr (.inr (.inr (fun j => (la[j]?).map S.2.2)))))) := by rw [gws_at hsh, gcell_q (by decide)]
  refine va_aldq hx hb hK.1 hP id 4 (C := RX3) ha rfl (vp_inD hin hn) d ?_
  rw [clampD hin hn, hl]
  exact k H locs L hL hc0 hP hD hS
end
/-! calls -/
theorem cv_sum (S : gS) {rest : List Value} (h : (rest.map fun v => v.category).sum ≤ 8) : ((rest.map (cv S)).map fun v => v.category).sum ≤ 8 := by
  rw [List.map_map, show ((fun v : Value => v.category) ∘ cv S) = fun v => v.category from funext (cv_cat S)]
  exact h
theorem gPc_blind {Γ : gL} {A : Nat → Prop} {S : gS} {X : gX} {as : List Value} : FrameBlind (gPc Γ A S X as) := fun a U g mk q => by
  obtain ⟨q0, qP, qK, qc, qD, qA⟩ := q
  exact ⟨q0, qP, gK.same (u := U) (U := U.calling g mk a) rfl qK, qc, qD, qA⟩
def mhOk (y : MethodName) (n : Nat) : Prop := y.cls ≠ "java/lang/invoke/MethodHandle" ∧ y.cls ≠ "java/lang/invoke/VarHandle" ∧ (parseMethodDescriptor y.desc).map (fun d => d.parameters.length) = some n
def MLV (own : String) (idx : Nat) (y : MethodName) (cc : ByteArray) (nL : Nat) (rt : Option FieldType) (n : Nat) : Prop := GoodIn TB (wsV own idx y.cls y (.code y cc nL rt :: TB)) ∧ mhOk y n
def MLS (own : String) (idx : Nat) (y : MethodName) (cc : ByteArray) (nL : Nat) (rt : Option FieldType) (n : Nat) : Prop := GoodIn TB (.code y cc nL rt :: TB) ∧ Cond.methodLink own idx y ∈ TB ∧ Cond.initialized y.cls ∈ TB ∧ Cond.static y ∈ TB ∧ mhOk y n
/-- a static method of a nest mate -/
def MLN (own : String) (idx : Nat) (y : MethodName) (cc : ByteArray) (nL : Nat) (rt : Option FieldType) (n : Nat) : Prop := ∃ host : String, GoodIn TB (.code y cc nL rt :: TB) ∧ (own, idx, y, host) ∈ NW ∧ Cond.initialized y.cls ∈ TB ∧ Cond.static y ∈ TB ∧ mhOk y n
theorem goodTB {ws : List Cond} (h : ∀ w ∈ ws, w ∈ TB) : GoodIn TB ws := fun w hw => ⟨h w hw, good_of_word (tb_good w (h w hw))⟩
theorem mlv_of {own : String} {idx : Nat} {y : MethodName} {cc : ByteArray} {nL : Nat} {rt : Option FieldType} {n : Nat} (h1 : Cond.methodLink own idx y ∈ TB) (h2 : Cond.instanceMethod y ∈ TB) (h3 : Cond.selects y.cls y y ∈ TB) (h4 : Cond.initialized y.cls ∈ TB) (h5 : Cond.code y cc nL rt ∈ TB) (h6 : mhOk y n) : MLV own idx y cc nL rt n := ⟨goodTB (fun w hw => by
  simp only [wsV, List.cons_append, List.nil_append, List.mem_cons] at hw
  rcases hw with rfl | rfl | rfl | rfl | rfl | h
  · exact h1
  · exact h2
  · exact h3
  · exact h4
  · exact h5
  · exact h), h6⟩
theorem mls_of {own : String} {idx : Nat} {y : MethodName} {cc : ByteArray} {nL : Nat} {rt : Option FieldType} {n : Nat} (h1 : Cond.methodLink own idx y ∈ TB) (h2 : Cond.static y ∈ TB) (h4 : Cond.initialized y.cls ∈ TB) (h5 : Cond.code y cc nL rt ∈ TB) (h6 : mhOk y n) : MLS own idx y cc nL rt n := ⟨goodTB (fun w hw => by
  rcases List.mem_cons.mp hw with rfl | h
  · exact h5
  · exact h), h1, h4, h2, h6⟩
theorem mln_of {own host : String} {idx : Nat} {y : MethodName} {cc : ByteArray} {nL : Nat} {rt : Option FieldType} {n : Nat} (h1 : (own, idx, y, host) ∈ NW) (h2 : Cond.static y ∈ TB) (h4 : Cond.initialized y.cls ∈ TB) (h5 : Cond.code y cc nL rt ∈ TB) (h6 : mhOk y n) : MLN own idx y cc nL rt n := ⟨host, goodTB (fun w hw => by
  rcases List.mem_cons.mp hw with rfl | h
  · exact h5
  · exact h), h1, h4, h2, h6⟩
theorem cwS2 {R : Room} {s : State} {args : Array Value} {own : String} {index maxL mc ms : Nat} {y : MethodName} {bytes : ByteArray} {ret : Option FieldType} {Ts ws ws' : List Cond} {rm : Room} (n : Nat) (ht : ∀ w ∈ Ts, w.before args s = true) (hG : GoodIn Ts ws) (hw : ws = Cond.code y bytes maxL ret :: ws') (hrc : rm.cells = mc) (hrs : rm.slots = ms) (hl : (Cond.methodLink own index y).before args s = true) (hini : (Cond.initialized y.cls).before args s = true) (hst : (Cond.static y).before args s = true) (hd : mhOk y n) (hR : rm.frames + 1 ≤ R.frames ∧ 8 + (maxL + 11) + rm.locals ≤ R.locals) :
    CallB R s args own index y bytes maxL ret ws rm mc ms n ∧ (Cond.static y).before args s = true := by
  have hc : Cond.code y bytes maxL ret ∈ ws := by rw [hw]; exact List.mem_cons_self
  refine ⟨⟨hrc, hrs, hR.1, hR.2, pay_in ht hG, hc, ht _ (hG _ hc).1, hini, ⟨hd.1, hd.2.1⟩, fun sig h => ?_, hl⟩, hst⟩
  have := hd.2.2
  rw [h] at this
  exact (Option.some.inj this).symm
theorem gLoc_cv {S S' : gS} {L : Array Slot} {nL : Nat} {ls : List Value} (h : gLoc S L nL ls) (hc : ∀ v ∈ ls, cv S' v = cv S v) : gLoc S' L nL ls := ⟨h.1, h.2.1, fun i v hi hv => by rw [hc v (List.mem_of_getElem? hi)]; exact h.2.2 i v hi hv⟩
section
variable {F : gF} {own : String} {cc : ByteArray} {nL : Nat} {rm : Room} {S : gS} {K : Nat × Nat} {X : gX} {pc pc' : Nat} {ls st : List Value}

theorem g_callV0 (hC : Cx F own cc nL rm) {y : MethodName} {cc2 : ByteArray} {nL2 : Nat} {rt : Option FieldType} {fr lo : Nat} {as rest : List Value} {id ci : Nat} {fs : List (Option (Option Nat))} {mc ms idx n : Nat} {post : gS → Option Value → gX → Prop} (hM : Ct F.2.1 S y cc2 nL2 rt fr lo (.ref id :: as) X mc ms post) (hk : MLV own idx y cc2 nL2 rt n) (hsh : gat S id (.inl (ci, fs))) (hci : (gCl[ci]?).map (fun q => q.1) = some y.cls) (hroom : fr + 1 ≤ rm.frames ∧ 8 + (nL2 + 11) + lo ≤ rm.locals) (hn : as.length = n) (hst : st = as.reverse ++ .ref id :: rest) (hW : (rest.map fun v => v.category).sum ≤ 8) (d : decode cc pc = .ok (.invokevirtual idx, 3)) (hp : pc + 3 = pc') (hf : K.1 + mc ≤ rm.cells ∧ K.2 + ms ≤ rm.slots) (hcv : ∀ S' r X', post S' r X' → ∀ v ∈ ls ++ rest, cv S' v = cv S v)
    (kk : ∀ S' r X', post S' r X' → G F S' (K.1 + mc, K.2 + ms) X' pc' ls (r.toList ++ rest)) : G F S K X pc ls st := by
  obtain ⟨p, l, e, R, s, m, args, below, meth, c, Γ, A, Q⟩ := F
  obtain ⟨hx, hb, hml, hown, hts, hlk, rfl, hK, hA⟩ := hC
  subst hp
  subst hst
  intro H locs L hL hc0 hP hD hS
  obtain ⟨q, hq, hqc⟩ : ∃ q, gCl[ci]? = some q ∧ q.1 = y.cls := by
    cases h : gCl[ci]? with
    | none => rw [h] at hci; cases hci
    | some q => rw [h] at hci; exact ⟨q, rfl, Option.some.inj hci⟩
  have hcell := va_recv hK.1 hP hq (gws_at (X := X) (Γ := Γ) hsh)
  rw [hqc] at hcell
  have hr := va_runV (e := e) (below := below) (meth := meth) (l := l) (R := R) (locs := locs) (cells := K.1) (slots := K.2) (As := as.map (cv S)) (rest := rest.map (cv S)) (g := F0 m pc L ((as.reverse ++ .ref id :: rest).map (cv S))) ⟨hx, hb, hml, hown, hts⟩ (hM Γ A) (cwV n hts hk.1 rfl rfl rfl ⟨rfl, hk.2⟩ hroom) ⟨gPc_blind, hcell, fun U hU hWU => ⟨rfl, by rw [hU]; exact hP, gK.moved hWU hK, hc0, hD, fun q h => hA q (Nat.le_trans hS.1 (by rw [← hU]; exact h))⟩⟩ rfl (by rw [List.length_map]; exact hn) (by rw [← hml]; exact hL.1) (by simp [cv]) (lv_room (cv_sum S hW)) d hf
  intro T hT X1
  obtain ⟨v, st0, t, T', L2, h0, X2, hL2, e1, e2, ⟨⟨S', r, X', hret, hpost, hc2, hP2, hD2⟩, hz, hkeep⟩, hgo⟩ := hr T hT X1
  have hv : v = r.map (cv S') := Outcome.returned.inj hret
  subst hv
  rw [h0] at hz hkeep
  have hcvs := hcv S' r X' hpost
  obtain ⟨t2, a1, b1⟩ := kk S' r X' hpost T'.heap (locs ++ L2) L (gLoc_cv hL (fun v hv => hcvs v (List.mem_append_left _ hv))) hc2 (by rw [e1]; exact hP2) hD2
    ⟨Nat.le_trans hS.1 (by rw [e1]; exact hz), fun q h1 h2 => by rw [e1, hkeep q (Nat.lt_of_lt_of_le h1 hS.1) h2]; exact hS.2.1 q h1 h2, fun q hq => by
      rcases List.mem_append.mp hq with h | h
      · exact hS.2.2 q h
      · exact hL2 q h⟩ T' rfl X2
  refine ⟨t2, hgo t2 ?_, b1⟩
  have hrest : rest.map (cv S') = rest.map (cv S) := List.map_congr_left (fun v hv => hcvs v (List.mem_append_right _ hv))
  have hst2 : (r.toList ++ rest).map (cv S') = (r.map (cv S')).toList ++ rest.map (cv S) := by
    rw [List.map_append, hrest]
    cases r <;> rfl
  rw [hst2] at a1
  exact a1
theorem g_callS0 (hC : Cx F own cc nL rm) {y : MethodName} {cc2 : ByteArray} {nL2 : Nat} {rt : Option FieldType} {fr lo : Nat} {as rest : List Value} {mc ms idx n : Nat} {post : gS → Option Value → gX → Prop} (hM : Ct F.2.1 S y cc2 nL2 rt fr lo as X mc ms post) (hk : MLS own idx y cc2 nL2 rt n) (hroom : fr + 1 ≤ rm.frames ∧ 8 + (nL2 + 11) + lo ≤ rm.locals) (hn : as.length = n) (hst : st = as.reverse ++ rest) (hW : (rest.map fun v => v.category).sum ≤ 8) (d : decode cc pc = .ok (.invokestatic idx, 3)) (hp : pc + 3 = pc') (hf : K.1 + mc ≤ rm.cells ∧ K.2 + ms ≤ rm.slots) (hcv : ∀ S' r X', post S' r X' → ∀ v ∈ ls ++ rest, cv S' v = cv S v)
    (kk : ∀ S' r X', post S' r X' → G F S' (K.1 + mc, K.2 + ms) X' pc' ls (r.toList ++ rest)) : G F S K X pc ls st := by
  obtain ⟨p, l, e, R, s, m, args, below, meth, c, Γ, A, Q⟩ := F
  obtain ⟨hx, hb, hml, hown, hts, hlk, rfl, hK, hA⟩ := hC
  subst hp
  subst hst
  intro H locs L hL hc0 hP hD hS
  have hr := va_runS (e := e) (below := below) (meth := meth) (l := l) (R := R) (locs := locs) (cells := K.1) (slots := K.2) (As := as.map (cv S)) (rest := rest.map (cv S)) (g := F0 m pc L ((as.reverse ++ rest).map (cv S))) ⟨hx, hb, hml, hown, hts⟩ (hM Γ A) (cwS2 n hts hk.1 rfl rfl rfl (hts _ hk.2.1) (hts _ hk.2.2.1) (hts _ hk.2.2.2.1) hk.2.2.2.2 hroom) ⟨gPc_blind, fun U hU hWU => ⟨rfl, by rw [hU]; exact hP, gK.moved hWU hK, hc0, hD, fun q h => hA q (Nat.le_trans hS.1 (by rw [← hU]; exact h))⟩⟩ rfl (by rw [List.length_map]; exact hn) (by rw [← hml]; exact hL.1) (by simp) (lv_room (cv_sum S hW)) d hf
  intro T hT X1
  obtain ⟨v, st0, t, T', L2, h0, X2, hL2, e1, e2, ⟨⟨S', r, X', hret, hpost, hc2, hP2, hD2⟩, hz, hkeep⟩, hgo⟩ := hr T hT X1
  have hv : v = r.map (cv S') := Outcome.returned.inj hret
  subst hv
  rw [h0] at hz hkeep
  have hcvs := hcv S' r X' hpost
  obtain ⟨t2, a1, b1⟩ := kk S' r X' hpost T'.heap (locs ++ L2) L (gLoc_cv hL (fun v hv => hcvs v (List.mem_append_left _ hv))) hc2 (by rw [e1]; exact hP2) hD2
    ⟨Nat.le_trans hS.1 (by rw [e1]; exact hz), fun q h1 h2 => by rw [e1, hkeep q (Nat.lt_of_lt_of_le h1 hS.1) h2]; exact hS.2.1 q h1 h2, fun q hq => by
      rcases List.mem_append.mp hq with h | h
      · exact hS.2.2 q h
      · exact hL2 q h⟩ T' rfl X2
  refine ⟨t2, hgo t2 ?_, b1⟩
  have hrest : rest.map (cv S') = rest.map (cv S) := List.map_congr_left (fun v hv => hcvs v (List.mem_append_right _ hv))
  have hst2 : (r.toList ++ rest).map (cv S') = (r.map (cv S')).toList ++ rest.map (cv S) := by
    rw [List.map_append, hrest]
    cases r <;> rfl
  rw [hst2] at a1
  exact a1
theorem g_callN0 (hC : Cx F own cc nL rm) {y : MethodName} {cc2 : ByteArray} {nL2 : Nat} {rt : Option FieldType} {fr lo : Nat} {as rest : List Value} {mc ms idx n : Nat} {post : gS → Option Value → gX → Prop} (hM : Ct F.2.1 S y cc2 nL2 rt fr lo as X mc ms post) (hk : MLN own idx y cc2 nL2 rt n) (hroom : fr + 1 ≤ rm.frames ∧ 8 + (nL2 + 11) + lo ≤ rm.locals) (hn : as.length = n) (hst : st = as.reverse ++ rest) (hW : (rest.map fun v => v.category).sum ≤ 8) (d : decode cc pc = .ok (.invokestatic idx, 3)) (hp : pc + 3 = pc') (hf : K.1 + mc ≤ rm.cells ∧ K.2 + ms ≤ rm.slots) (hcv : ∀ S' r X', post S' r X' → ∀ v ∈ ls ++ rest, cv S' v = cv S v)
    (kk : ∀ S' r X', post S' r X' → G F S' (K.1 + mc, K.2 + ms) X' pc' ls (r.toList ++ rest)) : G F S K X pc ls st := by
  obtain ⟨p, l, e, R, s, m, args, below, meth, c, Γ, A, Q⟩ := F
  obtain ⟨hx, hb, hml, hown, hts, hlk, rfl, hK, hA⟩ := hC
  subst hp
  subst hst
  intro H locs L hL hc0 hP hD hS
  obtain ⟨host, hk1, hk2, hk3, hk4, hk5⟩ := hk
  have hr := va_runSN (e := e) (below := below) (meth := meth) (l := l) (R := R) (locs := locs) (cells := K.1) (slots := K.2) (As := as.map (cv S)) (rest := rest.map (cv S)) (g := F0 m pc L ((as.reverse ++ rest).map (cv S))) ⟨hx, hb, hml, hown, hts⟩ (hM Γ A) ⟨va_cnB n hts hk1 rfl rfl rfl (hK.2.2 _ hk2) (hts _ hk3) hk5 hroom, hts _ hk4, trivial⟩ ⟨gPc_blind, fun U hU hWU => ⟨rfl, by rw [hU]; exact hP, gK.moved hWU hK, hc0, hD, fun q h => hA q (Nat.le_trans hS.1 (by rw [← hU]; exact h))⟩⟩ rfl (by rw [List.length_map]; exact hn) (by rw [← hml]; exact hL.1) (by simp) (lv_room (cv_sum S hW)) d hf
  intro T hT X1
  obtain ⟨v, st0, t, T', L2, h0, X2, hL2, e1, e2, ⟨⟨S', r, X', hret, hpost, hc2, hP2, hD2⟩, hz, hkeep⟩, hgo⟩ := hr T hT X1
  have hv : v = r.map (cv S') := Outcome.returned.inj hret
  subst hv
  rw [h0] at hz hkeep
  have hcvs := hcv S' r X' hpost
  obtain ⟨t2, a1, b1⟩ := kk S' r X' hpost T'.heap (locs ++ L2) L (gLoc_cv hL (fun v hv => hcvs v (List.mem_append_left _ hv))) hc2 (by rw [e1]; exact hP2) hD2
    ⟨Nat.le_trans hS.1 (by rw [e1]; exact hz), fun q h1 h2 => by rw [e1, hkeep q (Nat.lt_of_lt_of_le h1 hS.1) h2]; exact hS.2.1 q h1 h2, fun q hq => by
      rcases List.mem_append.mp hq with h | h
      · exact hS.2.2 q h
      · exact hL2 q h⟩ T' rfl X2
  refine ⟨t2, hgo t2 ?_, b1⟩
  have hrest : rest.map (cv S') = rest.map (cv S) := List.map_congr_left (fun v hv => hcvs v (List.mem_append_right _ hv))
  have hst2 : (r.toList ++ rest).map (cv S') = (r.map (cv S')).toList ++ rest.map (cv S) := by
    rw [List.map_append, hrest]
    cases r <;> rfl
  rw [hst2] at a1
  exact a1
theorem g_callV0I (hC : Cx F own cc nL rm) {y : MethodName} {cc2 : ByteArray} {nL2 : Nat} {rt : Option FieldType} {fr lo : Nat} {rest : List Value} {id ci : Nat} {fs : List (Option (Option Nat))} {idx : Nat} {post : Int32 → gX → Prop} (hM : Ct F.2.1 S y cc2 nL2 rt fr lo [.ref id] X 0 0 (pI S post)) (hk : MLV own idx y cc2 nL2 rt 0) (hsh : gat S id (.inl (ci, fs))) (hci : (gCl[ci]?).map (fun q => q.1) = some y.cls) (hroom : fr + 1 ≤ rm.frames ∧ 8 + (nL2 + 11) + lo ≤ rm.locals) (hW : (rest.map fun v => v.category).sum ≤ 8) (d : decode cc pc = .ok (.invokevirtual idx, 3)) (hp : pc + 3 = pc') (hf : K.1 ≤ rm.cells ∧ K.2 ≤ rm.slots) (kk : ∀ v X', post v X' → G F S K X' pc' ls (.int v :: rest)) : G F S K X pc ls (.ref id :: rest) :=
  g_callV0 hC (as := []) (rest := rest) hM hk hsh hci hroom rfl rfl hW d hp hf (fun S' r X' h => by obtain ⟨rfl, -⟩ := h; exact fun _ _ => rfl) (fun S' r X' h => by obtain ⟨rfl, v, rfl, hp⟩ := h; exact kk v X' hp)
theorem g_callV0V (hC : Cx F own cc nL rm) {y : MethodName} {cc2 : ByteArray} {nL2 : Nat} {rt : Option FieldType} {fr lo : Nat} {rest : List Value} {id ci : Nat} {fs : List (Option (Option Nat))} {idx : Nat} {post : gX → Prop} (hM : Ct F.2.1 S y cc2 nL2 rt fr lo [.ref id] X 0 0 (pV S post)) (hk : MLV own idx y cc2 nL2 rt 0) (hsh : gat S id (.inl (ci, fs))) (hci : (gCl[ci]?).map (fun q => q.1) = some y.cls) (hroom : fr + 1 ≤ rm.frames ∧ 8 + (nL2 + 11) + lo ≤ rm.locals) (hW : (rest.map fun v => v.category).sum ≤ 8) (d : decode cc pc = .ok (.invokevirtual idx, 3)) (hp : pc + 3 = pc') (hf : K.1 ≤ rm.cells ∧ K.2 ≤ rm.slots) (kk : ∀ X', post X' → G F S K X' pc' ls rest) : G F S K X pc ls (.ref id :: rest) :=
  g_callV0 hC (as := []) (rest := rest) hM hk hsh hci hroom rfl rfl hW d hp hf (fun S' r X' h => by obtain ⟨rfl, -⟩ := h; exact fun _ _ => rfl) (fun S' r X' h => by obtain ⟨rfl, rfl, hp⟩ := h; exact kk X' hp)
theorem g_callV1I (hC : Cx F own cc nL rm) {y : MethodName} {cc2 : ByteArray} {nL2 : Nat} {rt : Option FieldType} {fr lo : Nat} {a0 : Value} {rest : List Value} {id ci : Nat} {fs : List (Option (Option Nat))} {idx : Nat} {post : Int32 → gX → Prop} (hM : Ct F.2.1 S y cc2 nL2 rt fr lo [.ref id, a0] X 0 0 (pI S post)) (hk : MLV own idx y cc2 nL2 rt 1) (hsh : gat S id (.inl (ci, fs))) (hci : (gCl[ci]?).map (fun q => q.1) = some y.cls) (hroom : fr + 1 ≤ rm.frames ∧ 8 + (nL2 + 11) + lo ≤ rm.locals) (hW : (rest.map fun v => v.category).sum ≤ 8) (d : decode cc pc = .ok (.invokevirtual idx, 3)) (hp : pc + 3 = pc') (hf : K.1 ≤ rm.cells ∧ K.2 ≤ rm.slots) (kk : ∀ v X', post v X' → G F S K X' pc' ls (.int v :: rest)) : G F S K X pc ls (a0 :: .ref id :: rest) :=
  g_callV0 hC (as := [a0]) (rest := rest) hM hk hsh hci hroom rfl rfl hW d hp hf (fun S' r X' h => by obtain ⟨rfl, -⟩ := h; exact fun _ _ => rfl) (fun S' r X' h => by obtain ⟨rfl, v, rfl, hp⟩ := h; exact kk v X' hp)
theorem g_callV1V (hC : Cx F own cc nL rm) {y : MethodName} {cc2 : ByteArray} {nL2 : Nat} {rt : Option FieldType} {fr lo : Nat} {a0 : Value} {rest : List Value} {id ci : Nat} {fs : List (Option (Option Nat))} {idx : Nat} {post : gX → Prop} (hM : Ct F.2.1 S y cc2 nL2 rt fr lo [.ref id, a0] X 0 0 (pV S post)) (hk : MLV own idx y cc2 nL2 rt 1) (hsh : gat S id (.inl (ci, fs))) (hci : (gCl[ci]?).map (fun q => q.1) = some y.cls) (hroom : fr + 1 ≤ rm.frames ∧ 8 + (nL2 + 11) + lo ≤ rm.locals) (hW : (rest.map fun v => v.category).sum ≤ 8) (d : decode cc pc = .ok (.invokevirtual idx, 3)) (hp : pc + 3 = pc') (hf : K.1 ≤ rm.cells ∧ K.2 ≤ rm.slots) (kk : ∀ X', post X' → G F S K X' pc' ls rest) : G F S K X pc ls (a0 :: .ref id :: rest) :=
  g_callV0 hC (as := [a0]) (rest := rest) hM hk hsh hci hroom rfl rfl hW d hp hf (fun S' r X' h => by obtain ⟨rfl, -⟩ := h; exact fun _ _ => rfl) (fun S' r X' h => by obtain ⟨rfl, rfl, hp⟩ := h; exact kk X' hp)
theorem g_callV2I (hC : Cx F own cc nL rm) {y : MethodName} {cc2 : ByteArray} {nL2 : Nat} {rt : Option FieldType} {fr lo : Nat} {a0 a1 : Value} {rest : List Value} {id ci : Nat} {fs : List (Option (Option Nat))} {idx : Nat} {post : Int32 → gX → Prop} (hM : Ct F.2.1 S y cc2 nL2 rt fr lo [.ref id, a0, a1] X 0 0 (pI S post)) (hk : MLV own idx y cc2 nL2 rt 2) (hsh : gat S id (.inl (ci, fs))) (hci : (gCl[ci]?).map (fun q => q.1) = some y.cls) (hroom : fr + 1 ≤ rm.frames ∧ 8 + (nL2 + 11) + lo ≤ rm.locals) (hW : (rest.map fun v => v.category).sum ≤ 8) (d : decode cc pc = .ok (.invokevirtual idx, 3)) (hp : pc + 3 = pc') (hf : K.1 ≤ rm.cells ∧ K.2 ≤ rm.slots) (kk : ∀ v X', post v X' → G F S K X' pc' ls (.int v :: rest)) : G F S K X pc ls (a1 :: a0 :: .ref id :: rest) :=
  g_callV0 hC (as := [a0, a1]) (rest := rest) hM hk hsh hci hroom rfl rfl hW d hp hf (fun S' r X' h => by obtain ⟨rfl, -⟩ := h; exact fun _ _ => rfl) (fun S' r X' h => by obtain ⟨rfl, v, rfl, hp⟩ := h; exact kk v X' hp)
theorem g_callV2V (hC : Cx F own cc nL rm) {y : MethodName} {cc2 : ByteArray} {nL2 : Nat} {rt : Option FieldType} {fr lo : Nat} {a0 a1 : Value} {rest : List Value} {id ci : Nat} {fs : List (Option (Option Nat))} {idx : Nat} {post : gX → Prop} (hM : Ct F.2.1 S y cc2 nL2 rt fr lo [.ref id, a0, a1] X 0 0 (pV S post)) (hk : MLV own idx y cc2 nL2 rt 2) (hsh : gat S id (.inl (ci, fs))) (hci : (gCl[ci]?).map (fun q => q.1) = some y.cls) (hroom : fr + 1 ≤ rm.frames ∧ 8 + (nL2 + 11) + lo ≤ rm.locals) (hW : (rest.map fun v => v.category).sum ≤ 8) (d : decode cc pc = .ok (.invokevirtual idx, 3)) (hp : pc + 3 = pc') (hf : K.1 ≤ rm.cells ∧ K.2 ≤ rm.slots) (kk : ∀ X', post X' → G F S K X' pc' ls rest) : G F S K X pc ls (a1 :: a0 :: .ref id :: rest) :=
  g_callV0 hC (as := [a0, a1]) (rest := rest) hM hk hsh hci hroom rfl rfl hW d hp hf (fun S' r X' h => by obtain ⟨rfl, -⟩ := h; exact fun _ _ => rfl) (fun S' r X' h => by obtain ⟨rfl, rfl, hp⟩ := h; exact kk X' hp)
theorem g_callV3I (hC : Cx F own cc nL rm) {y : MethodName} {cc2 : ByteArray} {nL2 : Nat} {rt : Option FieldType} {fr lo : Nat} {a0 a1 a2 : Value} {rest : List Value} {id ci : Nat} {fs : List (Option (Option Nat))} {idx : Nat} {post : Int32 → gX → Prop} (hM : Ct F.2.1 S y cc2 nL2 rt fr lo [.ref id, a0, a1, a2] X 0 0 (pI S post)) (hk : MLV own idx y cc2 nL2 rt 3) (hsh : gat S id (.inl (ci, fs))) (hci : (gCl[ci]?).map (fun q => q.1) = some y.cls) (hroom : fr + 1 ≤ rm.frames ∧ 8 + (nL2 + 11) + lo ≤ rm.locals) (hW : (rest.map fun v => v.category).sum ≤ 8) (d : decode cc pc = .ok (.invokevirtual idx, 3)) (hp : pc + 3 = pc') (hf : K.1 ≤ rm.cells ∧ K.2 ≤ rm.slots) (kk : ∀ v X', post v X' → G F S K X' pc' ls (.int v :: rest)) : G F S K X pc ls (a2 :: a1 :: a0 :: .ref id :: rest) :=
  g_callV0 hC (as := [a0, a1, a2]) (rest := rest) hM hk hsh hci hroom rfl rfl hW d hp hf (fun S' r X' h => by obtain ⟨rfl, -⟩ := h; exact fun _ _ => rfl) (fun S' r X' h => by obtain ⟨rfl, v, rfl, hp⟩ := h; exact kk v X' hp)
theorem g_callV3V (hC : Cx F own cc nL rm) {y : MethodName} {cc2 : ByteArray} {nL2 : Nat} {rt : Option FieldType} {fr lo : Nat} {a0 a1 a2 : Value} {rest : List Value} {id ci : Nat} {fs : List (Option (Option Nat))} {idx : Nat} {post : gX → Prop} (hM : Ct F.2.1 S y cc2 nL2 rt fr lo [.ref id, a0, a1, a2] X 0 0 (pV S post)) (hk : MLV own idx y cc2 nL2 rt 3) (hsh : gat S id (.inl (ci, fs))) (hci : (gCl[ci]?).map (fun q => q.1) = some y.cls) (hroom : fr + 1 ≤ rm.frames ∧ 8 + (nL2 + 11) + lo ≤ rm.locals) (hW : (rest.map fun v => v.category).sum ≤ 8) (d : decode cc pc = .ok (.invokevirtual idx, 3)) (hp : pc + 3 = pc') (hf : K.1 ≤ rm.cells ∧ K.2 ≤ rm.slots) (kk : ∀ X', post X' → G F S K X' pc' ls rest) : G F S K X pc ls (a2 :: a1 :: a0 :: .ref id :: rest) :=
  g_callV0 hC (as := [a0, a1, a2]) (rest := rest) hM hk hsh hci hroom rfl rfl hW d hp hf (fun S' r X' h => by obtain ⟨rfl, -⟩ := h; exact fun _ _ => rfl) (fun S' r X' h => by obtain ⟨rfl, rfl, hp⟩ := h; exact kk X' hp)
theorem g_callV4I (hC : Cx F own cc nL rm) {y : MethodName} {cc2 : ByteArray} {nL2 : Nat} {rt : Option FieldType} {fr lo : Nat} {a0 a1 a2 a3 : Value} {rest : List Value} {id ci : Nat} {fs : List (Option (Option Nat))} {idx : Nat} {post : Int32 → gX → Prop} (hM : Ct F.2.1 S y cc2 nL2 rt fr lo [.ref id, a0, a1, a2, a3] X 0 0 (pI S post)) (hk : MLV own idx y cc2 nL2 rt 4) (hsh : gat S id (.inl (ci, fs))) (hci : (gCl[ci]?).map (fun q => q.1) = some y.cls) (hroom : fr + 1 ≤ rm.frames ∧ 8 + (nL2 + 11) + lo ≤ rm.locals) (hW : (rest.map fun v => v.category).sum ≤ 8) (d : decode cc pc = .ok (.invokevirtual idx, 3)) (hp : pc + 3 = pc') (hf : K.1 ≤ rm.cells ∧ K.2 ≤ rm.slots) (kk : ∀ v X', post v X' → G F S K X' pc' ls (.int v :: rest)) : G F S K X pc ls (a3 :: a2 :: a1 :: a0 :: .ref id :: rest) :=
  g_callV0 hC (as := [a0, a1, a2, a3]) (rest := rest) hM hk hsh hci hroom rfl rfl hW d hp hf (fun S' r X' h => by obtain ⟨rfl, -⟩ := h; exact fun _ _ => rfl) (fun S' r X' h => by obtain ⟨rfl, v, rfl, hp⟩ := h; exact kk v X' hp)
theorem g_callV4V (hC : Cx F own cc nL rm) {y : MethodName} {cc2 : ByteArray} {nL2 : Nat} {rt : Option FieldType} {fr lo : Nat} {a0 a1 a2 a3 : Value} {rest : List Value} {id ci : Nat} {fs : List (Option (Option Nat))} {idx : Nat} {post : gX → Prop} (hM : Ct F.2.1 S y cc2 nL2 rt fr lo [.ref id, a0, a1, a2, a3] X 0 0 (pV S post)) (hk : MLV own idx y cc2 nL2 rt 4) (hsh : gat S id (.inl (ci, fs))) (hci : (gCl[ci]?).map (fun q => q.1) = some y.cls) (hroom : fr + 1 ≤ rm.frames ∧ 8 + (nL2 + 11) + lo ≤ rm.locals) (hW : (rest.map fun v => v.category).sum ≤ 8) (d : decode cc pc = .ok (.invokevirtual idx, 3)) (hp : pc + 3 = pc') (hf : K.1 ≤ rm.cells ∧ K.2 ≤ rm.slots) (kk : ∀ X', post X' → G F S K X' pc' ls rest) : G F S K X pc ls (a3 :: a2 :: a1 :: a0 :: .ref id :: rest) :=
  g_callV0 hC (as := [a0, a1, a2, a3]) (rest := rest) hM hk hsh hci hroom rfl rfl hW d hp hf (fun S' r X' h => by obtain ⟨rfl, -⟩ := h; exact fun _ _ => rfl) (fun S' r X' h => by obtain ⟨rfl, rfl, hp⟩ := h; exact kk X' hp)
theorem g_callS1I (hC : Cx F own cc nL rm) {y : MethodName} {cc2 : ByteArray} {nL2 : Nat} {rt : Option FieldType} {fr lo : Nat} {a0 : Value} {rest : List Value} {idx : Nat} {post : Int32 → gX → Prop} (hM : Ct F.2.1 S y cc2 nL2 rt fr lo [a0] X 0 0 (pI S post)) (hk : MLS own idx y cc2 nL2 rt 1) (hroom : fr + 1 ≤ rm.frames ∧ 8 + (nL2 + 11) + lo ≤ rm.locals) (hW : (rest.map fun v => v.category).sum ≤ 8) (d : decode cc pc = .ok (.invokestatic idx, 3)) (hp : pc + 3 = pc') (hf : K.1 ≤ rm.cells ∧ K.2 ≤ rm.slots) (kk : ∀ v X', post v X' → G F S K X' pc' ls (.int v :: rest)) : G F S K X pc ls (a0 :: rest) :=
  g_callS0 hC (as := [a0]) (rest := rest) hM hk hroom rfl rfl hW d hp hf (fun S' r X' h => by obtain ⟨rfl, -⟩ := h; exact fun _ _ => rfl) (fun S' r X' h => by obtain ⟨rfl, v, rfl, hp⟩ := h; exact kk v X' hp)
theorem g_callS1V (hC : Cx F own cc nL rm) {y : MethodName} {cc2 : ByteArray} {nL2 : Nat} {rt : Option FieldType} {fr lo : Nat} {a0 : Value} {rest : List Value} {idx : Nat} {post : gX → Prop} (hM : Ct F.2.1 S y cc2 nL2 rt fr lo [a0] X 0 0 (pV S post)) (hk : MLS own idx y cc2 nL2 rt 1) (hroom : fr + 1 ≤ rm.frames ∧ 8 + (nL2 + 11) + lo ≤ rm.locals) (hW : (rest.map fun v => v.category).sum ≤ 8) (d : decode cc pc = .ok (.invokestatic idx, 3)) (hp : pc + 3 = pc') (hf : K.1 ≤ rm.cells ∧ K.2 ≤ rm.slots) (kk : ∀ X', post X' → G F S K X' pc' ls rest) : G F S K X pc ls (a0 :: rest) :=
  g_callS0 hC (as := [a0]) (rest := rest) hM hk hroom rfl rfl hW d hp hf (fun S' r X' h => by obtain ⟨rfl, -⟩ := h; exact fun _ _ => rfl) (fun S' r X' h => by obtain ⟨rfl, rfl, hp⟩ := h; exact kk X' hp)
theorem g_callS2I (hC : Cx F own cc nL rm) {y : MethodName} {cc2 : ByteArray} {nL2 : Nat} {rt : Option FieldType} {fr lo : Nat} {a0 a1 : Value} {rest : List Value} {idx : Nat} {post : Int32 → gX → Prop} (hM : Ct F.2.1 S y cc2 nL2 rt fr lo [a0, a1] X 0 0 (pI S post)) (hk : MLS own idx y cc2 nL2 rt 2) (hroom : fr + 1 ≤ rm.frames ∧ 8 + (nL2 + 11) + lo ≤ rm.locals) (hW : (rest.map fun v => v.category).sum ≤ 8) (d : decode cc pc = .ok (.invokestatic idx, 3)) (hp : pc + 3 = pc') (hf : K.1 ≤ rm.cells ∧ K.2 ≤ rm.slots) (kk : ∀ v X', post v X' → G F S K X' pc' ls (.int v :: rest)) : G F S K X pc ls (a1 :: a0 :: rest) :=
  g_callS0 hC (as := [a0, a1]) (rest := rest) hM hk hroom rfl rfl hW d hp hf (fun S' r X' h => by obtain ⟨rfl, -⟩ := h; exact fun _ _ => rfl) (fun S' r X' h => by obtain ⟨rfl, v, rfl, hp⟩ := h; exact kk v X' hp)
theorem g_callS2V (hC : Cx F own cc nL rm) {y : MethodName} {cc2 : ByteArray} {nL2 : Nat} {rt : Option FieldType} {fr lo : Nat} {a0 a1 : Value} {rest : List Value} {idx : Nat} {post : gX → Prop} (hM : Ct F.2.1 S y cc2 nL2 rt fr lo [a0, a1] X 0 0 (pV S post)) (hk : MLS own idx y cc2 nL2 rt 2) (hroom : fr + 1 ≤ rm.frames ∧ 8 + (nL2 + 11) + lo ≤ rm.locals) (hW : (rest.map fun v => v.category).sum ≤ 8) (d : decode cc pc = .ok (.invokestatic idx, 3)) (hp : pc + 3 = pc') (hf : K.1 ≤ rm.cells ∧ K.2 ≤ rm.slots) (kk : ∀ X', post X' → G F S K X' pc' ls rest) : G F S K X pc ls (a1 :: a0 :: rest) :=
  g_callS0 hC (as := [a0, a1]) (rest := rest) hM hk hroom rfl rfl hW d hp hf (fun S' r X' h => by obtain ⟨rfl, -⟩ := h; exact fun _ _ => rfl) (fun S' r X' h => by obtain ⟨rfl, rfl, hp⟩ := h; exact kk X' hp)
theorem g_callS3I (hC : Cx F own cc nL rm) {y : MethodName} {cc2 : ByteArray} {nL2 : Nat} {rt : Option FieldType} {fr lo : Nat} {a0 a1 a2 : Value} {rest : List Value} {idx : Nat} {post : Int32 → gX → Prop} (hM : Ct F.2.1 S y cc2 nL2 rt fr lo [a0, a1, a2] X 0 0 (pI S post)) (hk : MLS own idx y cc2 nL2 rt 3) (hroom : fr + 1 ≤ rm.frames ∧ 8 + (nL2 + 11) + lo ≤ rm.locals) (hW : (rest.map fun v => v.category).sum ≤ 8) (d : decode cc pc = .ok (.invokestatic idx, 3)) (hp : pc + 3 = pc') (hf : K.1 ≤ rm.cells ∧ K.2 ≤ rm.slots) (kk : ∀ v X', post v X' → G F S K X' pc' ls (.int v :: rest)) : G F S K X pc ls (a2 :: a1 :: a0 :: rest) :=
  g_callS0 hC (as := [a0, a1, a2]) (rest := rest) hM hk hroom rfl rfl hW d hp hf (fun S' r X' h => by obtain ⟨rfl, -⟩ := h; exact fun _ _ => rfl) (fun S' r X' h => by obtain ⟨rfl, v, rfl, hp⟩ := h; exact kk v X' hp)
theorem g_callS3V (hC : Cx F own cc nL rm) {y : MethodName} {cc2 : ByteArray} {nL2 : Nat} {rt : Option FieldType} {fr lo : Nat} {a0 a1 a2 : Value} {rest : List Value} {idx : Nat} {post : gX → Prop} (hM : Ct F.2.1 S y cc2 nL2 rt fr lo [a0, a1, a2] X 0 0 (pV S post)) (hk : MLS own idx y cc2 nL2 rt 3) (hroom : fr + 1 ≤ rm.frames ∧ 8 + (nL2 + 11) + lo ≤ rm.locals) (hW : (rest.map fun v => v.category).sum ≤ 8) (d : decode cc pc = .ok (.invokestatic idx, 3)) (hp : pc + 3 = pc') (hf : K.1 ≤ rm.cells ∧ K.2 ≤ rm.slots) (kk : ∀ X', post X' → G F S K X' pc' ls rest) : G F S K X pc ls (a2 :: a1 :: a0 :: rest) :=
  g_callS0 hC (as := [a0, a1, a2]) (rest := rest) hM hk hroom rfl rfl hW d hp hf (fun S' r X' h => by obtain ⟨rfl, -⟩ := h; exact fun _ _ => rfl) (fun S' r X' h => by obtain ⟨rfl, rfl, hp⟩ := h; exact kk X' hp)
theorem g_callS4I (hC : Cx F own cc nL rm) {y : MethodName} {cc2 : ByteArray} {nL2 : Nat} {rt : Option FieldType} {fr lo : Nat} {a0 a1 a2 a3 : Value} {rest : List Value} {idx : Nat} {post : Int32 → gX → Prop} (hM : Ct F.2.1 S y cc2 nL2 rt fr lo [a0, a1, a2, a3] X 0 0 (pI S post)) (hk : MLS own idx y cc2 nL2 rt 4) (hroom : fr + 1 ≤ rm.frames ∧ 8 + (nL2 + 11) + lo ≤ rm.locals) (hW : (rest.map fun v => v.category).sum ≤ 8) (d : decode cc pc = .ok (.invokestatic idx, 3)) (hp : pc + 3 = pc') (hf : K.1 ≤ rm.cells ∧ K.2 ≤ rm.slots) (kk : ∀ v X', post v X' → G F S K X' pc' ls (.int v :: rest)) : G F S K X pc ls (a3 :: a2 :: a1 :: a0 :: rest) :=
  g_callS0 hC (as := [a0, a1, a2, a3]) (rest := rest) hM hk hroom rfl rfl hW d hp hf (fun S' r X' h => by obtain ⟨rfl, -⟩ := h; exact fun _ _ => rfl) (fun S' r X' h => by obtain ⟨rfl, v, rfl, hp⟩ := h; exact kk v X' hp)
theorem g_callS4V (hC : Cx F own cc nL rm) {y : MethodName} {cc2 : ByteArray} {nL2 : Nat} {rt : Option FieldType} {fr lo : Nat} {a0 a1 a2 a3 : Value} {rest : List Value} {idx : Nat} {post : gX → Prop} (hM : Ct F.2.1 S y cc2 nL2 rt fr lo [a0, a1, a2, a3] X 0 0 (pV S post)) (hk : MLS own idx y cc2 nL2 rt 4) (hroom : fr + 1 ≤ rm.frames ∧ 8 + (nL2 + 11) + lo ≤ rm.locals) (hW : (rest.map fun v => v.category).sum ≤ 8) (d : decode cc pc = .ok (.invokestatic idx, 3)) (hp : pc + 3 = pc') (hf : K.1 ≤ rm.cells ∧ K.2 ≤ rm.slots) (kk : ∀ X', post X' → G F S K X' pc' ls rest) : G F S K X pc ls (a3 :: a2 :: a1 :: a0 :: rest) :=
  g_callS0 hC (as := [a0, a1, a2, a3]) (rest := rest) hM hk hroom rfl rfl hW d hp hf (fun S' r X' h => by obtain ⟨rfl, -⟩ := h; exact fun _ _ => rfl) (fun S' r X' h => by obtain ⟨rfl, rfl, hp⟩ := h; exact kk X' hp)
theorem g_callN1I (hC : Cx F own cc nL rm) {y : MethodName} {cc2 : ByteArray} {nL2 : Nat} {rt : Option FieldType} {fr lo : Nat} {a0 : Value} {rest : List Value} {idx : Nat} {post : Int32 → gX → Prop} (hM : Ct F.2.1 S y cc2 nL2 rt fr lo [a0] X 0 0 (pI S post)) (hk : MLN own idx y cc2 nL2 rt 1) (hroom : fr + 1 ≤ rm.frames ∧ 8 + (nL2 + 11) + lo ≤ rm.locals) (hW : (rest.map fun v => v.category).sum ≤ 8) (d : decode cc pc = .ok (.invokestatic idx, 3)) (hp : pc + 3 = pc') (hf : K.1 ≤ rm.cells ∧ K.2 ≤ rm.slots) (kk : ∀ v X', post v X' → G F S K X' pc' ls (.int v :: rest)) : G F S K X pc ls (a0 :: rest) :=
  g_callN0 hC (as := [a0]) (rest := rest) hM hk hroom rfl rfl hW d hp hf (fun S' r X' h => by obtain ⟨rfl, -⟩ := h; exact fun _ _ => rfl) (fun S' r X' h => by obtain ⟨rfl, v, rfl, hp⟩ := h; exact kk v X' hp)
theorem g_callN1V (hC : Cx F own cc nL rm) {y : MethodName} {cc2 : ByteArray} {nL2 : Nat} {rt : Option FieldType} {fr lo : Nat} {a0 : Value} {rest : List Value} {idx : Nat} {post : gX → Prop} (hM : Ct F.2.1 S y cc2 nL2 rt fr lo [a0] X 0 0 (pV S post)) (hk : MLN own idx y cc2 nL2 rt 1) (hroom : fr + 1 ≤ rm.frames ∧ 8 + (nL2 + 11) + lo ≤ rm.locals) (hW : (rest.map fun v => v.category).sum ≤ 8) (d : decode cc pc = .ok (.invokestatic idx, 3)) (hp : pc + 3 = pc') (hf : K.1 ≤ rm.cells ∧ K.2 ≤ rm.slots) (kk : ∀ X', post X' → G F S K X' pc' ls rest) : G F S K X pc ls (a0 :: rest) :=
  g_callN0 hC (as := [a0]) (rest := rest) hM hk hroom rfl rfl hW d hp hf (fun S' r X' h => by obtain ⟨rfl, -⟩ := h; exact fun _ _ => rfl) (fun S' r X' h => by obtain ⟨rfl, rfl, hp⟩ := h; exact kk X' hp)
theorem g_callN2I (hC : Cx F own cc nL rm) {y : MethodName} {cc2 : ByteArray} {nL2 : Nat} {rt : Option FieldType} {fr lo : Nat} {a0 a1 : Value} {rest : List Value} {idx : Nat} {post : Int32 → gX → Prop} (hM : Ct F.2.1 S y cc2 nL2 rt fr lo [a0, a1] X 0 0 (pI S post)) (hk : MLN own idx y cc2 nL2 rt 2) (hroom : fr + 1 ≤ rm.frames ∧ 8 + (nL2 + 11) + lo ≤ rm.locals) (hW : (rest.map fun v => v.category).sum ≤ 8) (d : decode cc pc = .ok (.invokestatic idx, 3)) (hp : pc + 3 = pc') (hf : K.1 ≤ rm.cells ∧ K.2 ≤ rm.slots) (kk : ∀ v X', post v X' → G F S K X' pc' ls (.int v :: rest)) : G F S K X pc ls (a1 :: a0 :: rest) :=
  g_callN0 hC (as := [a0, a1]) (rest := rest) hM hk hroom rfl rfl hW d hp hf (fun S' r X' h => by obtain ⟨rfl, -⟩ := h; exact fun _ _ => rfl) (fun S' r X' h => by obtain ⟨rfl, v, rfl, hp⟩ := h; exact kk v X' hp)
theorem g_callN2V (hC : Cx F own cc nL rm) {y : MethodName} {cc2 : ByteArray} {nL2 : Nat} {rt : Option FieldType} {fr lo : Nat} {a0 a1 : Value} {rest : List Value} {idx : Nat} {post : gX → Prop} (hM : Ct F.2.1 S y cc2 nL2 rt fr lo [a0, a1] X 0 0 (pV S post)) (hk : MLN own idx y cc2 nL2 rt 2) (hroom : fr + 1 ≤ rm.frames ∧ 8 + (nL2 + 11) + lo ≤ rm.locals) (hW : (rest.map fun v => v.category).sum ≤ 8) (d : decode cc pc = .ok (.invokestatic idx, 3)) (hp : pc + 3 = pc') (hf : K.1 ≤ rm.cells ∧ K.2 ≤ rm.slots) (kk : ∀ X', post X' → G F S K X' pc' ls rest) : G F S K X pc ls (a1 :: a0 :: rest) :=
  g_callN0 hC (as := [a0, a1]) (rest := rest) hM hk hroom rfl rfl hW d hp hf (fun S' r X' h => by obtain ⟨rfl, -⟩ := h; exact fun _ _ => rfl) (fun S' r X' h => by obtain ⟨rfl, rfl, hp⟩ := h; exact kk X' hp)
theorem g_callN3I (hC : Cx F own cc nL rm) {y : MethodName} {cc2 : ByteArray} {nL2 : Nat} {rt : Option FieldType} {fr lo : Nat} {a0 a1 a2 : Value} {rest : List Value} {idx : Nat} {post : Int32 → gX → Prop} (hM : Ct F.2.1 S y cc2 nL2 rt fr lo [a0, a1, a2] X 0 0 (pI S post)) (hk : MLN own idx y cc2 nL2 rt 3) (hroom : fr + 1 ≤ rm.frames ∧ 8 + (nL2 + 11) + lo ≤ rm.locals) (hW : (rest.map fun v => v.category).sum ≤ 8) (d : decode cc pc = .ok (.invokestatic idx, 3)) (hp : pc + 3 = pc') (hf : K.1 ≤ rm.cells ∧ K.2 ≤ rm.slots) (kk : ∀ v X', post v X' → G F S K X' pc' ls (.int v :: rest)) : G F S K X pc ls (a2 :: a1 :: a0 :: rest) :=
  g_callN0 hC (as := [a0, a1, a2]) (rest := rest) hM hk hroom rfl rfl hW d hp hf (fun S' r X' h => by obtain ⟨rfl, -⟩ := h; exact fun _ _ => rfl) (fun S' r X' h => by obtain ⟨rfl, v, rfl, hp⟩ := h; exact kk v X' hp)
theorem g_callN3V (hC : Cx F own cc nL rm) {y : MethodName} {cc2 : ByteArray} {nL2 : Nat} {rt : Option FieldType} {fr lo : Nat} {a0 a1 a2 : Value} {rest : List Value} {idx : Nat} {post : gX → Prop} (hM : Ct F.2.1 S y cc2 nL2 rt fr lo [a0, a1, a2] X 0 0 (pV S post)) (hk : MLN own idx y cc2 nL2 rt 3) (hroom : fr + 1 ≤ rm.frames ∧ 8 + (nL2 + 11) + lo ≤ rm.locals) (hW : (rest.map fun v => v.category).sum ≤ 8) (d : decode cc pc = .ok (.invokestatic idx, 3)) (hp : pc + 3 = pc') (hf : K.1 ≤ rm.cells ∧ K.2 ≤ rm.slots) (kk : ∀ X', post X' → G F S K X' pc' ls rest) : G F S K X pc ls (a2 :: a1 :: a0 :: rest) :=
  g_callN0 hC (as := [a0, a1, a2]) (rest := rest) hM hk hroom rfl rfl hW d hp hf (fun S' r X' h => by obtain ⟨rfl, -⟩ := h; exact fun _ _ => rfl) (fun S' r X' h => by obtain ⟨rfl, rfl, hp⟩ := h; exact kk X' hp)
theorem g_callN4I (hC : Cx F own cc nL rm) {y : MethodName} {cc2 : ByteArray} {nL2 : Nat} {rt : Option FieldType} {fr lo : Nat} {a0 a1 a2 a3 : Value} {rest : List Value} {idx : Nat} {post : Int32 → gX → Prop} (hM : Ct F.2.1 S y cc2 nL2 rt fr lo [a0, a1, a2, a3] X 0 0 (pI S post)) (hk : MLN own idx y cc2 nL2 rt 4) (hroom : fr + 1 ≤ rm.frames ∧ 8 + (nL2 + 11) + lo ≤ rm.locals) (hW : (rest.map fun v => v.category).sum ≤ 8) (d : decode cc pc = .ok (.invokestatic idx, 3)) (hp : pc + 3 = pc') (hf : K.1 ≤ rm.cells ∧ K.2 ≤ rm.slots) (kk : ∀ v X', post v X' → G F S K X' pc' ls (.int v :: rest)) : G F S K X pc ls (a3 :: a2 :: a1 :: a0 :: rest) :=
  g_callN0 hC (as := [a0, a1, a2, a3]) (rest := rest) hM hk hroom rfl rfl hW d hp hf (fun S' r X' h => by obtain ⟨rfl, -⟩ := h; exact fun _ _ => rfl) (fun S' r X' h => by obtain ⟨rfl, v, rfl, hp⟩ := h; exact kk v X' hp)
theorem g_callN4V (hC : Cx F own cc nL rm) {y : MethodName} {cc2 : ByteArray} {nL2 : Nat} {rt : Option FieldType} {fr lo : Nat} {a0 a1 a2 a3 : Value} {rest : List Value} {idx : Nat} {post : gX → Prop} (hM : Ct F.2.1 S y cc2 nL2 rt fr lo [a0, a1, a2, a3] X 0 0 (pV S post)) (hk : MLN own idx y cc2 nL2 rt 4) (hroom : fr + 1 ≤ rm.frames ∧ 8 + (nL2 + 11) + lo ≤ rm.locals) (hW : (rest.map fun v => v.category).sum ≤ 8) (d : decode cc pc = .ok (.invokestatic idx, 3)) (hp : pc + 3 = pc') (hf : K.1 ≤ rm.cells ∧ K.2 ≤ rm.slots) (kk : ∀ X', post X' → G F S K X' pc' ls rest) : G F S K X pc ls (a3 :: a2 :: a1 :: a0 :: rest) :=
  g_callN0 hC (as := [a0, a1, a2, a3]) (rest := rest) hM hk hroom rfl rfl hW d hp hf (fun S' r X' h => by obtain ⟨rfl, -⟩ := h; exact fun _ _ => rfl) (fun S' r X' h => by obtain ⟨rfl, rfl, hp⟩ := h; exact kk X' hp)
end
end
section
/-! the tables' words that G's rows want -/
theorem tb_at {w : Cond} (i : Nat) (h : lw_tbl[i]? = some w) (hg : goodWord w = true) : w ∈ TB := tb_in (List.mem_of_getElem? h) hg
theorem gw0 : ∀ w ∈ u_ws RX0 TX0 3, w ∈ TB := by decide +kernel
theorem gw1 : ∀ w ∈ u_ws RX1 TX1 5, w ∈ TB := by decide +kernel
theorem gw2 : ∀ w ∈ u_ws RX2 TX2 2, w ∈ TB := by decide +kernel
theorem gw3 : ∀ w ∈ u_ws RX3 TX3 5, w ∈ TB := by decide +kernel
theorem gw4 : ∀ w ∈ u_ws RX4 TX4 5, w ∈ TB := by decide +kernel
theorem gw5 : ∀ w ∈ u_ws RX5 TX5 8, w ∈ TB := by decide +kernel
theorem gw6 : ∀ w ∈ u_ws RX6 TX6 8, w ∈ TB := by decide +kernel
theorem gw7 : ∀ w ∈ u_ws RX7 TX7 19, w ∈ TB := by decide +kernel
theorem fl_X6_10 : FLD RX6 10 6 0 true (.object "CarbonSheets$State") := ⟨RX6, TX6, 8, tyX6, rfl, by decide, tb_at 219 (by decide +kernel) (by decide +kernel), gw6, tyX6_ok, nmX6, rfl, rfl⟩
theorem fl_X6_16 : FLD RX6 16 6 1 true (.object "CarbonSheets$State") := ⟨RX6, TX6, 8, tyX6, rfl, by decide, tb_at 220 (by decide +kernel) (by decide +kernel), gw6, tyX6_ok, nmX6, rfl, rfl⟩
theorem fl_X6_22 : FLD RX6 22 6 2 true (.object "CarbonSheets$Tally") := ⟨RX6, TX6, 8, tyX6, rfl, by decide, tb_at 221 (by decide +kernel) (by decide +kernel), gw6, tyX6_ok, nmX6, rfl, rfl⟩
theorem fl_X6_29 : FLD RX6 29 6 3 true (.object "CarbonSheets$History") := ⟨RX6, TX6, 8, tyX6, rfl, by decide, tb_at 222 (by decide +kernel) (by decide +kernel), gw6, tyX6_ok, nmX6, rfl, rfl⟩
theorem fl_X6_33 : FLD RX6 33 6 4 true (.array (.object "CarbonSheets$State")) := ⟨RX6, TX6, 8, tyX6, rfl, by decide, tb_at 223 (by decide +kernel) (by decide +kernel), gw6, tyX6_ok, nmX6, rfl, rfl⟩
theorem fl_X6_37 : FLD RX6 37 6 5 true (.array .boolean) := ⟨RX6, TX6, 8, tyX6, rfl, by decide, tb_at 224 (by decide +kernel) (by decide +kernel), gw6, tyX6_ok, nmX6, rfl, rfl⟩
theorem fl_X6_44 : FLD RX6 44 6 6 true (.object "CarbonSheets$Pad") := ⟨RX6, TX6, 8, tyX6, rfl, by decide, tb_at 225 (by decide +kernel) (by decide +kernel), gw6, tyX6_ok, nmX6, rfl, rfl⟩
theorem fl_X6_51 : FLD RX6 51 6 7 true (.object "CarbonSheets$OrderReader") := ⟨RX6, TX6, 8, tyX6, rfl, by decide, tb_at 226 (by decide +kernel) (by decide +kernel), gw6, tyX6_ok, nmX6, rfl, rfl⟩
theorem fl_X6_63 : FLD RX6 63 4 1 true (.array .int) := ⟨RX4, TX4, 5, tyX4, rfl, by decide, tb_at 102 (by decide +kernel) (by decide +kernel), gw4, tyX4_ok, nmX4, rfl, rfl⟩
theorem fl_X6_75 : FLD RX6 75 4 0 true (.array (.object "CarbonSheets$Sheet")) := ⟨RX4, TX4, 5, tyX4, rfl, by decide, tb_at 100 (by decide +kernel) (by decide +kernel), gw4, tyX4_ok, nmX4, rfl, rfl⟩
theorem fl_X6_79 : FLD RX6 79 3 0 false .int := ⟨RX3, TX3, 5, tyX3, rfl, by decide, tb_at 76 (by decide +kernel) (by decide +kernel), gw3, tyX3_ok, nmX3, rfl, rfl⟩
theorem fl_X6_88 : FLD RX6 88 3 1 false .int := ⟨RX3, TX3, 5, tyX3, rfl, by decide, tb_at 79 (by decide +kernel) (by decide +kernel), gw3, tyX3_ok, nmX3, rfl, rfl⟩
theorem fl_X6_108 : FLD RX6 108 4 2 false .int := ⟨RX4, TX4, 5, tyX4, rfl, by decide, tb_at 104 (by decide +kernel) (by decide +kernel), gw4, tyX4_ok, nmX4, rfl, rfl⟩
theorem fl_X6_131 : FLD RX6 131 3 3 true (.array .int) := ⟨RX3, TX3, 5, tyX3, rfl, by decide, tb_at 85 (by decide +kernel) (by decide +kernel), gw3, tyX3_ok, nmX3, rfl, rfl⟩
theorem fl_X6_151 : FLD RX6 151 3 2 false .int := ⟨RX3, TX3, 5, tyX3, rfl, by decide, tb_at 83 (by decide +kernel) (by decide +kernel), gw3, tyX3_ok, nmX3, rfl, rfl⟩
theorem fl_X6_176 : FLD RX6 176 5 1 false .int := ⟨RX5, TX5, 8, tyX5, rfl, by decide, tb_at 129 (by decide +kernel) (by decide +kernel), gw5, tyX5_ok, nmX5, rfl, rfl⟩
theorem fl_X6_179 : FLD RX6 179 5 2 false .int := ⟨RX5, TX5, 8, tyX5, rfl, by decide, tb_at 131 (by decide +kernel) (by decide +kernel), gw5, tyX5_ok, nmX5, rfl, rfl⟩
theorem fl_X6_182 : FLD RX6 182 5 3 false .int := ⟨RX5, TX5, 8, tyX5, rfl, by decide, tb_at 133 (by decide +kernel) (by decide +kernel), gw5, tyX5_ok, nmX5, rfl, rfl⟩
theorem fl_X6_185 : FLD RX6 185 5 4 false .int := ⟨RX5, TX5, 8, tyX5, rfl, by decide, tb_at 135 (by decide +kernel) (by decide +kernel), gw5, tyX5_ok, nmX5, rfl, rfl⟩
theorem fl_X6_188 : FLD RX6 188 5 0 false .int := ⟨RX5, TX5, 8, tyX5, rfl, by decide, tb_at 127 (by decide +kernel) (by decide +kernel), gw5, tyX5_ok, nmX5, rfl, rfl⟩
theorem fl_X6_195 : FLD RX6 195 4 3 false .int := ⟨RX4, TX4, 5, tyX4, rfl, by decide, tb_at 106 (by decide +kernel) (by decide +kernel), gw4, tyX4_ok, nmX4, rfl, rfl⟩
theorem fl_X6_205 : FLD RX6 205 2 0 false .int := ⟨RX2, TX2, 2, tyX2, rfl, by decide, tb_at 183 (by decide +kernel) (by decide +kernel), gw2, tyX2_ok, nmX2, rfl, rfl⟩
theorem fl_X6_208 : FLD RX6 208 0 0 false .int := ⟨RX0, TX0, 3, tyX0, rfl, by decide, tb_at 166 (by decide +kernel) (by decide +kernel), gw0, tyX0_ok, nmX0, rfl, rfl⟩
theorem fl_X6_218 : FLD RX6 218 4 4 true (.array .int) := ⟨RX4, TX4, 5, tyX4, rfl, by decide, tb_at 108 (by decide +kernel) (by decide +kernel), gw4, tyX4_ok, nmX4, rfl, rfl⟩
theorem fl_X6_254 : FLD RX6 254 2 1 true (.array .char) := ⟨RX2, TX2, 2, tyX2, rfl, by decide, tb_at 185 (by decide +kernel) (by decide +kernel), gw2, tyX2_ok, nmX2, rfl, rfl⟩
theorem fl_X6_268 : FLD RX6 268 1 0 false .int := ⟨RX1, TX1, 5, tyX1, rfl, by decide, tb_at 200 (by decide +kernel) (by decide +kernel), gw1, tyX1_ok, nmX1, rfl, rfl⟩
theorem fl_X6_271 : FLD RX6 271 1 1 false .int := ⟨RX1, TX1, 5, tyX1, rfl, by decide, tb_at 202 (by decide +kernel) (by decide +kernel), gw1, tyX1_ok, nmX1, rfl, rfl⟩
theorem fl_X6_274 : FLD RX6 274 1 2 false .int := ⟨RX1, TX1, 5, tyX1, rfl, by decide, tb_at 204 (by decide +kernel) (by decide +kernel), gw1, tyX1_ok, nmX1, rfl, rfl⟩
theorem fl_X6_277 : FLD RX6 277 1 3 false .int := ⟨RX1, TX1, 5, tyX1, rfl, by decide, tb_at 206 (by decide +kernel) (by decide +kernel), gw1, tyX1_ok, nmX1, rfl, rfl⟩
theorem fl_X0_9 : FLD RX0 9 0 0 false .int := ⟨RX0, TX0, 3, tyX0, rfl, by decide, tb_at 165 (by decide +kernel) (by decide +kernel), gw0, tyX0_ok, nmX0, rfl, rfl⟩
theorem fl_X0_15 : FLD RX0 15 0 1 false .int := ⟨RX0, TX0, 3, tyX0, rfl, by decide, tb_at 167 (by decide +kernel) (by decide +kernel), gw0, tyX0_ok, nmX0, rfl, rfl⟩
theorem fl_X0_20 : FLD RX0 20 0 2 true (.array (.object "CarbonSheets$State")) := ⟨RX0, TX0, 3, tyX0, rfl, by decide, tb_at 168 (by decide +kernel) (by decide +kernel), gw0, tyX0_ok, nmX0, rfl, rfl⟩
theorem fl_X1_11 : FLD RX1 11 1 4 false .int := ⟨RX1, TX1, 5, tyX1, rfl, by decide, tb_at 207 (by decide +kernel) (by decide +kernel), gw1, tyX1_ok, nmX1, rfl, rfl⟩
theorem fl_X1_35 : FLD RX1 35 1 0 false .int := ⟨RX1, TX1, 5, tyX1, rfl, by decide, tb_at 199 (by decide +kernel) (by decide +kernel), gw1, tyX1_ok, nmX1, rfl, rfl⟩
theorem fl_X1_38 : FLD RX1 38 1 1 false .int := ⟨RX1, TX1, 5, tyX1, rfl, by decide, tb_at 201 (by decide +kernel) (by decide +kernel), gw1, tyX1_ok, nmX1, rfl, rfl⟩
theorem fl_X1_44 : FLD RX1 44 1 2 false .int := ⟨RX1, TX1, 5, tyX1, rfl, by decide, tb_at 203 (by decide +kernel) (by decide +kernel), gw1, tyX1_ok, nmX1, rfl, rfl⟩
theorem fl_X1_47 : FLD RX1 47 1 3 false .int := ⟨RX1, TX1, 5, tyX1, rfl, by decide, tb_at 205 (by decide +kernel) (by decide +kernel), gw1, tyX1_ok, nmX1, rfl, rfl⟩
theorem fl_X2_9 : FLD RX2 9 2 0 false .int := ⟨RX2, TX2, 2, tyX2, rfl, by decide, tb_at 182 (by decide +kernel) (by decide +kernel), gw2, tyX2_ok, nmX2, rfl, rfl⟩
theorem fl_X2_15 : FLD RX2 15 2 1 true (.array .char) := ⟨RX2, TX2, 2, tyX2, rfl, by decide, tb_at 184 (by decide +kernel) (by decide +kernel), gw2, tyX2_ok, nmX2, rfl, rfl⟩
theorem fl_X3_9 : FLD RX3 9 3 0 false .int := ⟨RX3, TX3, 5, tyX3, rfl, by decide, tb_at 75 (by decide +kernel) (by decide +kernel), gw3, tyX3_ok, nmX3, rfl, rfl⟩
theorem fl_X3_15 : FLD RX3 15 3 1 false .int := ⟨RX3, TX3, 5, tyX3, rfl, by decide, tb_at 78 (by decide +kernel) (by decide +kernel), gw3, tyX3_ok, nmX3, rfl, rfl⟩
theorem fl_X3_18 : FLD RX3 18 3 2 false .int := ⟨RX3, TX3, 5, tyX3, rfl, by decide, tb_at 81 (by decide +kernel) (by decide +kernel), gw3, tyX3_ok, nmX3, rfl, rfl⟩
theorem fl_X3_21 : FLD RX3 21 3 3 true (.array .int) := ⟨RX3, TX3, 5, tyX3, rfl, by decide, tb_at 84 (by decide +kernel) (by decide +kernel), gw3, tyX3_ok, nmX3, rfl, rfl⟩
theorem fl_X3_25 : FLD RX3 25 3 4 true (.array .int) := ⟨RX3, TX3, 5, tyX3, rfl, by decide, tb_at 86 (by decide +kernel) (by decide +kernel), gw3, tyX3_ok, nmX3, rfl, rfl⟩
theorem fl_X4_11 : FLD RX4 11 4 0 true (.array (.object "CarbonSheets$Sheet")) := ⟨RX4, TX4, 5, tyX4, rfl, by decide, tb_at 99 (by decide +kernel) (by decide +kernel), gw4, tyX4_ok, nmX4, rfl, rfl⟩
theorem fl_X4_17 : FLD RX4 17 4 1 true (.array .int) := ⟨RX4, TX4, 5, tyX4, rfl, by decide, tb_at 101 (by decide +kernel) (by decide +kernel), gw4, tyX4_ok, nmX4, rfl, rfl⟩
theorem fl_X4_21 : FLD RX4 21 4 2 false .int := ⟨RX4, TX4, 5, tyX4, rfl, by decide, tb_at 103 (by decide +kernel) (by decide +kernel), gw4, tyX4_ok, nmX4, rfl, rfl⟩
theorem fl_X4_25 : FLD RX4 25 4 3 false .int := ⟨RX4, TX4, 5, tyX4, rfl, by decide, tb_at 105 (by decide +kernel) (by decide +kernel), gw4, tyX4_ok, nmX4, rfl, rfl⟩
theorem fl_X4_28 : FLD RX4 28 4 4 true (.array .int) := ⟨RX4, TX4, 5, tyX4, rfl, by decide, tb_at 107 (by decide +kernel) (by decide +kernel), gw4, tyX4_ok, nmX4, rfl, rfl⟩
theorem fl_X4_40 : FLD RX4 40 3 2 false .int := ⟨RX3, TX3, 5, tyX3, rfl, by decide, tb_at 82 (by decide +kernel) (by decide +kernel), gw3, tyX3_ok, nmX3, rfl, rfl⟩
theorem fl_X4_43 : FLD RX4 43 3 1 false .int := ⟨RX3, TX3, 5, tyX3, rfl, by decide, tb_at 80 (by decide +kernel) (by decide +kernel), gw3, tyX3_ok, nmX3, rfl, rfl⟩
theorem fl_X4_46 : FLD RX4 46 3 0 false .int := ⟨RX3, TX3, 5, tyX3, rfl, by decide, tb_at 77 (by decide +kernel) (by decide +kernel), gw3, tyX3_ok, nmX3, rfl, rfl⟩
theorem fl_X5_9 : FLD RX5 9 5 6 true (.array .int) := ⟨RX5, TX5, 8, tyX5, rfl, by decide, tb_at 137 (by decide +kernel) (by decide +kernel), gw5, tyX5_ok, nmX5, rfl, rfl⟩
theorem fl_X5_15 : FLD RX5 15 5 7 true (.array .int) := ⟨RX5, TX5, 8, tyX5, rfl, by decide, tb_at 138 (by decide +kernel) (by decide +kernel), gw5, tyX5_ok, nmX5, rfl, rfl⟩
theorem fl_X5_18 : FLD RX5 18 5 0 false .int := ⟨RX5, TX5, 8, tyX5, rfl, by decide, tb_at 126 (by decide +kernel) (by decide +kernel), gw5, tyX5_ok, nmX5, rfl, rfl⟩
theorem fl_X5_22 : FLD RX5 22 5 5 false .int := ⟨RX5, TX5, 8, tyX5, rfl, by decide, tb_at 136 (by decide +kernel) (by decide +kernel), gw5, tyX5_ok, nmX5, rfl, rfl⟩
theorem fl_X5_44 : FLD RX5 44 5 1 false .int := ⟨RX5, TX5, 8, tyX5, rfl, by decide, tb_at 128 (by decide +kernel) (by decide +kernel), gw5, tyX5_ok, nmX5, rfl, rfl⟩
theorem fl_X5_47 : FLD RX5 47 5 2 false .int := ⟨RX5, TX5, 8, tyX5, rfl, by decide, tb_at 130 (by decide +kernel) (by decide +kernel), gw5, tyX5_ok, nmX5, rfl, rfl⟩
theorem fl_X5_50 : FLD RX5 50 5 3 false .int := ⟨RX5, TX5, 8, tyX5, rfl, by decide, tb_at 132 (by decide +kernel) (by decide +kernel), gw5, tyX5_ok, nmX5, rfl, rfl⟩
theorem fl_X5_53 : FLD RX5 53 5 4 false .int := ⟨RX5, TX5, 8, tyX5, rfl, by decide, tb_at 134 (by decide +kernel) (by decide +kernel), gw5, tyX5_ok, nmX5, rfl, rfl⟩
theorem fl_X7_7 : FLD RX7 7 7 0 true (.array .int) := ⟨RX7, TX7, 19, tyX7, rfl, by decide, tb_at 634 (by decide +kernel) (by decide +kernel), gw7, tyX7_ok, nmX7, rfl, rfl⟩
theorem fl_X7_13 : FLD RX7 13 7 1 true (.array .int) := ⟨RX7, TX7, 19, tyX7, rfl, by decide, tb_at 635 (by decide +kernel) (by decide +kernel), gw7, tyX7_ok, nmX7, rfl, rfl⟩
theorem fl_X7_16 : FLD RX7 16 7 2 true (.array .int) := ⟨RX7, TX7, 19, tyX7, rfl, by decide, tb_at 636 (by decide +kernel) (by decide +kernel), gw7, tyX7_ok, nmX7, rfl, rfl⟩
theorem fl_X7_19 : FLD RX7 19 7 4 true (.array .int) := ⟨RX7, TX7, 19, tyX7, rfl, by decide, tb_at 638 (by decide +kernel) (by decide +kernel), gw7, tyX7_ok, nmX7, rfl, rfl⟩
theorem fl_X7_22 : FLD RX7 22 7 5 true (.array .boolean) := ⟨RX7, TX7, 19, tyX7, rfl, by decide, tb_at 639 (by decide +kernel) (by decide +kernel), gw7, tyX7_ok, nmX7, rfl, rfl⟩
theorem fl_X7_26 : FLD RX7 26 7 6 true (.array .int) := ⟨RX7, TX7, 19, tyX7, rfl, by decide, tb_at 640 (by decide +kernel) (by decide +kernel), gw7, tyX7_ok, nmX7, rfl, rfl⟩
theorem fl_X7_29 : FLD RX7 29 7 9 true (.array .int) := ⟨RX7, TX7, 19, tyX7, rfl, by decide, tb_at 643 (by decide +kernel) (by decide +kernel), gw7, tyX7_ok, nmX7, rfl, rfl⟩
theorem fl_X7_32 : FLD RX7 32 7 15 true (.array .int) := ⟨RX7, TX7, 19, tyX7, rfl, by decide, tb_at 649 (by decide +kernel) (by decide +kernel), gw7, tyX7_ok, nmX7, rfl, rfl⟩
theorem fl_X7_35 : FLD RX7 35 7 8 false .boolean := ⟨RX7, TX7, 19, tyX7, rfl, by decide, tb_at 642 (by decide +kernel) (by decide +kernel), gw7, tyX7_ok, nmX7, rfl, rfl⟩
theorem fl_X7_39 : FLD RX7 39 7 3 false .int := ⟨RX7, TX7, 19, tyX7, rfl, by decide, tb_at 637 (by decide +kernel) (by decide +kernel), gw7, tyX7_ok, nmX7, rfl, rfl⟩
theorem fl_X7_127 : FLD RX7 127 7 10 false .int := ⟨RX7, TX7, 19, tyX7, rfl, by decide, tb_at 644 (by decide +kernel) (by decide +kernel), gw7, tyX7_ok, nmX7, rfl, rfl⟩
theorem fl_X7_130 : FLD RX7 130 7 11 false .int := ⟨RX7, TX7, 19, tyX7, rfl, by decide, tb_at 645 (by decide +kernel) (by decide +kernel), gw7, tyX7_ok, nmX7, rfl, rfl⟩
theorem fl_X7_133 : FLD RX7 133 7 12 false .int := ⟨RX7, TX7, 19, tyX7, rfl, by decide, tb_at 646 (by decide +kernel) (by decide +kernel), gw7, tyX7_ok, nmX7, rfl, rfl⟩
theorem fl_X7_136 : FLD RX7 136 7 13 false .int := ⟨RX7, TX7, 19, tyX7, rfl, by decide, tb_at 647 (by decide +kernel) (by decide +kernel), gw7, tyX7_ok, nmX7, rfl, rfl⟩
theorem fl_X7_139 : FLD RX7 139 7 14 false .int := ⟨RX7, TX7, 19, tyX7, rfl, by decide, tb_at 648 (by decide +kernel) (by decide +kernel), gw7, tyX7_ok, nmX7, rfl, rfl⟩
theorem fl_X7_156 : FLD RX7 156 7 7 false .int := ⟨RX7, TX7, 19, tyX7, rfl, by decide, tb_at 641 (by decide +kernel) (by decide +kernel), gw7, tyX7_ok, nmX7, rfl, rfl⟩
theorem fl_X7_168 : FLD RX7 168 7 17 false .int := ⟨RX7, TX7, 19, tyX7, rfl, by decide, tb_at 651 (by decide +kernel) (by decide +kernel), gw7, tyX7_ok, nmX7, rfl, rfl⟩
theorem fl_X7_174 : FLD RX7 174 7 18 false .boolean := ⟨RX7, TX7, 19, tyX7, rfl, by decide, tb_at 652 (by decide +kernel) (by decide +kernel), gw7, tyX7_ok, nmX7, rfl, rfl⟩
theorem fl_X7_180 : FLD RX7 180 7 16 false .int := ⟨RX7, TX7, 19, tyX7, rfl, by decide, tb_at 650 (by decide +kernel) (by decide +kernel), gw7, tyX7_ok, nmX7, rfl, rfl⟩
theorem ml_X6_55 : MLS RX6 55 yX6_isSettingWith cX6_isSettingWith 2 (some .boolean) 2 := mls_of (tb_at 248 (by decide +kernel) (by decide +kernel)) (tb_at 249 (by decide +kernel) (by decide +kernel)) (tb_at 44 (by decide +kernel) (by decide +kernel)) (tb_at 250 (by decide +kernel) (by decide +kernel)) ⟨by decide +kernel, by decide +kernel, by decide +kernel⟩
theorem ml_X6_59 : MLV RX6 59 yX0_record cX0_record 2 none 1 := mlv_of (tb_at 254 (by decide +kernel) (by decide +kernel)) (tb_at 255 (by decide +kernel) (by decide +kernel)) (tb_at 256 (by decide +kernel) (by decide +kernel)) (tb_at 48 (by decide +kernel) (by decide +kernel)) (tb_at 257 (by decide +kernel) (by decide +kernel)) ⟨by decide +kernel, by decide +kernel, by decide +kernel⟩
theorem ml_X6_67 : MLS RX6 67 yX6_isSheet cX6_isSheet 1 (some .boolean) 1 := mls_of (tb_at 276 (by decide +kernel) (by decide +kernel)) (tb_at 277 (by decide +kernel) (by decide +kernel)) (tb_at 44 (by decide +kernel) (by decide +kernel)) (tb_at 278 (by decide +kernel) (by decide +kernel)) ⟨by decide +kernel, by decide +kernel, by decide +kernel⟩
theorem ml_X6_71 : MLS RX6 71 yX6_isWithin cX6_isWithin 3 (some .boolean) 3 := mls_of (tb_at 251 (by decide +kernel) (by decide +kernel)) (tb_at 252 (by decide +kernel) (by decide +kernel)) (tb_at 44 (by decide +kernel) (by decide +kernel)) (tb_at 253 (by decide +kernel) (by decide +kernel)) ⟨by decide +kernel, by decide +kernel, by decide +kernel⟩
theorem ml_X6_85 : MLV RX6 85 yX4_isInStack cX4_isInStack 2 (some .boolean) 1 := mlv_of (tb_at 283 (by decide +kernel) (by decide +kernel)) (tb_at 284 (by decide +kernel) (by decide +kernel)) (tb_at 285 (by decide +kernel) (by decide +kernel)) (tb_at 45 (by decide +kernel) (by decide +kernel)) (tb_at 286 (by decide +kernel) (by decide +kernel)) ⟨by decide +kernel, by decide +kernel, by decide +kernel⟩
theorem ml_X6_91 : MLV RX6 91 yX4_refusalToWrite cX4_refusalToWrite 5 (some .int) 3 := mlv_of (tb_at 291 (by decide +kernel) (by decide +kernel)) (tb_at 292 (by decide +kernel) (by decide +kernel)) (tb_at 293 (by decide +kernel) (by decide +kernel)) (tb_at 45 (by decide +kernel) (by decide +kernel)) (tb_at 294 (by decide +kernel) (by decide +kernel)) ⟨by decide +kernel, by decide +kernel, by decide +kernel⟩
theorem ml_X6_95 : MLV RX6 95 yX4_pressValue cX4_pressValue 6 (some .int) 3 := mlv_of (tb_at 320 (by decide +kernel) (by decide +kernel)) (tb_at 321 (by decide +kernel) (by decide +kernel)) (tb_at 322 (by decide +kernel) (by decide +kernel)) (tb_at 45 (by decide +kernel) (by decide +kernel)) (tb_at 323 (by decide +kernel) (by decide +kernel)) ⟨by decide +kernel, by decide +kernel, by decide +kernel⟩
theorem ml_X6_98 : MLV RX6 98 yX4_refusalToStrike cX4_refusalToStrike 3 (some .int) 2 := mlv_of (tb_at 337 (by decide +kernel) (by decide +kernel)) (tb_at 338 (by decide +kernel) (by decide +kernel)) (tb_at 339 (by decide +kernel) (by decide +kernel)) (tb_at 45 (by decide +kernel) (by decide +kernel)) (tb_at 340 (by decide +kernel) (by decide +kernel)) ⟨by decide +kernel, by decide +kernel, by decide +kernel⟩
theorem ml_X6_102 : MLV RX6 102 yX4_pressStroke cX4_pressStroke 5 (some .int) 2 := mlv_of (tb_at 341 (by decide +kernel) (by decide +kernel)) (tb_at 342 (by decide +kernel) (by decide +kernel)) (tb_at 343 (by decide +kernel) (by decide +kernel)) (tb_at 45 (by decide +kernel) (by decide +kernel)) (tb_at 344 (by decide +kernel) (by decide +kernel)) ⟨by decide +kernel, by decide +kernel, by decide +kernel⟩
theorem ml_X6_105 : MLS RX6 105 yX6_isField cX6_isField 1 (some .boolean) 1 := mls_of (tb_at 361 (by decide +kernel) (by decide +kernel)) (tb_at 296 (by decide +kernel) (by decide +kernel)) (tb_at 44 (by decide +kernel) (by decide +kernel)) (tb_at 297 (by decide +kernel) (by decide +kernel)) ⟨by decide +kernel, by decide +kernel, by decide +kernel⟩
theorem ml_X6_111 : MLV RX6 111 yX4_noteIfApart cX4_noteIfApart 3 none 2 := mlv_of (tb_at 362 (by decide +kernel) (by decide +kernel)) (tb_at 363 (by decide +kernel) (by decide +kernel)) (tb_at 364 (by decide +kernel) (by decide +kernel)) (tb_at 45 (by decide +kernel) (by decide +kernel)) (tb_at 365 (by decide +kernel) (by decide +kernel)) ⟨by decide +kernel, by decide +kernel, by decide +kernel⟩
theorem ml_X6_115 : MLV RX6 115 yX3_strikeUpTo cX3_strikeUpTo 5 (some .int) 2 := mlv_of (tb_at 366 (by decide +kernel) (by decide +kernel)) (tb_at 346 (by decide +kernel) (by decide +kernel)) (tb_at 347 (by decide +kernel) (by decide +kernel)) (tb_at 46 (by decide +kernel) (by decide +kernel)) (tb_at 348 (by decide +kernel) (by decide +kernel)) ⟨by decide +kernel, by decide +kernel, by decide +kernel⟩
theorem ml_X6_118 : MLS RX6 118 yX6_isValue cX6_isValue 1 (some .boolean) 1 := mls_of (tb_at 371 (by decide +kernel) (by decide +kernel)) (tb_at 299 (by decide +kernel) (by decide +kernel)) (tb_at 44 (by decide +kernel) (by decide +kernel)) (tb_at 300 (by decide +kernel) (by decide +kernel)) ⟨by decide +kernel, by decide +kernel, by decide +kernel⟩
theorem ml_X6_121 : MLS RX6 121 yX6_isPressure cX6_isPressure 1 (some .boolean) 1 := mls_of (tb_at 372 (by decide +kernel) (by decide +kernel)) (tb_at 302 (by decide +kernel) (by decide +kernel)) (tb_at 44 (by decide +kernel) (by decide +kernel)) (tb_at 303 (by decide +kernel) (by decide +kernel)) ⟨by decide +kernel, by decide +kernel, by decide +kernel⟩
theorem ml_X6_124 : MLV RX6 124 yX3_hasRoom cX3_hasRoom 2 (some .boolean) 1 := mlv_of (tb_at 373 (by decide +kernel) (by decide +kernel)) (tb_at 317 (by decide +kernel) (by decide +kernel)) (tb_at 318 (by decide +kernel) (by decide +kernel)) (tb_at 46 (by decide +kernel) (by decide +kernel)) (tb_at 319 (by decide +kernel) (by decide +kernel)) ⟨by decide +kernel, by decide +kernel, by decide +kernel⟩
theorem ml_X6_127 : MLV RX6 127 yX3_addMark cX3_addMark 4 none 3 := mlv_of (tb_at 374 (by decide +kernel) (by decide +kernel)) (tb_at 325 (by decide +kernel) (by decide +kernel)) (tb_at 326 (by decide +kernel) (by decide +kernel)) (tb_at 46 (by decide +kernel) (by decide +kernel)) (tb_at 327 (by decide +kernel) (by decide +kernel)) ⟨by decide +kernel, by decide +kernel, by decide +kernel⟩
theorem ml_X6_134 : MLV RX6 134 yX4_refusalToTear cX4_refusalToTear 2 (some .int) 1 := mlv_of (tb_at 379 (by decide +kernel) (by decide +kernel)) (tb_at 380 (by decide +kernel) (by decide +kernel)) (tb_at 381 (by decide +kernel) (by decide +kernel)) (tb_at 45 (by decide +kernel) (by decide +kernel)) (tb_at 382 (by decide +kernel) (by decide +kernel)) ⟨by decide +kernel, by decide +kernel, by decide +kernel⟩
theorem ml_X6_138 : MLV RX6 138 yX4_tearOff cX4_tearOff 2 (some .int) 1 := mlv_of (tb_at 383 (by decide +kernel) (by decide +kernel)) (tb_at 384 (by decide +kernel) (by decide +kernel)) (tb_at 385 (by decide +kernel) (by decide +kernel)) (tb_at 45 (by decide +kernel) (by decide +kernel)) (tb_at 386 (by decide +kernel) (by decide +kernel)) ⟨by decide +kernel, by decide +kernel, by decide +kernel⟩
theorem ml_X6_141 : MLV RX6 141 yX3_allMarks cX3_allMarks 3 (some .int) 0 := mlv_of (tb_at 391 (by decide +kernel) (by decide +kernel)) (tb_at 392 (by decide +kernel) (by decide +kernel)) (tb_at 393 (by decide +kernel) (by decide +kernel)) (tb_at 46 (by decide +kernel) (by decide +kernel)) (tb_at 394 (by decide +kernel) (by decide +kernel)) ⟨by decide +kernel, by decide +kernel, by decide +kernel⟩
theorem ml_X6_145 : MLV RX6 145 yX3_struckMarks cX3_struckMarks 4 (some .int) 0 := mlv_of (tb_at 395 (by decide +kernel) (by decide +kernel)) (tb_at 396 (by decide +kernel) (by decide +kernel)) (tb_at 397 (by decide +kernel) (by decide +kernel)) (tb_at 46 (by decide +kernel) (by decide +kernel)) (tb_at 398 (by decide +kernel) (by decide +kernel)) ⟨by decide +kernel, by decide +kernel, by decide +kernel⟩
theorem ml_X6_148 : MLV RX6 148 yX4_fieldsThatAre cX4_fieldsThatAre 5 (some .int) 2 := mlv_of (tb_at 399 (by decide +kernel) (by decide +kernel)) (tb_at 400 (by decide +kernel) (by decide +kernel)) (tb_at 401 (by decide +kernel) (by decide +kernel)) (tb_at 45 (by decide +kernel) (by decide +kernel)) (tb_at 402 (by decide +kernel) (by decide +kernel)) ⟨by decide +kernel, by decide +kernel, by decide +kernel⟩
theorem ml_X6_154 : MLV RX6 154 yX3_lastReadable cX3_lastReadable 4 (some .int) 2 := mlv_of (tb_at 427 (by decide +kernel) (by decide +kernel)) (tb_at 412 (by decide +kernel) (by decide +kernel)) (tb_at 413 (by decide +kernel) (by decide +kernel)) (tb_at 46 (by decide +kernel) (by decide +kernel)) (tb_at 414 (by decide +kernel) (by decide +kernel)) ⟨by decide +kernel, by decide +kernel, by decide +kernel⟩
theorem ml_X6_157 : MLV RX6 157 yX4_kindOf cX4_kindOf 3 (some .int) 2 := mlv_of (tb_at 428 (by decide +kernel) (by decide +kernel)) (tb_at 404 (by decide +kernel) (by decide +kernel)) (tb_at 405 (by decide +kernel) (by decide +kernel)) (tb_at 45 (by decide +kernel) (by decide +kernel)) (tb_at 406 (by decide +kernel) (by decide +kernel)) ⟨by decide +kernel, by decide +kernel, by decide +kernel⟩
theorem ml_X6_160 : MLV RX6 160 yX3_valueAt cX3_valueAt 3 (some .int) 2 := mlv_of (tb_at 429 (by decide +kernel) (by decide +kernel)) (tb_at 420 (by decide +kernel) (by decide +kernel)) (tb_at 421 (by decide +kernel) (by decide +kernel)) (tb_at 46 (by decide +kernel) (by decide +kernel)) (tb_at 422 (by decide +kernel) (by decide +kernel)) ⟨by decide +kernel, by decide +kernel, by decide +kernel⟩
theorem ml_X6_163 : MLV RX6 163 yX3_strengthAt cX3_strengthAt 3 (some .int) 2 := mlv_of (tb_at 430 (by decide +kernel) (by decide +kernel)) (tb_at 354 (by decide +kernel) (by decide +kernel)) (tb_at 355 (by decide +kernel) (by decide +kernel)) (tb_at 46 (by decide +kernel) (by decide +kernel)) (tb_at 356 (by decide +kernel) (by decide +kernel)) ⟨by decide +kernel, by decide +kernel, by decide +kernel⟩
theorem ml_X6_166 : MLV RX6 166 yX3_readableMarks cX3_readableMarks 5 (some .int) 2 := mlv_of (tb_at 431 (by decide +kernel) (by decide +kernel)) (tb_at 432 (by decide +kernel) (by decide +kernel)) (tb_at 433 (by decide +kernel) (by decide +kernel)) (tb_at 46 (by decide +kernel) (by decide +kernel)) (tb_at 434 (by decide +kernel) (by decide +kernel)) ⟨by decide +kernel, by decide +kernel, by decide +kernel⟩
theorem ml_X6_169 : MLV RX6 169 yX3_isStruck cX3_isStruck 3 (some .boolean) 2 := mlv_of (tb_at 439 (by decide +kernel) (by decide +kernel)) (tb_at 350 (by decide +kernel) (by decide +kernel)) (tb_at 351 (by decide +kernel) (by decide +kernel)) (tb_at 46 (by decide +kernel) (by decide +kernel)) (tb_at 352 (by decide +kernel) (by decide +kernel)) ⟨by decide +kernel, by decide +kernel, by decide +kernel⟩
theorem ml_X6_172 : MLV RX6 172 yX5_takeIn cX5_takeIn 4 none 2 := mlv_of (tb_at 444 (by decide +kernel) (by decide +kernel)) (tb_at 445 (by decide +kernel) (by decide +kernel)) (tb_at 446 (by decide +kernel) (by decide +kernel)) (tb_at 47 (by decide +kernel) (by decide +kernel)) (tb_at 447 (by decide +kernel) (by decide +kernel)) ⟨by decide +kernel, by decide +kernel, by decide +kernel⟩
theorem ml_X6_191 : MLV RX6 191 yX4_isStackEmpty cX4_isStackEmpty 1 (some .boolean) 0 := mlv_of (tb_at 474 (by decide +kernel) (by decide +kernel)) (tb_at 305 (by decide +kernel) (by decide +kernel)) (tb_at 306 (by decide +kernel) (by decide +kernel)) (tb_at 45 (by decide +kernel) (by decide +kernel)) (tb_at 307 (by decide +kernel) (by decide +kernel)) ⟨by decide +kernel, by decide +kernel, by decide +kernel⟩
theorem ml_X6_198 : MLV RX6 198 yX4_stack cX4_stack 3 (some .int) 0 := mlv_of (tb_at 475 (by decide +kernel) (by decide +kernel)) (tb_at 476 (by decide +kernel) (by decide +kernel)) (tb_at 477 (by decide +kernel) (by decide +kernel)) (tb_at 45 (by decide +kernel) (by decide +kernel)) (tb_at 478 (by decide +kernel) (by decide +kernel)) ⟨by decide +kernel, by decide +kernel, by decide +kernel⟩
theorem ml_X6_201 : MLV RX6 201 yX4_allMarks cX4_allMarks 3 (some .int) 0 := mlv_of (tb_at 479 (by decide +kernel) (by decide +kernel)) (tb_at 480 (by decide +kernel) (by decide +kernel)) (tb_at 481 (by decide +kernel) (by decide +kernel)) (tb_at 45 (by decide +kernel) (by decide +kernel)) (tb_at 482 (by decide +kernel) (by decide +kernel)) ⟨by decide +kernel, by decide +kernel, by decide +kernel⟩
theorem ml_X6_202 : MLV RX6 202 yX6_fieldsWithLeaders cX6_fieldsWithLeaders 5 (some .int) 2 := mlv_of (tb_at 484 (by decide +kernel) (by decide +kernel)) (tb_at 486 (by decide +kernel) (by decide +kernel)) (tb_at 2 (by decide +kernel) (by decide +kernel)) (tb_at 44 (by decide +kernel) (by decide +kernel)) (tb_at 487 (by decide +kernel) (by decide +kernel)) ⟨by decide +kernel, by decide +kernel, by decide +kernel⟩
theorem ml_X6_211 : MLV RX6 211 yX4_readTheSame cX4_readTheSame 5 (some .boolean) 3 := mlv_of (tb_at 492 (by decide +kernel) (by decide +kernel)) (tb_at 493 (by decide +kernel) (by decide +kernel)) (tb_at 494 (by decide +kernel) (by decide +kernel)) (tb_at 45 (by decide +kernel) (by decide +kernel)) (tb_at 495 (by decide +kernel) (by decide +kernel)) ⟨by decide +kernel, by decide +kernel, by decide +kernel⟩
theorem ml_X6_214 : MLV RX6 214 yX4_measure cX4_measure 5 none 1 := mlv_of (tb_at 501 (by decide +kernel) (by decide +kernel)) (tb_at 309 (by decide +kernel) (by decide +kernel)) (tb_at 310 (by decide +kernel) (by decide +kernel)) (tb_at 45 (by decide +kernel) (by decide +kernel)) (tb_at 311 (by decide +kernel) (by decide +kernel)) ⟨by decide +kernel, by decide +kernel, by decide +kernel⟩
theorem ml_X6_221 : MLV RX6 221 yX4_wouldBeEmptied cX4_wouldBeEmptied 5 (some .boolean) 2 := mlv_of (tb_at 506 (by decide +kernel) (by decide +kernel)) (tb_at 507 (by decide +kernel) (by decide +kernel)) (tb_at 508 (by decide +kernel) (by decide +kernel)) (tb_at 45 (by decide +kernel) (by decide +kernel)) (tb_at 509 (by decide +kernel) (by decide +kernel)) ⟨by decide +kernel, by decide +kernel, by decide +kernel⟩
theorem ml_X6_224 : MLV RX6 224 yX4_pressesToTheLowest cX4_pressesToTheLowest 4 (some .int) 1 := mlv_of (tb_at 519 (by decide +kernel) (by decide +kernel)) (tb_at 520 (by decide +kernel) (by decide +kernel)) (tb_at 521 (by decide +kernel) (by decide +kernel)) (tb_at 45 (by decide +kernel) (by decide +kernel)) (tb_at 522 (by decide +kernel) (by decide +kernel)) ⟨by decide +kernel, by decide +kernel, by decide +kernel⟩
theorem ml_X6_227 : MLV RX6 227 yX4_copyFrom cX4_copyFrom 3 none 1 := mlv_of (tb_at 528 (by decide +kernel) (by decide +kernel)) (tb_at 259 (by decide +kernel) (by decide +kernel)) (tb_at 260 (by decide +kernel) (by decide +kernel)) (tb_at 45 (by decide +kernel) (by decide +kernel)) (tb_at 261 (by decide +kernel) (by decide +kernel)) ⟨by decide +kernel, by decide +kernel, by decide +kernel⟩
theorem ml_X6_230 : MLS RX6 230 yX2_sizeOf cX2_sizeOf 6 (some .int) 1 := mls_of (tb_at 533 (by decide +kernel) (by decide +kernel)) (tb_at 534 (by decide +kernel) (by decide +kernel)) (tb_at 49 (by decide +kernel) (by decide +kernel)) (tb_at 535 (by decide +kernel) (by decide +kernel)) ⟨by decide +kernel, by decide +kernel, by decide +kernel⟩
theorem ml_X6_234 : MLV RX6 234 yX2_append cX2_append 5 none 2 := mlv_of (tb_at 538 (by decide +kernel) (by decide +kernel)) (tb_at 539 (by decide +kernel) (by decide +kernel)) (tb_at 540 (by decide +kernel) (by decide +kernel)) (tb_at 49 (by decide +kernel) (by decide +kernel)) (tb_at 541 (by decide +kernel) (by decide +kernel)) ⟨by decide +kernel, by decide +kernel, by decide +kernel⟩
theorem ml_X6_238 : MLV RX6 238 yX2_firstFault cX2_firstFault 3 (some .int) 1 := mlv_of (tb_at 550 (by decide +kernel) (by decide +kernel)) (tb_at 551 (by decide +kernel) (by decide +kernel)) (tb_at 552 (by decide +kernel) (by decide +kernel)) (tb_at 49 (by decide +kernel) (by decide +kernel)) (tb_at 553 (by decide +kernel) (by decide +kernel)) ⟨by decide +kernel, by decide +kernel, by decide +kernel⟩
theorem ml_X6_242 : MLV RX6 242 yX6_carryOutThePad cX6_carryOutThePad 3 (some .int) 0 := mlv_of (tb_at 598 (by decide +kernel) (by decide +kernel)) (tb_at 600 (by decide +kernel) (by decide +kernel)) (tb_at 9 (by decide +kernel) (by decide +kernel)) (tb_at 44 (by decide +kernel) (by decide +kernel)) (tb_at 601 (by decide +kernel) (by decide +kernel)) ⟨by decide +kernel, by decide +kernel, by decide +kernel⟩
theorem ml_X6_245 : MLV RX6 245 yX0_takeBackInto cX0_takeBackInto 2 none 1 := mlv_of (tb_at 613 (by decide +kernel) (by decide +kernel)) (tb_at 614 (by decide +kernel) (by decide +kernel)) (tb_at 615 (by decide +kernel) (by decide +kernel)) (tb_at 48 (by decide +kernel) (by decide +kernel)) (tb_at 616 (by decide +kernel) (by decide +kernel)) ⟨by decide +kernel, by decide +kernel, by decide +kernel⟩
theorem ml_X6_248 : MLS RX6 248 yX6_isSlot cX6_isSlot 1 (some .boolean) 1 := mls_of (tb_at 621 (by decide +kernel) (by decide +kernel)) (tb_at 622 (by decide +kernel) (by decide +kernel)) (tb_at 44 (by decide +kernel) (by decide +kernel)) (tb_at 623 (by decide +kernel) (by decide +kernel)) ⟨by decide +kernel, by decide +kernel, by decide +kernel⟩
theorem ml_X6_251 : MLV RX6 251 yX1_begin cX1_begin 1 none 0 := mlv_of (tb_at 602 (by decide +kernel) (by decide +kernel)) (tb_at 555 (by decide +kernel) (by decide +kernel)) (tb_at 556 (by decide +kernel) (by decide +kernel)) (tb_at 50 (by decide +kernel) (by decide +kernel)) (tb_at 557 (by decide +kernel) (by decide +kernel)) ⟨by decide +kernel, by decide +kernel, by decide +kernel⟩
theorem ml_X6_258 : MLV RX6 258 yX1_takes cX1_takes 2 (some .boolean) 1 := mlv_of (tb_at 603 (by decide +kernel) (by decide +kernel)) (tb_at 559 (by decide +kernel) (by decide +kernel)) (tb_at 560 (by decide +kernel) (by decide +kernel)) (tb_at 50 (by decide +kernel) (by decide +kernel)) (tb_at 561 (by decide +kernel) (by decide +kernel)) ⟨by decide +kernel, by decide +kernel, by decide +kernel⟩
theorem ml_X6_262 : MLV RX6 262 yX1_isAfterOrder cX1_isAfterOrder 1 (some .boolean) 0 := mlv_of (tb_at 604 (by decide +kernel) (by decide +kernel)) (tb_at 591 (by decide +kernel) (by decide +kernel)) (tb_at 592 (by decide +kernel) (by decide +kernel)) (tb_at 50 (by decide +kernel) (by decide +kernel)) (tb_at 593 (by decide +kernel) (by decide +kernel)) ⟨by decide +kernel, by decide +kernel, by decide +kernel⟩
theorem ml_X6_265 : MLV RX6 265 yX6_carriesOutOrder cX6_carriesOutOrder 2 (some .boolean) 0 := mlv_of (tb_at 605 (by decide +kernel) (by decide +kernel)) (tb_at 607 (by decide +kernel) (by decide +kernel)) (tb_at 10 (by decide +kernel) (by decide +kernel)) (tb_at 44 (by decide +kernel) (by decide +kernel)) (tb_at 608 (by decide +kernel) (by decide +kernel)) ⟨by decide +kernel, by decide +kernel, by decide +kernel⟩
theorem ml_X0_25 : MLV RX0 25 yX4_copyFrom cX4_copyFrom 3 none 1 := mlv_of (tb_at 258 (by decide +kernel) (by decide +kernel)) (tb_at 259 (by decide +kernel) (by decide +kernel)) (tb_at 260 (by decide +kernel) (by decide +kernel)) (tb_at 45 (by decide +kernel) (by decide +kernel)) (tb_at 261 (by decide +kernel) (by decide +kernel)) ⟨by decide +kernel, by decide +kernel, by decide +kernel⟩
theorem ml_X1_15 : MLV RX1 15 yX1_takesKind cX1_takesKind 2 (some .boolean) 1 := mlv_of (tb_at 562 (by decide +kernel) (by decide +kernel)) (tb_at 564 (by decide +kernel) (by decide +kernel)) (tb_at 3 (by decide +kernel) (by decide +kernel)) (tb_at 50 (by decide +kernel) (by decide +kernel)) (tb_at 565 (by decide +kernel) (by decide +kernel)) ⟨by decide +kernel, by decide +kernel, by decide +kernel⟩
theorem ml_X1_19 : MLV RX1 19 yX1_takesField cX1_takesField 2 (some .boolean) 1 := mlv_of (tb_at 570 (by decide +kernel) (by decide +kernel)) (tb_at 572 (by decide +kernel) (by decide +kernel)) (tb_at 5 (by decide +kernel) (by decide +kernel)) (tb_at 50 (by decide +kernel) (by decide +kernel)) (tb_at 573 (by decide +kernel) (by decide +kernel)) ⟨by decide +kernel, by decide +kernel, by decide +kernel⟩
theorem ml_X1_22 : MLV RX1 22 yX1_goesOn cX1_goesOn 3 (some .boolean) 2 := mlv_of (tb_at 566 (by decide +kernel) (by decide +kernel)) (tb_at 568 (by decide +kernel) (by decide +kernel)) (tb_at 4 (by decide +kernel) (by decide +kernel)) (tb_at 50 (by decide +kernel) (by decide +kernel)) (tb_at 569 (by decide +kernel) (by decide +kernel)) ⟨by decide +kernel, by decide +kernel, by decide +kernel⟩
theorem ml_X1_26 : MLV RX1 26 yX1_takesFirstDigit cX1_takesFirstDigit 2 (some .boolean) 1 := mlv_of (tb_at 577 (by decide +kernel) (by decide +kernel)) (tb_at 579 (by decide +kernel) (by decide +kernel)) (tb_at 6 (by decide +kernel) (by decide +kernel)) (tb_at 50 (by decide +kernel) (by decide +kernel)) (tb_at 580 (by decide +kernel) (by decide +kernel)) ⟨by decide +kernel, by decide +kernel, by decide +kernel⟩
theorem ml_X1_29 : MLV RX1 29 yX1_takesOneMoreDigit cX1_takesOneMoreDigit 2 (some .boolean) 1 := mlv_of (tb_at 581 (by decide +kernel) (by decide +kernel)) (tb_at 583 (by decide +kernel) (by decide +kernel)) (tb_at 7 (by decide +kernel) (by decide +kernel)) (tb_at 50 (by decide +kernel) (by decide +kernel)) (tb_at 584 (by decide +kernel) (by decide +kernel)) ⟨by decide +kernel, by decide +kernel, by decide +kernel⟩
theorem ml_X1_32 : MLV RX1 32 yX1_takesPressure cX1_takesPressure 2 (some .boolean) 1 := mlv_of (tb_at 585 (by decide +kernel) (by decide +kernel)) (tb_at 587 (by decide +kernel) (by decide +kernel)) (tb_at 8 (by decide +kernel) (by decide +kernel)) (tb_at 50 (by decide +kernel) (by decide +kernel)) (tb_at 588 (by decide +kernel) (by decide +kernel)) ⟨by decide +kernel, by decide +kernel, by decide +kernel⟩
theorem ml_X1_41 : MLS RX1 41 yX1_isDigit cX1_isDigit 1 (some .boolean) 1 := mls_of (tb_at 574 (by decide +kernel) (by decide +kernel)) (tb_at 575 (by decide +kernel) (by decide +kernel)) (tb_at 50 (by decide +kernel) (by decide +kernel)) (tb_at 576 (by decide +kernel) (by decide +kernel)) ⟨by decide +kernel, by decide +kernel, by decide +kernel⟩
theorem ml_X1_50 : MLN RX1 50 yX6_isPressure cX6_isPressure 1 (some .boolean) 1 := mln_of (host := RX6) (by decide +kernel) (tb_at 302 (by decide +kernel) (by decide +kernel)) (tb_at 44 (by decide +kernel) (by decide +kernel)) (tb_at 303 (by decide +kernel) (by decide +kernel)) ⟨by decide +kernel, by decide +kernel, by decide +kernel⟩
theorem ml_X2_21 : MLN RX2 21 yX6_isWithin cX6_isWithin 3 (some .boolean) 3 := mln_of (host := RX6) (by decide +kernel) (tb_at 252 (by decide +kernel) (by decide +kernel)) (tb_at 44 (by decide +kernel) (by decide +kernel)) (tb_at 253 (by decide +kernel) (by decide +kernel)) ⟨by decide +kernel, by decide +kernel, by decide +kernel⟩
theorem ml_X2_25 : MLV RX2 25 yX1_begin cX1_begin 1 none 0 := mlv_of (tb_at 554 (by decide +kernel) (by decide +kernel)) (tb_at 555 (by decide +kernel) (by decide +kernel)) (tb_at 556 (by decide +kernel) (by decide +kernel)) (tb_at 50 (by decide +kernel) (by decide +kernel)) (tb_at 557 (by decide +kernel) (by decide +kernel)) ⟨by decide +kernel, by decide +kernel, by decide +kernel⟩
theorem ml_X2_30 : MLV RX2 30 yX1_takes cX1_takes 2 (some .boolean) 1 := mlv_of (tb_at 558 (by decide +kernel) (by decide +kernel)) (tb_at 559 (by decide +kernel) (by decide +kernel)) (tb_at 560 (by decide +kernel) (by decide +kernel)) (tb_at 50 (by decide +kernel) (by decide +kernel)) (tb_at 561 (by decide +kernel) (by decide +kernel)) ⟨by decide +kernel, by decide +kernel, by decide +kernel⟩
theorem ml_X2_34 : MLV RX2 34 yX1_isAfterOrder cX1_isAfterOrder 1 (some .boolean) 0 := mlv_of (tb_at 590 (by decide +kernel) (by decide +kernel)) (tb_at 591 (by decide +kernel) (by decide +kernel)) (tb_at 592 (by decide +kernel) (by decide +kernel)) (tb_at 50 (by decide +kernel) (by decide +kernel)) (tb_at 593 (by decide +kernel) (by decide +kernel)) ⟨by decide +kernel, by decide +kernel, by decide +kernel⟩
theorem ml_X3_34 : MLV RX3 34 yX3_hasRoom cX3_hasRoom 2 (some .boolean) 1 := mlv_of (tb_at 328 (by decide +kernel) (by decide +kernel)) (tb_at 317 (by decide +kernel) (by decide +kernel)) (tb_at 318 (by decide +kernel) (by decide +kernel)) (tb_at 46 (by decide +kernel) (by decide +kernel)) (tb_at 319 (by decide +kernel) (by decide +kernel)) ⟨by decide +kernel, by decide +kernel, by decide +kernel⟩
theorem ml_X3_38 : MLV RX3 38 yX3_isStruck cX3_isStruck 3 (some .boolean) 2 := mlv_of (tb_at 349 (by decide +kernel) (by decide +kernel)) (tb_at 350 (by decide +kernel) (by decide +kernel)) (tb_at 351 (by decide +kernel) (by decide +kernel)) (tb_at 46 (by decide +kernel) (by decide +kernel)) (tb_at 352 (by decide +kernel) (by decide +kernel)) ⟨by decide +kernel, by decide +kernel, by decide +kernel⟩
theorem ml_X3_42 : MLV RX3 42 yX3_strengthAt cX3_strengthAt 3 (some .int) 2 := mlv_of (tb_at 353 (by decide +kernel) (by decide +kernel)) (tb_at 354 (by decide +kernel) (by decide +kernel)) (tb_at 355 (by decide +kernel) (by decide +kernel)) (tb_at 46 (by decide +kernel) (by decide +kernel)) (tb_at 356 (by decide +kernel) (by decide +kernel)) ⟨by decide +kernel, by decide +kernel, by decide +kernel⟩
theorem ml_X3_46 : MLV RX3 46 yX3_isReadable cX3_isReadable 5 (some .boolean) 3 := mlv_of (tb_at 415 (by decide +kernel) (by decide +kernel)) (tb_at 416 (by decide +kernel) (by decide +kernel)) (tb_at 417 (by decide +kernel) (by decide +kernel)) (tb_at 46 (by decide +kernel) (by decide +kernel)) (tb_at 418 (by decide +kernel) (by decide +kernel)) ⟨by decide +kernel, by decide +kernel, by decide +kernel⟩
theorem ml_X3_55 : MLV RX3 55 yX3_lastReadable cX3_lastReadable 4 (some .int) 2 := mlv_of (tb_at 411 (by decide +kernel) (by decide +kernel)) (tb_at 412 (by decide +kernel) (by decide +kernel)) (tb_at 413 (by decide +kernel) (by decide +kernel)) (tb_at 46 (by decide +kernel) (by decide +kernel)) (tb_at 414 (by decide +kernel) (by decide +kernel)) ⟨by decide +kernel, by decide +kernel, by decide +kernel⟩
theorem ml_X3_58 : MLV RX3 58 yX3_valueAt cX3_valueAt 3 (some .int) 2 := mlv_of (tb_at 419 (by decide +kernel) (by decide +kernel)) (tb_at 420 (by decide +kernel) (by decide +kernel)) (tb_at 421 (by decide +kernel) (by decide +kernel)) (tb_at 46 (by decide +kernel) (by decide +kernel)) (tb_at 422 (by decide +kernel) (by decide +kernel)) ⟨by decide +kernel, by decide +kernel, by decide +kernel⟩
theorem ml_X4_32 : MLV RX4 32 yX3_copyFrom cX3_copyFrom 2 none 1 := mlv_of (tb_at 262 (by decide +kernel) (by decide +kernel)) (tb_at 263 (by decide +kernel) (by decide +kernel)) (tb_at 264 (by decide +kernel) (by decide +kernel)) (tb_at 46 (by decide +kernel) (by decide +kernel)) (tb_at 265 (by decide +kernel) (by decide +kernel)) ⟨by decide +kernel, by decide +kernel, by decide +kernel⟩
theorem ml_X4_36 : MLV RX4 36 yX4_isInStack cX4_isInStack 2 (some .boolean) 1 := mlv_of (tb_at 312 (by decide +kernel) (by decide +kernel)) (tb_at 284 (by decide +kernel) (by decide +kernel)) (tb_at 285 (by decide +kernel) (by decide +kernel)) (tb_at 45 (by decide +kernel) (by decide +kernel)) (tb_at 286 (by decide +kernel) (by decide +kernel)) ⟨by decide +kernel, by decide +kernel, by decide +kernel⟩
theorem ml_X4_55 : MLN RX4 55 yX6_isField cX6_isField 1 (some .boolean) 1 := mln_of (host := RX6) (by decide +kernel) (tb_at 296 (by decide +kernel) (by decide +kernel)) (tb_at 44 (by decide +kernel) (by decide +kernel)) (tb_at 297 (by decide +kernel) (by decide +kernel)) ⟨by decide +kernel, by decide +kernel, by decide +kernel⟩
theorem ml_X4_58 : MLN RX4 58 yX6_isValue cX6_isValue 1 (some .boolean) 1 := mln_of (host := RX6) (by decide +kernel) (tb_at 299 (by decide +kernel) (by decide +kernel)) (tb_at 44 (by decide +kernel) (by decide +kernel)) (tb_at 300 (by decide +kernel) (by decide +kernel)) ⟨by decide +kernel, by decide +kernel, by decide +kernel⟩
theorem ml_X4_61 : MLN RX4 61 yX6_isPressure cX6_isPressure 1 (some .boolean) 1 := mln_of (host := RX6) (by decide +kernel) (tb_at 302 (by decide +kernel) (by decide +kernel)) (tb_at 44 (by decide +kernel) (by decide +kernel)) (tb_at 303 (by decide +kernel) (by decide +kernel)) ⟨by decide +kernel, by decide +kernel, by decide +kernel⟩
theorem ml_X4_64 : MLV RX4 64 yX4_isStackEmpty cX4_isStackEmpty 1 (some .boolean) 0 := mlv_of (tb_at 304 (by decide +kernel) (by decide +kernel)) (tb_at 305 (by decide +kernel) (by decide +kernel)) (tb_at 306 (by decide +kernel) (by decide +kernel)) (tb_at 45 (by decide +kernel) (by decide +kernel)) (tb_at 307 (by decide +kernel) (by decide +kernel)) ⟨by decide +kernel, by decide +kernel, by decide +kernel⟩
theorem ml_X4_68 : MLV RX4 68 yX4_measure cX4_measure 5 none 1 := mlv_of (tb_at 308 (by decide +kernel) (by decide +kernel)) (tb_at 309 (by decide +kernel) (by decide +kernel)) (tb_at 310 (by decide +kernel) (by decide +kernel)) (tb_at 45 (by decide +kernel) (by decide +kernel)) (tb_at 311 (by decide +kernel) (by decide +kernel)) ⟨by decide +kernel, by decide +kernel, by decide +kernel⟩
theorem ml_X4_72 : MLV RX4 72 yX3_hasRoom cX3_hasRoom 2 (some .boolean) 1 := mlv_of (tb_at 316 (by decide +kernel) (by decide +kernel)) (tb_at 317 (by decide +kernel) (by decide +kernel)) (tb_at 318 (by decide +kernel) (by decide +kernel)) (tb_at 46 (by decide +kernel) (by decide +kernel)) (tb_at 319 (by decide +kernel) (by decide +kernel)) ⟨by decide +kernel, by decide +kernel, by decide +kernel⟩
theorem ml_X4_75 : MLV RX4 75 yX3_addMark cX3_addMark 4 none 3 := mlv_of (tb_at 324 (by decide +kernel) (by decide +kernel)) (tb_at 325 (by decide +kernel) (by decide +kernel)) (tb_at 326 (by decide +kernel) (by decide +kernel)) (tb_at 46 (by decide +kernel) (by decide +kernel)) (tb_at 327 (by decide +kernel) (by decide +kernel)) ⟨by decide +kernel, by decide +kernel, by decide +kernel⟩
theorem ml_X4_79 : MLV RX4 79 yX4_wearCarbons cX4_wearCarbons 2 none 0 := mlv_of (tb_at 329 (by decide +kernel) (by decide +kernel)) (tb_at 330 (by decide +kernel) (by decide +kernel)) (tb_at 331 (by decide +kernel) (by decide +kernel)) (tb_at 45 (by decide +kernel) (by decide +kernel)) (tb_at 332 (by decide +kernel) (by decide +kernel)) ⟨by decide +kernel, by decide +kernel, by decide +kernel⟩
theorem ml_X4_82 : MLV RX4 82 yX3_strikeUpTo cX3_strikeUpTo 5 (some .int) 2 := mlv_of (tb_at 345 (by decide +kernel) (by decide +kernel)) (tb_at 346 (by decide +kernel) (by decide +kernel)) (tb_at 347 (by decide +kernel) (by decide +kernel)) (tb_at 46 (by decide +kernel) (by decide +kernel)) (tb_at 348 (by decide +kernel) (by decide +kernel)) ⟨by decide +kernel, by decide +kernel, by decide +kernel⟩
theorem ml_X4_85 : MLV RX4 85 yX3_kindOf cX3_kindOf 8 (some .int) 3 := mlv_of (tb_at 407 (by decide +kernel) (by decide +kernel)) (tb_at 408 (by decide +kernel) (by decide +kernel)) (tb_at 409 (by decide +kernel) (by decide +kernel)) (tb_at 46 (by decide +kernel) (by decide +kernel)) (tb_at 410 (by decide +kernel) (by decide +kernel)) ⟨by decide +kernel, by decide +kernel, by decide +kernel⟩
theorem ml_X4_89 : MLV RX4 89 yX4_kindOf cX4_kindOf 3 (some .int) 2 := mlv_of (tb_at 403 (by decide +kernel) (by decide +kernel)) (tb_at 404 (by decide +kernel) (by decide +kernel)) (tb_at 405 (by decide +kernel) (by decide +kernel)) (tb_at 45 (by decide +kernel) (by decide +kernel)) (tb_at 406 (by decide +kernel) (by decide +kernel)) ⟨by decide +kernel, by decide +kernel, by decide +kernel⟩
theorem ml_X4_91 : MLV RX4 91 yX4_lastValue cX4_lastValue 4 (some .int) 2 := mlv_of (tb_at 496 (by decide +kernel) (by decide +kernel)) (tb_at 450 (by decide +kernel) (by decide +kernel)) (tb_at 451 (by decide +kernel) (by decide +kernel)) (tb_at 45 (by decide +kernel) (by decide +kernel)) (tb_at 452 (by decide +kernel) (by decide +kernel)) ⟨by decide +kernel, by decide +kernel, by decide +kernel⟩
theorem ml_X4_94 : MLV RX4 94 yX3_lastReadable cX3_lastReadable 4 (some .int) 2 := mlv_of (tb_at 453 (by decide +kernel) (by decide +kernel)) (tb_at 412 (by decide +kernel) (by decide +kernel)) (tb_at 413 (by decide +kernel) (by decide +kernel)) (tb_at 46 (by decide +kernel) (by decide +kernel)) (tb_at 414 (by decide +kernel) (by decide +kernel)) ⟨by decide +kernel, by decide +kernel, by decide +kernel⟩
theorem ml_X4_97 : MLV RX4 97 yX3_valueAt cX3_valueAt 3 (some .int) 2 := mlv_of (tb_at 454 (by decide +kernel) (by decide +kernel)) (tb_at 420 (by decide +kernel) (by decide +kernel)) (tb_at 421 (by decide +kernel) (by decide +kernel)) (tb_at 46 (by decide +kernel) (by decide +kernel)) (tb_at 422 (by decide +kernel) (by decide +kernel)) ⟨by decide +kernel, by decide +kernel, by decide +kernel⟩
theorem ml_X4_100 : MLV RX4 100 yX3_strengthAt cX3_strengthAt 3 (some .int) 2 := mlv_of (tb_at 459 (by decide +kernel) (by decide +kernel)) (tb_at 354 (by decide +kernel) (by decide +kernel)) (tb_at 355 (by decide +kernel) (by decide +kernel)) (tb_at 46 (by decide +kernel) (by decide +kernel)) (tb_at 356 (by decide +kernel) (by decide +kernel)) ⟨by decide +kernel, by decide +kernel, by decide +kernel⟩
theorem ml_X4_103 : MLV RX4 103 yX3_allMarks cX3_allMarks 3 (some .int) 0 := mlv_of (tb_at 483 (by decide +kernel) (by decide +kernel)) (tb_at 392 (by decide +kernel) (by decide +kernel)) (tb_at 393 (by decide +kernel) (by decide +kernel)) (tb_at 46 (by decide +kernel) (by decide +kernel)) (tb_at 394 (by decide +kernel) (by decide +kernel)) ⟨by decide +kernel, by decide +kernel, by decide +kernel⟩
theorem ml_X4_107 : MLV RX4 107 yX3_strongestReadable cX3_strongestReadable 5 (some .int) 2 := mlv_of (tb_at 510 (by decide +kernel) (by decide +kernel)) (tb_at 511 (by decide +kernel) (by decide +kernel)) (tb_at 512 (by decide +kernel) (by decide +kernel)) (tb_at 46 (by decide +kernel) (by decide +kernel)) (tb_at 513 (by decide +kernel) (by decide +kernel)) ⟨by decide +kernel, by decide +kernel, by decide +kernel⟩
theorem ml_X5_25 : MLV RX5 25 yX4_kindOf cX4_kindOf 3 (some .int) 2 := mlv_of (tb_at 448 (by decide +kernel) (by decide +kernel)) (tb_at 404 (by decide +kernel) (by decide +kernel)) (tb_at 405 (by decide +kernel) (by decide +kernel)) (tb_at 45 (by decide +kernel) (by decide +kernel)) (tb_at 406 (by decide +kernel) (by decide +kernel)) ⟨by decide +kernel, by decide +kernel, by decide +kernel⟩
theorem ml_X5_31 : MLV RX5 31 yX4_lastValue cX4_lastValue 4 (some .int) 2 := mlv_of (tb_at 449 (by decide +kernel) (by decide +kernel)) (tb_at 450 (by decide +kernel) (by decide +kernel)) (tb_at 451 (by decide +kernel) (by decide +kernel)) (tb_at 45 (by decide +kernel) (by decide +kernel)) (tb_at 452 (by decide +kernel) (by decide +kernel)) ⟨by decide +kernel, by decide +kernel, by decide +kernel⟩
theorem ml_X5_34 : MLV RX5 34 yX4_lastStrength cX4_lastStrength 4 (some .int) 2 := mlv_of (tb_at 455 (by decide +kernel) (by decide +kernel)) (tb_at 456 (by decide +kernel) (by decide +kernel)) (tb_at 457 (by decide +kernel) (by decide +kernel)) (tb_at 45 (by decide +kernel) (by decide +kernel)) (tb_at 458 (by decide +kernel) (by decide +kernel)) ⟨by decide +kernel, by decide +kernel, by decide +kernel⟩
theorem ml_X5_37 : MLV RX5 37 yX5_addVotes cX5_addVotes 4 none 2 := mlv_of (tb_at 460 (by decide +kernel) (by decide +kernel)) (tb_at 462 (by decide +kernel) (by decide +kernel)) (tb_at 0 (by decide +kernel) (by decide +kernel)) (tb_at 47 (by decide +kernel) (by decide +kernel)) (tb_at 463 (by decide +kernel) (by decide +kernel)) ⟨by decide +kernel, by decide +kernel, by decide +kernel⟩
theorem ml_X5_41 : MLV RX5 41 yX5_findLeaders cX5_findLeaders 3 none 0 := mlv_of (tb_at 464 (by decide +kernel) (by decide +kernel)) (tb_at 466 (by decide +kernel) (by decide +kernel)) (tb_at 1 (by decide +kernel) (by decide +kernel)) (tb_at 47 (by decide +kernel) (by decide +kernel)) (tb_at 467 (by decide +kernel) (by decide +kernel)) ⟨by decide +kernel, by decide +kernel, by decide +kernel⟩
theorem ml_L_13 : MLV RL 13 yX6_set cX6_set 4 (some .int) 2 := mlv_of (tb_at 244 (by decide +kernel) (by decide +kernel)) (tb_at 245 (by decide +kernel) (by decide +kernel)) (tb_at 246 (by decide +kernel) (by decide +kernel)) (tb_at 44 (by decide +kernel) (by decide +kernel)) (tb_at 247 (by decide +kernel) (by decide +kernel)) ⟨by decide +kernel, by decide +kernel, by decide +kernel⟩
theorem ml_L_17 : MLV RL 17 yX7_set cX7_set 4 (some .int) 2 := mlv_of (tb_at 692 (by decide +kernel) (by decide +kernel)) (tb_at 693 (by decide +kernel) (by decide +kernel)) (tb_at 694 (by decide +kernel) (by decide +kernel)) (tb_at 51 (by decide +kernel) (by decide +kernel)) (tb_at 695 (by decide +kernel) (by decide +kernel)) ⟨by decide +kernel, by decide +kernel, by decide +kernel⟩
theorem ml_L_18 : MLV RL 18 yX6_thickness cX6_thickness 4 (some .int) 2 := mlv_of (tb_at 272 (by decide +kernel) (by decide +kernel)) (tb_at 273 (by decide +kernel) (by decide +kernel)) (tb_at 274 (by decide +kernel) (by decide +kernel)) (tb_at 44 (by decide +kernel) (by decide +kernel)) (tb_at 275 (by decide +kernel) (by decide +kernel)) ⟨by decide +kernel, by decide +kernel, by decide +kernel⟩
theorem ml_L_21 : MLV RL 21 yX7_thickness cX7_thickness 4 (some .int) 2 := mlv_of (tb_at 703 (by decide +kernel) (by decide +kernel)) (tb_at 704 (by decide +kernel) (by decide +kernel)) (tb_at 705 (by decide +kernel) (by decide +kernel)) (tb_at 51 (by decide +kernel) (by decide +kernel)) (tb_at 706 (by decide +kernel) (by decide +kernel)) ⟨by decide +kernel, by decide +kernel, by decide +kernel⟩
theorem ml_L_22 : MLV RL 22 yX6_carbon cX6_carbon 4 (some .int) 2 := mlv_of (tb_at 279 (by decide +kernel) (by decide +kernel)) (tb_at 280 (by decide +kernel) (by decide +kernel)) (tb_at 281 (by decide +kernel) (by decide +kernel)) (tb_at 44 (by decide +kernel) (by decide +kernel)) (tb_at 282 (by decide +kernel) (by decide +kernel)) ⟨by decide +kernel, by decide +kernel, by decide +kernel⟩
theorem ml_L_25 : MLV RL 25 yX7_carbon cX7_carbon 4 (some .int) 2 := mlv_of (tb_at 710 (by decide +kernel) (by decide +kernel)) (tb_at 711 (by decide +kernel) (by decide +kernel)) (tb_at 712 (by decide +kernel) (by decide +kernel)) (tb_at 51 (by decide +kernel) (by decide +kernel)) (tb_at 713 (by decide +kernel) (by decide +kernel)) ⟨by decide +kernel, by decide +kernel, by decide +kernel⟩
theorem ml_L_26 : MLV RL 26 yX6_write cX6_write 5 (some .int) 3 := mlv_of (tb_at 287 (by decide +kernel) (by decide +kernel)) (tb_at 288 (by decide +kernel) (by decide +kernel)) (tb_at 289 (by decide +kernel) (by decide +kernel)) (tb_at 44 (by decide +kernel) (by decide +kernel)) (tb_at 290 (by decide +kernel) (by decide +kernel)) ⟨by decide +kernel, by decide +kernel, by decide +kernel⟩
theorem ml_L_30 : MLV RL 30 yX7_write cX7_write 5 (some .int) 3 := mlv_of (tb_at 718 (by decide +kernel) (by decide +kernel)) (tb_at 719 (by decide +kernel) (by decide +kernel)) (tb_at 720 (by decide +kernel) (by decide +kernel)) (tb_at 51 (by decide +kernel) (by decide +kernel)) (tb_at 721 (by decide +kernel) (by decide +kernel)) ⟨by decide +kernel, by decide +kernel, by decide +kernel⟩
theorem ml_L_31 : MLV RL 31 yX6_strike cX6_strike 4 (some .int) 2 := mlv_of (tb_at 333 (by decide +kernel) (by decide +kernel)) (tb_at 334 (by decide +kernel) (by decide +kernel)) (tb_at 335 (by decide +kernel) (by decide +kernel)) (tb_at 44 (by decide +kernel) (by decide +kernel)) (tb_at 336 (by decide +kernel) (by decide +kernel)) ⟨by decide +kernel, by decide +kernel, by decide +kernel⟩
theorem ml_L_34 : MLV RL 34 yX7_strike cX7_strike 3 (some .int) 2 := mlv_of (tb_at 756 (by decide +kernel) (by decide +kernel)) (tb_at 757 (by decide +kernel) (by decide +kernel)) (tb_at 758 (by decide +kernel) (by decide +kernel)) (tb_at 51 (by decide +kernel) (by decide +kernel)) (tb_at 759 (by decide +kernel) (by decide +kernel)) ⟨by decide +kernel, by decide +kernel, by decide +kernel⟩
theorem ml_L_35 : MLV RL 35 yX6_paint cX6_paint 3 (some .int) 2 := mlv_of (tb_at 357 (by decide +kernel) (by decide +kernel)) (tb_at 358 (by decide +kernel) (by decide +kernel)) (tb_at 359 (by decide +kernel) (by decide +kernel)) (tb_at 44 (by decide +kernel) (by decide +kernel)) (tb_at 360 (by decide +kernel) (by decide +kernel)) ⟨by decide +kernel, by decide +kernel, by decide +kernel⟩
theorem ml_L_38 : MLV RL 38 yX7_paint cX7_paint 3 (some .int) 2 := mlv_of (tb_at 778 (by decide +kernel) (by decide +kernel)) (tb_at 779 (by decide +kernel) (by decide +kernel)) (tb_at 780 (by decide +kernel) (by decide +kernel)) (tb_at 51 (by decide +kernel) (by decide +kernel)) (tb_at 781 (by decide +kernel) (by decide +kernel)) ⟨by decide +kernel, by decide +kernel, by decide +kernel⟩
theorem ml_L_39 : MLV RL 39 yX6_amend cX6_amend 5 (some .int) 4 := mlv_of (tb_at 367 (by decide +kernel) (by decide +kernel)) (tb_at 368 (by decide +kernel) (by decide +kernel)) (tb_at 369 (by decide +kernel) (by decide +kernel)) (tb_at 44 (by decide +kernel) (by decide +kernel)) (tb_at 370 (by decide +kernel) (by decide +kernel)) ⟨by decide +kernel, by decide +kernel, by decide +kernel⟩
theorem ml_L_43 : MLV RL 43 yX7_amend cX7_amend 5 (some .int) 4 := mlv_of (tb_at 782 (by decide +kernel) (by decide +kernel)) (tb_at 783 (by decide +kernel) (by decide +kernel)) (tb_at 784 (by decide +kernel) (by decide +kernel)) (tb_at 51 (by decide +kernel) (by decide +kernel)) (tb_at 785 (by decide +kernel) (by decide +kernel)) ⟨by decide +kernel, by decide +kernel, by decide +kernel⟩
theorem ml_L_44 : MLV RL 44 yX6_tear cX6_tear 3 (some .int) 1 := mlv_of (tb_at 375 (by decide +kernel) (by decide +kernel)) (tb_at 376 (by decide +kernel) (by decide +kernel)) (tb_at 377 (by decide +kernel) (by decide +kernel)) (tb_at 44 (by decide +kernel) (by decide +kernel)) (tb_at 378 (by decide +kernel) (by decide +kernel)) ⟨by decide +kernel, by decide +kernel, by decide +kernel⟩
theorem ml_L_48 : MLV RL 48 yX7_tear cX7_tear 2 (some .int) 1 := mlv_of (tb_at 786 (by decide +kernel) (by decide +kernel)) (tb_at 787 (by decide +kernel) (by decide +kernel)) (tb_at 788 (by decide +kernel) (by decide +kernel)) (tb_at 51 (by decide +kernel) (by decide +kernel)) (tb_at 789 (by decide +kernel) (by decide +kernel)) ⟨by decide +kernel, by decide +kernel, by decide +kernel⟩
theorem ml_L_49 : MLV RL 49 yX6_ofSheet cX6_ofSheet 4 (some .int) 2 := mlv_of (tb_at 387 (by decide +kernel) (by decide +kernel)) (tb_at 388 (by decide +kernel) (by decide +kernel)) (tb_at 389 (by decide +kernel) (by decide +kernel)) (tb_at 44 (by decide +kernel) (by decide +kernel)) (tb_at 390 (by decide +kernel) (by decide +kernel)) ⟨by decide +kernel, by decide +kernel, by decide +kernel⟩
theorem ml_L_52 : MLV RL 52 yX7_ofSheet cX7_ofSheet 3 (some .int) 2 := mlv_of (tb_at 790 (by decide +kernel) (by decide +kernel)) (tb_at 791 (by decide +kernel) (by decide +kernel)) (tb_at 792 (by decide +kernel) (by decide +kernel)) (tb_at 51 (by decide +kernel) (by decide +kernel)) (tb_at 793 (by decide +kernel) (by decide +kernel)) ⟨by decide +kernel, by decide +kernel, by decide +kernel⟩
theorem ml_L_53 : MLV RL 53 yX6_reading cX6_reading 6 (some .int) 3 := mlv_of (tb_at 423 (by decide +kernel) (by decide +kernel)) (tb_at 424 (by decide +kernel) (by decide +kernel)) (tb_at 425 (by decide +kernel) (by decide +kernel)) (tb_at 44 (by decide +kernel) (by decide +kernel)) (tb_at 426 (by decide +kernel) (by decide +kernel)) ⟨by decide +kernel, by decide +kernel, by decide +kernel⟩
theorem ml_L_56 : MLV RL 56 yX7_reading cX7_reading 6 (some .int) 3 := mlv_of (tb_at 817 (by decide +kernel) (by decide +kernel)) (tb_at 818 (by decide +kernel) (by decide +kernel)) (tb_at 819 (by decide +kernel) (by decide +kernel)) (tb_at 51 (by decide +kernel) (by decide +kernel)) (tb_at 820 (by decide +kernel) (by decide +kernel)) ⟨by decide +kernel, by decide +kernel, by decide +kernel⟩
theorem ml_L_57 : MLV RL 57 yX6_ofMark cX6_ofMark 6 (some .int) 4 := mlv_of (tb_at 435 (by decide +kernel) (by decide +kernel)) (tb_at 436 (by decide +kernel) (by decide +kernel)) (tb_at 437 (by decide +kernel) (by decide +kernel)) (tb_at 44 (by decide +kernel) (by decide +kernel)) (tb_at 438 (by decide +kernel) (by decide +kernel)) ⟨by decide +kernel, by decide +kernel, by decide +kernel⟩
theorem ml_L_60 : MLV RL 60 yX7_ofMark cX7_ofMark 6 (some .int) 4 := mlv_of (tb_at 825 (by decide +kernel) (by decide +kernel)) (tb_at 826 (by decide +kernel) (by decide +kernel)) (tb_at 827 (by decide +kernel) (by decide +kernel)) (tb_at 51 (by decide +kernel) (by decide +kernel)) (tb_at 828 (by decide +kernel) (by decide +kernel)) ⟨by decide +kernel, by decide +kernel, by decide +kernel⟩
theorem ml_L_61 : MLV RL 61 yX6_together cX6_together 3 (some .int) 2 := mlv_of (tb_at 440 (by decide +kernel) (by decide +kernel)) (tb_at 441 (by decide +kernel) (by decide +kernel)) (tb_at 442 (by decide +kernel) (by decide +kernel)) (tb_at 44 (by decide +kernel) (by decide +kernel)) (tb_at 443 (by decide +kernel) (by decide +kernel)) ⟨by decide +kernel, by decide +kernel, by decide +kernel⟩
theorem ml_L_64 : MLV RL 64 yX7_together cX7_together 3 (some .int) 2 := mlv_of (tb_at 829 (by decide +kernel) (by decide +kernel)) (tb_at 830 (by decide +kernel) (by decide +kernel)) (tb_at 831 (by decide +kernel) (by decide +kernel)) (tb_at 51 (by decide +kernel) (by decide +kernel)) (tb_at 832 (by decide +kernel) (by decide +kernel)) ⟨by decide +kernel, by decide +kernel, by decide +kernel⟩
theorem ml_L_65 : MLV RL 65 yX6_count cX6_count 2 (some .int) 1 := mlv_of (tb_at 470 (by decide +kernel) (by decide +kernel)) (tb_at 471 (by decide +kernel) (by decide +kernel)) (tb_at 472 (by decide +kernel) (by decide +kernel)) (tb_at 44 (by decide +kernel) (by decide +kernel)) (tb_at 473 (by decide +kernel) (by decide +kernel)) ⟨by decide +kernel, by decide +kernel, by decide +kernel⟩
theorem ml_L_68 : MLV RL 68 yX7_count cX7_count 4 (some .int) 1 := mlv_of (tb_at 841 (by decide +kernel) (by decide +kernel)) (tb_at 842 (by decide +kernel) (by decide +kernel)) (tb_at 843 (by decide +kernel) (by decide +kernel)) (tb_at 51 (by decide +kernel) (by decide +kernel)) (tb_at 844 (by decide +kernel) (by decide +kernel)) ⟨by decide +kernel, by decide +kernel, by decide +kernel⟩
theorem ml_L_69 : MLV RL 69 yX6_differ cX6_differ 5 (some .int) 2 := mlv_of (tb_at 488 (by decide +kernel) (by decide +kernel)) (tb_at 489 (by decide +kernel) (by decide +kernel)) (tb_at 490 (by decide +kernel) (by decide +kernel)) (tb_at 44 (by decide +kernel) (by decide +kernel)) (tb_at 491 (by decide +kernel) (by decide +kernel)) ⟨by decide +kernel, by decide +kernel, by decide +kernel⟩
theorem ml_L_72 : MLV RL 72 yX7_differ cX7_differ 7 (some .int) 2 := mlv_of (tb_at 853 (by decide +kernel) (by decide +kernel)) (tb_at 854 (by decide +kernel) (by decide +kernel)) (tb_at 855 (by decide +kernel) (by decide +kernel)) (tb_at 51 (by decide +kernel) (by decide +kernel)) (tb_at 856 (by decide +kernel) (by decide +kernel)) ⟨by decide +kernel, by decide +kernel, by decide +kernel⟩
theorem ml_L_73 : MLV RL 73 yX6_enoughFor cX6_enoughFor 3 (some .int) 1 := mlv_of (tb_at 497 (by decide +kernel) (by decide +kernel)) (tb_at 498 (by decide +kernel) (by decide +kernel)) (tb_at 499 (by decide +kernel) (by decide +kernel)) (tb_at 44 (by decide +kernel) (by decide +kernel)) (tb_at 500 (by decide +kernel) (by decide +kernel)) ⟨by decide +kernel, by decide +kernel, by decide +kernel⟩
theorem ml_L_76 : MLV RL 76 yX7_enoughFor cX7_enoughFor 3 (some .int) 1 := mlv_of (tb_at 857 (by decide +kernel) (by decide +kernel)) (tb_at 858 (by decide +kernel) (by decide +kernel)) (tb_at 859 (by decide +kernel) (by decide +kernel)) (tb_at 51 (by decide +kernel) (by decide +kernel)) (tb_at 860 (by decide +kernel) (by decide +kernel)) ⟨by decide +kernel, by decide +kernel, by decide +kernel⟩
theorem ml_L_77 : MLV RL 77 yX6_strikeFor cX6_strikeFor 3 (some .int) 1 := mlv_of (tb_at 502 (by decide +kernel) (by decide +kernel)) (tb_at 503 (by decide +kernel) (by decide +kernel)) (tb_at 504 (by decide +kernel) (by decide +kernel)) (tb_at 44 (by decide +kernel) (by decide +kernel)) (tb_at 505 (by decide +kernel) (by decide +kernel)) ⟨by decide +kernel, by decide +kernel, by decide +kernel⟩
theorem ml_L_80 : MLV RL 80 yX7_strikeFor cX7_strikeFor 4 (some .int) 1 := mlv_of (tb_at 861 (by decide +kernel) (by decide +kernel)) (tb_at 862 (by decide +kernel) (by decide +kernel)) (tb_at 863 (by decide +kernel) (by decide +kernel)) (tb_at 51 (by decide +kernel) (by decide +kernel)) (tb_at 864 (by decide +kernel) (by decide +kernel)) ⟨by decide +kernel, by decide +kernel, by decide +kernel⟩
theorem ml_L_81 : MLV RL 81 yX6_lasts cX6_lasts 2 (some .int) 1 := mlv_of (tb_at 515 (by decide +kernel) (by decide +kernel)) (tb_at 516 (by decide +kernel) (by decide +kernel)) (tb_at 517 (by decide +kernel) (by decide +kernel)) (tb_at 44 (by decide +kernel) (by decide +kernel)) (tb_at 518 (by decide +kernel) (by decide +kernel)) ⟨by decide +kernel, by decide +kernel, by decide +kernel⟩
theorem ml_L_84 : MLV RL 84 yX7_lasts cX7_lasts 5 (some .int) 1 := mlv_of (tb_at 877 (by decide +kernel) (by decide +kernel)) (tb_at 878 (by decide +kernel) (by decide +kernel)) (tb_at 879 (by decide +kernel) (by decide +kernel)) (tb_at 51 (by decide +kernel) (by decide +kernel)) (tb_at 880 (by decide +kernel) (by decide +kernel)) ⟨by decide +kernel, by decide +kernel, by decide +kernel⟩
theorem ml_L_85 : MLV RL 85 yX6_ifWritten cX6_ifWritten 5 (some .int) 3 := mlv_of (tb_at 524 (by decide +kernel) (by decide +kernel)) (tb_at 525 (by decide +kernel) (by decide +kernel)) (tb_at 526 (by decide +kernel) (by decide +kernel)) (tb_at 44 (by decide +kernel) (by decide +kernel)) (tb_at 527 (by decide +kernel) (by decide +kernel)) ⟨by decide +kernel, by decide +kernel, by decide +kernel⟩
theorem ml_L_88 : MLV RL 88 yX7_ifWritten cX7_ifWritten 5 (some .int) 3 := mlv_of (tb_at 881 (by decide +kernel) (by decide +kernel)) (tb_at 882 (by decide +kernel) (by decide +kernel)) (tb_at 883 (by decide +kernel) (by decide +kernel)) (tb_at 51 (by decide +kernel) (by decide +kernel)) (tb_at 884 (by decide +kernel) (by decide +kernel)) ⟨by decide +kernel, by decide +kernel, by decide +kernel⟩
theorem ml_L_91 : MLV RL 91 yX6_put cX6_put 4 (some .int) 1 := mlv_of (tb_at 529 (by decide +kernel) (by decide +kernel)) (tb_at 530 (by decide +kernel) (by decide +kernel)) (tb_at 531 (by decide +kernel) (by decide +kernel)) (tb_at 44 (by decide +kernel) (by decide +kernel)) (tb_at 532 (by decide +kernel) (by decide +kernel)) ⟨by decide +kernel, by decide +kernel, by decide +kernel⟩
theorem ml_L_95 : MLV RL 95 yX7_put cX7_put 7 (some .int) 1 := mlv_of (tb_at 885 (by decide +kernel) (by decide +kernel)) (tb_at 886 (by decide +kernel) (by decide +kernel)) (tb_at 887 (by decide +kernel) (by decide +kernel)) (tb_at 51 (by decide +kernel) (by decide +kernel)) (tb_at 888 (by decide +kernel) (by decide +kernel)) ⟨by decide +kernel, by decide +kernel, by decide +kernel⟩
theorem ml_L_96 : MLV RL 96 yX6_wipe cX6_wipe 2 (some .int) 0 := mlv_of (tb_at 542 (by decide +kernel) (by decide +kernel)) (tb_at 543 (by decide +kernel) (by decide +kernel)) (tb_at 544 (by decide +kernel) (by decide +kernel)) (tb_at 44 (by decide +kernel) (by decide +kernel)) (tb_at 545 (by decide +kernel) (by decide +kernel)) ⟨by decide +kernel, by decide +kernel, by decide +kernel⟩
theorem ml_L_100 : MLV RL 100 yX7_wipe cX7_wipe 2 (some .int) 0 := mlv_of (tb_at 890 (by decide +kernel) (by decide +kernel)) (tb_at 891 (by decide +kernel) (by decide +kernel)) (tb_at 892 (by decide +kernel) (by decide +kernel)) (tb_at 51 (by decide +kernel) (by decide +kernel)) (tb_at 893 (by decide +kernel) (by decide +kernel)) ⟨by decide +kernel, by decide +kernel, by decide +kernel⟩
theorem ml_L_101 : MLV RL 101 yX6_fault cX6_fault 1 (some .int) 0 := mlv_of (tb_at 546 (by decide +kernel) (by decide +kernel)) (tb_at 547 (by decide +kernel) (by decide +kernel)) (tb_at 548 (by decide +kernel) (by decide +kernel)) (tb_at 44 (by decide +kernel) (by decide +kernel)) (tb_at 549 (by decide +kernel) (by decide +kernel)) ⟨by decide +kernel, by decide +kernel, by decide +kernel⟩
theorem ml_L_104 : MLV RL 104 yX7_fault cX7_fault 1 (some .int) 0 := mlv_of (tb_at 894 (by decide +kernel) (by decide +kernel)) (tb_at 895 (by decide +kernel) (by decide +kernel)) (tb_at 896 (by decide +kernel) (by decide +kernel)) (tb_at 51 (by decide +kernel) (by decide +kernel)) (tb_at 897 (by decide +kernel) (by decide +kernel)) ⟨by decide +kernel, by decide +kernel, by decide +kernel⟩
theorem ml_L_105 : MLV RL 105 yX6_carryOut cX6_carryOut 2 (some .int) 0 := mlv_of (tb_at 594 (by decide +kernel) (by decide +kernel)) (tb_at 595 (by decide +kernel) (by decide +kernel)) (tb_at 596 (by decide +kernel) (by decide +kernel)) (tb_at 44 (by decide +kernel) (by decide +kernel)) (tb_at 597 (by decide +kernel) (by decide +kernel)) ⟨by decide +kernel, by decide +kernel, by decide +kernel⟩
theorem ml_L_108 : MLV RL 108 yX7_carryOut cX7_carryOut 2 (some .int) 0 := mlv_of (tb_at 922 (by decide +kernel) (by decide +kernel)) (tb_at 923 (by decide +kernel) (by decide +kernel)) (tb_at 924 (by decide +kernel) (by decide +kernel)) (tb_at 51 (by decide +kernel) (by decide +kernel)) (tb_at 925 (by decide +kernel) (by decide +kernel)) ⟨by decide +kernel, by decide +kernel, by decide +kernel⟩
theorem ml_L_109 : MLV RL 109 yX6_undo cX6_undo 1 (some .int) 0 := mlv_of (tb_at 609 (by decide +kernel) (by decide +kernel)) (tb_at 610 (by decide +kernel) (by decide +kernel)) (tb_at 611 (by decide +kernel) (by decide +kernel)) (tb_at 44 (by decide +kernel) (by decide +kernel)) (tb_at 612 (by decide +kernel) (by decide +kernel)) ⟨by decide +kernel, by decide +kernel, by decide +kernel⟩
theorem ml_L_112 : MLV RL 112 yX7_undo cX7_undo 2 (some .int) 0 := mlv_of (tb_at 933 (by decide +kernel) (by decide +kernel)) (tb_at 934 (by decide +kernel) (by decide +kernel)) (tb_at 935 (by decide +kernel) (by decide +kernel)) (tb_at 51 (by decide +kernel) (by decide +kernel)) (tb_at 936 (by decide +kernel) (by decide +kernel)) ⟨by decide +kernel, by decide +kernel, by decide +kernel⟩
theorem ml_L_113 : MLV RL 113 yX6_save cX6_save 2 (some .int) 1 := mlv_of (tb_at 617 (by decide +kernel) (by decide +kernel)) (tb_at 618 (by decide +kernel) (by decide +kernel)) (tb_at 619 (by decide +kernel) (by decide +kernel)) (tb_at 44 (by decide +kernel) (by decide +kernel)) (tb_at 620 (by decide +kernel) (by decide +kernel)) ⟨by decide +kernel, by decide +kernel, by decide +kernel⟩
theorem ml_L_116 : MLV RL 116 yX7_save cX7_save 3 (some .int) 1 := mlv_of (tb_at 937 (by decide +kernel) (by decide +kernel)) (tb_at 938 (by decide +kernel) (by decide +kernel)) (tb_at 939 (by decide +kernel) (by decide +kernel)) (tb_at 51 (by decide +kernel) (by decide +kernel)) (tb_at 940 (by decide +kernel) (by decide +kernel)) ⟨by decide +kernel, by decide +kernel, by decide +kernel⟩
theorem ml_L_117 : MLV RL 117 yX6_restore cX6_restore 2 (some .int) 1 := mlv_of (tb_at 624 (by decide +kernel) (by decide +kernel)) (tb_at 625 (by decide +kernel) (by decide +kernel)) (tb_at 626 (by decide +kernel) (by decide +kernel)) (tb_at 44 (by decide +kernel) (by decide +kernel)) (tb_at 627 (by decide +kernel) (by decide +kernel)) ⟨by decide +kernel, by decide +kernel, by decide +kernel⟩
theorem ml_L_120 : MLV RL 120 yX7_restore cX7_restore 3 (some .int) 1 := mlv_of (tb_at 941 (by decide +kernel) (by decide +kernel)) (tb_at 942 (by decide +kernel) (by decide +kernel)) (tb_at 943 (by decide +kernel) (by decide +kernel)) (tb_at 51 (by decide +kernel) (by decide +kernel)) (tb_at 944 (by decide +kernel) (by decide +kernel)) ⟨by decide +kernel, by decide +kernel, by decide +kernel⟩
theorem ml_X7_43 : MLS RX7 43 yX7_in cX7_in 3 (some .boolean) 3 := mls_of (tb_at 696 (by decide +kernel) (by decide +kernel)) (tb_at 697 (by decide +kernel) (by decide +kernel)) (tb_at 51 (by decide +kernel) (by decide +kernel)) (tb_at 698 (by decide +kernel) (by decide +kernel)) ⟨by decide +kernel, by decide +kernel, by decide +kernel⟩
theorem ml_X7_47 : MLV RX7 47 yX7_record cX7_record 2 none 0 := mlv_of (tb_at 699 (by decide +kernel) (by decide +kernel)) (tb_at 701 (by decide +kernel) (by decide +kernel)) (tb_at 11 (by decide +kernel) (by decide +kernel)) (tb_at 51 (by decide +kernel) (by decide +kernel)) (tb_at 702 (by decide +kernel) (by decide +kernel)) ⟨by decide +kernel, by decide +kernel, by decide +kernel⟩
theorem ml_X7_50 : MLS RX7 50 yX7_isSheet cX7_isSheet 1 (some .boolean) 1 := mls_of (tb_at 707 (by decide +kernel) (by decide +kernel)) (tb_at 708 (by decide +kernel) (by decide +kernel)) (tb_at 51 (by decide +kernel) (by decide +kernel)) (tb_at 709 (by decide +kernel) (by decide +kernel)) ⟨by decide +kernel, by decide +kernel, by decide +kernel⟩
theorem ml_X7_54 : MLV RX7 54 yX7_isInStack cX7_isInStack 2 (some .boolean) 1 := mlv_of (tb_at 714 (by decide +kernel) (by decide +kernel)) (tb_at 716 (by decide +kernel) (by decide +kernel)) (tb_at 12 (by decide +kernel) (by decide +kernel)) (tb_at 51 (by decide +kernel) (by decide +kernel)) (tb_at 717 (by decide +kernel) (by decide +kernel)) ⟨by decide +kernel, by decide +kernel, by decide +kernel⟩
theorem ml_X7_57 : MLS RX7 57 yX7_spot cX7_spot 2 (some .int) 2 := mls_of (tb_at 741 (by decide +kernel) (by decide +kernel)) (tb_at 742 (by decide +kernel) (by decide +kernel)) (tb_at 51 (by decide +kernel) (by decide +kernel)) (tb_at 743 (by decide +kernel) (by decide +kernel)) ⟨by decide +kernel, by decide +kernel, by decide +kernel⟩
theorem ml_X7_61 : MLV RX7 61 yX7_many cX7_many 3 (some .int) 2 := mlv_of (tb_at 737 (by decide +kernel) (by decide +kernel)) (tb_at 739 (by decide +kernel) (by decide +kernel)) (tb_at 16 (by decide +kernel) (by decide +kernel)) (tb_at 51 (by decide +kernel) (by decide +kernel)) (tb_at 740 (by decide +kernel) (by decide +kernel)) ⟨by decide +kernel, by decide +kernel, by decide +kernel⟩
theorem ml_X7_64 : MLV RX7 64 yX7_markAt cX7_markAt 4 (some .int) 3 := mlv_of (tb_at 768 (by decide +kernel) (by decide +kernel)) (tb_at 770 (by decide +kernel) (by decide +kernel)) (tb_at 22 (by decide +kernel) (by decide +kernel)) (tb_at 51 (by decide +kernel) (by decide +kernel)) (tb_at 771 (by decide +kernel) (by decide +kernel)) ⟨by decide +kernel, by decide +kernel, by decide +kernel⟩
theorem ml_X7_68 : MLS RX7 68 yX7_isStruck cX7_isStruck 1 (some .boolean) 1 := mls_of (tb_at 772 (by decide +kernel) (by decide +kernel)) (tb_at 773 (by decide +kernel) (by decide +kernel)) (tb_at 51 (by decide +kernel) (by decide +kernel)) (tb_at 774 (by decide +kernel) (by decide +kernel)) ⟨by decide +kernel, by decide +kernel, by decide +kernel⟩
theorem ml_X7_71 : MLS RX7 71 yX7_strengthOf cX7_strengthOf 1 (some .int) 1 := mls_of (tb_at 775 (by decide +kernel) (by decide +kernel)) (tb_at 776 (by decide +kernel) (by decide +kernel)) (tb_at 51 (by decide +kernel) (by decide +kernel)) (tb_at 777 (by decide +kernel) (by decide +kernel)) ⟨by decide +kernel, by decide +kernel, by decide +kernel⟩
theorem ml_X7_75 : MLS RX7 75 yX7_isField cX7_isField 1 (some .boolean) 1 := mls_of (tb_at 726 (by decide +kernel) (by decide +kernel)) (tb_at 727 (by decide +kernel) (by decide +kernel)) (tb_at 51 (by decide +kernel) (by decide +kernel)) (tb_at 728 (by decide +kernel) (by decide +kernel)) ⟨by decide +kernel, by decide +kernel, by decide +kernel⟩
theorem ml_X7_78 : MLV RX7 78 yX7_hasStack cX7_hasStack 1 (some .boolean) 0 := mlv_of (tb_at 729 (by decide +kernel) (by decide +kernel)) (tb_at 731 (by decide +kernel) (by decide +kernel)) (tb_at 14 (by decide +kernel) (by decide +kernel)) (tb_at 51 (by decide +kernel) (by decide +kernel)) (tb_at 732 (by decide +kernel) (by decide +kernel)) ⟨by decide +kernel, by decide +kernel, by decide +kernel⟩
theorem ml_X7_82 : MLV RX7 82 yX7_layPress cX7_layPress 5 (some .int) 1 := mlv_of (tb_at 733 (by decide +kernel) (by decide +kernel)) (tb_at 735 (by decide +kernel) (by decide +kernel)) (tb_at 15 (by decide +kernel) (by decide +kernel)) (tb_at 51 (by decide +kernel) (by decide +kernel)) (tb_at 736 (by decide +kernel) (by decide +kernel)) ⟨by decide +kernel, by decide +kernel, by decide +kernel⟩
theorem ml_X7_85 : MLV RX7 85 yX7_usePress cX7_usePress 3 none 1 := mlv_of (tb_at 748 (by decide +kernel) (by decide +kernel)) (tb_at 750 (by decide +kernel) (by decide +kernel)) (tb_at 18 (by decide +kernel) (by decide +kernel)) (tb_at 51 (by decide +kernel) (by decide +kernel)) (tb_at 751 (by decide +kernel) (by decide +kernel)) ⟨by decide +kernel, by decide +kernel, by decide +kernel⟩
theorem ml_X7_89 : MLV RX7 89 yX7_addMark cX7_addMark 5 none 4 := mlv_of (tb_at 752 (by decide +kernel) (by decide +kernel)) (tb_at 754 (by decide +kernel) (by decide +kernel)) (tb_at 19 (by decide +kernel) (by decide +kernel)) (tb_at 51 (by decide +kernel) (by decide +kernel)) (tb_at 755 (by decide +kernel) (by decide +kernel)) ⟨by decide +kernel, by decide +kernel, by decide +kernel⟩
theorem ml_X7_93 : MLV RX7 93 yX7_barOf cX7_barOf 7 (some .int) 3 := mlv_of (tb_at 722 (by decide +kernel) (by decide +kernel)) (tb_at 724 (by decide +kernel) (by decide +kernel)) (tb_at 13 (by decide +kernel) (by decide +kernel)) (tb_at 51 (by decide +kernel) (by decide +kernel)) (tb_at 725 (by decide +kernel) (by decide +kernel)) ⟨by decide +kernel, by decide +kernel, by decide +kernel⟩
theorem ml_X7_96 : MLV RX7 96 yX7_writeNow cX7_writeNow 6 (some .int) 3 := mlv_of (tb_at 744 (by decide +kernel) (by decide +kernel)) (tb_at 746 (by decide +kernel) (by decide +kernel)) (tb_at 17 (by decide +kernel) (by decide +kernel)) (tb_at 51 (by decide +kernel) (by decide +kernel)) (tb_at 747 (by decide +kernel) (by decide +kernel)) ⟨by decide +kernel, by decide +kernel, by decide +kernel⟩
theorem ml_X7_99 : MLV RX7 99 yX7_strikeAt cX7_strikeAt 7 (some .int) 3 := mlv_of (tb_at 764 (by decide +kernel) (by decide +kernel)) (tb_at 766 (by decide +kernel) (by decide +kernel)) (tb_at 21 (by decide +kernel) (by decide +kernel)) (tb_at 51 (by decide +kernel) (by decide +kernel)) (tb_at 767 (by decide +kernel) (by decide +kernel)) ⟨by decide +kernel, by decide +kernel, by decide +kernel⟩
theorem ml_X7_102 : MLV RX7 102 yX7_strikeNow cX7_strikeNow 6 (some .int) 2 := mlv_of (tb_at 760 (by decide +kernel) (by decide +kernel)) (tb_at 762 (by decide +kernel) (by decide +kernel)) (tb_at 20 (by decide +kernel) (by decide +kernel)) (tb_at 51 (by decide +kernel) (by decide +kernel)) (tb_at 763 (by decide +kernel) (by decide +kernel)) ⟨by decide +kernel, by decide +kernel, by decide +kernel⟩
theorem ml_X7_105 : MLV RX7 105 yX7_isReadable cX7_isReadable 2 (some .boolean) 1 := mlv_of (tb_at 810 (by decide +kernel) (by decide +kernel)) (tb_at 812 (by decide +kernel) (by decide +kernel)) (tb_at 27 (by decide +kernel) (by decide +kernel)) (tb_at 51 (by decide +kernel) (by decide +kernel)) (tb_at 813 (by decide +kernel) (by decide +kernel)) ⟨by decide +kernel, by decide +kernel, by decide +kernel⟩
theorem ml_X7_108 : MLV RX7 108 yX7_lastAt cX7_lastAt 5 (some .int) 2 := mlv_of (tb_at 806 (by decide +kernel) (by decide +kernel)) (tb_at 808 (by decide +kernel) (by decide +kernel)) (tb_at 26 (by decide +kernel) (by decide +kernel)) (tb_at 51 (by decide +kernel) (by decide +kernel)) (tb_at 809 (by decide +kernel) (by decide +kernel)) ⟨by decide +kernel, by decide +kernel, by decide +kernel⟩
theorem ml_X7_111 : MLS RX7 111 yX7_valueOf cX7_valueOf 1 (some .int) 1 := mls_of (tb_at 814 (by decide +kernel) (by decide +kernel)) (tb_at 815 (by decide +kernel) (by decide +kernel)) (tb_at 51 (by decide +kernel) (by decide +kernel)) (tb_at 816 (by decide +kernel) (by decide +kernel)) ⟨by decide +kernel, by decide +kernel, by decide +kernel⟩
theorem ml_X7_114 : MLV RX7 114 yX7_stateOf cX7_stateOf 8 (some .int) 2 := mlv_of (tb_at 802 (by decide +kernel) (by decide +kernel)) (tb_at 804 (by decide +kernel) (by decide +kernel)) (tb_at 25 (by decide +kernel) (by decide +kernel)) (tb_at 51 (by decide +kernel) (by decide +kernel)) (tb_at 805 (by decide +kernel) (by decide +kernel)) ⟨by decide +kernel, by decide +kernel, by decide +kernel⟩
theorem ml_X7_117 : MLV RX7 117 yX7_marksOf cX7_marksOf 6 (some .int) 2 := mlv_of (tb_at 794 (by decide +kernel) (by decide +kernel)) (tb_at 796 (by decide +kernel) (by decide +kernel)) (tb_at 23 (by decide +kernel) (by decide +kernel)) (tb_at 51 (by decide +kernel) (by decide +kernel)) (tb_at 797 (by decide +kernel) (by decide +kernel)) ⟨by decide +kernel, by decide +kernel, by decide +kernel⟩
theorem ml_X7_121 : MLV RX7 121 yX7_fieldsOf cX7_fieldsOf 5 (some .int) 2 := mlv_of (tb_at 798 (by decide +kernel) (by decide +kernel)) (tb_at 800 (by decide +kernel) (by decide +kernel)) (tb_at 24 (by decide +kernel) (by decide +kernel)) (tb_at 51 (by decide +kernel) (by decide +kernel)) (tb_at 801 (by decide +kernel) (by decide +kernel)) ⟨by decide +kernel, by decide +kernel, by decide +kernel⟩
theorem ml_X7_124 : MLV RX7 124 yX7_lastOf cX7_lastOf 6 (some .int) 3 := mlv_of (tb_at 821 (by decide +kernel) (by decide +kernel)) (tb_at 823 (by decide +kernel) (by decide +kernel)) (tb_at 28 (by decide +kernel) (by decide +kernel)) (tb_at 51 (by decide +kernel) (by decide +kernel)) (tb_at 824 (by decide +kernel) (by decide +kernel)) ⟨by decide +kernel, by decide +kernel, by decide +kernel⟩
theorem ml_X7_142 : MLV RX7 142 yX7_votesFor cX7_votesFor 5 (some .int) 2 := mlv_of (tb_at 837 (by decide +kernel) (by decide +kernel)) (tb_at 839 (by decide +kernel) (by decide +kernel)) (tb_at 30 (by decide +kernel) (by decide +kernel)) (tb_at 51 (by decide +kernel) (by decide +kernel)) (tb_at 840 (by decide +kernel) (by decide +kernel)) ⟨by decide +kernel, by decide +kernel, by decide +kernel⟩
theorem ml_X7_145 : MLV RX7 145 yX7_layTogether cX7_layTogether 7 none 1 := mlv_of (tb_at 833 (by decide +kernel) (by decide +kernel)) (tb_at 835 (by decide +kernel) (by decide +kernel)) (tb_at 29 (by decide +kernel) (by decide +kernel)) (tb_at 51 (by decide +kernel) (by decide +kernel)) (tb_at 836 (by decide +kernel) (by decide +kernel)) ⟨by decide +kernel, by decide +kernel, by decide +kernel⟩
theorem ml_X7_148 : MLV RX7 148 yX7_stack cX7_stack 3 (some .int) 0 := mlv_of (tb_at 845 (by decide +kernel) (by decide +kernel)) (tb_at 847 (by decide +kernel) (by decide +kernel)) (tb_at 31 (by decide +kernel) (by decide +kernel)) (tb_at 51 (by decide +kernel) (by decide +kernel)) (tb_at 848 (by decide +kernel) (by decide +kernel)) ⟨by decide +kernel, by decide +kernel, by decide +kernel⟩
theorem ml_X7_152 : MLV RX7 152 yX7_fieldsWith cX7_fieldsWith 4 (some .int) 1 := mlv_of (tb_at 849 (by decide +kernel) (by decide +kernel)) (tb_at 851 (by decide +kernel) (by decide +kernel)) (tb_at 32 (by decide +kernel) (by decide +kernel)) (tb_at 51 (by decide +kernel) (by decide +kernel)) (tb_at 852 (by decide +kernel) (by decide +kernel)) ⟨by decide +kernel, by decide +kernel, by decide +kernel⟩
theorem ml_X7_159 : MLV RX7 159 yX7_keep cX7_keep 2 none 0 := mlv_of (tb_at 865 (by decide +kernel) (by decide +kernel)) (tb_at 867 (by decide +kernel) (by decide +kernel)) (tb_at 33 (by decide +kernel) (by decide +kernel)) (tb_at 51 (by decide +kernel) (by decide +kernel)) (tb_at 868 (by decide +kernel) (by decide +kernel)) ⟨by decide +kernel, by decide +kernel, by decide +kernel⟩
theorem ml_X7_162 : MLV RX7 162 yX7_isEmptyInStack cX7_isEmptyInStack 4 (some .boolean) 1 := mlv_of (tb_at 869 (by decide +kernel) (by decide +kernel)) (tb_at 871 (by decide +kernel) (by decide +kernel)) (tb_at 34 (by decide +kernel) (by decide +kernel)) (tb_at 51 (by decide +kernel) (by decide +kernel)) (tb_at 872 (by decide +kernel) (by decide +kernel)) ⟨by decide +kernel, by decide +kernel, by decide +kernel⟩
theorem ml_X7_165 : MLV RX7 165 yX7_comeBack cX7_comeBack 2 none 0 := mlv_of (tb_at 873 (by decide +kernel) (by decide +kernel)) (tb_at 875 (by decide +kernel) (by decide +kernel)) (tb_at 35 (by decide +kernel) (by decide +kernel)) (tb_at 51 (by decide +kernel) (by decide +kernel)) (tb_at 876 (by decide +kernel) (by decide +kernel)) ⟨by decide +kernel, by decide +kernel, by decide +kernel⟩
theorem ml_X7_171 : MLV RX7 171 yX7_sign cX7_sign 1 (some .int) 0 := mlv_of (tb_at 906 (by decide +kernel) (by decide +kernel)) (tb_at 908 (by decide +kernel) (by decide +kernel)) (tb_at 38 (by decide +kernel) (by decide +kernel)) (tb_at 51 (by decide +kernel) (by decide +kernel)) (tb_at 909 (by decide +kernel) (by decide +kernel)) ⟨by decide +kernel, by decide +kernel, by decide +kernel⟩
theorem ml_X7_177 : MLV RX7 177 yX7_one cX7_one 4 (some .int) 2 := mlv_of (tb_at 910 (by decide +kernel) (by decide +kernel)) (tb_at 912 (by decide +kernel) (by decide +kernel)) (tb_at 39 (by decide +kernel) (by decide +kernel)) (tb_at 51 (by decide +kernel) (by decide +kernel)) (tb_at 913 (by decide +kernel) (by decide +kernel)) ⟨by decide +kernel, by decide +kernel, by decide +kernel⟩
theorem ml_X7_183 : MLV RX7 183 yX7_between cX7_between 2 none 1 := mlv_of (tb_at 914 (by decide +kernel) (by decide +kernel)) (tb_at 916 (by decide +kernel) (by decide +kernel)) (tb_at 40 (by decide +kernel) (by decide +kernel)) (tb_at 51 (by decide +kernel) (by decide +kernel)) (tb_at 917 (by decide +kernel) (by decide +kernel)) ⟨by decide +kernel, by decide +kernel, by decide +kernel⟩
theorem ml_X7_186 : MLV RX7 186 yX7_number cX7_number 2 (some .int) 0 := mlv_of (tb_at 918 (by decide +kernel) (by decide +kernel)) (tb_at 920 (by decide +kernel) (by decide +kernel)) (tb_at 41 (by decide +kernel) (by decide +kernel)) (tb_at 51 (by decide +kernel) (by decide +kernel)) (tb_at 921 (by decide +kernel) (by decide +kernel)) ⟨by decide +kernel, by decide +kernel, by decide +kernel⟩
theorem ml_X7_189 : MLV RX7 189 yX7_readOne cX7_readOne 3 none 0 := mlv_of (tb_at 902 (by decide +kernel) (by decide +kernel)) (tb_at 904 (by decide +kernel) (by decide +kernel)) (tb_at 37 (by decide +kernel) (by decide +kernel)) (tb_at 51 (by decide +kernel) (by decide +kernel)) (tb_at 905 (by decide +kernel) (by decide +kernel)) ⟨by decide +kernel, by decide +kernel, by decide +kernel⟩
theorem ml_X7_194 : MLV RX7 194 yX7_faultOf cX7_faultOf 1 (some .int) 0 := mlv_of (tb_at 898 (by decide +kernel) (by decide +kernel)) (tb_at 900 (by decide +kernel) (by decide +kernel)) (tb_at 36 (by decide +kernel) (by decide +kernel)) (tb_at 51 (by decide +kernel) (by decide +kernel)) (tb_at 901 (by decide +kernel) (by decide +kernel)) ⟨by decide +kernel, by decide +kernel, by decide +kernel⟩
theorem ml_X7_197 : MLV RX7 197 yX7_write cX7_write 5 (some .int) 3 := mlv_of (tb_at 930 (by decide +kernel) (by decide +kernel)) (tb_at 719 (by decide +kernel) (by decide +kernel)) (tb_at 720 (by decide +kernel) (by decide +kernel)) (tb_at 51 (by decide +kernel) (by decide +kernel)) (tb_at 721 (by decide +kernel) (by decide +kernel)) ⟨by decide +kernel, by decide +kernel, by decide +kernel⟩
theorem ml_X7_200 : MLV RX7 200 yX7_strike cX7_strike 3 (some .int) 2 := mlv_of (tb_at 931 (by decide +kernel) (by decide +kernel)) (tb_at 757 (by decide +kernel) (by decide +kernel)) (tb_at 758 (by decide +kernel) (by decide +kernel)) (tb_at 51 (by decide +kernel) (by decide +kernel)) (tb_at 759 (by decide +kernel) (by decide +kernel)) ⟨by decide +kernel, by decide +kernel, by decide +kernel⟩
theorem ml_X7_203 : MLV RX7 203 yX7_tear cX7_tear 2 (some .int) 1 := mlv_of (tb_at 932 (by decide +kernel) (by decide +kernel)) (tb_at 787 (by decide +kernel) (by decide +kernel)) (tb_at 788 (by decide +kernel) (by decide +kernel)) (tb_at 51 (by decide +kernel) (by decide +kernel)) (tb_at 789 (by decide +kernel) (by decide +kernel)) ⟨by decide +kernel, by decide +kernel, by decide +kernel⟩
theorem ml_X7_206 : MLV RX7 206 yX7_carry cX7_carry 2 (some .int) 1 := mlv_of (tb_at 926 (by decide +kernel) (by decide +kernel)) (tb_at 928 (by decide +kernel) (by decide +kernel)) (tb_at 42 (by decide +kernel) (by decide +kernel)) (tb_at 51 (by decide +kernel) (by decide +kernel)) (tb_at 929 (by decide +kernel) (by decide +kernel)) ⟨by decide +kernel, by decide +kernel, by decide +kernel⟩
theorem kl_X2_19 : Cond.constantLong RX2 19 (255 : Int64) ∈ TB := tb_at 536 (by decide +kernel) (by decide +kernel)
theorem kl_X7_192 : Cond.constantLong RX7 192 (255 : Int64) ∈ TB := tb_at 889 (by decide +kernel) (by decide +kernel)
theorem kl_L_89 : Cond.constantLong RL 89 (4294967295 : Int64) ∈ TB := tb_at 945 (by decide +kernel) (by decide +kernel)
theorem jw_max : Cond.static Lib.Math.max.name ∈ TB ∧ Cond.initialized "java/lang/Math" ∈ TB ∧ Cond.code Lib.Math.max.name Lib.Math.max.code 2 (some .int) ∈ TB := ⟨tb_at 314 (by decide +kernel) (by decide +kernel), tb_at 53 (by decide +kernel) (by decide +kernel), tb_at 315 (by decide +kernel) (by decide +kernel)⟩
theorem jw_min : Cond.static Lib.Math.min.name ∈ TB ∧ Cond.initialized "java/lang/Math" ∈ TB ∧ Cond.code Lib.Math.min.name Lib.Math.min.code 2 (some .int) ∈ TB := ⟨tb_at 270 (by decide +kernel) (by decide +kernel), tb_at 53 (by decide +kernel) (by decide +kernel), tb_at 271 (by decide +kernel) (by decide +kernel)⟩
theorem jw_copy : Cond.native arraycopyName ∈ TB ∧ Cond.static arraycopyName ∈ TB ∧ Cond.initialized "java/lang/System" ∈ TB := ⟨tb_at 268 (by decide +kernel) (by decide +kernel), tb_at 267 (by decide +kernel) (by decide +kernel), tb_at 52 (by decide +kernel) (by decide +kernel)⟩
theorem ml_X0_29 : Cond.methodLink RX0 29 Lib.Math.min.name ∈ TB := tb_at 269 (by decide +kernel) (by decide +kernel)
theorem ml_X3_28 : Cond.methodLink RX3 28 arraycopyName ∈ TB := tb_at 266 (by decide +kernel) (by decide +kernel)
theorem ml_X3_50 : Cond.methodLink RX3 50 Lib.Math.max.name ∈ TB := tb_at 514 (by decide +kernel) (by decide +kernel)
theorem ml_X4_49 : Cond.methodLink RX4 49 Lib.Math.max.name ∈ TB := tb_at 313 (by decide +kernel) (by decide +kernel)
theorem ml_X4_110 : Cond.methodLink RX4 110 Lib.Math.min.name ∈ TB := tb_at 523 (by decide +kernel) (by decide +kernel)
theorem ml_X5_56 : Cond.methodLink RX5 56 Lib.Math.min.name ∈ TB := tb_at 468 (by decide +kernel) (by decide +kernel)
theorem ml_X5_61 : Cond.methodLink RX5 61 Lib.Math.max.name ∈ TB := tb_at 469 (by decide +kernel) (by decide +kernel)
end
section
theorem nI_max {a b : Nat} (ha : a < 2147483648) (hb : b < 2147483648) : (if nI a < nI b then nI b else nI a) = nI (max a b) := by
  by_cases h : a < b
  · rw [if_pos ((nI_ltD ha hb).mpr h), Nat.max_eq_right (Nat.le_of_lt h)]
  · rw [if_neg (fun z => h ((nI_ltD ha hb).mp z)), Nat.max_eq_left (Nat.not_lt.mp h)]
theorem nI_min {a b : Nat} (ha : a < 2147483648) (hb : b < 2147483648) : (if nI b < nI a then nI b else nI a) = nI (min a b) := by
  by_cases h : b < a
  · rw [if_pos ((nI_ltD hb ha).mpr h), Nat.min_eq_right (Nat.le_of_lt h)]
  · rw [if_neg (fun z => h ((nI_ltD hb ha).mp z)), Nat.min_eq_left (Nat.not_lt.mp h)]
def gcp (X : gX) (a b n : Nat) : gX := fun i => if i = b then va_cpy (X a) (X b) 0 0 n else X i
theorem gcp_lt {X : gX} {a b n j : Nat} (h : j < n) : gcp X a b n b j = X a j := by simp [gcp, va_cpy, h]
theorem gcp_ne {X : gX} {a b n : Nat} : ∀ i, i ≠ b → gcp X a b n i = X i := fun i h => by simp [gcp, h]
section
variable {F : gF} {own : String} {cc : ByteArray} {nL : Nat} {rm : Room} {S : gS} {K : Nat × Nat} {X : gX} {pc pc' : Nat} {ls st : List Value}

theorem g_mmax (hC : Cx F own cc nL rm) {x y : Int32} {idx : Nat} (hw : Cond.methodLink own idx Lib.Math.max.name ∈ TB) (hroom : 1 ≤ rm.frames ∧ (st.map fun v => v.category).sum + 13 ≤ rm.locals) (hf : K.1 ≤ rm.cells ∧ K.2 ≤ rm.slots) (d : decode cc pc = .ok (.invokestatic idx, 3)) (hp : pc + 3 = pc') (k : G F S K X pc' ls (.int (if x < y then y else x) :: st)) : G F S K X pc ls (.int y :: .int x :: st) := by
  obtain ⟨p, l, e, R, s, m, args, below, meth, c, Γ, A, Q⟩ := F
  obtain ⟨hx, hb, hml, hown, hts, hlk, rfl, hK, hA⟩ := hC
  subst hp
  intro H locs L hL hc0 hP hD hS
  exact va_mmax hx hb (by rw [hL.1]) hown (hts _ hw) (hts _ jw_max.1) (hts _ jw_max.2.1) (hts _ jw_max.2.2) hroom.1 (by rw [List.map_map, show ((fun v : Value => v.category) ∘ cv S) = fun v => v.category from funext (cv_cat S)]; exact hroom.2) hf.1 hf.2 d (k H locs L hL hc0 hP hD hS)
theorem g_mmaxN (hC : Cx F own cc nL rm) {a b : Nat} {idx : Nat} (hw : Cond.methodLink own idx Lib.Math.max.name ∈ TB) (hroom : 1 ≤ rm.frames ∧ (st.map fun v => v.category).sum + 13 ≤ rm.locals) (hf : K.1 ≤ rm.cells ∧ K.2 ≤ rm.slots) (d : decode cc pc = .ok (.invokestatic idx, 3)) (hp : pc + 3 = pc') (ha : a < 2147483648) (hb : b < 2147483648) (k : G F S K X pc' ls (.int (nI (max a b)) :: st)) : G F S K X pc ls (.int (nI b) :: .int (nI a) :: st) := g_mmax hC hw hroom hf d hp (by rw [nI_max ha hb]; exact k)
theorem g_mmin (hC : Cx F own cc nL rm) {x y : Int32} {idx : Nat} (hw : Cond.methodLink own idx Lib.Math.min.name ∈ TB) (hroom : 1 ≤ rm.frames ∧ (st.map fun v => v.category).sum + 13 ≤ rm.locals) (hf : K.1 ≤ rm.cells ∧ K.2 ≤ rm.slots) (d : decode cc pc = .ok (.invokestatic idx, 3)) (hp : pc + 3 = pc') (k : G F S K X pc' ls (.int (if y < x then y else x) :: st)) : G F S K X pc ls (.int y :: .int x :: st) := by
  obtain ⟨p, l, e, R, s, m, args, below, meth, c, Γ, A, Q⟩ := F
  obtain ⟨hx, hb, hml, hown, hts, hlk, rfl, hK, hA⟩ := hC
  subst hp
  intro H locs L hL hc0 hP hD hS
  exact va_mmin hx hb (by rw [hL.1]) hown (hts _ hw) (hts _ jw_min.1) (hts _ jw_min.2.1) (hts _ jw_min.2.2) hroom.1 (by rw [List.map_map, show ((fun v : Value => v.category) ∘ cv S) = fun v => v.category from funext (cv_cat S)]; exact hroom.2) hf.1 hf.2 d (k H locs L hL hc0 hP hD hS)
theorem g_mminN (hC : Cx F own cc nL rm) {a b : Nat} {idx : Nat} (hw : Cond.methodLink own idx Lib.Math.min.name ∈ TB) (hroom : 1 ≤ rm.frames ∧ (st.map fun v => v.category).sum + 13 ≤ rm.locals) (hf : K.1 ≤ rm.cells ∧ K.2 ≤ rm.slots) (d : decode cc pc = .ok (.invokestatic idx, 3)) (hp : pc + 3 = pc') (ha : a < 2147483648) (hb : b < 2147483648) (k : G F S K X pc' ls (.int (nI (min a b)) :: st)) : G F S K X pc ls (.int (nI b) :: .int (nI a) :: st) := g_mmin hC hw hroom hf d hp (by rw [nI_min ha hb]; exact k)
theorem g_acopy (hC : Cx F own cc nL rm) {i0 i1 n0 n1 n idx : Nat} {l0 l1 : List Nat} (hw : Cond.methodLink own idx arraycopyName ∈ TB) (hs0 : gat S i0 (.inr (0, n0, l0))) (hs1 : gat S i1 (.inr (0, n1, l1))) (h0 : n ≤ n0) (h1 : n ≤ n1) (hn : n < 2147483648) (hroom : 1 ≤ rm.frames ∧ (st.map fun v => v.category).sum + 18 ≤ rm.locals) (d : decode cc pc = .ok (.invokestatic idx, 3)) (hp : pc + 3 = pc') (k : G F S K (gcp X i0 i1 n) pc' ls st) : G F S K X pc ls (.int (nI n) :: .int (nI 0) :: .ref i1 :: .int (nI 0) :: .ref i0 :: st) := by
  obtain ⟨p, l, e, R, s, m, args, below, meth, c, Γ, A, Q⟩ := F
  obtain ⟨hx, hb, hml, hown, hts, hlk, rfl, hK, hA⟩ := hC
  subst hp
  intro H locs L hL hc0 hP hD hS
  have ha0 : (gws Γ S X)[i0]? = some (S.2.2 i0, .inl (Γ.2 0, n0, .inl (X i0))) := by rw [gws_at hs0, gcell_i (by decide)]
  have ha1 : (gws Γ S X)[i1]? = some (S.2.2 i1, .inl (Γ.2 0, n1, .inl (X i1))) := by rw [gws_at hs1, gcell_i (by decide)]
  have c0 : (nI 0).toNatClampNeg = 0 := nI_clamp (by decide)
  have cn : (nI n).toNatClampNeg = n := nI_clamp hn
  refine va_copyi hx hb (by rw [hL.1]) hown (hts _ hw) (hts _ jw_copy.1) (hts _ jw_copy.2.1) (hts _ jw_copy.2.2) hK.1 hP hD hS i0 i1 0 0 ha0 ha1 rfl rfl rfl (nI_pos (by decide)) (nI_pos (by decide)) (nI_pos hn) (by rw [c0, cn]; omega) (by rw [c0, cn]; omega) (fun _ _ => rfl) hroom.1 (by rw [List.map_map, show ((fun v : Value => v.category) ∘ cv S) = fun v => v.category from funext (cv_cat S)]; exact hroom.2) d (fun H1 locs1 hP1 hD1 hS1 => ?_)
  rw [c0, cn] at hP1 hD1
  have e : (gws Γ S X).set i1 (S.2.2 i1, .inl (Γ.2 0, n1, .inl (va_cpy (X i0) (X i1) 0 0 n))) = gws Γ S (gcp X i0 i1 n) := by
    have := gws_set (Γ := Γ) (X := X) (X' := gcp X i0 i1 n) hs1 gcp_ne
    rw [gcell_i (by decide)] at this
    rw [← this]
    simp [gcp]
  rw [e] at hP1 hD1
  exact k H1 locs1 L hL hc0 hP1 hD1 hS1
end
theorem ki (n : Nat) : Int32.ofInt (n : Int) = nI n := rfl
theorem kc_iconst_m1 : Int32.ofInt (-1) = -1 := by decide +kernel
theorem kc_iconst_0 : Int32.ofInt 0 = nI 0 := by decide +kernel
theorem kc_iconst_1 : Int32.ofInt 1 = nI 1 := by decide +kernel
theorem kc_iconst_2 : Int32.ofInt 2 = nI 2 := by decide +kernel
theorem kc_iconst_3 : Int32.ofInt 3 = nI 3 := by decide +kernel
theorem kc_iconst_4 : Int32.ofInt 4 = nI 4 := by decide +kernel
theorem kc_iconst_5 : Int32.ofInt 5 = nI 5 := by decide +kernel
theorem kc_bipush_m6 : (Int8.ofInt (-6)).toInt32 = -6 := by decide +kernel
theorem kc_bipush_m5 : (Int8.ofInt (-5)).toInt32 = -5 := by decide +kernel
theorem kc_bipush_m4 : (Int8.ofInt (-4)).toInt32 = -4 := by decide +kernel
theorem kc_bipush_m3 : (Int8.ofInt (-3)).toInt32 = -3 := by decide +kernel
theorem kc_bipush_m2 : (Int8.ofInt (-2)).toInt32 = -2 := by decide +kernel
theorem kc_bipush_6 : (Int8.ofInt 6).toInt32 = nI 6 := by decide +kernel
theorem kc_bipush_7 : (Int8.ofInt 7).toInt32 = nI 7 := by decide +kernel
theorem kc_bipush_8 : (Int8.ofInt 8).toInt32 = nI 8 := by decide +kernel
theorem kc_bipush_9 : (Int8.ofInt 9).toInt32 = nI 9 := by decide +kernel
theorem kc_bipush_10 : (Int8.ofInt 10).toInt32 = nI 10 := by decide +kernel
theorem kc_bipush_14 : (Int8.ofInt 14).toInt32 = nI 14 := by decide +kernel
theorem kc_bipush_15 : (Int8.ofInt 15).toInt32 = nI 15 := by decide +kernel
theorem kc_bipush_20 : (Int8.ofInt 20).toInt32 = nI 20 := by decide +kernel
theorem kc_bipush_31 : (Int8.ofInt 31).toInt32 = nI 31 := by decide +kernel
theorem kc_bipush_32 : (Int8.ofInt 32).toInt32 = nI 32 := by decide +kernel
theorem kc_bipush_33 : (Int8.ofInt 33).toInt32 = nI 33 := by decide +kernel
theorem kc_bipush_48 : (Int8.ofInt 48).toInt32 = nI 48 := by decide +kernel
theorem kc_bipush_57 : (Int8.ofInt 57).toInt32 = nI 57 := by decide +kernel
theorem kc_bipush_59 : (Int8.ofInt 59).toInt32 = nI 59 := by decide +kernel
theorem kc_bipush_60 : (Int8.ofInt 60).toInt32 = nI 60 := by decide +kernel
theorem kc_bipush_61 : (Int8.ofInt 61).toInt32 = nI 61 := by decide +kernel
theorem kc_bipush_70 : (Int8.ofInt 70).toInt32 = nI 70 := by decide +kernel
theorem kc_bipush_80 : (Int8.ofInt 80).toInt32 = nI 80 := by decide +kernel
theorem kc_bipush_98 : (Int8.ofInt 98).toInt32 = nI 98 := by decide +kernel
theorem kc_bipush_115 : (Int8.ofInt 115).toInt32 = nI 115 := by decide +kernel
theorem kc_bipush_116 : (Int8.ofInt 116).toInt32 = nI 116 := by decide +kernel
theorem kc_bipush_119 : (Int8.ofInt 119).toInt32 = nI 119 := by decide +kernel
theorem kc_bipush_126 : (Int8.ofInt 126).toInt32 = nI 126 := by decide +kernel
theorem kc_sipush_300 : (Int16.ofInt 300).toInt32 = nI 300 := by decide +kernel
theorem kc_sipush_320 : (Int16.ofInt 320).toInt32 = nI 320 := by decide +kernel
theorem kc_sipush_470 : (Int16.ofInt 470).toInt32 = nI 470 := by decide +kernel
theorem kc_sipush_940 : (Int16.ofInt 940).toInt32 = nI 940 := by decide +kernel
theorem kc_sipush_999 : (Int16.ofInt 999).toInt32 = nI 999 := by decide +kernel
theorem kc_sipush_1000 : (Int16.ofInt 1000).toInt32 = nI 1000 := by decide +kernel
theorem kc_sipush_2350 : (Int16.ofInt 2350).toInt32 = nI 2350 := by decide +kernel
theorem kc_sipush_2820 : (Int16.ofInt 2820).toInt32 = nI 2820 := by decide +kernel
theorem kc_iinc_m1 : Int32.ofInt (-1) = -1 := by decide +kernel
theorem kc_iinc_1 : Int32.ofInt 1 = nI 1 := by decide +kernel
theorem kc_iinc_5 : Int32.ofInt 5 = nI 5 := by decide +kernel
end
section
/-! the shape of the world behind the two constructors: 0 CarbonSheets, 1 and 20 its now and trial, 39 tally, 42 history (44 + 19 j its states), 158 slots (163, 182), 160 pad, 162 reader; 201 the model, 202 .. its rows -/
def shL : List gE := [.inl (6, [some (some 1), some (some 20), some (some 39), some (some 42), some (some 158), some (some 159), some (some 160), some (some 162)]),
  .inl (4, [some (some 2), some (some 3), none, none, some (some 4)]),
  .inr (4, 5, [5, 8, 11, 14, 17]),
  .inr (0, 2, []),
  .inr (0, 5, []),
  .inl (3, [none, none, none, some (some 6), some (some 7)]),
  .inr (0, 10, []),
  .inr (0, 80, []),
  .inl (3, [none, none, none, some (some 9), some (some 10)]),
  .inr (0, 10, []),
  .inr (0, 80, []),
  .inl (3, [none, none, none, some (some 12), some (some 13)]),
  .inr (0, 10, []),
  .inr (0, 80, []),
  .inl (3, [none, none, none, some (some 15), some (some 16)]),
  .inr (0, 10, []),
  .inr (0, 80, []),
  .inl (3, [none, none, none, some (some 18), some (some 19)]),
  .inr (0, 10, []),
  .inr (0, 80, []),
  .inl (4, [some (some 21), some (some 22), none, none, some (some 23)]),
  .inr (4, 5, [24, 27, 30, 33, 36]),
  .inr (0, 2, []),
  .inr (0, 5, []),
  .inl (3, [none, none, none, some (some 25), some (some 26)]),
  .inr (0, 10, []),
  .inr (0, 80, []),
  .inl (3, [none, none, none, some (some 28), some (some 29)]),
  .inr (0, 10, []),
  .inr (0, 80, []),
  .inl (3, [none, none, none, some (some 31), some (some 32)]),
  .inr (0, 10, []),
  .inr (0, 80, []),
  .inl (3, [none, none, none, some (some 34), some (some 35)]),
  .inr (0, 10, []),
  .inr (0, 80, []),
  .inl (3, [none, none, none, some (some 37), some (some 38)]),
  .inr (0, 10, []),
  .inr (0, 80, []),
  .inl (5, [none, none, none, none, none, none, some (some 40), some (some 41)]),
  .inr (0, 5, []),
  .inr (0, 5, []),
  .inl (0, [none, none, some (some 43)]),
  .inr (3, 6, [44, 63, 82, 101, 120, 139]),
  .inl (4, [some (some 45), some (some 46), none, none, some (some 47)]),
  .inr (4, 5, [48, 51, 54, 57, 60]),
  .inr (0, 2, []),
  .inr (0, 5, []),
  .inl (3, [none, none, none, some (some 49), some (some 50)]),
  .inr (0, 10, []),
  .inr (0, 80, []),
  .inl (3, [none, none, none, some (some 52), some (some 53)]),
  .inr (0, 10, []),
  .inr (0, 80, []),
  .inl (3, [none, none, none, some (some 55), some (some 56)]),
  .inr (0, 10, []),
  .inr (0, 80, []),
  .inl (3, [none, none, none, some (some 58), some (some 59)]),
  .inr (0, 10, []),
  .inr (0, 80, []),
  .inl (3, [none, none, none, some (some 61), some (some 62)]),
  .inr (0, 10, []),
  .inr (0, 80, []),
  .inl (4, [some (some 64), some (some 65), none, none, some (some 66)]),
  .inr (4, 5, [67, 70, 73, 76, 79]),
  .inr (0, 2, []),
  .inr (0, 5, []),
  .inl (3, [none, none, none, some (some 68), some (some 69)]),
  .inr (0, 10, []),
  .inr (0, 80, []),
  .inl (3, [none, none, none, some (some 71), some (some 72)]),
  .inr (0, 10, []),
  .inr (0, 80, []),
  .inl (3, [none, none, none, some (some 74), some (some 75)]),
  .inr (0, 10, []),
  .inr (0, 80, []),
  .inl (3, [none, none, none, some (some 77), some (some 78)]),
  .inr (0, 10, []),
  .inr (0, 80, []),
  .inl (3, [none, none, none, some (some 80), some (some 81)]),
  .inr (0, 10, []),
  .inr (0, 80, []),
  .inl (4, [some (some 83), some (some 84), none, none, some (some 85)]),
  .inr (4, 5, [86, 89, 92, 95, 98]),
  .inr (0, 2, []),
  .inr (0, 5, []),
  .inl (3, [none, none, none, some (some 87), some (some 88)]),
  .inr (0, 10, []),
  .inr (0, 80, []),
  .inl (3, [none, none, none, some (some 90), some (some 91)]),
  .inr (0, 10, []),
  .inr (0, 80, []),
  .inl (3, [none, none, none, some (some 93), some (some 94)]),
  .inr (0, 10, []),
  .inr (0, 80, []),
  .inl (3, [none, none, none, some (some 96), some (some 97)]),
  .inr (0, 10, []),
  .inr (0, 80, []),
  .inl (3, [none, none, none, some (some 99), some (some 100)]),
  .inr (0, 10, []),
  .inr (0, 80, []),
  .inl (4, [some (some 102), some (some 103), none, none, some (some 104)]),
  .inr (4, 5, [105, 108, 111, 114, 117]),
  .inr (0, 2, []),
  .inr (0, 5, []),
  .inl (3, [none, none, none, some (some 106), some (some 107)]),
  .inr (0, 10, []),
  .inr (0, 80, []),
  .inl (3, [none, none, none, some (some 109), some (some 110)]),
  .inr (0, 10, []),
  .inr (0, 80, []),
  .inl (3, [none, none, none, some (some 112), some (some 113)]),
  .inr (0, 10, []),
  .inr (0, 80, []),
  .inl (3, [none, none, none, some (some 115), some (some 116)]),
  .inr (0, 10, []),
  .inr (0, 80, []),
  .inl (3, [none, none, none, some (some 118), some (some 119)]),
  .inr (0, 10, []),
  .inr (0, 80, []),
  .inl (4, [some (some 121), some (some 122), none, none, some (some 123)]),
  .inr (4, 5, [124, 127, 130, 133, 136]),
  .inr (0, 2, []),
  .inr (0, 5, []),
  .inl (3, [none, none, none, some (some 125), some (some 126)]),
  .inr (0, 10, []),
  .inr (0, 80, []),
  .inl (3, [none, none, none, some (some 128), some (some 129)]),
  .inr (0, 10, []),
  .inr (0, 80, []),
  .inl (3, [none, none, none, some (some 131), some (some 132)]),
  .inr (0, 10, []),
  .inr (0, 80, []),
  .inl (3, [none, none, none, some (some 134), some (some 135)]),
  .inr (0, 10, []),
  .inr (0, 80, []),
  .inl (3, [none, none, none, some (some 137), some (some 138)]),
  .inr (0, 10, []),
  .inr (0, 80, []),
  .inl (4, [some (some 140), some (some 141), none, none, some (some 142)]),
  .inr (4, 5, [143, 146, 149, 152, 155]),
  .inr (0, 2, []),
  .inr (0, 5, []),
  .inl (3, [none, none, none, some (some 144), some (some 145)]),
  .inr (0, 10, []),
  .inr (0, 80, []),
  .inl (3, [none, none, none, some (some 147), some (some 148)]),
  .inr (0, 10, []),
  .inr (0, 80, []),
  .inl (3, [none, none, none, some (some 150), some (some 151)]),
  .inr (0, 10, []),
  .inr (0, 80, []),
  .inl (3, [none, none, none, some (some 153), some (some 154)]),
  .inr (0, 10, []),
  .inr (0, 80, []),
  .inl (3, [none, none, none, some (some 156), some (some 157)]),
  .inr (0, 10, []),
  .inr (0, 80, []),
  .inr (3, 2, [163, 182]),
  .inr (2, 2, []),
  .inl (2, [none, some (some 161)]),
  .inr (1, 80, []),
  .inl (1, [none, none, none, none, none]),
  .inl (4, [some (some 164), some (some 165), none, none, some (some 166)]),
  .inr (4, 5, [167, 170, 173, 176, 179]),
  .inr (0, 2, []),
  .inr (0, 5, []),
  .inl (3, [none, none, none, some (some 168), some (some 169)]),
  .inr (0, 10, []),
  .inr (0, 80, []),
  .inl (3, [none, none, none, some (some 171), some (some 172)]),
  .inr (0, 10, []),
  .inr (0, 80, []),
  .inl (3, [none, none, none, some (some 174), some (some 175)]),
  .inr (0, 10, []),
  .inr (0, 80, []),
  .inl (3, [none, none, none, some (some 177), some (some 178)]),
  .inr (0, 10, []),
  .inr (0, 80, []),
  .inl (3, [none, none, none, some (some 180), some (some 181)]),
  .inr (0, 10, []),
  .inr (0, 80, []),
  .inl (4, [some (some 183), some (some 184), none, none, some (some 185)]),
  .inr (4, 5, [186, 189, 192, 195, 198]),
  .inr (0, 2, []),
  .inr (0, 5, []),
  .inl (3, [none, none, none, some (some 187), some (some 188)]),
  .inr (0, 10, []),
  .inr (0, 80, []),
  .inl (3, [none, none, none, some (some 190), some (some 191)]),
  .inr (0, 10, []),
  .inr (0, 80, []),
  .inl (3, [none, none, none, some (some 193), some (some 194)]),
  .inr (0, 10, []),
  .inr (0, 80, []),
  .inl (3, [none, none, none, some (some 196), some (some 197)]),
  .inr (0, 10, []),
  .inr (0, 80, []),
  .inl (3, [none, none, none, some (some 199), some (some 200)]),
  .inr (0, 10, []),
  .inr (0, 80, []),
  .inl (7, [some (some 202), some (some 203), some (some 204), none, some (some 205), some (some 206), some (some 207), none, none, some (some 208), none, none, none, none, none, some (some 209), none, none, none]),
  .inr (0, 470, []),
  .inr (0, 470, []),
  .inr (0, 2820, []),
  .inr (0, 940, []),
  .inr (2, 2, []),
  .inr (0, 80, []),
  .inr (0, 5, []),
  .inr (0, 320, [])]
def shC (i : Nat) : gE := (shL[i]?).getD (.inl (0, []))
def S0 (ad : Nat → Nat) : gS := (210, shC, ad)
theorem sh_at (ad : Nat → Nat) (i : Nat) (e : gE) (h : shL[i]? = some e) : gat (S0 ad) i e := ⟨by have := (List.getElem?_eq_some_iff.mp h).1; exact this, by show (shL[i]?).getD _ = e; rw [h]; rfl⟩
theorem sh_cs (ad : Nat → Nat) : gat (S0 ad) 0 (.inl (6, [some (some 1), some (some 20), some (some 39), some (some 42), some (some 158), some (some 159), some (some 160), some (some 162)])) := sh_at ad 0 _ rfl
theorem sh_tally (ad : Nat → Nat) : gat (S0 ad) 39 (.inl (5, [none, none, none, none, none, none, some (some 40), some (some 41)])) := sh_at ad 39 _ rfl
theorem sh_tvals (ad : Nat → Nat) : gat (S0 ad) 40 (.inr (0, 5, [])) := sh_at ad 40 _ rfl
theorem sh_tvotes (ad : Nat → Nat) : gat (S0 ad) 41 (.inr (0, 5, [])) := sh_at ad 41 _ rfl
theorem sh_hist (ad : Nat → Nat) : gat (S0 ad) 42 (.inl (0, [none, none, some (some 43)])) := sh_at ad 42 _ rfl
theorem sh_states (ad : Nat → Nat) : gat (S0 ad) 43 (.inr (3, 6, [44, 63, 82, 101, 120, 139])) := sh_at ad 43 _ rfl
theorem sh_slots (ad : Nat → Nat) : gat (S0 ad) 158 (.inr (3, 2, [163, 182])) := sh_at ad 158 _ rfl
theorem sh_cSaved (ad : Nat → Nat) : gat (S0 ad) 159 (.inr (2, 2, [])) := sh_at ad 159 _ rfl
theorem sh_cpad (ad : Nat → Nat) : gat (S0 ad) 160 (.inl (2, [none, some (some 161)])) := sh_at ad 160 _ rfl
theorem sh_codes (ad : Nat → Nat) : gat (S0 ad) 161 (.inr (1, 80, [])) := sh_at ad 161 _ rfl
theorem sh_reader (ad : Nat → Nat) : gat (S0 ad) 162 (.inl (1, [none, none, none, none, none])) := sh_at ad 162 _ rfl
theorem sh_M (ad : Nat → Nat) : gat (S0 ad) 201 (.inl (7, [some (some 202), some (some 203), some (some 204), none, some (some 205), some (some 206), some (some 207), none, none, some (some 208), none, none, none, none, none, some (some 209), none, none, none])) := sh_at ad 201 _ rfl
theorem sh_mnow (ad : Nat → Nat) : gat (S0 ad) 202 (.inr (0, 470, [])) := sh_at ad 202 _ rfl
theorem sh_mkept (ad : Nat → Nat) : gat (S0 ad) 203 (.inr (0, 470, [])) := sh_at ad 203 _ rfl
theorem sh_mhistory (ad : Nat → Nat) : gat (S0 ad) 204 (.inr (0, 2820, [])) := sh_at ad 204 _ rfl
theorem sh_msaved (ad : Nat → Nat) : gat (S0 ad) 205 (.inr (0, 940, [])) := sh_at ad 205 _ rfl
theorem sh_misSaved (ad : Nat → Nat) : gat (S0 ad) 206 (.inr (2, 2, [])) := sh_at ad 206 _ rfl
theorem sh_mpad (ad : Nat → Nat) : gat (S0 ad) 207 (.inr (0, 80, [])) := sh_at ad 207 _ rfl
theorem sh_mcomes (ad : Nat → Nat) : gat (S0 ad) 208 (.inr (0, 5, [])) := sh_at ad 208 _ rfl
theorem sh_morders (ad : Nat → Nat) : gat (S0 ad) 209 (.inr (0, 320, [])) := sh_at ad 209 _ rfl
def bases : List Nat := [1, 20, 44, 63, 82, 101, 120, 139, 163, 182]
def isB (B : Nat) : Prop := B ∈ bases
theorem isB_lt {B : Nat} (h : isB B) : 1 ≤ B ∧ B + 19 ≤ 201 := by
  have : ∀ B ∈ bases, 1 ≤ B ∧ B + 19 ≤ 201 := by decide
  exact this B h
theorem isB_apart {B C : Nat} (h : isB B) (h2 : isB C) : B = C ∨ B + 19 ≤ C ∨ C + 19 ≤ B := by
  have : ∀ B ∈ bases, ∀ C ∈ bases, B = C ∨ B + 19 ≤ C ∨ C + 19 ≤ B := by decide
  exact this B h C h2
theorem isB_far {B : Nat} (h : isB B) (i : Nat) (hi : i ∈ [0, 39, 40, 41, 42, 43, 158, 159, 160, 161, 162]) : i < B ∨ B + 19 ≤ i := by
  have : ∀ B ∈ bases, ∀ i ∈ [0, 39, 40, 41, 42, 43, 158, 159, 160, 161, 162], i < B ∨ B + 19 ≤ i := by decide
  exact this B h i hi
theorem isB_hist {j : Nat} (h : j < 6) : isB (44 + 19 * j) := by
  have : ∀ j, j < 6 → (44 + 19 * j) ∈ bases := by decide
  exact this j h
theorem isB_slot {j : Nat} (h : j < 2) : isB (163 + 19 * j) := by
  have : ∀ j, j < 2 → (163 + 19 * j) ∈ bases := by decide
  exact this j h
theorem isB_1 : isB 1 := by unfold isB; decide
theorem isB_20 : isB 20 := by unfold isB; decide
theorem states_at {j : Nat} (h : j < 6) : ([44, 63, 82, 101, 120, 139] : List Nat)[j]? = some (44 + 19 * j) := by
  have : ∀ j, j < 6 → ([44, 63, 82, 101, 120, 139] : List Nat)[j]? = some (44 + 19 * j) := by decide
  exact this j h
theorem slots_at {j : Nat} (h : j < 2) : ([163, 182] : List Nat)[j]? = some (163 + 19 * j) := by
  have : ∀ j, j < 2 → ([163, 182] : List Nat)[j]? = some (163 + 19 * j) := by decide
  exact this j h
theorem sh_st (ad : Nat → Nat) {B : Nat} (h : isB B) : gat (S0 ad) (B) (.inl (4, [some (some (B + 1)), some (some (B + 2)), none, none, some (some (B + 3))])) := by
  simp only [isB, bases, List.mem_cons, List.not_mem_nil, or_false] at h
  rcases h with rfl | rfl | rfl | rfl | rfl | rfl | rfl | rfl | rfl | rfl <;> exact sh_at ad _ _ rfl
theorem sh_st1 (ad : Nat → Nat) {B : Nat} (h : isB B) : gat (S0 ad) (B + 1) (.inr (4, 5, [B + 4, B + 7, B + 10, B + 13, B + 16])) := by
  simp only [isB, bases, List.mem_cons, List.not_mem_nil, or_false] at h
  rcases h with rfl | rfl | rfl | rfl | rfl | rfl | rfl | rfl | rfl | rfl <;> exact sh_at ad _ _ rfl
theorem sh_st2 (ad : Nat → Nat) {B : Nat} (h : isB B) : gat (S0 ad) (B + 2) (.inr (0, 2, [])) := by
  simp only [isB, bases, List.mem_cons, List.not_mem_nil, or_false] at h
  rcases h with rfl | rfl | rfl | rfl | rfl | rfl | rfl | rfl | rfl | rfl <;> exact sh_at ad _ _ rfl
theorem sh_st3 (ad : Nat → Nat) {B : Nat} (h : isB B) : gat (S0 ad) (B + 3) (.inr (0, 5, [])) := by
  simp only [isB, bases, List.mem_cons, List.not_mem_nil, or_false] at h
  rcases h with rfl | rfl | rfl | rfl | rfl | rfl | rfl | rfl | rfl | rfl <;> exact sh_at ad _ _ rfl
theorem sh_sheet (ad : Nat → Nat) {B t : Nat} (h : isB B) (ht : t < 5) : gat (S0 ad) (B + 4 + 3 * t) (.inl (3, [none, none, none, some (some (B + 4 + 3 * t + 1)), some (some (B + 4 + 3 * t + 2))])) := by
  simp only [isB, bases, List.mem_cons, List.not_mem_nil, or_false] at h
  obtain rfl | rfl | rfl | rfl | rfl : t = 0 ∨ t = 1 ∨ t = 2 ∨ t = 3 ∨ t = 4 := by omega
  all_goals
    rcases h with rfl | rfl | rfl | rfl | rfl | rfl | rfl | rfl | rfl | rfl <;> exact sh_at ad _ _ rfl
theorem sh_counts (ad : Nat → Nat) {B t : Nat} (h : isB B) (ht : t < 5) : gat (S0 ad) (B + 4 + 3 * t + 1) (.inr (0, 10, [])) := by
  simp only [isB, bases, List.mem_cons, List.not_mem_nil, or_false] at h
  obtain rfl | rfl | rfl | rfl | rfl : t = 0 ∨ t = 1 ∨ t = 2 ∨ t = 3 ∨ t = 4 := by omega
  all_goals
    rcases h with rfl | rfl | rfl | rfl | rfl | rfl | rfl | rfl | rfl | rfl <;> exact sh_at ad _ _ rfl
theorem sh_marks (ad : Nat → Nat) {B t : Nat} (h : isB B) (ht : t < 5) : gat (S0 ad) (B + 4 + 3 * t + 2) (.inr (0, 80, [])) := by
  simp only [isB, bases, List.mem_cons, List.not_mem_nil, or_false] at h
  obtain rfl | rfl | rfl | rfl | rfl : t = 0 ∨ t = 1 ∨ t = 2 ∨ t = 3 ∨ t = 4 := by omega
  all_goals
    rcases h with rfl | rfl | rfl | rfl | rfl | rfl | rfl | rfl | rfl | rfl <;> exact sh_at ad _ _ rfl
theorem sheets_at {B t : Nat} (ht : t < 5) : ([B + 4, B + 7, B + 10, B + 13, B + 16] : List Nat)[t]? = some (B + 4 + 3 * t) := by
  match t, ht with
  | 0, _ => rfl
  | 1, _ => rfl
  | 2, _ => rfl
  | 3, _ => rfl
  | 4, _ => rfl
/-- posts of methods that change nothing -/
def pR (X : gX) (e : Int32) : Int32 → gX → Prop := fun v X' => X' = X ∧ v = e
theorem up_ind {P : Nat → Prop} (e : Nat) (h : ∀ k, k ≤ e → (k < e → P (k + 1)) → P k) : ∀ k, k ≤ e → P k := by
  have : ∀ n k, k ≤ e → e - k ≤ n → P k := by
    intro n
    induction n with
    | zero => intro k hk hn; exact h k hk (fun h1 => by omega)
    | succ n ih => intro k hk hn; exact h k hk (fun h1 => ih (k + 1) (by omega) (by omega))
  exact fun k hk => this (e - k) k hk (Nat.le_refl _)
theorem dn_ind {P : Nat → Prop} (h : ∀ k, (∀ j, k = j + 1 → P j) → P k) : ∀ k, P k := by
  intro k
  induction k with
  | zero => exact h 0 (fun j hj => by omega)
  | succ k ih => exact h (k + 1) (fun j hj => by have : k = j := by omega
                                                 subst this; exact ih)
def gle : List Value → List Value → Prop
  | [], [] => True
  | a :: as, b :: bs => (a = .null ∨ a = b) ∧ gle as bs
  | _, _ => False
theorem gle_at : ∀ {as bs : List Value}, gle as bs → ∀ (i : Nat) (v : Value), as[i]? = some v → v ≠ .null → bs[i]? = some v := by
  intro as
  induction as with
  | nil => intro bs _ i v h; simp at h
  | cons a as ih =>
    intro bs h i v hv hn
    cases bs with
    | nil => exact h.elim
    | cons b bs =>
      obtain ⟨h1, h2⟩ := h
      cases i with
      | zero =>
        simp at hv
        subst hv
        rcases h1 with h1 | h1
        · exact absurd h1 hn
        · subst h1; rfl
      | succ i =>
        simp at hv ⊢
        exact ih h2 i v hv hn
theorem g_weak {F : gF} {S : gS} {K : Nat × Nat} {X : gX} {pc : Nat} {ls ls2 st : List Value} (h : G F S K X pc ls st) (hl : gle ls ls2) : G F S K X pc ls2 st := by
  obtain ⟨p, l, e, R, s, m, args, below, meth, c, Γ, A, Q⟩ := F
  intro H locs L hL hc0 hP hD hS
  exact h H locs L ⟨hL.1, hL.2.1, fun i v hi hv => hL.2.2 i v (gle_at hl i v hi hv) hv⟩ hc0 hP hD hS
section
variable {F : gF} {own : String} {cc : ByteArray} {nL : Nat} {rm : Room} {S : gS} {K : Nat × Nat} {X : gX} {pc pc' : Nat} {ls st : List Value}
theorem g_callV0R (hC : Cx F own cc nL rm) {y : MethodName} {cc2 : ByteArray} {nL2 : Nat} {rt : Option FieldType} {fr lo : Nat} {rest : List Value} {id ci : Nat} {fs : List (Option (Option Nat))} {idx : Nat} {e : Int32} (hM : Ct F.2.1 S y cc2 nL2 rt fr lo [.ref id] X 0 0 (pI S (pR X e))) (hk : MLV own idx y cc2 nL2 rt 0) (hsh : gat S id (.inl (ci, fs))) (hci : (gCl[ci]?).map (fun q => q.1) = some y.cls) (hroom : fr + 1 ≤ rm.frames ∧ 8 + (nL2 + 11) + lo ≤ rm.locals) (hW : (rest.map fun v => v.category).sum ≤ 8) (d : decode cc pc = .ok (.invokevirtual idx, 3)) (hp : pc + 3 = pc') (hf : K.1 ≤ rm.cells ∧ K.2 ≤ rm.slots) (kk : G F S K X pc' ls (.int e :: rest)) : G F S K X pc ls (.ref id :: rest) :=
  g_callV0I hC hM hk hsh hci hroom hW d hp hf (fun v X' h => by obtain ⟨rfl, rfl⟩ := h; exact kk)
theorem g_callV1R (hC : Cx F own cc nL rm) {y : MethodName} {cc2 : ByteArray} {nL2 : Nat} {rt : Option FieldType} {fr lo : Nat} {a0 : Value} {rest : List Value} {id ci : Nat} {fs : List (Option (Option Nat))} {idx : Nat} {e : Int32} (hM : Ct F.2.1 S y cc2 nL2 rt fr lo [.ref id, a0] X 0 0 (pI S (pR X e))) (hk : MLV own idx y cc2 nL2 rt 1) (hsh : gat S id (.inl (ci, fs))) (hci : (gCl[ci]?).map (fun q => q.1) = some y.cls) (hroom : fr + 1 ≤ rm.frames ∧ 8 + (nL2 + 11) + lo ≤ rm.locals) (hW : (rest.map fun v => v.category).sum ≤ 8) (d : decode cc pc = .ok (.invokevirtual idx, 3)) (hp : pc + 3 = pc') (hf : K.1 ≤ rm.cells ∧ K.2 ≤ rm.slots) (kk : G F S K X pc' ls (.int e :: rest)) : G F S K X pc ls (a0 :: .ref id :: rest) :=
  g_callV1I hC hM hk hsh hci hroom hW d hp hf (fun v X' h => by obtain ⟨rfl, rfl⟩ := h; exact kk)
theorem g_callV2R (hC : Cx F own cc nL rm) {y : MethodName} {cc2 : ByteArray} {nL2 : Nat} {rt : Option FieldType} {fr lo : Nat} {a0 a1 : Value} {rest : List Value} {id ci : Nat} {fs : List (Option (Option Nat))} {idx : Nat} {e : Int32} (hM : Ct F.2.1 S y cc2 nL2 rt fr lo [.ref id, a0, a1] X 0 0 (pI S (pR X e))) (hk : MLV own idx y cc2 nL2 rt 2) (hsh : gat S id (.inl (ci, fs))) (hci : (gCl[ci]?).map (fun q => q.1) = some y.cls) (hroom : fr + 1 ≤ rm.frames ∧ 8 + (nL2 + 11) + lo ≤ rm.locals) (hW : (rest.map fun v => v.category).sum ≤ 8) (d : decode cc pc = .ok (.invokevirtual idx, 3)) (hp : pc + 3 = pc') (hf : K.1 ≤ rm.cells ∧ K.2 ≤ rm.slots) (kk : G F S K X pc' ls (.int e :: rest)) : G F S K X pc ls (a1 :: a0 :: .ref id :: rest) :=
  g_callV2I hC hM hk hsh hci hroom hW d hp hf (fun v X' h => by obtain ⟨rfl, rfl⟩ := h; exact kk)
theorem g_callV3R (hC : Cx F own cc nL rm) {y : MethodName} {cc2 : ByteArray} {nL2 : Nat} {rt : Option FieldType} {fr lo : Nat} {a0 a1 a2 : Value} {rest : List Value} {id ci : Nat} {fs : List (Option (Option Nat))} {idx : Nat} {e : Int32} (hM : Ct F.2.1 S y cc2 nL2 rt fr lo [.ref id, a0, a1, a2] X 0 0 (pI S (pR X e))) (hk : MLV own idx y cc2 nL2 rt 3) (hsh : gat S id (.inl (ci, fs))) (hci : (gCl[ci]?).map (fun q => q.1) = some y.cls) (hroom : fr + 1 ≤ rm.frames ∧ 8 + (nL2 + 11) + lo ≤ rm.locals) (hW : (rest.map fun v => v.category).sum ≤ 8) (d : decode cc pc = .ok (.invokevirtual idx, 3)) (hp : pc + 3 = pc') (hf : K.1 ≤ rm.cells ∧ K.2 ≤ rm.slots) (kk : G F S K X pc' ls (.int e :: rest)) : G F S K X pc ls (a2 :: a1 :: a0 :: .ref id :: rest) :=
  g_callV3I hC hM hk hsh hci hroom hW d hp hf (fun v X' h => by obtain ⟨rfl, rfl⟩ := h; exact kk)
theorem g_callV4R (hC : Cx F own cc nL rm) {y : MethodName} {cc2 : ByteArray} {nL2 : Nat} {rt : Option FieldType} {fr lo : Nat} {a0 a1 a2 a3 : Value} {rest : List Value} {id ci : Nat} {fs : List (Option (Option Nat))} {idx : Nat} {e : Int32} (hM : Ct F.2.1 S y cc2 nL2 rt fr lo [.ref id, a0, a1, a2, a3] X 0 0 (pI S (pR X e))) (hk : MLV own idx y cc2 nL2 rt 4) (hsh : gat S id (.inl (ci, fs))) (hci : (gCl[ci]?).map (fun q => q.1) = some y.cls) (hroom : fr + 1 ≤ rm.frames ∧ 8 + (nL2 + 11) + lo ≤ rm.locals) (hW : (rest.map fun v => v.category).sum ≤ 8) (d : decode cc pc = .ok (.invokevirtual idx, 3)) (hp : pc + 3 = pc') (hf : K.1 ≤ rm.cells ∧ K.2 ≤ rm.slots) (kk : G F S K X pc' ls (.int e :: rest)) : G F S K X pc ls (a3 :: a2 :: a1 :: a0 :: .ref id :: rest) :=
  g_callV4I hC hM hk hsh hci hroom hW d hp hf (fun v X' h => by obtain ⟨rfl, rfl⟩ := h; exact kk)
theorem g_callS1R (hC : Cx F own cc nL rm) {y : MethodName} {cc2 : ByteArray} {nL2 : Nat} {rt : Option FieldType} {fr lo : Nat} {a0 : Value} {rest : List Value} {idx : Nat} {e : Int32} (hM : Ct F.2.1 S y cc2 nL2 rt fr lo [a0] X 0 0 (pI S (pR X e))) (hk : MLS own idx y cc2 nL2 rt 1) (hroom : fr + 1 ≤ rm.frames ∧ 8 + (nL2 + 11) + lo ≤ rm.locals) (hW : (rest.map fun v => v.category).sum ≤ 8) (d : decode cc pc = .ok (.invokestatic idx, 3)) (hp : pc + 3 = pc') (hf : K.1 ≤ rm.cells ∧ K.2 ≤ rm.slots) (kk : G F S K X pc' ls (.int e :: rest)) : G F S K X pc ls (a0 :: rest) :=
  g_callS1I hC hM hk hroom hW d hp hf (fun v X' h => by obtain ⟨rfl, rfl⟩ := h; exact kk)
theorem g_callS2R (hC : Cx F own cc nL rm) {y : MethodName} {cc2 : ByteArray} {nL2 : Nat} {rt : Option FieldType} {fr lo : Nat} {a0 a1 : Value} {rest : List Value} {idx : Nat} {e : Int32} (hM : Ct F.2.1 S y cc2 nL2 rt fr lo [a0, a1] X 0 0 (pI S (pR X e))) (hk : MLS own idx y cc2 nL2 rt 2) (hroom : fr + 1 ≤ rm.frames ∧ 8 + (nL2 + 11) + lo ≤ rm.locals) (hW : (rest.map fun v => v.category).sum ≤ 8) (d : decode cc pc = .ok (.invokestatic idx, 3)) (hp : pc + 3 = pc') (hf : K.1 ≤ rm.cells ∧ K.2 ≤ rm.slots) (kk : G F S K X pc' ls (.int e :: rest)) : G F S K X pc ls (a1 :: a0 :: rest) :=
  g_callS2I hC hM hk hroom hW d hp hf (fun v X' h => by obtain ⟨rfl, rfl⟩ := h; exact kk)
theorem g_callS3R (hC : Cx F own cc nL rm) {y : MethodName} {cc2 : ByteArray} {nL2 : Nat} {rt : Option FieldType} {fr lo : Nat} {a0 a1 a2 : Value} {rest : List Value} {idx : Nat} {e : Int32} (hM : Ct F.2.1 S y cc2 nL2 rt fr lo [a0, a1, a2] X 0 0 (pI S (pR X e))) (hk : MLS own idx y cc2 nL2 rt 3) (hroom : fr + 1 ≤ rm.frames ∧ 8 + (nL2 + 11) + lo ≤ rm.locals) (hW : (rest.map fun v => v.category).sum ≤ 8) (d : decode cc pc = .ok (.invokestatic idx, 3)) (hp : pc + 3 = pc') (hf : K.1 ≤ rm.cells ∧ K.2 ≤ rm.slots) (kk : G F S K X pc' ls (.int e :: rest)) : G F S K X pc ls (a2 :: a1 :: a0 :: rest) :=
  g_callS3I hC hM hk hroom hW d hp hf (fun v X' h => by obtain ⟨rfl, rfl⟩ := h; exact kk)
theorem g_callS4R (hC : Cx F own cc nL rm) {y : MethodName} {cc2 : ByteArray} {nL2 : Nat} {rt : Option FieldType} {fr lo : Nat} {a0 a1 a2 a3 : Value} {rest : List Value} {idx : Nat} {e : Int32} (hM : Ct F.2.1 S y cc2 nL2 rt fr lo [a0, a1, a2, a3] X 0 0 (pI S (pR X e))) (hk : MLS own idx y cc2 nL2 rt 4) (hroom : fr + 1 ≤ rm.frames ∧ 8 + (nL2 + 11) + lo ≤ rm.locals) (hW : (rest.map fun v => v.category).sum ≤ 8) (d : decode cc pc = .ok (.invokestatic idx, 3)) (hp : pc + 3 = pc') (hf : K.1 ≤ rm.cells ∧ K.2 ≤ rm.slots) (kk : G F S K X pc' ls (.int e :: rest)) : G F S K X pc ls (a3 :: a2 :: a1 :: a0 :: rest) :=
  g_callS4I hC hM hk hroom hW d hp hf (fun v X' h => by obtain ⟨rfl, rfl⟩ := h; exact kk)
theorem g_callN1R (hC : Cx F own cc nL rm) {y : MethodName} {cc2 : ByteArray} {nL2 : Nat} {rt : Option FieldType} {fr lo : Nat} {a0 : Value} {rest : List Value} {idx : Nat} {e : Int32} (hM : Ct F.2.1 S y cc2 nL2 rt fr lo [a0] X 0 0 (pI S (pR X e))) (hk : MLN own idx y cc2 nL2 rt 1) (hroom : fr + 1 ≤ rm.frames ∧ 8 + (nL2 + 11) + lo ≤ rm.locals) (hW : (rest.map fun v => v.category).sum ≤ 8) (d : decode cc pc = .ok (.invokestatic idx, 3)) (hp : pc + 3 = pc') (hf : K.1 ≤ rm.cells ∧ K.2 ≤ rm.slots) (kk : G F S K X pc' ls (.int e :: rest)) : G F S K X pc ls (a0 :: rest) :=
  g_callN1I hC hM hk hroom hW d hp hf (fun v X' h => by obtain ⟨rfl, rfl⟩ := h; exact kk)
theorem g_callN2R (hC : Cx F own cc nL rm) {y : MethodName} {cc2 : ByteArray} {nL2 : Nat} {rt : Option FieldType} {fr lo : Nat} {a0 a1 : Value} {rest : List Value} {idx : Nat} {e : Int32} (hM : Ct F.2.1 S y cc2 nL2 rt fr lo [a0, a1] X 0 0 (pI S (pR X e))) (hk : MLN own idx y cc2 nL2 rt 2) (hroom : fr + 1 ≤ rm.frames ∧ 8 + (nL2 + 11) + lo ≤ rm.locals) (hW : (rest.map fun v => v.category).sum ≤ 8) (d : decode cc pc = .ok (.invokestatic idx, 3)) (hp : pc + 3 = pc') (hf : K.1 ≤ rm.cells ∧ K.2 ≤ rm.slots) (kk : G F S K X pc' ls (.int e :: rest)) : G F S K X pc ls (a1 :: a0 :: rest) :=
  g_callN2I hC hM hk hroom hW d hp hf (fun v X' h => by obtain ⟨rfl, rfl⟩ := h; exact kk)
theorem g_callN3R (hC : Cx F own cc nL rm) {y : MethodName} {cc2 : ByteArray} {nL2 : Nat} {rt : Option FieldType} {fr lo : Nat} {a0 a1 a2 : Value} {rest : List Value} {idx : Nat} {e : Int32} (hM : Ct F.2.1 S y cc2 nL2 rt fr lo [a0, a1, a2] X 0 0 (pI S (pR X e))) (hk : MLN own idx y cc2 nL2 rt 3) (hroom : fr + 1 ≤ rm.frames ∧ 8 + (nL2 + 11) + lo ≤ rm.locals) (hW : (rest.map fun v => v.category).sum ≤ 8) (d : decode cc pc = .ok (.invokestatic idx, 3)) (hp : pc + 3 = pc') (hf : K.1 ≤ rm.cells ∧ K.2 ≤ rm.slots) (kk : G F S K X pc' ls (.int e :: rest)) : G F S K X pc ls (a2 :: a1 :: a0 :: rest) :=
  g_callN3I hC hM hk hroom hW d hp hf (fun v X' h => by obtain ⟨rfl, rfl⟩ := h; exact kk)
theorem g_callN4R (hC : Cx F own cc nL rm) {y : MethodName} {cc2 : ByteArray} {nL2 : Nat} {rt : Option FieldType} {fr lo : Nat} {a0 a1 a2 a3 : Value} {rest : List Value} {idx : Nat} {e : Int32} (hM : Ct F.2.1 S y cc2 nL2 rt fr lo [a0, a1, a2, a3] X 0 0 (pI S (pR X e))) (hk : MLN own idx y cc2 nL2 rt 4) (hroom : fr + 1 ≤ rm.frames ∧ 8 + (nL2 + 11) + lo ≤ rm.locals) (hW : (rest.map fun v => v.category).sum ≤ 8) (d : decode cc pc = .ok (.invokestatic idx, 3)) (hp : pc + 3 = pc') (hf : K.1 ≤ rm.cells ∧ K.2 ≤ rm.slots) (kk : G F S K X pc' ls (.int e :: rest)) : G F S K X pc ls (a3 :: a2 :: a1 :: a0 :: rest) :=
  g_callN4I hC hM hk hroom hW d hp hf (fun v X' h => by obtain ⟨rfl, rfl⟩ := h; exact kk)
end
abbrev K_X0_record (l : Launch) (ad : Nat → Nat) (as : List Value) (X : gX) (post : gX → Prop) : Prop := Ct l (S0 ad) yX0_record cX0_record 2 none 3 69 as X 0 0 (pV (S0 ad) post)
abbrev K_X0_takeBackInto (l : Launch) (ad : Nat → Nat) (as : List Value) (X : gX) (post : gX → Prop) : Prop := Ct l (S0 ad) yX0_takeBackInto cX0_takeBackInto 2 none 3 69 as X 0 0 (pV (S0 ad) post)
abbrev K_X1_begin (l : Launch) (ad : Nat → Nat) (as : List Value) (X : gX) (post : gX → Prop) : Prop := Ct l (S0 ad) yX1_begin cX1_begin 1 none 0 0 as X 0 0 (pV (S0 ad) post)
abbrev K_X1_isAfterOrder (l : Launch) (ad : Nat → Nat) (as : List Value) (X : gX) (post : Int32 → gX → Prop) : Prop := Ct l (S0 ad) yX1_isAfterOrder cX1_isAfterOrder 1 (some .boolean) 0 0 as X 0 0 (pI (S0 ad) post)
abbrev K_X1_takes (l : Launch) (ad : Nat → Nat) (as : List Value) (X : gX) (post : Int32 → gX → Prop) : Prop := Ct l (S0 ad) yX1_takes cX1_takes 2 (some .boolean) 3 63 as X 0 0 (pI (S0 ad) post)
abbrev K_X1_goesOn (l : Launch) (ad : Nat → Nat) (as : List Value) (X : gX) (post : Int32 → gX → Prop) : Prop := Ct l (S0 ad) yX1_goesOn cX1_goesOn 3 (some .boolean) 0 0 as X 0 0 (pI (S0 ad) post)
abbrev K_X1_takesKind (l : Launch) (ad : Nat → Nat) (as : List Value) (X : gX) (post : Int32 → gX → Prop) : Prop := Ct l (S0 ad) yX1_takesKind cX1_takesKind 2 (some .boolean) 1 22 as X 0 0 (pI (S0 ad) post)
abbrev K_X1_takesField (l : Launch) (ad : Nat → Nat) (as : List Value) (X : gX) (post : Int32 → gX → Prop) : Prop := Ct l (S0 ad) yX1_takesField cX1_takesField 2 (some .boolean) 1 22 as X 0 0 (pI (S0 ad) post)
abbrev K_X1_takesFirstDigit (l : Launch) (ad : Nat → Nat) (as : List Value) (X : gX) (post : Int32 → gX → Prop) : Prop := Ct l (S0 ad) yX1_takesFirstDigit cX1_takesFirstDigit 2 (some .boolean) 1 22 as X 0 0 (pI (S0 ad) post)
abbrev K_X1_takesOneMoreDigit (l : Launch) (ad : Nat → Nat) (as : List Value) (X : gX) (post : Int32 → gX → Prop) : Prop := Ct l (S0 ad) yX1_takesOneMoreDigit cX1_takesOneMoreDigit 2 (some .boolean) 1 20 as X 0 0 (pI (S0 ad) post)
abbrev K_X1_takesPressure (l : Launch) (ad : Nat → Nat) (as : List Value) (X : gX) (post : Int32 → gX → Prop) : Prop := Ct l (S0 ad) yX1_takesPressure cX1_takesPressure 2 (some .boolean) 2 42 as X 0 0 (pI (S0 ad) post)
abbrev K_X1_isDigit (l : Launch) (ad : Nat → Nat) (as : List Value) (X : gX) (post : Int32 → gX → Prop) : Prop := Ct l (S0 ad) yX1_isDigit cX1_isDigit 1 (some .boolean) 0 0 as X 0 0 (pI (S0 ad) post)
abbrev K_X2_sizeOf (l : Launch) (ad : Nat → Nat) (as : List Value) (X : gX) (post : Int32 → gX → Prop) : Prop := Ct l (S0 ad) yX2_sizeOf cX2_sizeOf 6 (some .int) 1 22 as X 0 0 (pI (S0 ad) post)
abbrev K_X2_append (l : Launch) (ad : Nat → Nat) (as : List Value) (X : gX) (post : gX → Prop) : Prop := Ct l (S0 ad) yX2_append cX2_append 5 none 0 0 as X 0 0 (pV (S0 ad) post)
abbrev K_X2_firstFault (l : Launch) (ad : Nat → Nat) (as : List Value) (X : gX) (post : Int32 → gX → Prop) : Prop := Ct l (S0 ad) yX2_firstFault cX2_firstFault 3 (some .int) 4 84 as X 0 0 (pI (S0 ad) post)
abbrev K_X3_copyFrom (l : Launch) (ad : Nat → Nat) (as : List Value) (X : gX) (post : gX → Prop) : Prop := Ct l (S0 ad) yX3_copyFrom cX3_copyFrom 2 none 1 26 as X 0 0 (pV (S0 ad) post)
abbrev K_X3_hasRoom (l : Launch) (ad : Nat → Nat) (as : List Value) (X : gX) (post : Int32 → gX → Prop) : Prop := Ct l (S0 ad) yX3_hasRoom cX3_hasRoom 2 (some .boolean) 0 0 as X 0 0 (pI (S0 ad) post)
abbrev K_X3_addMark (l : Launch) (ad : Nat → Nat) (as : List Value) (X : gX) (post : gX → Prop) : Prop := Ct l (S0 ad) yX3_addMark cX3_addMark 4 none 1 21 as X 0 0 (pV (S0 ad) post)
abbrev K_X3_valueAt (l : Launch) (ad : Nat → Nat) (as : List Value) (X : gX) (post : Int32 → gX → Prop) : Prop := Ct l (S0 ad) yX3_valueAt cX3_valueAt 3 (some .int) 0 0 as X 0 0 (pI (S0 ad) post)
abbrev K_X3_strengthAt (l : Launch) (ad : Nat → Nat) (as : List Value) (X : gX) (post : Int32 → gX → Prop) : Prop := Ct l (S0 ad) yX3_strengthAt cX3_strengthAt 3 (some .int) 0 0 as X 0 0 (pI (S0 ad) post)
abbrev K_X3_isStruck (l : Launch) (ad : Nat → Nat) (as : List Value) (X : gX) (post : Int32 → gX → Prop) : Prop := Ct l (S0 ad) yX3_isStruck cX3_isStruck 3 (some .boolean) 0 0 as X 0 0 (pI (S0 ad) post)
abbrev K_X3_isReadable (l : Launch) (ad : Nat → Nat) (as : List Value) (X : gX) (post : Int32 → gX → Prop) : Prop := Ct l (S0 ad) yX3_isReadable cX3_isReadable 5 (some .boolean) 0 0 as X 0 0 (pI (S0 ad) post)
abbrev K_X3_strikeUpTo (l : Launch) (ad : Nat → Nat) (as : List Value) (X : gX) (post : Int32 → gX → Prop) : Prop := Ct l (S0 ad) yX3_strikeUpTo cX3_strikeUpTo 5 (some .int) 1 22 as X 0 0 (pI (S0 ad) post)
abbrev K_X3_lastReadable (l : Launch) (ad : Nat → Nat) (as : List Value) (X : gX) (post : Int32 → gX → Prop) : Prop := Ct l (S0 ad) yX3_lastReadable cX3_lastReadable 4 (some .int) 1 24 as X 0 0 (pI (S0 ad) post)
abbrev K_X3_readableMarks (l : Launch) (ad : Nat → Nat) (as : List Value) (X : gX) (post : Int32 → gX → Prop) : Prop := Ct l (S0 ad) yX3_readableMarks cX3_readableMarks 5 (some .int) 1 24 as X 0 0 (pI (S0 ad) post)
abbrev K_X3_strongestReadable (l : Launch) (ad : Nat → Nat) (as : List Value) (X : gX) (post : Int32 → gX → Prop) : Prop := Ct l (S0 ad) yX3_strongestReadable cX3_strongestReadable 5 (some .int) 1 24 as X 0 0 (pI (S0 ad) post)
abbrev K_X3_kindOf (l : Launch) (ad : Nat → Nat) (as : List Value) (X : gX) (post : Int32 → gX → Prop) : Prop := Ct l (S0 ad) yX3_kindOf cX3_kindOf 8 (some .int) 2 47 as X 0 0 (pI (S0 ad) post)
abbrev K_X3_allMarks (l : Launch) (ad : Nat → Nat) (as : List Value) (X : gX) (post : Int32 → gX → Prop) : Prop := Ct l (S0 ad) yX3_allMarks cX3_allMarks 3 (some .int) 0 0 as X 0 0 (pI (S0 ad) post)
abbrev K_X3_struckMarks (l : Launch) (ad : Nat → Nat) (as : List Value) (X : gX) (post : Int32 → gX → Prop) : Prop := Ct l (S0 ad) yX3_struckMarks cX3_struckMarks 4 (some .int) 1 22 as X 0 0 (pI (S0 ad) post)
abbrev K_X4_copyFrom (l : Launch) (ad : Nat → Nat) (as : List Value) (X : gX) (post : gX → Prop) : Prop := Ct l (S0 ad) yX4_copyFrom cX4_copyFrom 3 none 2 47 as X 0 0 (pV (S0 ad) post)
abbrev K_X4_isStackEmpty (l : Launch) (ad : Nat → Nat) (as : List Value) (X : gX) (post : Int32 → gX → Prop) : Prop := Ct l (S0 ad) yX4_isStackEmpty cX4_isStackEmpty 1 (some .boolean) 0 0 as X 0 0 (pI (S0 ad) post)
abbrev K_X4_isInStack (l : Launch) (ad : Nat → Nat) (as : List Value) (X : gX) (post : Int32 → gX → Prop) : Prop := Ct l (S0 ad) yX4_isInStack cX4_isInStack 2 (some .boolean) 0 0 as X 0 0 (pI (S0 ad) post)
abbrev K_X4_stack (l : Launch) (ad : Nat → Nat) (as : List Value) (X : gX) (post : Int32 → gX → Prop) : Prop := Ct l (S0 ad) yX4_stack cX4_stack 3 (some .int) 1 21 as X 0 0 (pI (S0 ad) post)
abbrev K_X4_noteIfApart (l : Launch) (ad : Nat → Nat) (as : List Value) (X : gX) (post : gX → Prop) : Prop := Ct l (S0 ad) yX4_noteIfApart cX4_noteIfApart 3 none 1 21 as X 0 0 (pV (S0 ad) post)
abbrev K_X4_measure (l : Launch) (ad : Nat → Nat) (as : List Value) (X : gX) (post : gX → Prop) : Prop := Ct l (S0 ad) yX4_measure cX4_measure 5 none 1 21 as X 0 0 (pV (S0 ad) post)
abbrev K_X4_wearCarbons (l : Launch) (ad : Nat → Nat) (as : List Value) (X : gX) (post : gX → Prop) : Prop := Ct l (S0 ad) yX4_wearCarbons cX4_wearCarbons 2 none 0 0 as X 0 0 (pV (S0 ad) post)
abbrev K_X4_refusalToWrite (l : Launch) (ad : Nat → Nat) (as : List Value) (X : gX) (post : Int32 → gX → Prop) : Prop := Ct l (S0 ad) yX4_refusalToWrite cX4_refusalToWrite 5 (some .int) 2 45 as X 0 0 (pI (S0 ad) post)
abbrev K_X4_pressValue (l : Launch) (ad : Nat → Nat) (as : List Value) (X : gX) (post : Int32 → gX → Prop) : Prop := Ct l (S0 ad) yX4_pressValue cX4_pressValue 6 (some .int) 2 45 as X 0 0 (pI (S0 ad) post)
abbrev K_X4_refusalToStrike (l : Launch) (ad : Nat → Nat) (as : List Value) (X : gX) (post : Int32 → gX → Prop) : Prop := Ct l (S0 ad) yX4_refusalToStrike cX4_refusalToStrike 3 (some .int) 2 42 as X 0 0 (pI (S0 ad) post)
abbrev K_X4_pressStroke (l : Launch) (ad : Nat → Nat) (as : List Value) (X : gX) (post : Int32 → gX → Prop) : Prop := Ct l (S0 ad) yX4_pressStroke cX4_pressStroke 5 (some .int) 2 46 as X 0 0 (pI (S0 ad) post)
abbrev K_X4_refusalToTear (l : Launch) (ad : Nat → Nat) (as : List Value) (X : gX) (post : Int32 → gX → Prop) : Prop := Ct l (S0 ad) yX4_refusalToTear cX4_refusalToTear 2 (some .int) 1 20 as X 0 0 (pI (S0 ad) post)
abbrev K_X4_tearOff (l : Launch) (ad : Nat → Nat) (as : List Value) (X : gX) (post : Int32 → gX → Prop) : Prop := Ct l (S0 ad) yX4_tearOff cX4_tearOff 2 (some .int) 0 0 as X 0 0 (pI (S0 ad) post)
abbrev K_X4_kindOf (l : Launch) (ad : Nat → Nat) (as : List Value) (X : gX) (post : Int32 → gX → Prop) : Prop := Ct l (S0 ad) yX4_kindOf cX4_kindOf 3 (some .int) 3 74 as X 0 0 (pI (S0 ad) post)
abbrev K_X4_fieldsThatAre (l : Launch) (ad : Nat → Nat) (as : List Value) (X : gX) (post : Int32 → gX → Prop) : Prop := Ct l (S0 ad) yX4_fieldsThatAre cX4_fieldsThatAre 5 (some .int) 4 96 as X 0 0 (pI (S0 ad) post)
abbrev K_X4_readTheSame (l : Launch) (ad : Nat → Nat) (as : List Value) (X : gX) (post : Int32 → gX → Prop) : Prop := Ct l (S0 ad) yX4_readTheSame cX4_readTheSame 5 (some .boolean) 4 96 as X 0 0 (pI (S0 ad) post)
abbrev K_X4_lastValue (l : Launch) (ad : Nat → Nat) (as : List Value) (X : gX) (post : Int32 → gX → Prop) : Prop := Ct l (S0 ad) yX4_lastValue cX4_lastValue 4 (some .int) 2 47 as X 0 0 (pI (S0 ad) post)
abbrev K_X4_lastStrength (l : Launch) (ad : Nat → Nat) (as : List Value) (X : gX) (post : Int32 → gX → Prop) : Prop := Ct l (S0 ad) yX4_lastStrength cX4_lastStrength 4 (some .int) 2 47 as X 0 0 (pI (S0 ad) post)
abbrev K_X4_allMarks (l : Launch) (ad : Nat → Nat) (as : List Value) (X : gX) (post : Int32 → gX → Prop) : Prop := Ct l (S0 ad) yX4_allMarks cX4_allMarks 3 (some .int) 1 22 as X 0 0 (pI (S0 ad) post)
abbrev K_X4_wouldBeEmptied (l : Launch) (ad : Nat → Nat) (as : List Value) (X : gX) (post : Int32 → gX → Prop) : Prop := Ct l (S0 ad) yX4_wouldBeEmptied cX4_wouldBeEmptied 5 (some .boolean) 2 48 as X 0 0 (pI (S0 ad) post)
abbrev K_X4_pressesToTheLowest (l : Launch) (ad : Nat → Nat) (as : List Value) (X : gX) (post : Int32 → gX → Prop) : Prop := Ct l (S0 ad) yX4_pressesToTheLowest cX4_pressesToTheLowest 4 (some .int) 2 45 as X 0 0 (pI (S0 ad) post)
abbrev K_X5_takeIn (l : Launch) (ad : Nat → Nat) (as : List Value) (X : gX) (post : gX → Prop) : Prop := Ct l (S0 ad) yX5_takeIn cX5_takeIn 4 none 4 96 as X 0 0 (pV (S0 ad) post)
abbrev K_X5_addVotes (l : Launch) (ad : Nat → Nat) (as : List Value) (X : gX) (post : gX → Prop) : Prop := Ct l (S0 ad) yX5_addVotes cX5_addVotes 4 none 0 0 as X 0 0 (pV (S0 ad) post)
abbrev K_X5_findLeaders (l : Launch) (ad : Nat → Nat) (as : List Value) (X : gX) (post : gX → Prop) : Prop := Ct l (S0 ad) yX5_findLeaders cX5_findLeaders 3 none 1 21 as X 0 0 (pV (S0 ad) post)
abbrev K_X6_set (l : Launch) (ad : Nat → Nat) (as : List Value) (X : gX) (post : Int32 → gX → Prop) : Prop := Ct l (S0 ad) yX6_set cX6_set 4 (some .int) 4 90 as X 0 0 (pI (S0 ad) post)
abbrev K_X6_thickness (l : Launch) (ad : Nat → Nat) (as : List Value) (X : gX) (post : Int32 → gX → Prop) : Prop := Ct l (S0 ad) yX6_thickness cX6_thickness 4 (some .int) 4 90 as X 0 0 (pI (S0 ad) post)
abbrev K_X6_carbon (l : Launch) (ad : Nat → Nat) (as : List Value) (X : gX) (post : Int32 → gX → Prop) : Prop := Ct l (S0 ad) yX6_carbon cX6_carbon 4 (some .int) 4 90 as X 0 0 (pI (S0 ad) post)
abbrev K_X6_write (l : Launch) (ad : Nat → Nat) (as : List Value) (X : gX) (post : Int32 → gX → Prop) : Prop := Ct l (S0 ad) yX6_write cX6_write 5 (some .int) 4 90 as X 0 0 (pI (S0 ad) post)
abbrev K_X6_strike (l : Launch) (ad : Nat → Nat) (as : List Value) (X : gX) (post : Int32 → gX → Prop) : Prop := Ct l (S0 ad) yX6_strike cX6_strike 4 (some .int) 4 90 as X 0 0 (pI (S0 ad) post)
abbrev K_X6_paint (l : Launch) (ad : Nat → Nat) (as : List Value) (X : gX) (post : Int32 → gX → Prop) : Prop := Ct l (S0 ad) yX6_paint cX6_paint 3 (some .int) 4 90 as X 0 0 (pI (S0 ad) post)
abbrev K_X6_amend (l : Launch) (ad : Nat → Nat) (as : List Value) (X : gX) (post : Int32 → gX → Prop) : Prop := Ct l (S0 ad) yX6_amend cX6_amend 5 (some .int) 4 90 as X 0 0 (pI (S0 ad) post)
abbrev K_X6_tear (l : Launch) (ad : Nat → Nat) (as : List Value) (X : gX) (post : Int32 → gX → Prop) : Prop := Ct l (S0 ad) yX6_tear cX6_tear 3 (some .int) 4 90 as X 0 0 (pI (S0 ad) post)
abbrev K_X6_ofSheet (l : Launch) (ad : Nat → Nat) (as : List Value) (X : gX) (post : Int32 → gX → Prop) : Prop := Ct l (S0 ad) yX6_ofSheet cX6_ofSheet 4 (some .int) 5 120 as X 0 0 (pI (S0 ad) post)
abbrev K_X6_reading (l : Launch) (ad : Nat → Nat) (as : List Value) (X : gX) (post : Int32 → gX → Prop) : Prop := Ct l (S0 ad) yX6_reading cX6_reading 6 (some .int) 4 96 as X 0 0 (pI (S0 ad) post)
abbrev K_X6_ofMark (l : Launch) (ad : Nat → Nat) (as : List Value) (X : gX) (post : Int32 → gX → Prop) : Prop := Ct l (S0 ad) yX6_ofMark cX6_ofMark 6 (some .int) 2 42 as X 0 0 (pI (S0 ad) post)
abbrev K_X6_together (l : Launch) (ad : Nat → Nat) (as : List Value) (X : gX) (post : Int32 → gX → Prop) : Prop := Ct l (S0 ad) yX6_together cX6_together 3 (some .int) 5 119 as X 0 0 (pI (S0 ad) post)
abbrev K_X6_count (l : Launch) (ad : Nat → Nat) (as : List Value) (X : gX) (post : Int32 → gX → Prop) : Prop := Ct l (S0 ad) yX6_count cX6_count 2 (some .int) 6 143 as X 0 0 (pI (S0 ad) post)
abbrev K_X6_differ (l : Launch) (ad : Nat → Nat) (as : List Value) (X : gX) (post : Int32 → gX → Prop) : Prop := Ct l (S0 ad) yX6_differ cX6_differ 5 (some .int) 5 120 as X 0 0 (pI (S0 ad) post)
abbrev K_X6_enoughFor (l : Launch) (ad : Nat → Nat) (as : List Value) (X : gX) (post : Int32 → gX → Prop) : Prop := Ct l (S0 ad) yX6_enoughFor cX6_enoughFor 3 (some .int) 2 45 as X 0 0 (pI (S0 ad) post)
abbrev K_X6_strikeFor (l : Launch) (ad : Nat → Nat) (as : List Value) (X : gX) (post : Int32 → gX → Prop) : Prop := Ct l (S0 ad) yX6_strikeFor cX6_strikeFor 3 (some .int) 3 72 as X 0 0 (pI (S0 ad) post)
abbrev K_X6_lasts (l : Launch) (ad : Nat → Nat) (as : List Value) (X : gX) (post : Int32 → gX → Prop) : Prop := Ct l (S0 ad) yX6_lasts cX6_lasts 2 (some .int) 3 68 as X 0 0 (pI (S0 ad) post)
abbrev K_X6_ifWritten (l : Launch) (ad : Nat → Nat) (as : List Value) (X : gX) (post : Int32 → gX → Prop) : Prop := Ct l (S0 ad) yX6_ifWritten cX6_ifWritten 5 (some .int) 5 119 as X 0 0 (pI (S0 ad) post)
abbrev K_X6_put (l : Launch) (ad : Nat → Nat) (as : List Value) (X : gX) (post : Int32 → gX → Prop) : Prop := Ct l (S0 ad) yX6_put cX6_put 4 (some .int) 2 47 as X 0 0 (pI (S0 ad) post)
abbrev K_X6_wipe (l : Launch) (ad : Nat → Nat) (as : List Value) (X : gX) (post : Int32 → gX → Prop) : Prop := Ct l (S0 ad) yX6_wipe cX6_wipe 2 (some .int) 0 0 as X 0 0 (pI (S0 ad) post)
abbrev K_X6_fault (l : Launch) (ad : Nat → Nat) (as : List Value) (X : gX) (post : Int32 → gX → Prop) : Prop := Ct l (S0 ad) yX6_fault cX6_fault 1 (some .int) 5 106 as X 0 0 (pI (S0 ad) post)
abbrev K_X6_carryOut (l : Launch) (ad : Nat → Nat) (as : List Value) (X : gX) (post : Int32 → gX → Prop) : Prop := Ct l (S0 ad) yX6_carryOut cX6_carryOut 2 (some .int) 5 113 as X 0 0 (pI (S0 ad) post)
abbrev K_X6_undo (l : Launch) (ad : Nat → Nat) (as : List Value) (X : gX) (post : Int32 → gX → Prop) : Prop := Ct l (S0 ad) yX6_undo cX6_undo 1 (some .int) 4 90 as X 0 0 (pI (S0 ad) post)
abbrev K_X6_save (l : Launch) (ad : Nat → Nat) (as : List Value) (X : gX) (post : Int32 → gX → Prop) : Prop := Ct l (S0 ad) yX6_save cX6_save 2 (some .int) 3 69 as X 0 0 (pI (S0 ad) post)
abbrev K_X6_restore (l : Launch) (ad : Nat → Nat) (as : List Value) (X : gX) (post : Int32 → gX → Prop) : Prop := Ct l (S0 ad) yX6_restore cX6_restore 2 (some .int) 4 90 as X 0 0 (pI (S0 ad) post)
abbrev K_X6_fieldsWithLeaders (l : Launch) (ad : Nat → Nat) (as : List Value) (X : gX) (post : Int32 → gX → Prop) : Prop := Ct l (S0 ad) yX6_fieldsWithLeaders cX6_fieldsWithLeaders 5 (some .int) 5 119 as X 0 0 (pI (S0 ad) post)
abbrev K_X6_carryOutThePad (l : Launch) (ad : Nat → Nat) (as : List Value) (X : gX) (post : Int32 → gX → Prop) : Prop := Ct l (S0 ad) yX6_carryOutThePad cX6_carryOutThePad 3 (some .int) 4 91 as X 0 0 (pI (S0 ad) post)
abbrev K_X6_carriesOutOrder (l : Launch) (ad : Nat → Nat) (as : List Value) (X : gX) (post : Int32 → gX → Prop) : Prop := Ct l (S0 ad) yX6_carriesOutOrder cX6_carriesOutOrder 2 (some .boolean) 3 70 as X 0 0 (pI (S0 ad) post)
abbrev K_X6_isWithin (l : Launch) (ad : Nat → Nat) (as : List Value) (X : gX) (post : Int32 → gX → Prop) : Prop := Ct l (S0 ad) yX6_isWithin cX6_isWithin 3 (some .boolean) 0 0 as X 0 0 (pI (S0 ad) post)
abbrev K_X6_isSheet (l : Launch) (ad : Nat → Nat) (as : List Value) (X : gX) (post : Int32 → gX → Prop) : Prop := Ct l (S0 ad) yX6_isSheet cX6_isSheet 1 (some .boolean) 1 22 as X 0 0 (pI (S0 ad) post)
abbrev K_X6_isField (l : Launch) (ad : Nat → Nat) (as : List Value) (X : gX) (post : Int32 → gX → Prop) : Prop := Ct l (S0 ad) yX6_isField cX6_isField 1 (some .boolean) 1 22 as X 0 0 (pI (S0 ad) post)
abbrev K_X6_isValue (l : Launch) (ad : Nat → Nat) (as : List Value) (X : gX) (post : Int32 → gX → Prop) : Prop := Ct l (S0 ad) yX6_isValue cX6_isValue 1 (some .boolean) 1 22 as X 0 0 (pI (S0 ad) post)
abbrev K_X6_isPressure (l : Launch) (ad : Nat → Nat) (as : List Value) (X : gX) (post : Int32 → gX → Prop) : Prop := Ct l (S0 ad) yX6_isPressure cX6_isPressure 1 (some .boolean) 1 22 as X 0 0 (pI (S0 ad) post)
abbrev K_X6_isSlot (l : Launch) (ad : Nat → Nat) (as : List Value) (X : gX) (post : Int32 → gX → Prop) : Prop := Ct l (S0 ad) yX6_isSlot cX6_isSlot 1 (some .boolean) 1 22 as X 0 0 (pI (S0 ad) post)
abbrev K_X6_isSettingWith (l : Launch) (ad : Nat → Nat) (as : List Value) (X : gX) (post : Int32 → gX → Prop) : Prop := Ct l (S0 ad) yX6_isSettingWith cX6_isSettingWith 2 (some .boolean) 1 22 as X 0 0 (pI (S0 ad) post)
abbrev K_X7_in (l : Launch) (ad : Nat → Nat) (as : List Value) (X : gX) (post : Int32 → gX → Prop) : Prop := Ct l (S0 ad) yX7_in cX7_in 3 (some .boolean) 0 0 as X 0 0 (pI (S0 ad) post)
abbrev K_X7_record (l : Launch) (ad : Nat → Nat) (as : List Value) (X : gX) (post : gX → Prop) : Prop := Ct l (S0 ad) yX7_record cX7_record 2 none 0 0 as X 0 0 (pV (S0 ad) post)
abbrev K_X7_set (l : Launch) (ad : Nat → Nat) (as : List Value) (X : gX) (post : Int32 → gX → Prop) : Prop := Ct l (S0 ad) yX7_set cX7_set 4 (some .int) 1 22 as X 0 0 (pI (S0 ad) post)
abbrev K_X7_isSheet (l : Launch) (ad : Nat → Nat) (as : List Value) (X : gX) (post : Int32 → gX → Prop) : Prop := Ct l (S0 ad) yX7_isSheet cX7_isSheet 1 (some .boolean) 1 22 as X 0 0 (pI (S0 ad) post)
abbrev K_X7_isField (l : Launch) (ad : Nat → Nat) (as : List Value) (X : gX) (post : Int32 → gX → Prop) : Prop := Ct l (S0 ad) yX7_isField cX7_isField 1 (some .boolean) 1 22 as X 0 0 (pI (S0 ad) post)
abbrev K_X7_isInStack (l : Launch) (ad : Nat → Nat) (as : List Value) (X : gX) (post : Int32 → gX → Prop) : Prop := Ct l (S0 ad) yX7_isInStack cX7_isInStack 2 (some .boolean) 1 22 as X 0 0 (pI (S0 ad) post)
abbrev K_X7_hasStack (l : Launch) (ad : Nat → Nat) (as : List Value) (X : gX) (post : Int32 → gX → Prop) : Prop := Ct l (S0 ad) yX7_hasStack cX7_hasStack 1 (some .boolean) 0 0 as X 0 0 (pI (S0 ad) post)
abbrev K_X7_thickness (l : Launch) (ad : Nat → Nat) (as : List Value) (X : gX) (post : Int32 → gX → Prop) : Prop := Ct l (S0 ad) yX7_thickness cX7_thickness 4 (some .int) 2 42 as X 0 0 (pI (S0 ad) post)
abbrev K_X7_carbon (l : Launch) (ad : Nat → Nat) (as : List Value) (X : gX) (post : Int32 → gX → Prop) : Prop := Ct l (S0 ad) yX7_carbon cX7_carbon 4 (some .int) 2 43 as X 0 0 (pI (S0 ad) post)
abbrev K_X7_spot (l : Launch) (ad : Nat → Nat) (as : List Value) (X : gX) (post : Int32 → gX → Prop) : Prop := Ct l (S0 ad) yX7_spot cX7_spot 2 (some .int) 0 0 as X 0 0 (pI (S0 ad) post)
abbrev K_X7_many (l : Launch) (ad : Nat → Nat) (as : List Value) (X : gX) (post : Int32 → gX → Prop) : Prop := Ct l (S0 ad) yX7_many cX7_many 3 (some .int) 1 21 as X 0 0 (pI (S0 ad) post)
abbrev K_X7_markAt (l : Launch) (ad : Nat → Nat) (as : List Value) (X : gX) (post : Int32 → gX → Prop) : Prop := Ct l (S0 ad) yX7_markAt cX7_markAt 4 (some .int) 1 21 as X 0 0 (pI (S0 ad) post)
abbrev K_X7_valueOf (l : Launch) (ad : Nat → Nat) (as : List Value) (X : gX) (post : Int32 → gX → Prop) : Prop := Ct l (S0 ad) yX7_valueOf cX7_valueOf 1 (some .int) 0 0 as X 0 0 (pI (S0 ad) post)
abbrev K_X7_strengthOf (l : Launch) (ad : Nat → Nat) (as : List Value) (X : gX) (post : Int32 → gX → Prop) : Prop := Ct l (S0 ad) yX7_strengthOf cX7_strengthOf 1 (some .int) 0 0 as X 0 0 (pI (S0 ad) post)
abbrev K_X7_isStruck (l : Launch) (ad : Nat → Nat) (as : List Value) (X : gX) (post : Int32 → gX → Prop) : Prop := Ct l (S0 ad) yX7_isStruck cX7_isStruck 1 (some .boolean) 0 0 as X 0 0 (pI (S0 ad) post)
abbrev K_X7_addMark (l : Launch) (ad : Nat → Nat) (as : List Value) (X : gX) (post : gX → Prop) : Prop := Ct l (S0 ad) yX7_addMark cX7_addMark 5 none 2 43 as X 0 0 (pV (S0 ad) post)
abbrev K_X7_strikeAt (l : Launch) (ad : Nat → Nat) (as : List Value) (X : gX) (post : Int32 → gX → Prop) : Prop := Ct l (S0 ad) yX7_strikeAt cX7_strikeAt 7 (some .int) 2 44 as X 0 0 (pI (S0 ad) post)
abbrev K_X7_layPress (l : Launch) (ad : Nat → Nat) (as : List Value) (X : gX) (post : Int32 → gX → Prop) : Prop := Ct l (S0 ad) yX7_layPress cX7_layPress 5 (some .int) 0 0 as X 0 0 (pI (S0 ad) post)
abbrev K_X7_usePress (l : Launch) (ad : Nat → Nat) (as : List Value) (X : gX) (post : gX → Prop) : Prop := Ct l (S0 ad) yX7_usePress cX7_usePress 3 none 0 0 as X 0 0 (pV (S0 ad) post)
abbrev K_X7_barOf (l : Launch) (ad : Nat → Nat) (as : List Value) (X : gX) (post : Int32 → gX → Prop) : Prop := Ct l (S0 ad) yX7_barOf cX7_barOf 7 (some .int) 2 43 as X 0 0 (pI (S0 ad) post)
abbrev K_X7_writeNow (l : Launch) (ad : Nat → Nat) (as : List Value) (X : gX) (post : Int32 → gX → Prop) : Prop := Ct l (S0 ad) yX7_writeNow cX7_writeNow 6 (some .int) 3 67 as X 0 0 (pI (S0 ad) post)
abbrev K_X7_write (l : Launch) (ad : Nat → Nat) (as : List Value) (X : gX) (post : Int32 → gX → Prop) : Prop := Ct l (S0 ad) yX7_write cX7_write 5 (some .int) 4 92 as X 0 0 (pI (S0 ad) post)
abbrev K_X7_strikeNow (l : Launch) (ad : Nat → Nat) (as : List Value) (X : gX) (post : Int32 → gX → Prop) : Prop := Ct l (S0 ad) yX7_strikeNow cX7_strikeNow 6 (some .int) 3 70 as X 0 0 (pI (S0 ad) post)
abbrev K_X7_strike (l : Launch) (ad : Nat → Nat) (as : List Value) (X : gX) (post : Int32 → gX → Prop) : Prop := Ct l (S0 ad) yX7_strike cX7_strike 3 (some .int) 4 95 as X 0 0 (pI (S0 ad) post)
abbrev K_X7_paint (l : Launch) (ad : Nat → Nat) (as : List Value) (X : gX) (post : Int32 → gX → Prop) : Prop := Ct l (S0 ad) yX7_paint cX7_paint 3 (some .int) 3 70 as X 0 0 (pI (S0 ad) post)
abbrev K_X7_amend (l : Launch) (ad : Nat → Nat) (as : List Value) (X : gX) (post : Int32 → gX → Prop) : Prop := Ct l (S0 ad) yX7_amend cX7_amend 5 (some .int) 3 67 as X 0 0 (pI (S0 ad) post)
abbrev K_X7_tear (l : Launch) (ad : Nat → Nat) (as : List Value) (X : gX) (post : Int32 → gX → Prop) : Prop := Ct l (S0 ad) yX7_tear cX7_tear 2 (some .int) 1 22 as X 0 0 (pI (S0 ad) post)
abbrev K_X7_isReadable (l : Launch) (ad : Nat → Nat) (as : List Value) (X : gX) (post : Int32 → gX → Prop) : Prop := Ct l (S0 ad) yX7_isReadable cX7_isReadable 2 (some .boolean) 1 20 as X 0 0 (pI (S0 ad) post)
abbrev K_X7_lastAt (l : Launch) (ad : Nat → Nat) (as : List Value) (X : gX) (post : Int32 → gX → Prop) : Prop := Ct l (S0 ad) yX7_lastAt cX7_lastAt 5 (some .int) 2 44 as X 0 0 (pI (S0 ad) post)
abbrev K_X7_stateOf (l : Launch) (ad : Nat → Nat) (as : List Value) (X : gX) (post : Int32 → gX → Prop) : Prop := Ct l (S0 ad) yX7_stateOf cX7_stateOf 8 (some .int) 3 68 as X 0 0 (pI (S0 ad) post)
abbrev K_X7_lastOf (l : Launch) (ad : Nat → Nat) (as : List Value) (X : gX) (post : Int32 → gX → Prop) : Prop := Ct l (S0 ad) yX7_lastOf cX7_lastOf 6 (some .int) 3 68 as X 0 0 (pI (S0 ad) post)
abbrev K_X7_fieldsOf (l : Launch) (ad : Nat → Nat) (as : List Value) (X : gX) (post : Int32 → gX → Prop) : Prop := Ct l (S0 ad) yX7_fieldsOf cX7_fieldsOf 5 (some .int) 4 95 as X 0 0 (pI (S0 ad) post)
abbrev K_X7_marksOf (l : Launch) (ad : Nat → Nat) (as : List Value) (X : gX) (post : Int32 → gX → Prop) : Prop := Ct l (S0 ad) yX7_marksOf cX7_marksOf 6 (some .int) 2 44 as X 0 0 (pI (S0 ad) post)
abbrev K_X7_ofSheet (l : Launch) (ad : Nat → Nat) (as : List Value) (X : gX) (post : Int32 → gX → Prop) : Prop := Ct l (S0 ad) yX7_ofSheet cX7_ofSheet 3 (some .int) 5 119 as X 0 0 (pI (S0 ad) post)
abbrev K_X7_reading (l : Launch) (ad : Nat → Nat) (as : List Value) (X : gX) (post : Int32 → gX → Prop) : Prop := Ct l (S0 ad) yX7_reading cX7_reading 6 (some .int) 4 95 as X 0 0 (pI (S0 ad) post)
abbrev K_X7_ofMark (l : Launch) (ad : Nat → Nat) (as : List Value) (X : gX) (post : Int32 → gX → Prop) : Prop := Ct l (S0 ad) yX7_ofMark cX7_ofMark 6 (some .int) 2 44 as X 0 0 (pI (S0 ad) post)
abbrev K_X7_votesFor (l : Launch) (ad : Nat → Nat) (as : List Value) (X : gX) (post : Int32 → gX → Prop) : Prop := Ct l (S0 ad) yX7_votesFor cX7_votesFor 5 (some .int) 4 95 as X 0 0 (pI (S0 ad) post)
abbrev K_X7_layTogether (l : Launch) (ad : Nat → Nat) (as : List Value) (X : gX) (post : gX → Prop) : Prop := Ct l (S0 ad) yX7_layTogether cX7_layTogether 7 none 5 119 as X 0 0 (pV (S0 ad) post)
abbrev K_X7_together (l : Launch) (ad : Nat → Nat) (as : List Value) (X : gX) (post : Int32 → gX → Prop) : Prop := Ct l (S0 ad) yX7_together cX7_together 3 (some .int) 6 145 as X 0 0 (pI (S0 ad) post)
abbrev K_X7_fieldsWith (l : Launch) (ad : Nat → Nat) (as : List Value) (X : gX) (post : Int32 → gX → Prop) : Prop := Ct l (S0 ad) yX7_fieldsWith cX7_fieldsWith 4 (some .int) 6 145 as X 0 0 (pI (S0 ad) post)
abbrev K_X7_stack (l : Launch) (ad : Nat → Nat) (as : List Value) (X : gX) (post : Int32 → gX → Prop) : Prop := Ct l (S0 ad) yX7_stack cX7_stack 3 (some .int) 2 43 as X 0 0 (pI (S0 ad) post)
abbrev K_X7_count (l : Launch) (ad : Nat → Nat) (as : List Value) (X : gX) (post : Int32 → gX → Prop) : Prop := Ct l (S0 ad) yX7_count cX7_count 4 (some .int) 7 168 as X 0 0 (pI (S0 ad) post)
abbrev K_X7_differ (l : Launch) (ad : Nat → Nat) (as : List Value) (X : gX) (post : Int32 → gX → Prop) : Prop := Ct l (S0 ad) yX7_differ cX7_differ 7 (some .int) 4 95 as X 0 0 (pI (S0 ad) post)
abbrev K_X7_enoughFor (l : Launch) (ad : Nat → Nat) (as : List Value) (X : gX) (post : Int32 → gX → Prop) : Prop := Ct l (S0 ad) yX7_enoughFor cX7_enoughFor 3 (some .int) 2 42 as X 0 0 (pI (S0 ad) post)
abbrev K_X7_keep (l : Launch) (ad : Nat → Nat) (as : List Value) (X : gX) (post : gX → Prop) : Prop := Ct l (S0 ad) yX7_keep cX7_keep 2 none 0 0 as X 0 0 (pV (S0 ad) post)
abbrev K_X7_comeBack (l : Launch) (ad : Nat → Nat) (as : List Value) (X : gX) (post : gX → Prop) : Prop := Ct l (S0 ad) yX7_comeBack cX7_comeBack 2 none 0 0 as X 0 0 (pV (S0 ad) post)
abbrev K_X7_isEmptyInStack (l : Launch) (ad : Nat → Nat) (as : List Value) (X : gX) (post : Int32 → gX → Prop) : Prop := Ct l (S0 ad) yX7_isEmptyInStack cX7_isEmptyInStack 4 (some .boolean) 3 68 as X 0 0 (pI (S0 ad) post)
abbrev K_X7_strikeFor (l : Launch) (ad : Nat → Nat) (as : List Value) (X : gX) (post : Int32 → gX → Prop) : Prop := Ct l (S0 ad) yX7_strikeFor cX7_strikeFor 4 (some .int) 4 95 as X 0 0 (pI (S0 ad) post)
abbrev K_X7_lasts (l : Launch) (ad : Nat → Nat) (as : List Value) (X : gX) (post : Int32 → gX → Prop) : Prop := Ct l (S0 ad) yX7_lasts cX7_lasts 5 (some .int) 1 22 as X 0 0 (pI (S0 ad) post)
abbrev K_X7_ifWritten (l : Launch) (ad : Nat → Nat) (as : List Value) (X : gX) (post : Int32 → gX → Prop) : Prop := Ct l (S0 ad) yX7_ifWritten cX7_ifWritten 5 (some .int) 6 145 as X 0 0 (pI (S0 ad) post)
abbrev K_X7_sign (l : Launch) (ad : Nat → Nat) (as : List Value) (X : gX) (post : Int32 → gX → Prop) : Prop := Ct l (S0 ad) yX7_sign cX7_sign 1 (some .int) 0 0 as X 0 0 (pI (S0 ad) post)
abbrev K_X7_one (l : Launch) (ad : Nat → Nat) (as : List Value) (X : gX) (post : Int32 → gX → Prop) : Prop := Ct l (S0 ad) yX7_one cX7_one 4 (some .int) 1 22 as X 0 0 (pI (S0 ad) post)
abbrev K_X7_between (l : Launch) (ad : Nat → Nat) (as : List Value) (X : gX) (post : gX → Prop) : Prop := Ct l (S0 ad) yX7_between cX7_between 2 none 1 20 as X 0 0 (pV (S0 ad) post)
abbrev K_X7_number (l : Launch) (ad : Nat → Nat) (as : List Value) (X : gX) (post : Int32 → gX → Prop) : Prop := Ct l (S0 ad) yX7_number cX7_number 2 (some .int) 2 45 as X 0 0 (pI (S0 ad) post)
abbrev K_X7_readOne (l : Launch) (ad : Nat → Nat) (as : List Value) (X : gX) (post : gX → Prop) : Prop := Ct l (S0 ad) yX7_readOne cX7_readOne 3 none 3 66 as X 0 0 (pV (S0 ad) post)
abbrev K_X7_faultOf (l : Launch) (ad : Nat → Nat) (as : List Value) (X : gX) (post : Int32 → gX → Prop) : Prop := Ct l (S0 ad) yX7_faultOf cX7_faultOf 1 (some .int) 4 88 as X 0 0 (pI (S0 ad) post)
abbrev K_X7_put (l : Launch) (ad : Nat → Nat) (as : List Value) (X : gX) (post : Int32 → gX → Prop) : Prop := Ct l (S0 ad) yX7_put cX7_put 7 (some .int) 1 22 as X 0 0 (pI (S0 ad) post)
abbrev K_X7_wipe (l : Launch) (ad : Nat → Nat) (as : List Value) (X : gX) (post : Int32 → gX → Prop) : Prop := Ct l (S0 ad) yX7_wipe cX7_wipe 2 (some .int) 0 0 as X 0 0 (pI (S0 ad) post)
abbrev K_X7_fault (l : Launch) (ad : Nat → Nat) (as : List Value) (X : gX) (post : Int32 → gX → Prop) : Prop := Ct l (S0 ad) yX7_fault cX7_fault 1 (some .int) 5 108 as X 0 0 (pI (S0 ad) post)
abbrev K_X7_carry (l : Launch) (ad : Nat → Nat) (as : List Value) (X : gX) (post : Int32 → gX → Prop) : Prop := Ct l (S0 ad) yX7_carry cX7_carry 2 (some .int) 5 117 as X 0 0 (pI (S0 ad) post)
abbrev K_X7_carryOut (l : Launch) (ad : Nat → Nat) (as : List Value) (X : gX) (post : Int32 → gX → Prop) : Prop := Ct l (S0 ad) yX7_carryOut cX7_carryOut 2 (some .int) 6 138 as X 0 0 (pI (S0 ad) post)
abbrev K_X7_undo (l : Launch) (ad : Nat → Nat) (as : List Value) (X : gX) (post : Int32 → gX → Prop) : Prop := Ct l (S0 ad) yX7_undo cX7_undo 2 (some .int) 0 0 as X 0 0 (pI (S0 ad) post)
abbrev K_X7_save (l : Launch) (ad : Nat → Nat) (as : List Value) (X : gX) (post : Int32 → gX → Prop) : Prop := Ct l (S0 ad) yX7_save cX7_save 3 (some .int) 3 65 as X 0 0 (pI (S0 ad) post)
abbrev K_X7_restore (l : Launch) (ad : Nat → Nat) (as : List Value) (X : gX) (post : Int32 → gX → Prop) : Prop := Ct l (S0 ad) yX7_restore cX7_restore 3 (some .int) 3 65 as X 0 0 (pI (S0 ad) post)
end
section
theorem gle_nil : gle [] [] := trivial
theorem gle_s {a : Value} {as bs : List Value} (h : gle as bs) : gle (a :: as) (a :: bs) := ⟨Or.inr rfl, h⟩
theorem gle_u {b : Value} {as bs : List Value} (h : gle as bs) : gle (.null :: as) (b :: bs) := ⟨Or.inl rfl, h⟩
theorem gle_e {a b : Value} {as bs : List Value} (e : a = b) (h : gle as bs) : gle (a :: as) (b :: bs) := ⟨Or.inr e, h⟩
theorem gle_i {a b : Int32} {as bs : List Value} (e : a = b) (h : gle as bs) : gle (.int a :: as) (.int b :: bs) := ⟨Or.inr (congrArg Value.int e), h⟩
theorem g_eq {F : gF} {S : gS} {K : Nat × Nat} {X X' : gX} {pc : Nat} {ls ls' st st' : List Value} (h : G F S K X pc ls st) (e1 : X = X') (e2 : st = st') (e3 : gle ls ls') : G F S K X' pc ls' st' := by subst e1; subst e2; exact g_weak h e3
theorem nI_dec {a : Nat} {n : Int} (h : 1 ≤ a) (hk : Int32.ofInt n = -1) : nI a + Int32.ofInt n = nI (a - 1) := by
  obtain ⟨b, rfl⟩ : ∃ b, a = b + 1 := ⟨a - 1, by omega⟩
  rw [hk]
  exact pk_m1 b
theorem fz_z (b : Bool) : fits .boolean (.int (zI b)) = true := by cases b <;> decide
theorem fi_i (v : Int32) : fits .int (.int v) = true := rfl
theorem vz_z (b : Bool) : vp_nar .boolean (zI b) = zI b := by cases b <;> decide +kernel
theorem nz_1 : narrow .boolean (.int (nI 1)) = .int (nI 1) := by decide +kernel
theorem nz_0 : narrow .boolean (.int (nI 0)) = .int (nI 0) := by decide +kernel
theorem zI_t : zI true = nI 1 := by decide
theorem zI_f : zI false = nI 0 := by decide
theorem nI1_z {b : Bool} (h : b = true) : nI 1 = zI b := by rw [h]; rfl
theorem nI0_z {b : Bool} (h : b = false) : nI 0 = zI b := by rw [h]; rfl
theorem nI_and15 (a : Nat) : nI a &&& nI 15 = nI (a % 16) := by rw [nI_and]; exact congrArg nI (Nat.and_two_pow_sub_one_eq_mod a 4)
theorem nI_and1 (a : Nat) : nI a &&& nI 1 = nI (a % 2) := by rw [nI_and]; exact congrArg nI (Nat.and_two_pow_sub_one_eq_mod a 1)
theorem p2_lt {b : Nat} (hb : b < 31) : 2 ^ b < 2 ^ 31 := Nat.pow_lt_pow_right (by decide) hb
theorem nI_shl1 {b : Nat} (hb : b < 31) : nI 1 <<< (nI b &&& 31) = nI (2 ^ b) := by
  rw [nI_shl (by omega) (by have := p2_lt hb; omega), Nat.one_mul]
/-- the last row of the stack, one below: -1 is nothing -/
def lI (e : Nat) : Int32 := nI e - 1
theorem lI_toInt {e : Nat} (h : e < 1073741824) : (lI e).toInt = (e : Int) - 1 := by
  have := pk_sub_toInt (a := e) (b := 1) (by omega) (by omega)
  exact this
theorem lI_lt {e t : Nat} (he : e < 1073741824) (ht : t < 1073741824) : lI e < nI t ↔ e ≤ t := by
  rw [Int32.lt_iff_toInt_lt, lI_toInt he, nI_toInt (by omega)]; omega
theorem lI_le {e t : Nat} (he : e < 1073741824) (ht : t < 1073741824) : nI t ≤ lI e ↔ t < e := by
  rw [Int32.le_iff_toInt_le, lI_toInt he, nI_toInt (by omega)]; omega
theorem lI_ge {e t : Nat} (he : e < 1073741824) (ht : t < 1073741824) : lI e ≤ nI t ↔ e ≤ t + 1 := by
  rw [Int32.le_iff_toInt_le, lI_toInt he, nI_toInt (by omega)]; omega
theorem lI_gt {e t : Nat} (he : e < 1073741824) (ht : t < 1073741824) : nI t < lI e ↔ t + 1 < e := by
  rw [Int32.lt_iff_toInt_lt, lI_toInt he, nI_toInt (by omega)]; omega
theorem lI_s (e : Nat) : lI (e + 1) = nI e := nI_pred e
theorem lI_inc (e : Nat) : lI e + nI 1 = nI e := by
  show nI e - 1 + 1 = nI e
  simp
section
variable {F : gF} {own : String} {cc : ByteArray} {nL : Nat} {rm : Room} {S : gS} {K : Nat × Nat} {X : gX} {pc pc' : Nat} {ls st : List Value}
theorem g_iretI (hC : Cx F own cc nL rm) {post : Int32 → gX → Prop} {ty : FieldType} {v : Int32} (hRt : Rt F (some ty) 0 0 (pI S post)) (hn : narrow ty (.int v) = .int v) (d : decode cc pc = .ok (.ireturn, 1)) (h : post v X) : G F S (0, 0) X pc ls [.int v] := g_iret hC hRt hn rfl d ⟨rfl, v, rfl, h⟩
theorem g_iretR (hC : Cx F own cc nL rm) {e : Int32} {ty : FieldType} {v : Int32} (hRt : Rt F (some ty) 0 0 (pI S (pR X e))) (hn : narrow ty (.int v) = .int v) (d : decode cc pc = .ok (.ireturn, 1)) (h : v = e) : G F S (0, 0) X pc ls [.int v] := g_iret hC hRt hn rfl d ⟨rfl, v, rfl, rfl, h⟩
theorem g_vretV (hC : Cx F own cc nL rm) {post : gX → Prop} (hRt : Rt F none 0 0 (pV S post)) (d : decode cc pc = .ok (.return_, 1)) (h : post X) : G F S (0, 0) X pc ls [] := g_vret hC hRt rfl d ⟨rfl, rfl, h⟩
theorem g_ishlK (hC : Cx F own cc nL rm) {a b q : Nat} (d : decode cc pc = .ok (.ishl, 1)) (hp : pc + 1 = pc') (hb : b < 32) (hq : 2 ^ b = q) (h : a * q < 4294967296) (k : G F S K X pc' ls (.int (nI (a * q)) :: st)) : G F S K X pc ls (.int (nI b) :: .int (nI a) :: st) := by
  subst hq
  exact g_ishlN hC d hp hb h k
theorem g_ishrK (hC : Cx F own cc nL rm) {a b q : Nat} (d : decode cc pc = .ok (.ishr, 1)) (hp : pc + 1 = pc') (hb : b < 32) (hq : 2 ^ b = q) (h : a < 2147483648) (k : G F S K X pc' ls (.int (nI (a / q)) :: st)) : G F S K X pc ls (.int (nI b) :: .int (nI a) :: st) := by
  subst hq
  exact g_ishrN hC d hp hb h k
theorem g_ishl1 (hC : Cx F own cc nL rm) {b : Nat} (d : decode cc pc = .ok (.ishl, 1)) (hp : pc + 1 = pc') (hb : b < 31) (k : G F S K X pc' ls (.int (nI (2 ^ b)) :: st)) : G F S K X pc ls (.int (nI b) :: .int (nI 1) :: st) := g_ishl hC d hp (by rw [nI_shl1 hb]; exact k)
theorem g_iand15 (hC : Cx F own cc nL rm) {a : Nat} (d : decode cc pc = .ok (.iand, 1)) (hp : pc + 1 = pc') (k : G F S K X pc' ls (.int (nI (a % 16)) :: st)) : G F S K X pc ls (.int (nI 15) :: .int (nI a) :: st) := g_iand hC d hp (by rw [nI_and15]; exact k)
theorem g_iand1 (hC : Cx F own cc nL rm) {a : Nat} (d : decode cc pc = .ok (.iand, 1)) (hp : pc + 1 = pc') (k : G F S K X pc' ls (.int (nI (a % 2)) :: st)) : G F S K X pc ls (.int (nI 1) :: .int (nI a) :: st) := g_iand hC d hp (by rw [nI_and1]; exact k)
theorem g_ifI_eq (hC : Cx F own cc nL rm) {x : Int32} {off : Int} {tgt : Nat} (d : decode cc pc = .ok (.ifCond .eq off, 3)) (ht : (pc : Int) + off = (tgt : Int)) (hp : pc + 3 = pc') (kt : x = nI 0 → G F S K X tgt ls st) (kf : ¬ x = nI 0 → G F S K X pc' ls st) : G F S K X pc ls (.int x :: st) := g_if_eq hC d ht hp kt kf
theorem g_ifI_ne (hC : Cx F own cc nL rm) {x : Int32} {off : Int} {tgt : Nat} (d : decode cc pc = .ok (.ifCond .ne off, 3)) (ht : (pc : Int) + off = (tgt : Int)) (hp : pc + 3 = pc') (kt : ¬ x = nI 0 → G F S K X tgt ls st) (kf : x = nI 0 → G F S K X pc' ls st) : G F S K X pc ls (.int x :: st) := g_if_ne hC d ht hp kt kf
theorem g_tabI (hC : Cx F own cc nL rm) {dflt lo hi : Int} {offs : Array Int} {len : Nat} {x : Int32} {off : Int} {tgt : Nat} (j : Nat) (d : decode cc pc = .ok (.tableswitch dflt lo hi offs, len)) (hx : x = nI j) (hj : j < 2147483648) (h1 : ¬ (j : Int) < lo) (h2 : ¬ hi < (j : Int)) (ho : offs[((j : Int) - lo).toNat]? = some off) (ht : (pc : Int) + off = (tgt : Int)) (k : G F S K X tgt ls st) : G F S K X pc ls (.int x :: st) := by
  have hxt : x.toInt = (j : Int) := by rw [hx]; exact nI_toInt hj
  obtain ⟨p, l, e, R, s, m, args, below, meth, c, Γ, A, Q⟩ := F
  obtain ⟨hx0, hb, hml, hown, hts, hlk, rfl, hK, hA⟩ := hC
  intro H locs L hL hc0 hP hD hS
  exact lv_tableIn hx0 hb d (by rw [hxt]; exact h1) (by rw [hxt]; exact h2) (by rw [hxt]; exact ho) ht (k H locs L hL hc0 hP hD hS)
theorem g_tabO (hC : Cx F own cc nL rm) {dflt hi : Int} {offs : Array Int} {len : Nat} {x : Int32} {tgt : Nat} (d : decode cc pc = .ok (.tableswitch dflt 0 hi offs, len)) (h : ∀ j : Nat, (j : Int) ≤ hi → x ≠ nI j) (ht : (pc : Int) + dflt = (tgt : Int)) (k : G F S K X tgt ls st) : G F S K X pc ls (.int x :: st) := by
  have hxo : x.toInt < 0 ∨ hi < x.toInt := by
    by_cases h0 : x.toInt < 0
    · exact Or.inl h0
    · refine Or.inr (Int.not_le.mp fun h1 => ?_)
      have hz : ¬ x < 0 := by rw [Int32.lt_iff_toInt_lt]; simpa using h0
      obtain ⟨j, hj, rfl⟩ := nI_of hz
      exact h j (by rw [← nI_toInt hj]; exact h1) rfl
  obtain ⟨p, l, e, R, s, m, args, below, meth, c, Γ, A, Q⟩ := F
  obtain ⟨hx0, hb, hml, hown, hts, hlk, rfl, hK, hA⟩ := hC
  intro H locs L hL hc0 hP hD hS
  exact lv_tableOut hx0 hb d hxo ht (k H locs L hL hc0 hP hD hS)
theorem g_lookN (hC : Cx F own cc nL rm) {dflt : Int} {ps : Array (Int × Int)} {len : Nat} {a : Nat} {off : Int} {tgt : Nat} (d : decode cc pc = .ok (.lookupswitch dflt ps, len)) (ha : a < 2147483648) (hp : (ps.toList.zip (ps.toList.drop 1)).all (fun (a, next) => a.1 < next.1) = true) (ho : Op.lookupswitch.offset ps.toList dflt (a : Int) = off) (ht : (pc : Int) + off = (tgt : Int)) (k : G F S K X tgt ls st) : G F S K X pc ls (.int (nI a) :: st) := by
  obtain ⟨p, l, e, R, s, m, args, below, meth, c, Γ, A, Q⟩ := F
  obtain ⟨hx0, hb, hml, hown, hts, hlk, rfl, hK, hA⟩ := hC
  intro H locs L hL hc0 hP hD hS
  exact lv_lookup hx0 hb d hp (by rw [nI_toInt ha]; exact ho) ht (k H locs L hL hc0 hP hD hS)

theorem g_icmpL_gt (hC : Cx F own cc nL rm) {t e : Nat} {off : Int} {tgt : Nat} (d : decode cc pc = .ok (.if_icmp .gt off, 3)) (hz : (pc : Int) + off = (tgt : Int)) (hp : pc + 3 = pc') (ht : t < 1073741824) (he : e < 1073741824) (kt : e ≤ t → G F S K X tgt ls st) (kf : t < e → G F S K X pc' ls st) : G F S K X pc ls (.int (lI e) :: .int (nI t) :: st) := g_icmp_gt hC d hz hp (fun h => kt ((lI_lt he ht).mp h)) (fun h => kf (Nat.not_le.mp fun z => h ((lI_lt he ht).mpr z)))
theorem g_icmpL_le (hC : Cx F own cc nL rm) {t e : Nat} {off : Int} {tgt : Nat} (d : decode cc pc = .ok (.if_icmp .le off, 3)) (hz : (pc : Int) + off = (tgt : Int)) (hp : pc + 3 = pc') (ht : t < 1073741824) (he : e < 1073741824) (kt : t < e → G F S K X tgt ls st) (kf : e ≤ t → G F S K X pc' ls st) : G F S K X pc ls (.int (lI e) :: .int (nI t) :: st) := g_icmp_le hC d hz hp (fun h => kt ((lI_le he ht).mp h)) (fun h => kf (Nat.not_lt.mp fun z => h ((lI_le he ht).mpr z)))
theorem g_icmpL_lt (hC : Cx F own cc nL rm) {t e : Nat} {off : Int} {tgt : Nat} (d : decode cc pc = .ok (.if_icmp .lt off, 3)) (hz : (pc : Int) + off = (tgt : Int)) (hp : pc + 3 = pc') (ht : t < 1073741824) (he : e < 1073741824) (kt : t + 1 < e → G F S K X tgt ls st) (kf : e ≤ t + 1 → G F S K X pc' ls st) : G F S K X pc ls (.int (lI e) :: .int (nI t) :: st) := g_icmp_lt hC d hz hp (fun h => kt ((lI_gt he ht).mp h)) (fun h => kf (Nat.not_lt.mp fun z => h ((lI_gt he ht).mpr z)))
theorem g_icmpL_ge (hC : Cx F own cc nL rm) {t e : Nat} {off : Int} {tgt : Nat} (d : decode cc pc = .ok (.if_icmp .ge off, 3)) (hz : (pc : Int) + off = (tgt : Int)) (hp : pc + 3 = pc') (ht : t < 1073741824) (he : e < 1073741824) (kt : e ≤ t + 1 → G F S K X tgt ls st) (kf : t + 1 < e → G F S K X pc' ls st) : G F S K X pc ls (.int (lI e) :: .int (nI t) :: st) := g_icmp_ge hC d hz hp (fun h => kt ((lI_ge he ht).mp h)) (fun h => kf (Nat.not_le.mp fun z => h ((lI_ge he ht).mpr z)))
end
/-! lists of marks: the mathematics of both sides -/
def upto (P : Nat → Bool) : Nat → Nat
  | 0 => 0
  | n + 1 => if P n then n + 1 else upto P n
def anB (P : Nat → Bool) : Nat → Bool
  | 0 => false
  | n + 1 => anB P n || P n
def cnB (P : Nat → Bool) : Nat → Nat
  | 0 => 0
  | n + 1 => cnB P n + (if P n then 1 else 0)
def smN (f : Nat → Nat) : Nat → Nat
  | 0 => 0
  | n + 1 => smN f n + f n
def mxN (f : Nat → Nat) : Nat → Nat
  | 0 => 0
  | n + 1 => max (mxN f n) (f n)
def msk (P : Nat → Bool) : Nat → Nat
  | 0 => 0
  | n + 1 => msk P n ||| (if P n then 2 ^ n else 0)
theorem upto_le (P : Nat → Bool) : ∀ n, upto P n ≤ n := by
  intro n
  induction n with
  | zero => exact Nat.le_refl _
  | succ n ih => unfold upto; split <;> omega
theorem upto_P {P : Nat → Bool} : ∀ {n : Nat}, upto P n ≠ 0 → P (upto P n - 1) = true := by
  intro n
  induction n with
  | zero => intro h; exact absurd rfl h
  | succ n ih =>
    unfold upto
    split
    · intro _; assumption
    · exact ih
theorem upto_last {P : Nat → Bool} : ∀ {n k : Nat}, k < n → upto P n ≤ k → P k = false := by
  intro n
  induction n with
  | zero => intro k h; omega
  | succ n ih =>
    intro k h h2
    unfold upto at h2
    split at h2
    · omega
    · rename_i hP
      by_cases hk : k = n
      · subst hk; simpa using hP
      · exact ih (by omega) h2
theorem upto_0 {P : Nat → Bool} {n : Nat} (h : upto P n = 0) : ∀ k, k < n → P k = false := fun k hk => upto_last hk (by omega)
theorem anB_iff {P : Nat → Bool} : ∀ {n : Nat}, anB P n = true ↔ ∃ k, k < n ∧ P k = true := by
  intro n
  induction n with
  | zero => simp [anB]
  | succ n ih =>
    unfold anB
    rw [Bool.or_eq_true, ih]
    constructor
    · rintro (⟨k, h1, h2⟩ | h)
      · exact ⟨k, by omega, h2⟩
      · exact ⟨n, by omega, h⟩
    · rintro ⟨k, h1, h2⟩
      by_cases hk : k = n
      · subst hk; exact Or.inr h2
      · exact Or.inl ⟨k, by omega, h2⟩
theorem anB_congr {P Q : Nat → Bool} : ∀ {n : Nat}, (∀ k, k < n → P k = Q k) → anB P n = anB Q n := by
  intro n
  induction n with
  | zero => intro _; rfl
  | succ n ih => intro h; unfold anB; rw [ih (fun k hk => h k (by omega)), h n (by omega)]
theorem upto_congr {P Q : Nat → Bool} : ∀ {n : Nat}, (∀ k, k < n → P k = Q k) → upto P n = upto Q n := by
  intro n
  induction n with
  | zero => intro _; rfl
  | succ n ih => intro h; unfold upto; rw [ih (fun k hk => h k (by omega)), h n (by omega)]
theorem cnB_congr {P Q : Nat → Bool} : ∀ {n : Nat}, (∀ k, k < n → P k = Q k) → cnB P n = cnB Q n := by
  intro n
  induction n with
  | zero => intro _; rfl
  | succ n ih => intro h; unfold cnB; rw [ih (fun k hk => h k (by omega)), h n (by omega)]
theorem smN_congr {P Q : Nat → Nat} : ∀ {n : Nat}, (∀ k, k < n → P k = Q k) → smN P n = smN Q n := by
  intro n
  induction n with
  | zero => intro _; rfl
  | succ n ih => intro h; unfold smN; rw [ih (fun k hk => h k (by omega)), h n (by omega)]
theorem mxN_congr {P Q : Nat → Nat} : ∀ {n : Nat}, (∀ k, k < n → P k = Q k) → mxN P n = mxN Q n := by
  intro n
  induction n with
  | zero => intro _; rfl
  | succ n ih => intro h; unfold mxN; rw [ih (fun k hk => h k (by omega)), h n (by omega)]
theorem msk_congr {P Q : Nat → Bool} : ∀ {n : Nat}, (∀ k, k < n → P k = Q k) → msk P n = msk Q n := by
  intro n
  induction n with
  | zero => intro _; rfl
  | succ n ih => intro h; unfold msk; rw [ih (fun k hk => h k (by omega)), h n (by omega)]
theorem cnB_le (P : Nat → Bool) : ∀ n, cnB P n ≤ n := by
  intro n
  induction n with
  | zero => exact Nat.le_refl _
  | succ n ih => unfold cnB; split <;> omega
theorem smN_le {f : Nat → Nat} {b : Nat} (h : ∀ k, f k ≤ b) : ∀ n, smN f n ≤ n * b := by
  intro n
  induction n with
  | zero => exact Nat.zero_le _
  | succ n ih => unfold smN; have := h n; rw [Nat.succ_mul]; omega
theorem smN_leB {f : Nat → Nat} {b : Nat} : ∀ n, (∀ k, k < n → f k ≤ b) → smN f n ≤ n * b := by
  intro n
  induction n with
  | zero => intro _; exact Nat.zero_le _
  | succ n ih => intro h; unfold smN; have := h n (by omega); have := ih (fun k hk => h k (by omega)); rw [Nat.succ_mul]; omega
theorem mxN_le {f : Nat → Nat} {b : Nat} : ∀ n, (∀ k, k < n → f k ≤ b) → mxN f n ≤ b := by
  intro n
  induction n with
  | zero => intro _; exact Nat.zero_le _
  | succ n ih => intro h; unfold mxN; have := h n (by omega); have := ih (fun k hk => h k (by omega)); omega
theorem le_mxN {f : Nat → Nat} : ∀ n k, k < n → f k ≤ mxN f n := by
  intro n
  induction n with
  | zero => intro k h; omega
  | succ n ih => intro k h; unfold mxN; by_cases hk : k = n
                 · subst hk; omega
                 · have := ih k (by omega); omega
theorem msk_lt (P : Nat → Bool) : ∀ n, msk P n < 2 ^ n := by
  intro n
  induction n with
  | zero => simp [msk]
  | succ n ih =>
    unfold msk
    have h2 : 2 ^ (n + 1) = 2 * 2 ^ n := by rw [Nat.pow_succ]; omega
    refine Nat.or_lt_two_pow (by omega) ?_
    split <;> omega
end
section
/-! the state as the model holds it: one row of numbers g; cell 3 holds one less than g 3 -/
def ar (g : Nat → Nat) (j : Nat) : Int32 := if j = 3 then lI (g 3) else nI (g j)
def RM (X : gX) (g : Nat → Nat) : Prop := ∀ j, j < 470 → X 202 j = ar g j
theorem RM.at {X : gX} {g : Nat → Nat} (h : RM X g) {j : Nat} (hj : j < 470) (h3 : j ≠ 3) : X 202 j = nI (g j) := by rw [h j hj]; simp [ar, h3]
theorem RM.low {X : gX} {g : Nat → Nat} (h : RM X g) : X 202 3 = lI (g 3) := h 3 (by decide)
def cnt (g : Nat → Nat) (s f : Nat) : Nat := g (20 + (10 * s + f))
def mk (g : Nat → Nat) (s f k : Nat) : Nat := g (70 + 8 * (10 * s + f) + k)
theorem RM.cnt {X : gX} {g : Nat → Nat} (h : RM X g) {s f : Nat} (hs : s < 5) (hf : f < 10) : X 202 (20 + (10 * s + f)) = nI (cnt g s f) := h.at (by omega) (by omega)
theorem RM.mk {X : gX} {g : Nat → Nat} (h : RM X g) {s f k : Nat} (hs : s < 5) (hf : f < 10) (hk : k < 8) : X 202 (70 + 8 * (10 * s + f) + k) = nI (mk g s f k) := h.at (by omega) (by omega)
def Inv (g : Nat → Nat) : Prop := ((1 ≤ g 0 ∧ g 0 ≤ 9) ∧ g 1 ≤ 5 ∧ g 2 ≤ g 3 ∧ g 3 ≤ 5) ∧ (∀ t, t < 5 → g (4 + t) ≤ 4 ∧ g (9 + t) ≤ 300 ∧ g (14 + t) < 1024) ∧ (∀ s f, s < 5 → f < 10 → cnt g s f ≤ 8) ∧ (∀ s f k, s < 5 → f < 10 → k < 8 → mk g s f k < 20000) ∧ ∀ s f k, s < 5 → f < 10 → k < cnt g s f → 1 ≤ mk g s f k / 2 % 10
theorem Inv.c {g : Nat → Nat} (h : Inv g) {s f : Nat} (hs : s < 5) (hf : f < 10) : cnt g s f ≤ 8 := h.2.2.1 s f hs hf
theorem Inv.m {g : Nat → Nat} (h : Inv g) {s f k : Nat} (hs : s < 5) (hf : f < 10) (hk : k < 8) : mk g s f k < 20000 := h.2.2.2.1 s f k hs hf hk
theorem Inv.p {g : Nat → Nat} (h : Inv g) {s f k : Nat} (hs : s < 5) (hf : f < 10) (hk : k < cnt g s f) : 1 ≤ mk g s f k / 2 % 10 := h.2.2.2.2 s f k hs hf hk
def inB (v a b : Int32) : Bool := decide (a ≤ v) && decide (v ≤ b)
theorem inB_iff {v a b : Int32} : inB v a b = true ↔ a ≤ v ∧ v ≤ b := by simp [inB]
theorem inB_f1 {v a b : Int32} (h : v < a) : inB v a b = false := by
  have h2 : ¬ a ≤ v := Int32.not_le.mpr h
  simp [inB, h2]
theorem inB_f2 {v a b : Int32} (h : b < v) : inB v a b = false := by
  have h2 : ¬ v ≤ b := Int32.not_le.mpr h
  simp [inB, h2]
theorem inB_N {v : Int32} {a b : Nat} (hb : b < 1073741824) (h : inB v (nI a) (nI b) = true) (ha : a < 1073741824) : ∃ n, v = nI n ∧ a ≤ n ∧ n ≤ b := by
  obtain ⟨h1, h2⟩ := inB_iff.mp h
  have hz : ¬ v < 0 := by
    rw [Int32.le_iff_toInt_le, nI_toInt (by omega)] at h1
    rw [Int32.lt_iff_toInt_lt]
    simp; omega
  obtain ⟨j, hj, rfl⟩ := nI_of hz
  exact ⟨j, rfl, (nI_leD (by omega) hj).mp h1, (nI_leD hj (by omega)).mp h2⟩
theorem inB_nI {n a b : Nat} (hn : n < 1073741824) (ha : a < 1073741824) (hb : b < 1073741824) : inB (nI n) (nI a) (nI b) = (decide (a ≤ n) && decide (n ≤ b)) := by
  simp only [inB, nI_leD (show a < 2147483648 by omega) (show n < 2147483648 by omega), nI_leD (show n < 2147483648 by omega) (show b < 2147483648 by omega)]
def inS (g : Nat → Nat) (s : Nat) : Bool := decide (g 2 ≤ s) && decide (s < g 3)
theorem inB_st {g : Nat → Nat} {s : Nat} (hs : s < 1073741824) (h2 : g 2 < 1073741824) (h3 : g 3 < 1073741824) : inB (nI s) (nI (g 2)) (lI (g 3)) = inS g s := by
  simp only [inB, inS, nI_leD (show g 2 < 2147483648 by omega) (show s < 2147483648 by omega), lI_le h3 hs]
theorem inS_iff {g : Nat → Nat} {s : Nat} : inS g s = true ↔ g 2 ≤ s ∧ s < g 3 := by simp [inS]
/-- readable -/
def rdb (g : Nat → Nat) (m : Nat) : Bool := decide (m % 2 = 0) && decide (g 0 ≤ m / 2 % 10)
def rd (g : Nat → Nat) (s f k : Nat) : Bool := rdb g (mk g s f k)
def last (g : Nat → Nat) (s f : Nat) : Nat := upto (rd g s f) (cnt g s f)
/-- a place, or none -/
def oI (n : Nat) : Int32 := if n = 0 then -6 else nI (n - 1)
theorem oI_s (n : Nat) : oI (n + 1) = nI n := rfl
theorem oI_neg {n : Nat} (hn : n < 1073741824) : oI n < 0 ↔ n = 0 := by
  cases n with
  | zero => decide
  | succ n => rw [oI_s]; have := nI_pos (n := n) (by omega); simp [this]
def own (g : Nat → Nat) (s f : Nat) : Nat := mk g s f (last g s f - 1)
def blur (g : Nat → Nat) (s f k : Nat) : Bool := rd g s f k && (decide (mk g s f k / 20 ≠ own g s f / 20) && decide (own g s f / 2 % 10 + g 1 < mk g s f k / 2 % 10))
def kind (g : Nat → Nat) (s f : Nat) : Nat := if last g s f = 0 then 0 else if anB (blur g s f) (last g s f - 1) then 2 else 1
def valI (g : Nat → Nat) (s f : Nat) : Int32 := if last g s f = 0 then -6 else nI (own g s f / 20)
def strI (g : Nat → Nat) (s f : Nat) : Int32 := if last g s f = 0 then -6 else nI (own g s f / 2 % 10)
theorem kind_le (g : Nat → Nat) (s f : Nat) : kind g s f ≤ 2 := by
  unfold kind
  split
  · omega
  · split <;> omega
theorem last_le (g : Nat → Nat) (s f : Nat) : last g s f ≤ cnt g s f := upto_le _ _

set_option maxHeartbeats 4000000 in
set_option maxRecDepth 100000 in
theorem c_in {l : Launch} {ad : Nat → Nat} {X : gX} {v a b : Int32} : K_X7_in l ad [.int (v), .int (a), .int (b)] X (pR X (zI (inB v a b))) := by
  refine Ct.of [.int (v), .int (a), .int (b)] 0 (by decide +kernel) rfl (Nat.le_of_ble_eq_true rfl) (fun F hl hC hRt _ => ?_)
  subst hl
  refine g_iload_0 hC dX7_in_0 (pc' := 1) rfl ?_
  refine g_iload_1 hC dX7_in_1 (pc' := 2) rfl ?_
  refine g_icmp_lt hC dX7_in_2 (pc' := 5) (tgt := 14) (by decide) rfl (fun h2 => ?_) (fun h2 => ?_)
  · refine g_iconst hC dX7_in_14 (pc' := 15) kc_iconst_0 rfl ?_
    refine g_iretR hC hRt nz_0 dX7_in_15 (nI0_z ?_)
    first | exact inB_iff.mpr ⟨Int32.not_lt.mp h2, Int32.not_lt.mp h7⟩ | exact inB_f1 h2 | exact inB_f2 h7
  · refine g_iload_0 hC dX7_in_5 (pc' := 6) rfl ?_
    refine g_iload_2 hC dX7_in_6 (pc' := 7) rfl ?_
    refine g_icmp_gt hC dX7_in_7 (pc' := 10) (tgt := 14) (by decide) rfl (fun h7 => ?_) (fun h7 => ?_)
    · refine g_iconst hC dX7_in_14 (pc' := 15) kc_iconst_0 rfl ?_
      refine g_iretR hC hRt nz_0 dX7_in_15 (nI0_z ?_)
      first | exact inB_iff.mpr ⟨Int32.not_lt.mp h2, Int32.not_lt.mp h7⟩ | exact inB_f1 h2 | exact inB_f2 h7
    · refine g_iconst hC dX7_in_10 (pc' := 11) kc_iconst_1 rfl ?_
      refine g_goto hC dX7_in_11 (tgt := 15) (by decide) ?_
      refine g_iretR hC hRt nz_1 dX7_in_15 (nI1_z ?_)
      first | exact inB_iff.mpr ⟨Int32.not_lt.mp h2, Int32.not_lt.mp h7⟩ | exact inB_f1 h2 | exact inB_f2 h7

set_option maxHeartbeats 4000000 in
set_option maxRecDepth 100000 in
theorem c_isSheet {l : Launch} {ad : Nat → Nat} {X : gX} {v : Int32} : K_X7_isSheet l ad [.int (v)] X (pR X (zI (inB v (nI 0) (nI 4)))) := by
  refine Ct.of [.int (v)] 0 (by decide +kernel) rfl (Nat.le_of_ble_eq_true rfl) (fun F hl hC hRt _ => ?_)
  subst hl
  refine g_iload_0 hC dX7_isSheet_0 (pc' := 1) rfl ?_
  refine g_iconst hC dX7_isSheet_1 (pc' := 2) kc_iconst_0 rfl ?_
  refine g_iconst hC dX7_isSheet_2 (pc' := 3) kc_iconst_4 rfl ?_
  refine g_callS3R hC (c_in) ml_X7_43 ⟨(Nat.le_of_ble_eq_true rfl), (Nat.le_of_ble_eq_true rfl)⟩ (Nat.le_of_ble_eq_true rfl) dX7_isSheet_3 (pc' := 6) rfl ⟨Nat.zero_le _, Nat.zero_le _⟩ ?_
  refine g_iretR hC hRt (nz_z _) dX7_isSheet_6 ?_
  first | rfl | simp_all | omega

set_option maxHeartbeats 4000000 in
set_option maxRecDepth 100000 in
theorem c_isField {l : Launch} {ad : Nat → Nat} {X : gX} {v : Int32} : K_X7_isField l ad [.int (v)] X (pR X (zI (inB v (nI 0) (nI 9)))) := by
  refine Ct.of [.int (v)] 0 (by decide +kernel) rfl (Nat.le_of_ble_eq_true rfl) (fun F hl hC hRt _ => ?_)
  subst hl
  refine g_iload_0 hC dX7_isField_0 (pc' := 1) rfl ?_
  refine g_iconst hC dX7_isField_1 (pc' := 2) kc_iconst_0 rfl ?_
  refine g_bipush hC dX7_isField_2 (pc' := 4) kc_bipush_9 rfl ?_
  refine g_callS3R hC (c_in) ml_X7_43 ⟨(Nat.le_of_ble_eq_true rfl), (Nat.le_of_ble_eq_true rfl)⟩ (Nat.le_of_ble_eq_true rfl) dX7_isField_4 (pc' := 7) rfl ⟨Nat.zero_le _, Nat.zero_le _⟩ ?_
  refine g_iretR hC hRt (nz_z _) dX7_isField_7 ?_
  first | rfl | simp_all | omega

set_option maxHeartbeats 4000000 in
set_option maxRecDepth 100000 in
theorem c_isInStack {l : Launch} {ad : Nat → Nat} {X : gX} {s : Nat} {g : Nat → Nat} (hs : s < 5) (hR : RM X g) (hI : Inv g) : K_X7_isInStack l ad [.ref 201, .int (nI s)] X (pR X (zI (inS g s))) := by
  refine Ct.of [.ref 201, .int (nI s)] 0 (by decide +kernel) rfl (Nat.le_of_ble_eq_true rfl) (fun F hl hC hRt _ => ?_)
  subst hl
  have b23 : g 2 ≤ g 3 ∧ g 3 ≤ 5 := hI.1.2.2
  refine g_iload_1 hC dX7_isInStack_0 (pc' := 1) rfl ?_
  refine g_aload_0 hC dX7_isInStack_1 (pc' := 2) rfl ?_
  refine g_getR hC fl_X7_7 (sh_M ad) rfl dX7_isInStack_2 (pc' := 5) rfl ?_
  refine g_iconst hC dX7_isInStack_5 (pc' := 6) kc_iconst_2 rfl ?_
  refine g_iald hC (sh_mnow ad) (Nat.le_of_ble_eq_true rfl) (by omega) (hR.at (by decide) (by decide)) dX7_isInStack_6 (pc' := 7) rfl ?_
  refine g_aload_0 hC dX7_isInStack_7 (pc' := 8) rfl ?_
  refine g_getR hC fl_X7_7 (sh_M ad) rfl dX7_isInStack_8 (pc' := 11) rfl ?_
  refine g_iconst hC dX7_isInStack_11 (pc' := 12) kc_iconst_3 rfl ?_
  refine g_iald hC (sh_mnow ad) (Nat.le_of_ble_eq_true rfl) (by omega) (hR.low) dX7_isInStack_12 (pc' := 13) rfl ?_
  refine g_callS3R hC (c_in) ml_X7_43 ⟨(Nat.le_of_ble_eq_true rfl), (Nat.le_of_ble_eq_true rfl)⟩ (Nat.le_of_ble_eq_true rfl) dX7_isInStack_13 (pc' := 16) rfl ⟨Nat.zero_le _, Nat.zero_le _⟩ ?_
  refine g_iretR hC hRt (nz_z _) dX7_isInStack_16 ?_
  rw [inB_st (by omega) (by omega) (by omega)]

set_option maxHeartbeats 4000000 in
set_option maxRecDepth 100000 in
theorem c_hasStack {l : Launch} {ad : Nat → Nat} {X : gX} {g : Nat → Nat} (hR : RM X g) (hI : Inv g) : K_X7_hasStack l ad [.ref 201] X (pR X (zI (decide (g 2 < g 3)))) := by
  refine Ct.of [.ref 201] 0 (by decide +kernel) rfl (Nat.le_of_ble_eq_true rfl) (fun F hl hC hRt _ => ?_)
  subst hl
  have b23 : g 2 ≤ g 3 ∧ g 3 ≤ 5 := hI.1.2.2
  refine g_aload_0 hC dX7_hasStack_0 (pc' := 1) rfl ?_
  refine g_getR hC fl_X7_7 (sh_M ad) rfl dX7_hasStack_1 (pc' := 4) rfl ?_
  refine g_iconst hC dX7_hasStack_4 (pc' := 5) kc_iconst_2 rfl ?_
  refine g_iald hC (sh_mnow ad) (Nat.le_of_ble_eq_true rfl) (by omega) (hR.at (by decide) (by decide)) dX7_hasStack_5 (pc' := 6) rfl ?_
  refine g_aload_0 hC dX7_hasStack_6 (pc' := 7) rfl ?_
  refine g_getR hC fl_X7_7 (sh_M ad) rfl dX7_hasStack_7 (pc' := 10) rfl ?_
  refine g_iconst hC dX7_hasStack_10 (pc' := 11) kc_iconst_3 rfl ?_
  refine g_iald hC (sh_mnow ad) (Nat.le_of_ble_eq_true rfl) (by omega) (hR.low) dX7_hasStack_11 (pc' := 12) rfl ?_
  refine g_icmpL_gt hC dX7_hasStack_12 (pc' := 15) (tgt := 19) (by decide) rfl (by omega) (by omega) (fun h12 => ?_) (fun h12 => ?_)
  · refine g_iconst hC dX7_hasStack_19 (pc' := 20) kc_iconst_0 rfl ?_
    refine g_iretR hC hRt nz_0 dX7_hasStack_20 (nI0_z ?_)
    simp; omega
  · refine g_iconst hC dX7_hasStack_15 (pc' := 16) kc_iconst_1 rfl ?_
    refine g_goto hC dX7_hasStack_16 (tgt := 20) (by decide) ?_
    refine g_iretR hC hRt nz_1 dX7_hasStack_20 (nI1_z ?_)
    simp; omega

set_option maxHeartbeats 4000000 in
set_option maxRecDepth 100000 in
theorem c_spot {l : Launch} {ad : Nat → Nat} {X : gX} {s f : Nat} : K_X7_spot l ad [.int (nI s), .int (nI f)] X (pR X (nI (10 * s + f))) := by
  refine Ct.of [.int (nI s), .int (nI f)] 0 (by decide +kernel) rfl (Nat.le_of_ble_eq_true rfl) (fun F hl hC hRt _ => ?_)
  subst hl
  refine g_bipush hC dX7_spot_0 (pc' := 2) kc_bipush_10 rfl ?_
  refine g_iload_0 hC dX7_spot_2 (pc' := 3) rfl ?_
  refine g_imulN hC dX7_spot_3 (pc' := 4) rfl ?_
  refine g_iload_1 hC dX7_spot_4 (pc' := 5) rfl ?_
  refine g_iaddN hC dX7_spot_5 (pc' := 6) rfl ?_
  refine g_iretR hC hRt rfl dX7_spot_6 ?_
  first | rfl | simp_all | omega

set_option maxHeartbeats 4000000 in
set_option maxRecDepth 100000 in
theorem c_many {l : Launch} {ad : Nat → Nat} {X : gX} {s f : Nat} {g : Nat → Nat} (hs : s < 5) (hf : f < 10) (hR : RM X g) : K_X7_many l ad [.ref 201, .int (nI s), .int (nI f)] X (pR X (nI (cnt g s f))) := by
  refine Ct.of [.ref 201, .int (nI s), .int (nI f)] 0 (by decide +kernel) rfl (Nat.le_of_ble_eq_true rfl) (fun F hl hC hRt _ => ?_)
  subst hl
  refine g_aload_0 hC dX7_many_0 (pc' := 1) rfl ?_
  refine g_getR hC fl_X7_7 (sh_M ad) rfl dX7_many_1 (pc' := 4) rfl ?_
  refine g_bipush hC dX7_many_4 (pc' := 6) kc_bipush_20 rfl ?_
  refine g_iload_1 hC dX7_many_6 (pc' := 7) rfl ?_
  refine g_iload_2 hC dX7_many_7 (pc' := 8) rfl ?_
  refine g_callS2R hC (c_spot) ml_X7_57 ⟨(Nat.le_of_ble_eq_true rfl), (Nat.le_of_ble_eq_true rfl)⟩ (Nat.le_of_ble_eq_true rfl) dX7_many_8 (pc' := 11) rfl ⟨Nat.zero_le _, Nat.zero_le _⟩ ?_
  refine g_iaddN hC dX7_many_11 (pc' := 12) rfl ?_
  refine g_iald hC (sh_mnow ad) (Nat.le_of_ble_eq_true rfl) (by omega) (hR.cnt hs hf) dX7_many_12 (pc' := 13) rfl ?_
  refine g_iretR hC hRt rfl dX7_many_13 ?_
  first | rfl | simp_all | omega

set_option maxHeartbeats 4000000 in
set_option maxRecDepth 100000 in
theorem c_markAt {l : Launch} {ad : Nat → Nat} {X : gX} {s f k : Nat} {g : Nat → Nat} (hs : s < 5) (hf : f < 10) (hk : k < 8) (hR : RM X g) : K_X7_markAt l ad [.ref 201, .int (nI s), .int (nI f), .int (nI k)] X (pR X (nI (mk g s f k))) := by
  refine Ct.of [.ref 201, .int (nI s), .int (nI f), .int (nI k)] 0 (by decide +kernel) rfl (Nat.le_of_ble_eq_true rfl) (fun F hl hC hRt _ => ?_)
  subst hl
  refine g_aload_0 hC dX7_markAt_0 (pc' := 1) rfl ?_
  refine g_getR hC fl_X7_7 (sh_M ad) rfl dX7_markAt_1 (pc' := 4) rfl ?_
  refine g_bipush hC dX7_markAt_4 (pc' := 6) kc_bipush_70 rfl ?_
  refine g_bipush hC dX7_markAt_6 (pc' := 8) kc_bipush_8 rfl ?_
  refine g_iload_1 hC dX7_markAt_8 (pc' := 9) rfl ?_
  refine g_iload_2 hC dX7_markAt_9 (pc' := 10) rfl ?_
  refine g_callS2R hC (c_spot) ml_X7_57 ⟨(Nat.le_of_ble_eq_true rfl), (Nat.le_of_ble_eq_true rfl)⟩ (Nat.le_of_ble_eq_true rfl) dX7_markAt_10 (pc' := 13) rfl ⟨Nat.zero_le _, Nat.zero_le _⟩ ?_
  refine g_imulN hC dX7_markAt_13 (pc' := 14) rfl ?_
  refine g_iaddN hC dX7_markAt_14 (pc' := 15) rfl ?_
  refine g_iload_3 hC dX7_markAt_15 (pc' := 16) rfl ?_
  refine g_iaddN hC dX7_markAt_16 (pc' := 17) rfl ?_
  refine g_iald hC (sh_mnow ad) (Nat.le_of_ble_eq_true rfl) (by omega) (hR.mk hs hf hk) dX7_markAt_17 (pc' := 18) rfl ?_
  refine g_iretR hC hRt rfl dX7_markAt_18 ?_
  first | rfl | simp_all | omega

set_option maxHeartbeats 4000000 in
set_option maxRecDepth 100000 in
theorem c_valueOf {l : Launch} {ad : Nat → Nat} {X : gX} {m : Nat} (hm : m < 20000) : K_X7_valueOf l ad [.int (nI m)] X (pR X (nI (m / 20))) := by
  refine Ct.of [.int (nI m)] 0 (by decide +kernel) rfl (Nat.le_of_ble_eq_true rfl) (fun F hl hC hRt _ => ?_)
  subst hl
  refine g_iload_0 hC dX7_valueOf_0 (pc' := 1) rfl ?_
  refine g_bipush hC dX7_valueOf_1 (pc' := 3) kc_bipush_20 rfl ?_
  refine g_idivN hC dX7_valueOf_3 (pc' := 4) rfl (by omega) (by omega) (by omega) ?_
  refine g_iretR hC hRt rfl dX7_valueOf_4 ?_
  first | rfl | simp_all | omega

set_option maxHeartbeats 4000000 in
set_option maxRecDepth 100000 in
theorem c_strengthOf {l : Launch} {ad : Nat → Nat} {X : gX} {m : Nat} (hm : m < 20000) : K_X7_strengthOf l ad [.int (nI m)] X (pR X (nI (m / 2 % 10))) := by
  refine Ct.of [.int (nI m)] 0 (by decide +kernel) rfl (Nat.le_of_ble_eq_true rfl) (fun F hl hC hRt _ => ?_)
  subst hl
  refine g_iload_0 hC dX7_strengthOf_0 (pc' := 1) rfl ?_
  refine g_iconst hC dX7_strengthOf_1 (pc' := 2) kc_iconst_2 rfl ?_
  refine g_idivN hC dX7_strengthOf_2 (pc' := 3) rfl (by omega) (by omega) (by omega) ?_
  refine g_bipush hC dX7_strengthOf_3 (pc' := 5) kc_bipush_10 rfl ?_
  refine g_iremN hC dX7_strengthOf_5 (pc' := 6) rfl (by omega) (by omega) (by omega) ?_
  refine g_iretR hC hRt rfl dX7_strengthOf_6 ?_
  first | rfl | simp_all | omega

set_option maxHeartbeats 4000000 in
set_option maxRecDepth 100000 in
theorem c_isStruck {l : Launch} {ad : Nat → Nat} {X : gX} {m : Nat} (hm : m < 20000) : K_X7_isStruck l ad [.int (nI m)] X (pR X (zI (decide (m % 2 = 1)))) := by
  refine Ct.of [.int (nI m)] 0 (by decide +kernel) rfl (Nat.le_of_ble_eq_true rfl) (fun F hl hC hRt _ => ?_)
  subst hl
  refine g_iload_0 hC dX7_isStruck_0 (pc' := 1) rfl ?_
  refine g_iconst hC dX7_isStruck_1 (pc' := 2) kc_iconst_2 rfl ?_
  refine g_iremN hC dX7_isStruck_2 (pc' := 3) rfl (by omega) (by omega) (by omega) ?_
  refine g_iconst hC dX7_isStruck_3 (pc' := 4) kc_iconst_1 rfl ?_
  refine g_icmpN_ne hC dX7_isStruck_4 (pc' := 7) (tgt := 11) (by decide) rfl (by omega) (by omega) (fun h4 => ?_) (fun h4 => ?_)
  · refine g_iconst hC dX7_isStruck_11 (pc' := 12) kc_iconst_0 rfl ?_
    refine g_iretR hC hRt nz_0 dX7_isStruck_12 (nI0_z ?_)
    simp; omega
  · refine g_iconst hC dX7_isStruck_7 (pc' := 8) kc_iconst_1 rfl ?_
    refine g_goto hC dX7_isStruck_8 (tgt := 12) (by decide) ?_
    refine g_iretR hC hRt nz_1 dX7_isStruck_12 (nI1_z ?_)
    simp; omega

set_option maxHeartbeats 4000000 in
set_option maxRecDepth 100000 in
theorem c_isReadable {l : Launch} {ad : Nat → Nat} {X : gX} {m : Nat} {g : Nat → Nat} (hm : m < 20000) (hR : RM X g) (hI : Inv g) : K_X7_isReadable l ad [.ref 201, .int (nI m)] X (pR X (zI (rdb g m))) := by
  refine Ct.of [.ref 201, .int (nI m)] 0 (by decide +kernel) rfl (Nat.le_of_ble_eq_true rfl) (fun F hl hC hRt _ => ?_)
  subst hl
  have b0 := hI.1.1
  refine g_iload_1 hC dX7_isReadable_0 (pc' := 1) rfl ?_
  refine g_callS1R hC (c_isStruck hm) ml_X7_68 ⟨(Nat.le_of_ble_eq_true rfl), (Nat.le_of_ble_eq_true rfl)⟩ (Nat.le_of_ble_eq_true rfl) dX7_isReadable_1 (pc' := 4) rfl ⟨Nat.zero_le _, Nat.zero_le _⟩ ?_
  refine g_ifZ_ne hC dX7_isReadable_4 (pc' := 7) (tgt := 24) (by decide) rfl (fun h4 => ?_) (fun h4 => ?_)
  · refine g_iconst hC dX7_isReadable_24 (pc' := 25) kc_iconst_0 rfl ?_
    refine g_iretR hC hRt nz_0 dX7_isReadable_25 (nI0_z ?_)
    simp only [decide_eq_true_eq, decide_eq_false_iff_not] at *
    simp [rdb]
    omega
  · refine g_iload_1 hC dX7_isReadable_7 (pc' := 8) rfl ?_
    refine g_callS1R hC (c_strengthOf hm) ml_X7_71 ⟨(Nat.le_of_ble_eq_true rfl), (Nat.le_of_ble_eq_true rfl)⟩ (Nat.le_of_ble_eq_true rfl) dX7_isReadable_8 (pc' := 11) rfl ⟨Nat.zero_le _, Nat.zero_le _⟩ ?_
    refine g_aload_0 hC dX7_isReadable_11 (pc' := 12) rfl ?_
    refine g_getR hC fl_X7_7 (sh_M ad) rfl dX7_isReadable_12 (pc' := 15) rfl ?_
    refine g_iconst hC dX7_isReadable_15 (pc' := 16) kc_iconst_0 rfl ?_
    refine g_iald hC (sh_mnow ad) (Nat.le_of_ble_eq_true rfl) (by omega) (hR.at (by decide) (by decide)) dX7_isReadable_16 (pc' := 17) rfl ?_
    refine g_icmpN_lt hC dX7_isReadable_17 (pc' := 20) (tgt := 24) (by decide) rfl (by omega) (by omega) (fun h17 => ?_) (fun h17 => ?_)
    · refine g_iconst hC dX7_isReadable_24 (pc' := 25) kc_iconst_0 rfl ?_
      refine g_iretR hC hRt nz_0 dX7_isReadable_25 (nI0_z ?_)
      simp only [decide_eq_true_eq, decide_eq_false_iff_not] at *
      simp [rdb]
      omega
    · refine g_iconst hC dX7_isReadable_20 (pc' := 21) kc_iconst_1 rfl ?_
      refine g_goto hC dX7_isReadable_21 (tgt := 25) (by decide) ?_
      refine g_iretR hC hRt nz_1 dX7_isReadable_25 (nI1_z ?_)
      simp only [decide_eq_true_eq, decide_eq_false_iff_not] at *
      simp [rdb]
      omega

set_option maxHeartbeats 4000000 in
set_option maxRecDepth 100000 in
theorem c_lastAt {l : Launch} {ad : Nat → Nat} {X : gX} {s f : Nat} {g : Nat → Nat} (hs : s < 5) (hf : f < 10) (hR : RM X g) (hI : Inv g) : K_X7_lastAt l ad [.ref 201, .int (nI s), .int (nI f)] X (pR X (oI (last g s f))) := by
  refine Ct.of [.ref 201, .int (nI s), .int (nI f), .null, .null] 2 (by decide +kernel) rfl (Nat.le_of_ble_eq_true rfl) (fun F hl hC hRt _ => ?_)
  subst hl
  have bc := hI.c hs hf
  refine g_bipush hC dX7_lastAt_0 (pc' := 2) kc_bipush_m6 rfl ?_
  refine g_istore_3 hC dX7_lastAt_2 (pc' := 3) rfl (Nat.le_of_ble_eq_true rfl) rfl ?_
  refine g_iconst hC dX7_lastAt_3 (pc' := 4) kc_iconst_0 rfl ?_
  refine g_istore_4 hC dX7_lastAt_4 (pc' := 6) rfl (Nat.le_of_ble_eq_true rfl) rfl ?_
  have L6 : ∀ k, k ≤ cnt g s f → G F (S0 ad) (0, 0) X 6 [.ref 201, .int (nI s), .int (nI f), .int (oI (upto (rd g s f) k)), .int (nI k)] [] := by
    refine up_ind _ (fun k hk6 ih6 => ?_)
    refine g_iload_4 hC dX7_lastAt_6 (pc' := 8) rfl ?_
    refine g_aload_0 hC dX7_lastAt_8 (pc' := 9) rfl ?_
    refine g_iload_1 hC dX7_lastAt_9 (pc' := 10) rfl ?_
    refine g_iload_2 hC dX7_lastAt_10 (pc' := 11) rfl ?_
    refine g_callV2R hC (c_many hs hf hR) ml_X7_61 (sh_M ad) rfl ⟨(Nat.le_of_ble_eq_true rfl), (Nat.le_of_ble_eq_true rfl)⟩ (Nat.le_of_ble_eq_true rfl) dX7_lastAt_11 (pc' := 14) rfl ⟨Nat.zero_le _, Nat.zero_le _⟩ ?_
    refine g_icmpN_ge hC dX7_lastAt_14 (pc' := 17) (tgt := 45) (by decide) rfl (by omega) (by omega) (fun h14 => ?_) (fun h14 => ?_)
    · refine g_iload_3 hC dX7_lastAt_45 (pc' := 46) rfl ?_
      refine g_iretR hC hRt rfl dX7_lastAt_46 ?_
      rw [show k = cnt g s f by omega]; rfl
    · refine g_aload_0 hC dX7_lastAt_17 (pc' := 18) rfl ?_
      refine g_aload_0 hC dX7_lastAt_18 (pc' := 19) rfl ?_
      refine g_iload_1 hC dX7_lastAt_19 (pc' := 20) rfl ?_
      refine g_iload_2 hC dX7_lastAt_20 (pc' := 21) rfl ?_
      refine g_iload_4 hC dX7_lastAt_21 (pc' := 23) rfl ?_
      refine g_callV3R hC (c_markAt (k := k) hs hf (by omega) hR) ml_X7_64 (sh_M ad) rfl ⟨(Nat.le_of_ble_eq_true rfl), (Nat.le_of_ble_eq_true rfl)⟩ (Nat.le_of_ble_eq_true rfl) dX7_lastAt_23 (pc' := 26) rfl ⟨Nat.zero_le _, Nat.zero_le _⟩ ?_
      refine g_callV1R hC (c_isReadable (hI.m hs hf (by omega)) hR hI) ml_X7_105 (sh_M ad) rfl ⟨(Nat.le_of_ble_eq_true rfl), (Nat.le_of_ble_eq_true rfl)⟩ (Nat.le_of_ble_eq_true rfl) dX7_lastAt_26 (pc' := 29) rfl ⟨Nat.zero_le _, Nat.zero_le _⟩ ?_
      refine g_ifZ_eq hC dX7_lastAt_29 (pc' := 32) (tgt := 37) (by decide) rfl (fun h29 => ?_) (fun h29 => ?_)
      · refine g_iload_3 hC dX7_lastAt_37 (pc' := 38) rfl ?_
        refine g_istore_3 hC dX7_lastAt_38 (pc' := 39) rfl (Nat.le_of_ble_eq_true rfl) rfl ?_
        refine g_iinc_4 hC dX7_lastAt_39 (pc' := 42) rfl (Nat.le_of_ble_eq_true rfl) rfl (nI_inc _ _ kc_iinc_1) ?_
        refine g_goto hC dX7_lastAt_42 (tgt := 6) (by decide) ?_
        exact g_weak (ih6 (by omega)) (gle_s (gle_s (gle_s (gle_i (by simp only [upto, rd, h29, if_true, oI_s, if_false, Bool.false_eq_true]) (gle_i (by rfl) gle_nil)))))
      · refine g_iload_4 hC dX7_lastAt_32 (pc' := 34) rfl ?_
        refine g_goto hC dX7_lastAt_34 (tgt := 38) (by decide) ?_
        refine g_istore_3 hC dX7_lastAt_38 (pc' := 39) rfl (Nat.le_of_ble_eq_true rfl) rfl ?_
        refine g_iinc_4 hC dX7_lastAt_39 (pc' := 42) rfl (Nat.le_of_ble_eq_true rfl) rfl (nI_inc _ _ kc_iinc_1) ?_
        refine g_goto hC dX7_lastAt_42 (tgt := 6) (by decide) ?_
        exact g_weak (ih6 (by omega)) (gle_s (gle_s (gle_s (gle_i (by simp only [upto, rd, h29, if_true, oI_s, if_false, Bool.false_eq_true]) (gle_i (by rfl) gle_nil)))))
  exact g_weak (L6 0 (by exact Nat.zero_le _)) (gle_s (gle_s (gle_s (gle_i (by rfl) (gle_s gle_nil)))))
end
section
theorem oI_pos {n : Nat} (h : ¬ n = 0) : oI n = nI (n - 1) := by simp [oI, h]
theorem oI_ge {n : Nat} (hn : n < 1073741824) : 0 ≤ oI n ↔ ¬ n = 0 := by
  rw [← Int32.not_lt, oI_neg hn]
def mtest (g : Nat → Nat) (s : Nat) (b : Bool) (f k : Nat) : Bool := !b || decide (mk g s f k % 2 = 1)
def mcount (g : Nat → Nat) (s : Nat) (b : Bool) (f : Nat) : Nat := cnB (mtest g s b f) (cnt g s f)
def marks (g : Nat → Nat) (s : Nat) (b : Bool) : Nat := smN (mcount g s b) 10
def kset (g : Nat → Nat) (s c f : Nat) : Bool := decide (kind g s f = c)
theorem mcount_le {g : Nat → Nat} (hI : Inv g) {s f : Nat} (b : Bool) (hs : s < 5) (hf : f < 10) : mcount g s b f ≤ 8 := Nat.le_trans (cnB_le _ _) (hI.c hs hf)
theorem marks_le {g : Nat → Nat} (hI : Inv g) {s : Nat} (b : Bool) (hs : s < 5) : marks g s b ≤ 80 := smN_leB 10 (fun k hk => mcount_le hI b hs hk)

set_option maxHeartbeats 4000000 in
set_option maxRecDepth 100000 in
theorem c_stateOf {l : Launch} {ad : Nat → Nat} {X : gX} {s f : Nat} {g : Nat → Nat} (hs : s < 5) (hf : f < 10) (hR : RM X g) (hI : Inv g) : K_X7_stateOf l ad [.ref 201, .int (nI s), .int (nI f)] X (pR X (nI (kind g s f))) := by
  refine Ct.of [.ref 201, .int (nI s), .int (nI f), .null, .null, .null, .null, .null] 5 (by decide +kernel) rfl (Nat.le_of_ble_eq_true rfl) (fun F hl hC hRt _ => ?_)
  subst hl
  have bc := hI.c hs hf
  have bl := last_le g s f
  have b1 := hI.1
  refine g_aload_0 hC dX7_stateOf_0 (pc' := 1) rfl ?_
  refine g_iload_1 hC dX7_stateOf_1 (pc' := 2) rfl ?_
  refine g_iload_2 hC dX7_stateOf_2 (pc' := 3) rfl ?_
  refine g_callV2R hC (c_lastAt hs hf hR hI) ml_X7_108 (sh_M ad) rfl ⟨(Nat.le_of_ble_eq_true rfl), (Nat.le_of_ble_eq_true rfl)⟩ (Nat.le_of_ble_eq_true rfl) dX7_stateOf_3 (pc' := 6) rfl ⟨Nat.zero_le _, Nat.zero_le _⟩ ?_
  refine g_istore_3 hC dX7_stateOf_6 (pc' := 7) rfl (Nat.le_of_ble_eq_true rfl) rfl ?_
  refine g_iload_3 hC dX7_stateOf_7 (pc' := 8) rfl ?_
  refine g_if_ge hC dX7_stateOf_8 (pc' := 11) (tgt := 13) (by decide) rfl (fun h8 => ?_) (fun h8 => ?_)
  · have hl : ¬ last g s f = 0 := (oI_ge (by omega)).mp h8
    have bo : own g s f < 20000 := hI.m hs hf (by omega)
    rw [oI_pos hl]
    refine g_aload_0 hC dX7_stateOf_13 (pc' := 14) rfl ?_
    refine g_iload_1 hC dX7_stateOf_14 (pc' := 15) rfl ?_
    refine g_iload_2 hC dX7_stateOf_15 (pc' := 16) rfl ?_
    refine g_iload_3 hC dX7_stateOf_16 (pc' := 17) rfl ?_
    refine g_callV3R hC (c_markAt (k := last g s f - 1) hs hf (by omega) hR) ml_X7_64 (sh_M ad) rfl ⟨(Nat.le_of_ble_eq_true rfl), (Nat.le_of_ble_eq_true rfl)⟩ (Nat.le_of_ble_eq_true rfl) dX7_stateOf_17 (pc' := 20) rfl ⟨Nat.zero_le _, Nat.zero_le _⟩ ?_
    refine g_istore_4 hC dX7_stateOf_20 (pc' := 22) rfl (Nat.le_of_ble_eq_true rfl) rfl ?_
    refine g_iconst hC dX7_stateOf_22 (pc' := 23) kc_iconst_0 rfl ?_
    refine g_istore_5 hC dX7_stateOf_23 (pc' := 25) rfl (Nat.le_of_ble_eq_true rfl) rfl ?_
    refine g_iconst hC dX7_stateOf_25 (pc' := 26) kc_iconst_0 rfl ?_
    refine g_istore_6 hC dX7_stateOf_26 (pc' := 28) rfl (Nat.le_of_ble_eq_true rfl) rfl ?_
    have L28 : ∀ k, k ≤ last g s f - 1 → G F (S0 ad) (0, 0) X 28 [.ref 201, .int (nI s), .int (nI f), .int (nI (last g s f - 1)), .int (nI (own g s f)), .int (zI (anB (blur g s f) k)), .int (nI k), .null] [] := by
      refine up_ind _ (fun k hk28 ih28 => ?_)
      have bm : mk g s f k < 20000 := hI.m hs hf (by omega)
      refine g_iload_6 hC dX7_stateOf_28 (pc' := 30) rfl ?_
      refine g_iload_3 hC dX7_stateOf_30 (pc' := 31) rfl ?_
      refine g_icmpN_ge hC dX7_stateOf_31 (pc' := 34) (tgt := 104) (by decide) rfl (by omega) (by omega) (fun h31 => ?_) (fun h31 => ?_)
      · refine g_iload_5 hC dX7_stateOf_104 (pc' := 106) rfl ?_
        refine g_ifZ_eq hC dX7_stateOf_106 (pc' := 109) (tgt := 113) (by decide) rfl (fun h106 => ?_) (fun h106 => ?_)
        · refine g_iconst hC dX7_stateOf_113 (pc' := 114) kc_iconst_1 rfl ?_
          refine g_iretR hC hRt rfl dX7_stateOf_114 ?_
          rw [show k = last g s f - 1 by omega] at h106; simp [kind, hl, h106]
        · refine g_iconst hC dX7_stateOf_109 (pc' := 110) kc_iconst_2 rfl ?_
          refine g_goto hC dX7_stateOf_110 (tgt := 114) (by decide) ?_
          refine g_iretR hC hRt rfl dX7_stateOf_114 ?_
          rw [show k = last g s f - 1 by omega] at h106; simp [kind, hl, h106]
      · refine g_aload_0 hC dX7_stateOf_34 (pc' := 35) rfl ?_
        refine g_iload_1 hC dX7_stateOf_35 (pc' := 36) rfl ?_
        refine g_iload_2 hC dX7_stateOf_36 (pc' := 37) rfl ?_
        refine g_iload_6 hC dX7_stateOf_37 (pc' := 39) rfl ?_
        refine g_callV3R hC (c_markAt (k := k) hs hf (by omega) hR) ml_X7_64 (sh_M ad) rfl ⟨(Nat.le_of_ble_eq_true rfl), (Nat.le_of_ble_eq_true rfl)⟩ (Nat.le_of_ble_eq_true rfl) dX7_stateOf_39 (pc' := 42) rfl ⟨Nat.zero_le _, Nat.zero_le _⟩ ?_
        refine g_istore_7 hC dX7_stateOf_42 (pc' := 44) rfl (Nat.le_of_ble_eq_true rfl) rfl ?_
        refine g_iload_5 hC dX7_stateOf_44 (pc' := 46) rfl ?_
        refine g_ifZ_ne hC dX7_stateOf_46 (pc' := 49) (tgt := 91) (by decide) rfl (fun h46 => ?_) (fun h46 => ?_)
        · refine g_iconst hC dX7_stateOf_91 (pc' := 92) kc_iconst_1 rfl ?_
          refine g_goto hC dX7_stateOf_92 (tgt := 96) (by decide) ?_
          refine g_istore_5 hC dX7_stateOf_96 (pc' := 98) rfl (Nat.le_of_ble_eq_true rfl) rfl ?_
          refine g_iinc_6 hC dX7_stateOf_98 (pc' := 101) rfl (Nat.le_of_ble_eq_true rfl) rfl (nI_inc _ _ kc_iinc_1) ?_
          refine g_goto hC dX7_stateOf_101 (tgt := 28) (by decide) ?_
          exact g_weak (ih28 (by omega)) (gle_s (gle_s (gle_s (gle_s (gle_s (gle_i (by first | exact (nI1_z (by simp [anB, blur, rd, *])).symm | exact (nI0_z (by simp [anB, blur, rd, *])).symm) (gle_i (by first | rfl | omega) (gle_u gle_nil))))))))
        · refine g_aload_0 hC dX7_stateOf_49 (pc' := 50) rfl ?_
          refine g_iload_7 hC dX7_stateOf_50 (pc' := 52) rfl ?_
          refine g_callV1R hC (c_isReadable bm hR hI) ml_X7_105 (sh_M ad) rfl ⟨(Nat.le_of_ble_eq_true rfl), (Nat.le_of_ble_eq_true rfl)⟩ (Nat.le_of_ble_eq_true rfl) dX7_stateOf_52 (pc' := 55) rfl ⟨Nat.zero_le _, Nat.zero_le _⟩ ?_
          refine g_ifZ_eq hC dX7_stateOf_55 (pc' := 58) (tgt := 95) (by decide) rfl (fun h55 => ?_) (fun h55 => ?_)
          · refine g_iconst hC dX7_stateOf_95 (pc' := 96) kc_iconst_0 rfl ?_
            refine g_istore_5 hC dX7_stateOf_96 (pc' := 98) rfl (Nat.le_of_ble_eq_true rfl) rfl ?_
            refine g_iinc_6 hC dX7_stateOf_98 (pc' := 101) rfl (Nat.le_of_ble_eq_true rfl) rfl (nI_inc _ _ kc_iinc_1) ?_
            refine g_goto hC dX7_stateOf_101 (tgt := 28) (by decide) ?_
            exact g_weak (ih28 (by omega)) (gle_s (gle_s (gle_s (gle_s (gle_s (gle_i (by first | exact (nI1_z (by simp [anB, blur, rd, *])).symm | exact (nI0_z (by simp [anB, blur, rd, *])).symm) (gle_i (by first | rfl | omega) (gle_u gle_nil))))))))
          · refine g_iload_7 hC dX7_stateOf_58 (pc' := 60) rfl ?_
            refine g_callS1R hC (c_valueOf bm) ml_X7_111 ⟨(Nat.le_of_ble_eq_true rfl), (Nat.le_of_ble_eq_true rfl)⟩ (Nat.le_of_ble_eq_true rfl) dX7_stateOf_60 (pc' := 63) rfl ⟨Nat.zero_le _, Nat.zero_le _⟩ ?_
            refine g_iload_4 hC dX7_stateOf_63 (pc' := 65) rfl ?_
            refine g_callS1R hC (c_valueOf bo) ml_X7_111 ⟨(Nat.le_of_ble_eq_true rfl), (Nat.le_of_ble_eq_true rfl)⟩ (Nat.le_of_ble_eq_true rfl) dX7_stateOf_65 (pc' := 68) rfl ⟨Nat.zero_le _, Nat.zero_le _⟩ ?_
            refine g_icmpN_eq hC dX7_stateOf_68 (pc' := 71) (tgt := 95) (by decide) rfl (by omega) (by omega) (fun h68 => ?_) (fun h68 => ?_)
            · refine g_iconst hC dX7_stateOf_95 (pc' := 96) kc_iconst_0 rfl ?_
              refine g_istore_5 hC dX7_stateOf_96 (pc' := 98) rfl (Nat.le_of_ble_eq_true rfl) rfl ?_
              refine g_iinc_6 hC dX7_stateOf_98 (pc' := 101) rfl (Nat.le_of_ble_eq_true rfl) rfl (nI_inc _ _ kc_iinc_1) ?_
              refine g_goto hC dX7_stateOf_101 (tgt := 28) (by decide) ?_
              exact g_weak (ih28 (by omega)) (gle_s (gle_s (gle_s (gle_s (gle_s (gle_i (by first | exact (nI1_z (by simp [anB, blur, rd, *])).symm | exact (nI0_z (by simp [anB, blur, rd, *])).symm) (gle_i (by first | rfl | omega) (gle_u gle_nil))))))))
            · refine g_iload_7 hC dX7_stateOf_71 (pc' := 73) rfl ?_
              refine g_callS1R hC (c_strengthOf bm) ml_X7_71 ⟨(Nat.le_of_ble_eq_true rfl), (Nat.le_of_ble_eq_true rfl)⟩ (Nat.le_of_ble_eq_true rfl) dX7_stateOf_73 (pc' := 76) rfl ⟨Nat.zero_le _, Nat.zero_le _⟩ ?_
              refine g_iload_4 hC dX7_stateOf_76 (pc' := 78) rfl ?_
              refine g_callS1R hC (c_strengthOf bo) ml_X7_71 ⟨(Nat.le_of_ble_eq_true rfl), (Nat.le_of_ble_eq_true rfl)⟩ (Nat.le_of_ble_eq_true rfl) dX7_stateOf_78 (pc' := 81) rfl ⟨Nat.zero_le _, Nat.zero_le _⟩ ?_
              refine g_aload_0 hC dX7_stateOf_81 (pc' := 82) rfl ?_
              refine g_getR hC fl_X7_7 (sh_M ad) rfl dX7_stateOf_82 (pc' := 85) rfl ?_
              refine g_iconst hC dX7_stateOf_85 (pc' := 86) kc_iconst_1 rfl ?_
              refine g_iald hC (sh_mnow ad) (Nat.le_of_ble_eq_true rfl) (by omega) (hR.at (by decide) (by decide)) dX7_stateOf_86 (pc' := 87) rfl ?_
              refine g_iaddN hC dX7_stateOf_87 (pc' := 88) rfl ?_
              refine g_icmpN_le hC dX7_stateOf_88 (pc' := 91) (tgt := 95) (by decide) rfl (by omega) (by omega) (fun h88 => ?_) (fun h88 => ?_)
              · refine g_iconst hC dX7_stateOf_95 (pc' := 96) kc_iconst_0 rfl ?_
                refine g_istore_5 hC dX7_stateOf_96 (pc' := 98) rfl (Nat.le_of_ble_eq_true rfl) rfl ?_
                refine g_iinc_6 hC dX7_stateOf_98 (pc' := 101) rfl (Nat.le_of_ble_eq_true rfl) rfl (nI_inc _ _ kc_iinc_1) ?_
                refine g_goto hC dX7_stateOf_101 (tgt := 28) (by decide) ?_
                exact g_weak (ih28 (by omega)) (gle_s (gle_s (gle_s (gle_s (gle_s (gle_i (by first | exact (nI1_z (by simp [anB, blur, rd, *])).symm | exact (nI0_z (by simp [anB, blur, rd, *])).symm) (gle_i (by first | rfl | omega) (gle_u gle_nil))))))))
              · refine g_iconst hC dX7_stateOf_91 (pc' := 92) kc_iconst_1 rfl ?_
                refine g_goto hC dX7_stateOf_92 (tgt := 96) (by decide) ?_
                refine g_istore_5 hC dX7_stateOf_96 (pc' := 98) rfl (Nat.le_of_ble_eq_true rfl) rfl ?_
                refine g_iinc_6 hC dX7_stateOf_98 (pc' := 101) rfl (Nat.le_of_ble_eq_true rfl) rfl (nI_inc _ _ kc_iinc_1) ?_
                refine g_goto hC dX7_stateOf_101 (tgt := 28) (by decide) ?_
                exact g_weak (ih28 (by omega)) (gle_s (gle_s (gle_s (gle_s (gle_s (gle_i (by first | exact (nI1_z (by simp [anB, blur, rd, *])).symm | exact (nI0_z (by simp [anB, blur, rd, *])).symm) (gle_i (by first | rfl | omega) (gle_u gle_nil))))))))
    exact g_weak (L28 0 (by exact Nat.zero_le _)) (gle_s (gle_s (gle_s (gle_s (gle_s (gle_i (by rfl) (gle_s (gle_u gle_nil))))))))
  · have hl : last g s f = 0 := Decidable.not_not.mp (fun z => h8 ((oI_ge (by omega)).mpr z))
    refine g_iconst hC dX7_stateOf_11 (pc' := 12) kc_iconst_0 rfl ?_
    refine g_iretR hC hRt rfl dX7_stateOf_12 ?_
    simp [kind, hl]

set_option maxHeartbeats 4000000 in
set_option maxRecDepth 100000 in
theorem c_lastOf0 {l : Launch} {ad : Nat → Nat} {X : gX} {s f : Nat} {g : Nat → Nat} (hs : s < 5) (hf : f < 10) (hR : RM X g) (hI : Inv g) : K_X7_lastOf l ad [.ref 201, .int (nI s), .int (nI f), .int (nI 0)] X (pR X (valI g s f)) := by
  refine Ct.of [.ref 201, .int (nI s), .int (nI f), .int (nI 0), .null, .null] 2 (by decide +kernel) rfl (Nat.le_of_ble_eq_true rfl) (fun F hl hC hRt _ => ?_)
  subst hl
  have bc := hI.c hs hf
  have bl := last_le g s f
  refine g_aload_0 hC dX7_lastOf_0 (pc' := 1) rfl ?_
  refine g_iload_1 hC dX7_lastOf_1 (pc' := 2) rfl ?_
  refine g_iload_2 hC dX7_lastOf_2 (pc' := 3) rfl ?_
  refine g_callV2R hC (c_lastAt hs hf hR hI) ml_X7_108 (sh_M ad) rfl ⟨(Nat.le_of_ble_eq_true rfl), (Nat.le_of_ble_eq_true rfl)⟩ (Nat.le_of_ble_eq_true rfl) dX7_lastOf_3 (pc' := 6) rfl ⟨Nat.zero_le _, Nat.zero_le _⟩ ?_
  refine g_istore_4 hC dX7_lastOf_6 (pc' := 8) rfl (Nat.le_of_ble_eq_true rfl) rfl ?_
  refine g_iload_4 hC dX7_lastOf_8 (pc' := 10) rfl ?_
  refine g_if_ge hC dX7_lastOf_10 (pc' := 13) (tgt := 16) (by decide) rfl (fun h10 => ?_) (fun h10 => ?_)
  · have hl : ¬ last g s f = 0 := (oI_ge (by omega)).mp h10
    have bo : own g s f < 20000 := hI.m hs hf (by omega)
    rw [oI_pos hl]
    refine g_aload_0 hC dX7_lastOf_16 (pc' := 17) rfl ?_
    refine g_iload_1 hC dX7_lastOf_17 (pc' := 18) rfl ?_
    refine g_iload_2 hC dX7_lastOf_18 (pc' := 19) rfl ?_
    refine g_iload_4 hC dX7_lastOf_19 (pc' := 21) rfl ?_
    refine g_callV3R hC (c_markAt (k := last g s f - 1) hs hf (by omega) hR) ml_X7_64 (sh_M ad) rfl ⟨(Nat.le_of_ble_eq_true rfl), (Nat.le_of_ble_eq_true rfl)⟩ (Nat.le_of_ble_eq_true rfl) dX7_lastOf_21 (pc' := 24) rfl ⟨Nat.zero_le _, Nat.zero_le _⟩ ?_
    refine g_istore_5 hC dX7_lastOf_24 (pc' := 26) rfl (Nat.le_of_ble_eq_true rfl) rfl ?_
    refine g_iload_3 hC dX7_lastOf_26 (pc' := 27) rfl ?_
    refine g_ifN_ne hC dX7_lastOf_27 (pc' := 30) (tgt := 38) (by decide) rfl (by omega) (fun h27 => by omega) (fun h27 => ?_)
    refine g_iload_5 hC dX7_lastOf_30 (pc' := 32) rfl ?_
    refine g_callS1R hC (c_valueOf bo) ml_X7_111 ⟨(Nat.le_of_ble_eq_true rfl), (Nat.le_of_ble_eq_true rfl)⟩ (Nat.le_of_ble_eq_true rfl) dX7_lastOf_32 (pc' := 35) rfl ⟨Nat.zero_le _, Nat.zero_le _⟩ ?_
    refine g_goto hC dX7_lastOf_35 (tgt := 43) (by decide) ?_
    refine g_iretR hC hRt rfl dX7_lastOf_43 ?_
    simp [valI, hl, own]
  · have hl : last g s f = 0 := Decidable.not_not.mp (fun z => h10 ((oI_ge (by omega)).mpr z))
    refine g_bipush hC dX7_lastOf_13 (pc' := 15) kc_bipush_m6 rfl ?_
    refine g_iretR hC hRt rfl dX7_lastOf_15 ?_
    simp [valI, hl, own]

set_option maxHeartbeats 4000000 in
set_option maxRecDepth 100000 in
theorem c_lastOf1 {l : Launch} {ad : Nat → Nat} {X : gX} {s f : Nat} {g : Nat → Nat} (hs : s < 5) (hf : f < 10) (hR : RM X g) (hI : Inv g) : K_X7_lastOf l ad [.ref 201, .int (nI s), .int (nI f), .int (nI 1)] X (pR X (strI g s f)) := by
  refine Ct.of [.ref 201, .int (nI s), .int (nI f), .int (nI 1), .null, .null] 2 (by decide +kernel) rfl (Nat.le_of_ble_eq_true rfl) (fun F hl hC hRt _ => ?_)
  subst hl
  have bc := hI.c hs hf
  have bl := last_le g s f
  refine g_aload_0 hC dX7_lastOf_0 (pc' := 1) rfl ?_
  refine g_iload_1 hC dX7_lastOf_1 (pc' := 2) rfl ?_
  refine g_iload_2 hC dX7_lastOf_2 (pc' := 3) rfl ?_
  refine g_callV2R hC (c_lastAt hs hf hR hI) ml_X7_108 (sh_M ad) rfl ⟨(Nat.le_of_ble_eq_true rfl), (Nat.le_of_ble_eq_true rfl)⟩ (Nat.le_of_ble_eq_true rfl) dX7_lastOf_3 (pc' := 6) rfl ⟨Nat.zero_le _, Nat.zero_le _⟩ ?_
  refine g_istore_4 hC dX7_lastOf_6 (pc' := 8) rfl (Nat.le_of_ble_eq_true rfl) rfl ?_
  refine g_iload_4 hC dX7_lastOf_8 (pc' := 10) rfl ?_
  refine g_if_ge hC dX7_lastOf_10 (pc' := 13) (tgt := 16) (by decide) rfl (fun h10 => ?_) (fun h10 => ?_)
  · have hl : ¬ last g s f = 0 := (oI_ge (by omega)).mp h10
    have bo : own g s f < 20000 := hI.m hs hf (by omega)
    rw [oI_pos hl]
    refine g_aload_0 hC dX7_lastOf_16 (pc' := 17) rfl ?_
    refine g_iload_1 hC dX7_lastOf_17 (pc' := 18) rfl ?_
    refine g_iload_2 hC dX7_lastOf_18 (pc' := 19) rfl ?_
    refine g_iload_4 hC dX7_lastOf_19 (pc' := 21) rfl ?_
    refine g_callV3R hC (c_markAt (k := last g s f - 1) hs hf (by omega) hR) ml_X7_64 (sh_M ad) rfl ⟨(Nat.le_of_ble_eq_true rfl), (Nat.le_of_ble_eq_true rfl)⟩ (Nat.le_of_ble_eq_true rfl) dX7_lastOf_21 (pc' := 24) rfl ⟨Nat.zero_le _, Nat.zero_le _⟩ ?_
    refine g_istore_5 hC dX7_lastOf_24 (pc' := 26) rfl (Nat.le_of_ble_eq_true rfl) rfl ?_
    refine g_iload_3 hC dX7_lastOf_26 (pc' := 27) rfl ?_
    refine g_ifN_ne hC dX7_lastOf_27 (pc' := 30) (tgt := 38) (by decide) rfl (by omega) (fun h27 => ?_) (fun h27 => by omega)
    refine g_iload_5 hC dX7_lastOf_38 (pc' := 40) rfl ?_
    refine g_callS1R hC (c_strengthOf bo) ml_X7_71 ⟨(Nat.le_of_ble_eq_true rfl), (Nat.le_of_ble_eq_true rfl)⟩ (Nat.le_of_ble_eq_true rfl) dX7_lastOf_40 (pc' := 43) rfl ⟨Nat.zero_le _, Nat.zero_le _⟩ ?_
    refine g_iretR hC hRt rfl dX7_lastOf_43 ?_
    simp [strI, hl, own]
  · have hl : last g s f = 0 := Decidable.not_not.mp (fun z => h10 ((oI_ge (by omega)).mpr z))
    refine g_bipush hC dX7_lastOf_13 (pc' := 15) kc_bipush_m6 rfl ?_
    refine g_iretR hC hRt rfl dX7_lastOf_15 ?_
    simp [strI, hl, own]

set_option maxHeartbeats 4000000 in
set_option maxRecDepth 100000 in
theorem c_fieldsOf {l : Launch} {ad : Nat → Nat} {X : gX} {s c : Nat} {g : Nat → Nat} (hs : s < 5) (hc : c < 3) (hR : RM X g) (hI : Inv g) : K_X7_fieldsOf l ad [.ref 201, .int (nI s), .int (nI c)] X (pR X (nI (msk (kset g s c) 10))) := by
  refine Ct.of [.ref 201, .int (nI s), .int (nI c), .null, .null] 2 (by decide +kernel) rfl (Nat.le_of_ble_eq_true rfl) (fun F hl hC hRt _ => ?_)
  subst hl
  refine g_iconst hC dX7_fieldsOf_0 (pc' := 1) kc_iconst_0 rfl ?_
  refine g_istore_3 hC dX7_fieldsOf_1 (pc' := 2) rfl (Nat.le_of_ble_eq_true rfl) rfl ?_
  refine g_iconst hC dX7_fieldsOf_2 (pc' := 3) kc_iconst_0 rfl ?_
  refine g_istore_4 hC dX7_fieldsOf_3 (pc' := 5) rfl (Nat.le_of_ble_eq_true rfl) rfl ?_
  have L5 : ∀ k, k ≤ 10 → G F (S0 ad) (0, 0) X 5 [.ref 201, .int (nI s), .int (nI c), .int (nI (msk (kset g s c) k)), .int (nI k)] [] := by
    refine up_ind _ (fun k hk5 ih5 => ?_)
    have bk := kind_le g s k
    refine g_iload_4 hC dX7_fieldsOf_5 (pc' := 7) rfl ?_
    refine g_bipush hC dX7_fieldsOf_7 (pc' := 9) kc_bipush_10 rfl ?_
    refine g_icmpN_ge hC dX7_fieldsOf_9 (pc' := 12) (tgt := 40) (by decide) rfl (by omega) (by omega) (fun h9 => ?_) (fun h9 => ?_)
    · refine g_iload_3 hC dX7_fieldsOf_40 (pc' := 41) rfl ?_
      refine g_iretR hC hRt rfl dX7_fieldsOf_41 ?_
      rw [show k = 10 by omega]
    · refine g_iload_3 hC dX7_fieldsOf_12 (pc' := 13) rfl ?_
      refine g_aload_0 hC dX7_fieldsOf_13 (pc' := 14) rfl ?_
      refine g_iload_1 hC dX7_fieldsOf_14 (pc' := 15) rfl ?_
      refine g_iload_4 hC dX7_fieldsOf_15 (pc' := 17) rfl ?_
      refine g_callV2R hC (c_stateOf (f := k) hs (by omega) hR hI) ml_X7_114 (sh_M ad) rfl ⟨(Nat.le_of_ble_eq_true rfl), (Nat.le_of_ble_eq_true rfl)⟩ (Nat.le_of_ble_eq_true rfl) dX7_fieldsOf_17 (pc' := 20) rfl ⟨Nat.zero_le _, Nat.zero_le _⟩ ?_
      refine g_iload_2 hC dX7_fieldsOf_20 (pc' := 21) rfl ?_
      refine g_icmpN_ne hC dX7_fieldsOf_21 (pc' := 24) (tgt := 31) (by decide) rfl (by omega) (by omega) (fun h21 => ?_) (fun h21 => ?_)
      · refine g_iconst hC dX7_fieldsOf_31 (pc' := 32) kc_iconst_0 rfl ?_
        refine g_iorN hC dX7_fieldsOf_32 (pc' := 33) rfl ?_
        refine g_istore_3 hC dX7_fieldsOf_33 (pc' := 34) rfl (Nat.le_of_ble_eq_true rfl) rfl ?_
        refine g_iinc_4 hC dX7_fieldsOf_34 (pc' := 37) rfl (Nat.le_of_ble_eq_true rfl) rfl (nI_inc _ _ kc_iinc_1) ?_
        refine g_goto hC dX7_fieldsOf_37 (tgt := 5) (by decide) ?_
        exact g_weak (ih5 (by omega)) (gle_s (gle_s (gle_s (gle_i (by simp [msk, kset, h21]) (gle_i (by first | rfl | omega) gle_nil)))))
      · refine g_iconst hC dX7_fieldsOf_24 (pc' := 25) kc_iconst_1 rfl ?_
        refine g_iload_4 hC dX7_fieldsOf_25 (pc' := 27) rfl ?_
        refine g_ishl1 hC dX7_fieldsOf_27 (pc' := 28) rfl (by omega) ?_
        refine g_goto hC dX7_fieldsOf_28 (tgt := 32) (by decide) ?_
        refine g_iorN hC dX7_fieldsOf_32 (pc' := 33) rfl ?_
        refine g_istore_3 hC dX7_fieldsOf_33 (pc' := 34) rfl (Nat.le_of_ble_eq_true rfl) rfl ?_
        refine g_iinc_4 hC dX7_fieldsOf_34 (pc' := 37) rfl (Nat.le_of_ble_eq_true rfl) rfl (nI_inc _ _ kc_iinc_1) ?_
        refine g_goto hC dX7_fieldsOf_37 (tgt := 5) (by decide) ?_
        exact g_weak (ih5 (by omega)) (gle_s (gle_s (gle_s (gle_i (by simp [msk, kset, h21]) (gle_i (by first | rfl | omega) gle_nil)))))
  exact g_weak (L5 0 (by exact Nat.zero_le _)) (gle_s (gle_s (gle_s (gle_i (by first | rfl | omega) (gle_s gle_nil)))))

set_option maxHeartbeats 4000000 in
set_option maxRecDepth 100000 in
theorem c_marksOf {l : Launch} {ad : Nat → Nat} {X : gX} {s : Nat} {b : Bool} {g : Nat → Nat} (hs : s < 5) (hR : RM X g) (hI : Inv g) : K_X7_marksOf l ad [.ref 201, .int (nI s), .int (zI (b))] X (pR X (nI (marks g s b))) := by
  refine Ct.of [.ref 201, .int (nI s), .int (zI (b)), .null, .null, .null] 3 (by decide +kernel) rfl (Nat.le_of_ble_eq_true rfl) (fun F hl hC hRt _ => ?_)
  subst hl
  refine g_iconst hC dX7_marksOf_0 (pc' := 1) kc_iconst_0 rfl ?_
  refine g_istore_3 hC dX7_marksOf_1 (pc' := 2) rfl (Nat.le_of_ble_eq_true rfl) rfl ?_
  refine g_iconst hC dX7_marksOf_2 (pc' := 3) kc_iconst_0 rfl ?_
  refine g_istore_4 hC dX7_marksOf_3 (pc' := 5) rfl (Nat.le_of_ble_eq_true rfl) rfl ?_
  have L5 : ∀ f, f ≤ 10 → G F (S0 ad) (0, 0) X 5 [.ref 201, .int (nI s), .int (zI (b)), .int (nI (smN (mcount g s b) f)), .int (nI f), .null] [] := by
    refine up_ind _ (fun f hk5 ih5 => ?_)
    refine g_iload_4 hC dX7_marksOf_5 (pc' := 7) rfl ?_
    refine g_bipush hC dX7_marksOf_7 (pc' := 9) kc_bipush_10 rfl ?_
    refine g_icmpN_ge hC dX7_marksOf_9 (pc' := 12) (tgt := 66) (by decide) rfl (by omega) (by omega) (fun h9 => ?_) (fun h9 => ?_)
    · refine g_iload_3 hC dX7_marksOf_66 (pc' := 67) rfl ?_
      refine g_iretR hC hRt rfl dX7_marksOf_67 ?_
      rw [show f = 10 by omega]; rfl
    · refine g_iconst hC dX7_marksOf_12 (pc' := 13) kc_iconst_0 rfl ?_
      refine g_istore_5 hC dX7_marksOf_13 (pc' := 15) rfl (Nat.le_of_ble_eq_true rfl) rfl ?_
      have L15 : ∀ k, k ≤ cnt g s f → G F (S0 ad) (0, 0) X 15 [.ref 201, .int (nI s), .int (zI (b)), .int (nI (smN (mcount g s b) f + cnB (mtest g s b f) k)), .int (nI f), .int (nI k)] [] := by
        refine up_ind _ (fun k hk15 ih15 => ?_)
        have bc := hI.c hs (show f < 10 by omega)
        refine g_iload_5 hC dX7_marksOf_15 (pc' := 17) rfl ?_
        refine g_aload_0 hC dX7_marksOf_17 (pc' := 18) rfl ?_
        refine g_iload_1 hC dX7_marksOf_18 (pc' := 19) rfl ?_
        refine g_iload_4 hC dX7_marksOf_19 (pc' := 21) rfl ?_
        refine g_callV2R hC (c_many (f := f) hs (by omega) hR) ml_X7_61 (sh_M ad) rfl ⟨(Nat.le_of_ble_eq_true rfl), (Nat.le_of_ble_eq_true rfl)⟩ (Nat.le_of_ble_eq_true rfl) dX7_marksOf_21 (pc' := 24) rfl ⟨Nat.zero_le _, Nat.zero_le _⟩ ?_
        refine g_icmpN_ge hC dX7_marksOf_24 (pc' := 27) (tgt := 60) (by decide) rfl (by omega) (by omega) (fun h24 => ?_) (fun h24 => ?_)
        · refine g_iinc_4 hC dX7_marksOf_60 (pc' := 63) rfl (Nat.le_of_ble_eq_true rfl) rfl (nI_inc _ _ kc_iinc_1) ?_
          refine g_goto hC dX7_marksOf_63 (tgt := 5) (by decide) ?_
          exact g_weak (ih5 (by omega)) (gle_s (gle_s (gle_s (gle_i (by rw [show k = cnt g s f by omega]; rfl) (gle_i (by first | rfl | omega) (gle_u gle_nil))))))
        · refine g_iload_3 hC dX7_marksOf_27 (pc' := 28) rfl ?_
          refine g_iload_2 hC dX7_marksOf_28 (pc' := 29) rfl ?_
          refine g_ifZ_eq hC dX7_marksOf_29 (pc' := 32) (tgt := 47) (by decide) rfl (fun h29 => ?_) (fun h29 => ?_)
          · refine g_iconst hC dX7_marksOf_47 (pc' := 48) kc_iconst_1 rfl ?_
            refine g_goto hC dX7_marksOf_48 (tgt := 52) (by decide) ?_
            refine g_iaddN hC dX7_marksOf_52 (pc' := 53) rfl ?_
            refine g_istore_3 hC dX7_marksOf_53 (pc' := 54) rfl (Nat.le_of_ble_eq_true rfl) rfl ?_
            refine g_iinc_5 hC dX7_marksOf_54 (pc' := 57) rfl (Nat.le_of_ble_eq_true rfl) rfl (nI_inc _ _ kc_iinc_1) ?_
            refine g_goto hC dX7_marksOf_57 (tgt := 15) (by decide) ?_
            exact g_weak (ih15 (by omega)) (gle_s (gle_s (gle_s (gle_i (by simp [cnB, mtest, *, Nat.add_assoc]) (gle_s (gle_i (by first | rfl | omega) gle_nil))))))
          · refine g_aload_0 hC dX7_marksOf_32 (pc' := 33) rfl ?_
            refine g_iload_1 hC dX7_marksOf_33 (pc' := 34) rfl ?_
            refine g_iload_4 hC dX7_marksOf_34 (pc' := 36) rfl ?_
            refine g_iload_5 hC dX7_marksOf_36 (pc' := 38) rfl ?_
            refine g_callV3R hC (c_markAt (f := f) (k := k) hs (by omega) (by omega) hR) ml_X7_64 (sh_M ad) rfl ⟨(Nat.le_of_ble_eq_true rfl), (Nat.le_of_ble_eq_true rfl)⟩ (Nat.le_of_ble_eq_true rfl) dX7_marksOf_38 (pc' := 41) rfl ⟨Nat.zero_le _, Nat.zero_le _⟩ ?_
            refine g_callS1R hC (c_isStruck (hI.m hs (by omega) (by omega))) ml_X7_68 ⟨(Nat.le_of_ble_eq_true rfl), (Nat.le_of_ble_eq_true rfl)⟩ (Nat.le_of_ble_eq_true rfl) dX7_marksOf_41 (pc' := 44) rfl ⟨Nat.zero_le _, Nat.zero_le _⟩ ?_
            refine g_ifZ_eq hC dX7_marksOf_44 (pc' := 47) (tgt := 51) (by decide) rfl (fun h44 => ?_) (fun h44 => ?_)
            · refine g_iconst hC dX7_marksOf_51 (pc' := 52) kc_iconst_0 rfl ?_
              refine g_iaddN hC dX7_marksOf_52 (pc' := 53) rfl ?_
              refine g_istore_3 hC dX7_marksOf_53 (pc' := 54) rfl (Nat.le_of_ble_eq_true rfl) rfl ?_
              refine g_iinc_5 hC dX7_marksOf_54 (pc' := 57) rfl (Nat.le_of_ble_eq_true rfl) rfl (nI_inc _ _ kc_iinc_1) ?_
              refine g_goto hC dX7_marksOf_57 (tgt := 15) (by decide) ?_
              exact g_weak (ih15 (by omega)) (gle_s (gle_s (gle_s (gle_i (by simp [cnB, mtest, *, Nat.add_assoc]) (gle_s (gle_i (by first | rfl | omega) gle_nil))))))
            · refine g_iconst hC dX7_marksOf_47 (pc' := 48) kc_iconst_1 rfl ?_
              refine g_goto hC dX7_marksOf_48 (tgt := 52) (by decide) ?_
              refine g_iaddN hC dX7_marksOf_52 (pc' := 53) rfl ?_
              refine g_istore_3 hC dX7_marksOf_53 (pc' := 54) rfl (Nat.le_of_ble_eq_true rfl) rfl ?_
              refine g_iinc_5 hC dX7_marksOf_54 (pc' := 57) rfl (Nat.le_of_ble_eq_true rfl) rfl (nI_inc _ _ kc_iinc_1) ?_
              refine g_goto hC dX7_marksOf_57 (tgt := 15) (by decide) ?_
              exact g_weak (ih15 (by omega)) (gle_s (gle_s (gle_s (gle_i (by simp [cnB, mtest, *, Nat.add_assoc]) (gle_s (gle_i (by first | rfl | omega) gle_nil))))))
      exact g_weak (L15 0 (by exact Nat.zero_le _)) (gle_s (gle_s (gle_s (gle_i (by rfl) (gle_s (gle_s gle_nil))))))
  exact g_weak (L5 0 (by exact Nat.zero_le _)) (gle_s (gle_s (gle_s (gle_i (by first | rfl | omega) (gle_s (gle_u gle_nil))))))
end
section
abbrev cl (v : Int32) : Nat := v.toNatClampNeg
theorem cl_nI {n : Nat} (h : n < 1073741824) : cl (nI n) = n := nI_clamp (by omega)
theorem inB_low {m : Int32} {e : Nat} (he : e < 1073741824) (h : inB m (nI 0) (lI e) = true) : ∃ k, m = nI k ∧ k < e := by
  obtain ⟨h1, h2⟩ := inB_iff.mp h
  have hz : ¬ m < 0 := by
    rw [Int32.le_iff_toInt_le, nI_toInt (by omega)] at h1
    rw [Int32.lt_iff_toInt_lt]
    simp; omega
  obtain ⟨j, hj, rfl⟩ := nI_of hz
  refine ⟨j, rfl, ?_⟩
  rw [Int32.le_iff_toInt_le, lI_toInt he, nI_toInt (by omega)] at h2
  omega
def vOfSheet (g : Nat → Nat) (a w : Int32) : Int32 := if inB a (nI 0) (nI 4) = true then (if w = nI 0 then nI (g (4 + cl a)) else if w = nI 1 then nI (g (9 + cl a)) else if w = nI 2 then (if inS g (cl a) = true then nI 0 else nI 1) else if w = nI 3 then nI (marks g (cl a) false) else if w = nI 4 then nI (marks g (cl a) true) else if w = nI 5 then nI (msk (kset g (cl a) 1) 10) else if w = nI 6 then nI (msk (kset g (cl a) 2) 10) else if w = nI 7 then nI (g (14 + cl a)) else -2) else -1
def vReading (g : Nat → Nat) (a b w : Int32) : Int32 := if inB a (nI 0) (nI 4) = true then (if inB b (nI 0) (nI 9) = true then (if w = nI 0 then nI (kind g (cl a) (cl b)) else if w = nI 1 then valI g (cl a) (cl b) else if w = nI 2 then strI g (cl a) (cl b) else if w = nI 3 then nI (cnt g (cl a) (cl b)) else if w = nI 4 then nI (cnB (rd g (cl a) (cl b)) (cnt g (cl a) (cl b))) else -2) else -1) else -1
def vOfMark (g : Nat → Nat) (a b m w : Int32) : Int32 := if inB a (nI 0) (nI 4) = true then (if inB b (nI 0) (nI 9) = true then (if inB m (nI 0) (lI (cnt g (cl a) (cl b))) = true then (if w = nI 0 then nI (mk g (cl a) (cl b) (cl m) / 20) else if w = nI 1 then nI (mk g (cl a) (cl b) (cl m) / 2 % 10) else if w = nI 2 then nI (mk g (cl a) (cl b) (cl m) % 2) else -2) else -1) else -1) else -1
theorem Inv.t {g : Nat → Nat} (h : Inv g) {t : Nat} (ht : t < 5) : g (4 + t) ≤ 4 ∧ g (9 + t) ≤ 300 ∧ g (14 + t) < 1024 := h.2.1 t ht

set_option maxHeartbeats 4000000 in
set_option maxRecDepth 100000 in
theorem c_ofSheet {l : Launch} {ad : Nat → Nat} {X : gX} {a w : Int32} {g : Nat → Nat} (hR : RM X g) (hI : Inv g) : K_X7_ofSheet l ad [.ref 201, .int (a), .int (w)] X (pR X (vOfSheet g a w)) := by
  refine Ct.of [.ref 201, .int (a), .int (w)] 0 (by decide +kernel) rfl (Nat.le_of_ble_eq_true rfl) (fun F hl hC hRt _ => ?_)
  subst hl
  refine g_iload_1 hC dX7_ofSheet_0 (pc' := 1) rfl ?_
  refine g_callS1R hC (c_isSheet) ml_X7_50 ⟨(Nat.le_of_ble_eq_true rfl), (Nat.le_of_ble_eq_true rfl)⟩ (Nat.le_of_ble_eq_true rfl) dX7_ofSheet_1 (pc' := 4) rfl ⟨Nat.zero_le _, Nat.zero_le _⟩ ?_
  refine g_ifZ_ne hC dX7_ofSheet_4 (pc' := 7) (tgt := 9) (by decide) rfl (fun h4 => ?_) (fun h4 => ?_)
  · obtain ⟨s, rfl, -, hs⟩ := inB_N (by decide) h4 (by decide)
    have cs : cl (nI s) = s := cl_nI (by omega)
    refine g_iload_2 hC dX7_ofSheet_9 (pc' := 10) rfl ?_
    by_cases s10_0 : (w) = nI 0
    · refine g_tabI hC 0 dX7_ofSheet_10 s10_0 (by decide) (by decide) (by decide) (off := 42) rfl (tgt := 52) (by decide) ?_
      subst s10_0
      refine g_aload_0 hC dX7_ofSheet_52 (pc' := 53) rfl ?_
      refine g_getR hC fl_X7_7 (sh_M ad) rfl dX7_ofSheet_53 (pc' := 56) rfl ?_
      refine g_iconst hC dX7_ofSheet_56 (pc' := 57) kc_iconst_4 rfl ?_
      refine g_iload_1 hC dX7_ofSheet_57 (pc' := 58) rfl ?_
      refine g_iaddN hC dX7_ofSheet_58 (pc' := 59) rfl ?_
      refine g_iald hC (sh_mnow ad) (Nat.le_of_ble_eq_true rfl) (by omega) (hR.at (by omega) (by omega)) dX7_ofSheet_59 (pc' := 60) rfl ?_
      refine g_iretR hC hRt rfl dX7_ofSheet_60 ?_
      simp only [vOfSheet, cl_nI, h4, cs, ↓reduceIte, Bool.false_eq_true]
    by_cases s10_1 : (w) = nI 1
    · refine g_tabI hC 1 dX7_ofSheet_10 s10_1 (by decide) (by decide) (by decide) (off := 51) rfl (tgt := 61) (by decide) ?_
      subst s10_1
      refine g_aload_0 hC dX7_ofSheet_61 (pc' := 62) rfl ?_
      refine g_getR hC fl_X7_7 (sh_M ad) rfl dX7_ofSheet_62 (pc' := 65) rfl ?_
      refine g_bipush hC dX7_ofSheet_65 (pc' := 67) kc_bipush_9 rfl ?_
      refine g_iload_1 hC dX7_ofSheet_67 (pc' := 68) rfl ?_
      refine g_iaddN hC dX7_ofSheet_68 (pc' := 69) rfl ?_
      refine g_iald hC (sh_mnow ad) (Nat.le_of_ble_eq_true rfl) (by omega) (hR.at (by omega) (by omega)) dX7_ofSheet_69 (pc' := 70) rfl ?_
      refine g_iretR hC hRt rfl dX7_ofSheet_70 ?_
      simp only [vOfSheet, cl_nI, h4, cs, eq_false s10_0, ↓reduceIte, Bool.false_eq_true]
    by_cases s10_2 : (w) = nI 2
    · refine g_tabI hC 2 dX7_ofSheet_10 s10_2 (by decide) (by decide) (by decide) (off := 61) rfl (tgt := 71) (by decide) ?_
      subst s10_2
      refine g_aload_0 hC dX7_ofSheet_71 (pc' := 72) rfl ?_
      refine g_iload_1 hC dX7_ofSheet_72 (pc' := 73) rfl ?_
      refine g_callV1R hC (c_isInStack (s := s) (by omega) hR hI) ml_X7_54 (sh_M ad) rfl ⟨(Nat.le_of_ble_eq_true rfl), (Nat.le_of_ble_eq_true rfl)⟩ (Nat.le_of_ble_eq_true rfl) dX7_ofSheet_73 (pc' := 76) rfl ⟨Nat.zero_le _, Nat.zero_le _⟩ ?_
      refine g_ifZ_eq hC dX7_ofSheet_76 (pc' := 79) (tgt := 83) (by decide) rfl (fun h76 => ?_) (fun h76 => ?_)
      · refine g_iconst hC dX7_ofSheet_83 (pc' := 84) kc_iconst_1 rfl ?_
        refine g_iretR hC hRt rfl dX7_ofSheet_84 ?_
        simp only [vOfSheet, cl_nI, h4, cs, eq_false s10_0, eq_false s10_1, h76, ↓reduceIte, Bool.false_eq_true]
      · refine g_iconst hC dX7_ofSheet_79 (pc' := 80) kc_iconst_0 rfl ?_
        refine g_goto hC dX7_ofSheet_80 (tgt := 84) (by decide) ?_
        refine g_iretR hC hRt rfl dX7_ofSheet_84 ?_
        simp only [vOfSheet, cl_nI, h4, cs, eq_false s10_0, eq_false s10_1, h76, ↓reduceIte, Bool.false_eq_true]
    by_cases s10_3 : (w) = nI 3
    · refine g_tabI hC 3 dX7_ofSheet_10 s10_3 (by decide) (by decide) (by decide) (off := 75) rfl (tgt := 85) (by decide) ?_
      subst s10_3
      refine g_aload_0 hC dX7_ofSheet_85 (pc' := 86) rfl ?_
      refine g_iload_1 hC dX7_ofSheet_86 (pc' := 87) rfl ?_
      refine g_iload_2 hC dX7_ofSheet_87 (pc' := 88) rfl ?_
      refine g_iconst hC dX7_ofSheet_88 (pc' := 89) kc_iconst_4 rfl ?_
      refine g_icmpN_ne hC dX7_ofSheet_89 (pc' := 92) (tgt := 96) (by decide) rfl (by omega) (by omega) (fun h89 => ?_) (fun h89 => by omega)
      refine g_iconst hC dX7_ofSheet_96 (pc' := 97) kc_iconst_0 rfl ?_
      refine g_callV2R hC (c_marksOf (b := false) (by omega) hR hI) ml_X7_117 (sh_M ad) rfl ⟨(Nat.le_of_ble_eq_true rfl), (Nat.le_of_ble_eq_true rfl)⟩ (Nat.le_of_ble_eq_true rfl) dX7_ofSheet_97 (pc' := 100) rfl ⟨Nat.zero_le _, Nat.zero_le _⟩ ?_
      refine g_iretR hC hRt rfl dX7_ofSheet_100 ?_
      simp only [vOfSheet, cl_nI, h4, cs, eq_false s10_0, eq_false s10_1, eq_false s10_2, ↓reduceIte, Bool.false_eq_true]
    by_cases s10_4 : (w) = nI 4
    · refine g_tabI hC 4 dX7_ofSheet_10 s10_4 (by decide) (by decide) (by decide) (off := 75) rfl (tgt := 85) (by decide) ?_
      subst s10_4
      refine g_aload_0 hC dX7_ofSheet_85 (pc' := 86) rfl ?_
      refine g_iload_1 hC dX7_ofSheet_86 (pc' := 87) rfl ?_
      refine g_iload_2 hC dX7_ofSheet_87 (pc' := 88) rfl ?_
      refine g_iconst hC dX7_ofSheet_88 (pc' := 89) kc_iconst_4 rfl ?_
      refine g_icmpN_ne hC dX7_ofSheet_89 (pc' := 92) (tgt := 96) (by decide) rfl (by omega) (by omega) (fun h89 => by omega) (fun h89 => ?_)
      refine g_iconst hC dX7_ofSheet_92 (pc' := 93) kc_iconst_1 rfl ?_
      refine g_goto hC dX7_ofSheet_93 (tgt := 97) (by decide) ?_
      refine g_callV2R hC (c_marksOf (b := true) (by omega) hR hI) ml_X7_117 (sh_M ad) rfl ⟨(Nat.le_of_ble_eq_true rfl), (Nat.le_of_ble_eq_true rfl)⟩ (Nat.le_of_ble_eq_true rfl) dX7_ofSheet_97 (pc' := 100) rfl ⟨Nat.zero_le _, Nat.zero_le _⟩ ?_
      refine g_iretR hC hRt rfl dX7_ofSheet_100 ?_
      simp only [vOfSheet, cl_nI, h4, cs, eq_false s10_0, eq_false s10_1, eq_false s10_2, eq_false s10_3, ↓reduceIte, Bool.false_eq_true]
    by_cases s10_5 : (w) = nI 5
    · refine g_tabI hC 5 dX7_ofSheet_10 s10_5 (by decide) (by decide) (by decide) (off := 91) rfl (tgt := 101) (by decide) ?_
      subst s10_5
      refine g_aload_0 hC dX7_ofSheet_101 (pc' := 102) rfl ?_
      refine g_iload_1 hC dX7_ofSheet_102 (pc' := 103) rfl ?_
      refine g_iload_2 hC dX7_ofSheet_103 (pc' := 104) rfl ?_
      refine g_iconst hC dX7_ofSheet_104 (pc' := 105) kc_iconst_4 rfl ?_
      refine g_isubN hC dX7_ofSheet_105 (pc' := 106) rfl (by omega) ?_
      refine g_callV2R hC (c_fieldsOf (c := 1) (by omega) (by decide) hR hI) ml_X7_121 (sh_M ad) rfl ⟨(Nat.le_of_ble_eq_true rfl), (Nat.le_of_ble_eq_true rfl)⟩ (Nat.le_of_ble_eq_true rfl) dX7_ofSheet_106 (pc' := 109) rfl ⟨Nat.zero_le _, Nat.zero_le _⟩ ?_
      refine g_iretR hC hRt rfl dX7_ofSheet_109 ?_
      simp only [vOfSheet, cl_nI, h4, cs, eq_false s10_0, eq_false s10_1, eq_false s10_2, eq_false s10_3, eq_false s10_4, ↓reduceIte, Bool.false_eq_true]
    by_cases s10_6 : (w) = nI 6
    · refine g_tabI hC 6 dX7_ofSheet_10 s10_6 (by decide) (by decide) (by decide) (off := 91) rfl (tgt := 101) (by decide) ?_
      subst s10_6
      refine g_aload_0 hC dX7_ofSheet_101 (pc' := 102) rfl ?_
      refine g_iload_1 hC dX7_ofSheet_102 (pc' := 103) rfl ?_
      refine g_iload_2 hC dX7_ofSheet_103 (pc' := 104) rfl ?_
      refine g_iconst hC dX7_ofSheet_104 (pc' := 105) kc_iconst_4 rfl ?_
      refine g_isubN hC dX7_ofSheet_105 (pc' := 106) rfl (by omega) ?_
      refine g_callV2R hC (c_fieldsOf (c := 2) (by omega) (by decide) hR hI) ml_X7_121 (sh_M ad) rfl ⟨(Nat.le_of_ble_eq_true rfl), (Nat.le_of_ble_eq_true rfl)⟩ (Nat.le_of_ble_eq_true rfl) dX7_ofSheet_106 (pc' := 109) rfl ⟨Nat.zero_le _, Nat.zero_le _⟩ ?_
      refine g_iretR hC hRt rfl dX7_ofSheet_109 ?_
      simp only [vOfSheet, cl_nI, h4, cs, eq_false s10_0, eq_false s10_1, eq_false s10_2, eq_false s10_3, eq_false s10_4, eq_false s10_5, ↓reduceIte, Bool.false_eq_true]
    refine g_tabO hC dX7_ofSheet_10 (fun j hj => by
      have : j ≤ 6 := by omega
      match j, this with
      | 0, _ => exact s10_0
      | 1, _ => exact s10_1
      | 2, _ => exact s10_2
      | 3, _ => exact s10_3
      | 4, _ => exact s10_4
      | 5, _ => exact s10_5
      | 6, _ => exact s10_6
      | j + 7, h => exact absurd h (by omega)) (tgt := 110) (by decide) ?_
    refine g_iload_2 hC dX7_ofSheet_110 (pc' := 111) rfl ?_
    refine g_bipush hC dX7_ofSheet_111 (pc' := 113) kc_bipush_7 rfl ?_
    refine g_icmp_ne hC dX7_ofSheet_113 (pc' := 116) (tgt := 128) (by decide) rfl (fun h113 => ?_) (fun h113 => ?_)
    · refine g_bipush hC dX7_ofSheet_128 (pc' := 130) kc_bipush_m2 rfl ?_
      refine g_iretR hC hRt rfl dX7_ofSheet_130 ?_
      simp only [vOfSheet, cl_nI, h4, cs, eq_false s10_0, eq_false s10_1, eq_false s10_2, eq_false s10_3, eq_false s10_4, eq_false s10_5, eq_false s10_6, eq_false h113, ↓reduceIte, Bool.false_eq_true]
    · refine g_aload_0 hC dX7_ofSheet_116 (pc' := 117) rfl ?_
      refine g_getR hC fl_X7_7 (sh_M ad) rfl dX7_ofSheet_117 (pc' := 120) rfl ?_
      refine g_bipush hC dX7_ofSheet_120 (pc' := 122) kc_bipush_14 rfl ?_
      refine g_iload_1 hC dX7_ofSheet_122 (pc' := 123) rfl ?_
      refine g_iaddN hC dX7_ofSheet_123 (pc' := 124) rfl ?_
      refine g_iald hC (sh_mnow ad) (Nat.le_of_ble_eq_true rfl) (by omega) (hR.at (by omega) (by omega)) dX7_ofSheet_124 (pc' := 125) rfl ?_
      refine g_goto hC dX7_ofSheet_125 (tgt := 130) (by decide) ?_
      refine g_iretR hC hRt rfl dX7_ofSheet_130 ?_
      simp only [vOfSheet, cl_nI, h4, cs, eq_false s10_0, eq_false s10_1, eq_false s10_2, eq_false s10_3, eq_false s10_4, eq_false s10_5, eq_false s10_6, eq_true h113, ↓reduceIte, Bool.false_eq_true]
  · refine g_iconst hC dX7_ofSheet_7 (pc' := 8) kc_iconst_m1 rfl ?_
    refine g_iretR hC hRt rfl dX7_ofSheet_8 ?_
    simp only [vOfSheet, cl_nI, h4, ↓reduceIte, Bool.false_eq_true]

set_option maxHeartbeats 4000000 in
set_option maxRecDepth 100000 in
theorem c_reading {l : Launch} {ad : Nat → Nat} {X : gX} {a b w : Int32} {g : Nat → Nat} (hR : RM X g) (hI : Inv g) : K_X7_reading l ad [.ref 201, .int (a), .int (b), .int (w)] X (pR X (vReading g a b w)) := by
  refine Ct.of [.ref 201, .int (a), .int (b), .int (w), .null, .null] 2 (by decide +kernel) rfl (Nat.le_of_ble_eq_true rfl) (fun F hl hC hRt _ => ?_)
  subst hl
  refine g_iload_1 hC dX7_reading_0 (pc' := 1) rfl ?_
  refine g_callS1R hC (c_isSheet) ml_X7_50 ⟨(Nat.le_of_ble_eq_true rfl), (Nat.le_of_ble_eq_true rfl)⟩ (Nat.le_of_ble_eq_true rfl) dX7_reading_1 (pc' := 4) rfl ⟨Nat.zero_le _, Nat.zero_le _⟩ ?_
  refine g_ifZ_eq hC dX7_reading_4 (pc' := 7) (tgt := 14) (by decide) rfl (fun h4 => ?_) (fun h4 => ?_)
  · refine g_iconst hC dX7_reading_14 (pc' := 15) kc_iconst_m1 rfl ?_
    refine g_iretR hC hRt rfl dX7_reading_15 ?_
    simp only [vReading, cl_nI, h4, ↓reduceIte, Bool.false_eq_true]
  · obtain ⟨s, rfl, -, hs⟩ := inB_N (by decide) h4 (by decide)
    have cs : cl (nI s) = s := cl_nI (by omega)
    refine g_iload_2 hC dX7_reading_7 (pc' := 8) rfl ?_
    refine g_callS1R hC (c_isField) ml_X7_75 ⟨(Nat.le_of_ble_eq_true rfl), (Nat.le_of_ble_eq_true rfl)⟩ (Nat.le_of_ble_eq_true rfl) dX7_reading_8 (pc' := 11) rfl ⟨Nat.zero_le _, Nat.zero_le _⟩ ?_
    refine g_ifZ_ne hC dX7_reading_11 (pc' := 14) (tgt := 16) (by decide) rfl (fun h11 => ?_) (fun h11 => ?_)
    · obtain ⟨f, rfl, -, hf⟩ := inB_N (by decide) h11 (by decide)
      have cf : cl (nI f) = f := cl_nI (by omega)
      have bc := hI.c (show s < 5 by omega) (show f < 10 by omega)
      refine g_iconst hC dX7_reading_16 (pc' := 17) kc_iconst_0 rfl ?_
      refine g_istore_4 hC dX7_reading_17 (pc' := 19) rfl (Nat.le_of_ble_eq_true rfl) rfl ?_
      refine g_iconst hC dX7_reading_19 (pc' := 20) kc_iconst_0 rfl ?_
      refine g_istore_5 hC dX7_reading_20 (pc' := 22) rfl (Nat.le_of_ble_eq_true rfl) rfl ?_
      have L22 : ∀ k, k ≤ cnt g s f → G F (S0 ad) (0, 0) X 22 [.ref 201, .int (nI s), .int (nI f), .int (w), .int (nI (cnB (rd g s f) k)), .int (nI k)] [] := by
        refine up_ind _ (fun k hk22 ih22 => ?_)
        refine g_iload_5 hC dX7_reading_22 (pc' := 24) rfl ?_
        refine g_aload_0 hC dX7_reading_24 (pc' := 25) rfl ?_
        refine g_iload_1 hC dX7_reading_25 (pc' := 26) rfl ?_
        refine g_iload_2 hC dX7_reading_26 (pc' := 27) rfl ?_
        refine g_callV2R hC (c_many (s := s) (f := f) (by omega) (by omega) hR) ml_X7_61 (sh_M ad) rfl ⟨(Nat.le_of_ble_eq_true rfl), (Nat.le_of_ble_eq_true rfl)⟩ (Nat.le_of_ble_eq_true rfl) dX7_reading_27 (pc' := 30) rfl ⟨Nat.zero_le _, Nat.zero_le _⟩ ?_
        refine g_icmpN_ge hC dX7_reading_30 (pc' := 33) (tgt := 64) (by decide) rfl (by omega) (by omega) (fun h30 => ?_) (fun h30 => ?_)
        · refine g_iload_3 hC dX7_reading_64 (pc' := 65) rfl ?_
          by_cases s65_0 : (w) = nI 0
          · refine g_tabI hC 0 dX7_reading_65 s65_0 (by decide) (by decide) (by decide) (off := 31) rfl (tgt := 96) (by decide) ?_
            subst s65_0
            refine g_aload_0 hC dX7_reading_96 (pc' := 97) rfl ?_
            refine g_iload_1 hC dX7_reading_97 (pc' := 98) rfl ?_
            refine g_iload_2 hC dX7_reading_98 (pc' := 99) rfl ?_
            refine g_callV2R hC (c_stateOf (s := s) (f := f) (by omega) (by omega) hR hI) ml_X7_114 (sh_M ad) rfl ⟨(Nat.le_of_ble_eq_true rfl), (Nat.le_of_ble_eq_true rfl)⟩ (Nat.le_of_ble_eq_true rfl) dX7_reading_99 (pc' := 102) rfl ⟨Nat.zero_le _, Nat.zero_le _⟩ ?_
            refine g_iretR hC hRt rfl dX7_reading_102 ?_
            simp only [vReading, cl_nI, h4, cs, h11, cf, ↓reduceIte, Bool.false_eq_true]
          by_cases s65_1 : (w) = nI 1
          · refine g_tabI hC 1 dX7_reading_65 s65_1 (by decide) (by decide) (by decide) (off := 38) rfl (tgt := 103) (by decide) ?_
            subst s65_1
            refine g_aload_0 hC dX7_reading_103 (pc' := 104) rfl ?_
            refine g_iload_1 hC dX7_reading_104 (pc' := 105) rfl ?_
            refine g_iload_2 hC dX7_reading_105 (pc' := 106) rfl ?_
            refine g_iload_3 hC dX7_reading_106 (pc' := 107) rfl ?_
            refine g_iconst hC dX7_reading_107 (pc' := 108) kc_iconst_1 rfl ?_
            refine g_isubN hC dX7_reading_108 (pc' := 109) rfl (by omega) ?_
            refine g_callV3R hC (c_lastOf0 (s := s) (f := f) (by omega) (by omega) hR hI) ml_X7_124 (sh_M ad) rfl ⟨(Nat.le_of_ble_eq_true rfl), (Nat.le_of_ble_eq_true rfl)⟩ (Nat.le_of_ble_eq_true rfl) dX7_reading_109 (pc' := 112) rfl ⟨Nat.zero_le _, Nat.zero_le _⟩ ?_
            refine g_iretR hC hRt rfl dX7_reading_112 ?_
            simp only [vReading, cl_nI, h4, cs, h11, cf, eq_false s65_0, ↓reduceIte, Bool.false_eq_true]
          by_cases s65_2 : (w) = nI 2
          · refine g_tabI hC 2 dX7_reading_65 s65_2 (by decide) (by decide) (by decide) (off := 38) rfl (tgt := 103) (by decide) ?_
            subst s65_2
            refine g_aload_0 hC dX7_reading_103 (pc' := 104) rfl ?_
            refine g_iload_1 hC dX7_reading_104 (pc' := 105) rfl ?_
            refine g_iload_2 hC dX7_reading_105 (pc' := 106) rfl ?_
            refine g_iload_3 hC dX7_reading_106 (pc' := 107) rfl ?_
            refine g_iconst hC dX7_reading_107 (pc' := 108) kc_iconst_1 rfl ?_
            refine g_isubN hC dX7_reading_108 (pc' := 109) rfl (by omega) ?_
            refine g_callV3R hC (c_lastOf1 (s := s) (f := f) (by omega) (by omega) hR hI) ml_X7_124 (sh_M ad) rfl ⟨(Nat.le_of_ble_eq_true rfl), (Nat.le_of_ble_eq_true rfl)⟩ (Nat.le_of_ble_eq_true rfl) dX7_reading_109 (pc' := 112) rfl ⟨Nat.zero_le _, Nat.zero_le _⟩ ?_
            refine g_iretR hC hRt rfl dX7_reading_112 ?_
            simp only [vReading, cl_nI, h4, cs, h11, cf, eq_false s65_0, eq_false s65_1, ↓reduceIte, Bool.false_eq_true]
          by_cases s65_3 : (w) = nI 3
          · refine g_tabI hC 3 dX7_reading_65 s65_3 (by decide) (by decide) (by decide) (off := 48) rfl (tgt := 113) (by decide) ?_
            subst s65_3
            refine g_aload_0 hC dX7_reading_113 (pc' := 114) rfl ?_
            refine g_iload_1 hC dX7_reading_114 (pc' := 115) rfl ?_
            refine g_iload_2 hC dX7_reading_115 (pc' := 116) rfl ?_
            refine g_callV2R hC (c_many (s := s) (f := f) (by omega) (by omega) hR) ml_X7_61 (sh_M ad) rfl ⟨(Nat.le_of_ble_eq_true rfl), (Nat.le_of_ble_eq_true rfl)⟩ (Nat.le_of_ble_eq_true rfl) dX7_reading_116 (pc' := 119) rfl ⟨Nat.zero_le _, Nat.zero_le _⟩ ?_
            refine g_iretR hC hRt rfl dX7_reading_119 ?_
            simp only [vReading, cl_nI, h4, cs, h11, cf, eq_false s65_0, eq_false s65_1, eq_false s65_2, ↓reduceIte, Bool.false_eq_true]
          refine g_tabO hC dX7_reading_65 (fun j hj => by
            have : j ≤ 3 := by omega
            match j, this with
            | 0, _ => exact s65_0
            | 1, _ => exact s65_1
            | 2, _ => exact s65_2
            | 3, _ => exact s65_3
            | j + 4, h => exact absurd h (by omega)) (tgt := 120) (by decide) ?_
          refine g_iload_3 hC dX7_reading_120 (pc' := 121) rfl ?_
          refine g_iconst hC dX7_reading_121 (pc' := 122) kc_iconst_4 rfl ?_
          refine g_icmp_ne hC dX7_reading_122 (pc' := 125) (tgt := 130) (by decide) rfl (fun h122 => ?_) (fun h122 => ?_)
          · refine g_bipush hC dX7_reading_130 (pc' := 132) kc_bipush_m2 rfl ?_
            refine g_iretR hC hRt rfl dX7_reading_132 ?_
            simp only [vReading, cl_nI, h4, cs, h11, cf, eq_false s65_0, eq_false s65_1, eq_false s65_2, eq_false s65_3, eq_false h122, ↓reduceIte, Bool.false_eq_true]
          · refine g_iload_4 hC dX7_reading_125 (pc' := 127) rfl ?_
            refine g_goto hC dX7_reading_127 (tgt := 132) (by decide) ?_
            refine g_iretR hC hRt rfl dX7_reading_132 ?_
            rw [show k = cnt g s f by omega]
            simp only [vReading, cl_nI, h4, cs, h11, cf, eq_false s65_0, eq_false s65_1, eq_false s65_2, eq_false s65_3, eq_true h122, ↓reduceIte, Bool.false_eq_true]
        · refine g_iload_4 hC dX7_reading_33 (pc' := 35) rfl ?_
          refine g_aload_0 hC dX7_reading_35 (pc' := 36) rfl ?_
          refine g_aload_0 hC dX7_reading_36 (pc' := 37) rfl ?_
          refine g_iload_1 hC dX7_reading_37 (pc' := 38) rfl ?_
          refine g_iload_2 hC dX7_reading_38 (pc' := 39) rfl ?_
          refine g_iload_5 hC dX7_reading_39 (pc' := 41) rfl ?_
          refine g_callV3R hC (c_markAt (s := s) (f := f) (k := k) (by omega) (by omega) (by omega) hR) ml_X7_64 (sh_M ad) rfl ⟨(Nat.le_of_ble_eq_true rfl), (Nat.le_of_ble_eq_true rfl)⟩ (Nat.le_of_ble_eq_true rfl) dX7_reading_41 (pc' := 44) rfl ⟨Nat.zero_le _, Nat.zero_le _⟩ ?_
          refine g_callV1R hC (c_isReadable (hI.m (by omega) (by omega) (by omega)) hR hI) ml_X7_105 (sh_M ad) rfl ⟨(Nat.le_of_ble_eq_true rfl), (Nat.le_of_ble_eq_true rfl)⟩ (Nat.le_of_ble_eq_true rfl) dX7_reading_44 (pc' := 47) rfl ⟨Nat.zero_le _, Nat.zero_le _⟩ ?_
          refine g_ifZ_eq hC dX7_reading_47 (pc' := 50) (tgt := 54) (by decide) rfl (fun h47 => ?_) (fun h47 => ?_)
          · refine g_iconst hC dX7_reading_54 (pc' := 55) kc_iconst_0 rfl ?_
            refine g_iaddN hC dX7_reading_55 (pc' := 56) rfl ?_
            refine g_istore_4 hC dX7_reading_56 (pc' := 58) rfl (Nat.le_of_ble_eq_true rfl) rfl ?_
            refine g_iinc_5 hC dX7_reading_58 (pc' := 61) rfl (Nat.le_of_ble_eq_true rfl) rfl (nI_inc _ _ kc_iinc_1) ?_
            refine g_goto hC dX7_reading_61 (tgt := 22) (by decide) ?_
            exact g_weak (ih22 (by omega)) (gle_s (gle_s (gle_s (gle_s (gle_i (by simp [cnB, rd, h47]) (gle_i (by first | rfl | omega) gle_nil))))))
          · refine g_iconst hC dX7_reading_50 (pc' := 51) kc_iconst_1 rfl ?_
            refine g_goto hC dX7_reading_51 (tgt := 55) (by decide) ?_
            refine g_iaddN hC dX7_reading_55 (pc' := 56) rfl ?_
            refine g_istore_4 hC dX7_reading_56 (pc' := 58) rfl (Nat.le_of_ble_eq_true rfl) rfl ?_
            refine g_iinc_5 hC dX7_reading_58 (pc' := 61) rfl (Nat.le_of_ble_eq_true rfl) rfl (nI_inc _ _ kc_iinc_1) ?_
            refine g_goto hC dX7_reading_61 (tgt := 22) (by decide) ?_
            exact g_weak (ih22 (by omega)) (gle_s (gle_s (gle_s (gle_s (gle_i (by simp [cnB, rd, h47]) (gle_i (by first | rfl | omega) gle_nil))))))
      exact g_weak (L22 0 (by exact Nat.zero_le _)) (gle_s (gle_s (gle_s (gle_s (gle_i (by rfl) (gle_s gle_nil))))))
    · refine g_iconst hC dX7_reading_14 (pc' := 15) kc_iconst_m1 rfl ?_
      refine g_iretR hC hRt rfl dX7_reading_15 ?_
      simp only [vReading, cl_nI, h4, cs, h11, ↓reduceIte, Bool.false_eq_true]

set_option maxHeartbeats 4000000 in
set_option maxRecDepth 100000 in
theorem c_ofMark {l : Launch} {ad : Nat → Nat} {X : gX} {a b m w : Int32} {g : Nat → Nat} (hR : RM X g) (hI : Inv g) : K_X7_ofMark l ad [.ref 201, .int (a), .int (b), .int (m), .int (w)] X (pR X (vOfMark g a b m w)) := by
  refine Ct.of [.ref 201, .int (a), .int (b), .int (m), .int (w), .null] 1 (by decide +kernel) rfl (Nat.le_of_ble_eq_true rfl) (fun F hl hC hRt _ => ?_)
  subst hl
  refine g_iload_1 hC dX7_ofMark_0 (pc' := 1) rfl ?_
  refine g_callS1R hC (c_isSheet) ml_X7_50 ⟨(Nat.le_of_ble_eq_true rfl), (Nat.le_of_ble_eq_true rfl)⟩ (Nat.le_of_ble_eq_true rfl) dX7_ofMark_1 (pc' := 4) rfl ⟨Nat.zero_le _, Nat.zero_le _⟩ ?_
  refine g_ifZ_eq hC dX7_ofMark_4 (pc' := 7) (tgt := 30) (by decide) rfl (fun h4 => ?_) (fun h4 => ?_)
  · refine g_iconst hC dX7_ofMark_30 (pc' := 31) kc_iconst_m1 rfl ?_
    refine g_iretR hC hRt rfl dX7_ofMark_31 ?_
    simp only [vOfMark, cl_nI, h4, ↓reduceIte, Bool.false_eq_true]
  · obtain ⟨s, rfl, -, hs⟩ := inB_N (by decide) h4 (by decide)
    have cs : cl (nI s) = s := cl_nI (by omega)
    refine g_iload_2 hC dX7_ofMark_7 (pc' := 8) rfl ?_
    refine g_callS1R hC (c_isField) ml_X7_75 ⟨(Nat.le_of_ble_eq_true rfl), (Nat.le_of_ble_eq_true rfl)⟩ (Nat.le_of_ble_eq_true rfl) dX7_ofMark_8 (pc' := 11) rfl ⟨Nat.zero_le _, Nat.zero_le _⟩ ?_
    refine g_ifZ_eq hC dX7_ofMark_11 (pc' := 14) (tgt := 30) (by decide) rfl (fun h11 => ?_) (fun h11 => ?_)
    · refine g_iconst hC dX7_ofMark_30 (pc' := 31) kc_iconst_m1 rfl ?_
      refine g_iretR hC hRt rfl dX7_ofMark_31 ?_
      simp only [vOfMark, cl_nI, h4, cs, h11, ↓reduceIte, Bool.false_eq_true]
    · obtain ⟨f, rfl, -, hf⟩ := inB_N (by decide) h11 (by decide)
      have cf : cl (nI f) = f := cl_nI (by omega)
      have bc := hI.c (show s < 5 by omega) (show f < 10 by omega)
      refine g_iload_3 hC dX7_ofMark_14 (pc' := 15) rfl ?_
      refine g_iconst hC dX7_ofMark_15 (pc' := 16) kc_iconst_0 rfl ?_
      refine g_aload_0 hC dX7_ofMark_16 (pc' := 17) rfl ?_
      refine g_iload_1 hC dX7_ofMark_17 (pc' := 18) rfl ?_
      refine g_iload_2 hC dX7_ofMark_18 (pc' := 19) rfl ?_
      refine g_callV2R hC (c_many (s := s) (f := f) (by omega) (by omega) hR) ml_X7_61 (sh_M ad) rfl ⟨(Nat.le_of_ble_eq_true rfl), (Nat.le_of_ble_eq_true rfl)⟩ (Nat.le_of_ble_eq_true rfl) dX7_ofMark_19 (pc' := 22) rfl ⟨Nat.zero_le _, Nat.zero_le _⟩ ?_
      refine g_iconst hC dX7_ofMark_22 (pc' := 23) kc_iconst_1 rfl ?_
      refine g_isub hC dX7_ofMark_23 (pc' := 24) rfl ?_
      refine g_callS3R hC (c_in (b := lI (cnt g s f))) ml_X7_43 ⟨(Nat.le_of_ble_eq_true rfl), (Nat.le_of_ble_eq_true rfl)⟩ (Nat.le_of_ble_eq_true rfl) dX7_ofMark_24 (pc' := 27) rfl ⟨Nat.zero_le _, Nat.zero_le _⟩ ?_
      refine g_ifZ_ne hC dX7_ofMark_27 (pc' := 30) (tgt := 32) (by decide) rfl (fun h27 => ?_) (fun h27 => ?_)
      · obtain ⟨k, rfl, hk⟩ := inB_low (by omega) h27
        have ck : cl (nI k) = k := cl_nI (by omega)
        have bm : mk g s f k < 20000 := hI.m (by omega) (by omega) (by omega)
        refine g_aload_0 hC dX7_ofMark_32 (pc' := 33) rfl ?_
        refine g_iload_1 hC dX7_ofMark_33 (pc' := 34) rfl ?_
        refine g_iload_2 hC dX7_ofMark_34 (pc' := 35) rfl ?_
        refine g_iload_3 hC dX7_ofMark_35 (pc' := 36) rfl ?_
        refine g_callV3R hC (c_markAt (s := s) (f := f) (k := k) (by omega) (by omega) (by omega) hR) ml_X7_64 (sh_M ad) rfl ⟨(Nat.le_of_ble_eq_true rfl), (Nat.le_of_ble_eq_true rfl)⟩ (Nat.le_of_ble_eq_true rfl) dX7_ofMark_36 (pc' := 39) rfl ⟨Nat.zero_le _, Nat.zero_le _⟩ ?_
        refine g_istore_5 hC dX7_ofMark_39 (pc' := 41) rfl (Nat.le_of_ble_eq_true rfl) rfl ?_
        refine g_iload_4 hC dX7_ofMark_41 (pc' := 43) rfl ?_
        refine g_ifI_ne hC dX7_ofMark_43 (pc' := 46) (tgt := 54) (by decide) rfl (fun h43 => ?_) (fun h43 => ?_)
        · refine g_iload_4 hC dX7_ofMark_54 (pc' := 56) rfl ?_
          refine g_iconst hC dX7_ofMark_56 (pc' := 57) kc_iconst_1 rfl ?_
          refine g_icmp_ne hC dX7_ofMark_57 (pc' := 60) (tgt := 68) (by decide) rfl (fun h57 => ?_) (fun h57 => ?_)
          · refine g_iload_4 hC dX7_ofMark_68 (pc' := 70) rfl ?_
            refine g_iconst hC dX7_ofMark_70 (pc' := 71) kc_iconst_2 rfl ?_
            refine g_icmp_ne hC dX7_ofMark_71 (pc' := 74) (tgt := 81) (by decide) rfl (fun h71 => ?_) (fun h71 => ?_)
            · refine g_bipush hC dX7_ofMark_81 (pc' := 83) kc_bipush_m2 rfl ?_
              refine g_iretR hC hRt rfl dX7_ofMark_83 ?_
              simp only [vOfMark, cl_nI, h4, cs, h11, cf, h27, ck, eq_false h43, eq_false h57, eq_false h71, ↓reduceIte, Bool.false_eq_true]
            · refine g_iload_5 hC dX7_ofMark_74 (pc' := 76) rfl ?_
              refine g_iconst hC dX7_ofMark_76 (pc' := 77) kc_iconst_2 rfl ?_
              refine g_iremN hC dX7_ofMark_77 (pc' := 78) rfl (by omega) (by omega) (by omega) ?_
              refine g_goto hC dX7_ofMark_78 (tgt := 83) (by decide) ?_
              refine g_iretR hC hRt rfl dX7_ofMark_83 ?_
              simp only [vOfMark, cl_nI, h4, cs, h11, cf, h27, ck, eq_false h43, eq_false h57, eq_true h71, ↓reduceIte, Bool.false_eq_true]
          · refine g_iload_5 hC dX7_ofMark_60 (pc' := 62) rfl ?_
            refine g_callS1R hC (c_strengthOf bm) ml_X7_71 ⟨(Nat.le_of_ble_eq_true rfl), (Nat.le_of_ble_eq_true rfl)⟩ (Nat.le_of_ble_eq_true rfl) dX7_ofMark_62 (pc' := 65) rfl ⟨Nat.zero_le _, Nat.zero_le _⟩ ?_
            refine g_goto hC dX7_ofMark_65 (tgt := 83) (by decide) ?_
            refine g_iretR hC hRt rfl dX7_ofMark_83 ?_
            simp only [vOfMark, cl_nI, h4, cs, h11, cf, h27, ck, eq_false h43, eq_true h57, ↓reduceIte, Bool.false_eq_true]
        · refine g_iload_5 hC dX7_ofMark_46 (pc' := 48) rfl ?_
          refine g_callS1R hC (c_valueOf bm) ml_X7_111 ⟨(Nat.le_of_ble_eq_true rfl), (Nat.le_of_ble_eq_true rfl)⟩ (Nat.le_of_ble_eq_true rfl) dX7_ofMark_48 (pc' := 51) rfl ⟨Nat.zero_le _, Nat.zero_le _⟩ ?_
          refine g_goto hC dX7_ofMark_51 (tgt := 83) (by decide) ?_
          refine g_iretR hC hRt rfl dX7_ofMark_83 ?_
          simp only [vOfMark, cl_nI, h4, cs, h11, cf, h27, ck, eq_true h43, ↓reduceIte, Bool.false_eq_true]
      · refine g_iconst hC dX7_ofMark_30 (pc' := 31) kc_iconst_m1 rfl ?_
        refine g_iretR hC hRt rfl dX7_ofMark_31 ?_
        simp only [vOfMark, cl_nI, h4, cs, h11, cf, h27, ↓reduceIte, Bool.false_eq_true]
end
section
theorem RM.of {X X' : gX} {g : Nat → Nat} (h : RM X g) (e : X' 202 = X 202) : RM X' g := fun j hj => by rw [e]; exact h j hj
theorem RM.congr {X : gX} {g g' : Nat → Nat} (h : RM X g) (e : ∀ j, j < 470 → g j = g' j) : RM X g' := fun j hj => by
  rw [h j hj]
  unfold ar
  rw [e j hj, e 3 (by decide)]
def updN (g : Nat → Nat) (i v : Nat) : Nat → Nat := fun j => if j = i then v else g j
theorem RM.upd {X : gX} {g : Nat → Nat} (h : RM X g) {i v : Nat} (h3 : i ≠ 3) : RM (gu X 202 i (nI v)) (updN g i v) := fun j hj => by
  by_cases hi : j = i
  · subst hi
    rw [gu_at]
    simp [ar, updN, h3]
  · rw [gu_other (fun z => hi z.2), h j hj]
    unfold ar updN
    simp only [hi, if_false, show ¬ (3 : Nat) = i from fun z => h3 z.symm]
/-- what a press of strength p has left where sheet t lies -/
def prs (g : Nat → Nat) (p : Nat) : Nat → Nat
  | 0 => p
  | t + 1 => if inS g t = true then (if 0 < g (9 + t) then prs g p t - g (4 + t) else 0) else prs g p t
/-- with what strength it comes to sheet t, 0 if it doesn't -/
def arv (g : Nat → Nat) (p t : Nat) : Nat := if inS g t = true then prs g p t else 0
def hit (g : Nat → Nat) (p t : Nat) : Bool := decide (0 < arv g p t)
def reach (g : Nat → Nat) (p : Nat) : Nat := cnB (hit g p) 5
theorem prs_top (g : Nat → Nat) (p : Nat) : ∀ t, t ≤ g 2 → prs g p t = p := by
  intro t
  induction t with
  | zero => intro _; rfl
  | succ t ih =>
    intro h
    unfold prs
    rw [if_neg (by rw [inS_iff]; omega)]
    exact ih (by omega)
theorem prs_le (g : Nat → Nat) (p : Nat) : ∀ t, prs g p t ≤ p := by
  intro t
  induction t with
  | zero => exact Nat.le_refl _
  | succ t ih =>
    unfold prs
    split
    · split <;> omega
    · exact ih
theorem prs_in {g : Nat → Nat} {p t : Nat} (h : inS g t = true) : prs g p (t + 1) = if 0 < g (9 + t) then prs g p t - g (4 + t) else 0 := by
  show (if inS g t = true then _ else _) = _
  rw [if_pos h]
theorem prs_0 {g : Nat → Nat} {p : Nat} : ∀ {t u : Nat}, prs g p t = 0 → t ≤ u → prs g p u = 0 := by
  intro t u h
  induction u with
  | zero => intro hu; rw [show t = 0 by omega] at h; exact h
  | succ u ih =>
    intro hu
    by_cases hz : t = u + 1
    · rw [← hz]; exact h
    · have h1 := ih (by omega)
      unfold prs
      rw [h1]
      split
      · split <;> omega
      · rfl
theorem arv_le (g : Nat → Nat) (p t : Nat) : arv g p t ≤ p := by unfold arv; split; exact prs_le g p t; exact Nat.zero_le _
theorem arv_out {g : Nat → Nat} {p t : Nat} (h : ¬ (g 2 ≤ t ∧ t < g 3)) : arv g p t = 0 := by
  unfold arv
  rw [if_neg (by rw [inS_iff]; exact h)]
theorem arv_in {g : Nat → Nat} {p t : Nat} (h : g 2 ≤ t ∧ t < g 3) : arv g p t = prs g p t := by
  unfold arv
  rw [if_pos (inS_iff.mpr h)]
/-- the sheets that are reached lie side by side, from the top on -/
theorem arv_seg {g : Nat → Nat} {p t : Nat} (h : 0 < arv g p (t + 1)) (h2 : g 2 ≤ t) : 0 < arv g p t ∧ 0 < g (9 + t) := by
  have hi : g 2 ≤ t + 1 ∧ t + 1 < g 3 := Decidable.byContradiction (fun z => by rw [arv_out z] at h; omega)
  rw [arv_in hi, prs_in (inS_iff.mpr ⟨h2, by omega⟩)] at h
  rw [arv_in ⟨h2, by omega⟩]
  split at h <;> omega
theorem arv_down {g : Nat → Nat} {p : Nat} : ∀ {t : Nat}, 0 < arv g p t → ∀ u, g 2 ≤ u → u ≤ t → 0 < arv g p u := by
  intro t
  induction t with
  | zero => intro h u _ hu; rw [show u = 0 by omega]; exact h
  | succ t ih =>
    intro h u h2 hu
    by_cases hz : u = t + 1
    · rw [hz]; exact h
    · exact ih (arv_seg h (by omega)).1 u h2 (by omega)
theorem cnB_seg {P : Nat → Bool} {a : Nat} : ∀ (n : Nat), (∀ t, t < n → P t = true → a ≤ t) → (∀ t, t < n → P t = true → ∀ u, a ≤ u → u ≤ t → P u = true) → ∀ t, t < n → (P t = true ↔ a ≤ t ∧ t < a + cnB P n) := by
  intro n
  induction n with
  | zero => intro _ _ t h; omega
  | succ n ih =>
    intro h1 h2 t ht
    have ih' := ih (fun t h => h1 t (by omega)) (fun t h => h2 t (by omega))
    show P t = true ↔ a ≤ t ∧ t < a + (cnB P n + (if P n = true then 1 else 0))
    by_cases hn : P n = true
    · rw [if_pos hn]
      have han := h1 n (by omega) hn
      have hall : ∀ u, a ≤ u → u ≤ n → P u = true := h2 n (by omega) hn
      have hc : cnB P n = n - a := by
        rcases Nat.lt_or_ge a n with h | h
        · have := (ih' (n - 1) (by omega)).mp (hall (n - 1) (by omega) (by omega))
          by_cases hb : cnB P n ≤ n - a
          · omega
          · exfalso
            have hcn : cnB P n ≤ n - a := by
              have : ∀ m, (∀ t, t < m → P t = true → a ≤ t) → cnB P m ≤ m - a := by
                intro m
                induction m with
                | zero => intro _; exact Nat.zero_le _
                | succ m ihm =>
                  intro hm
                  unfold cnB
                  have := ihm (fun t h => hm t (by omega))
                  split
                  · rename_i hp; have := hm m (by omega) hp; omega
                  · omega
              exact this n (fun t h => h1 t (by omega))
            omega
        · have : cnB P n = 0 := by
            have : ∀ m, m ≤ n → cnB P m = 0 := by
              intro m
              induction m with
              | zero => intro _; rfl
              | succ m ihm =>
                intro hm
                unfold cnB
                rw [ihm (by omega), if_neg]
                intro hp
                have := h1 m (by omega) hp
                omega
            exact this n (Nat.le_refl _)
          omega
      rw [hc]
      constructor
      · intro hp; exact ⟨h1 t ht hp, by omega⟩
      · rintro ⟨h3, h4⟩; exact hall t h3 (by omega)
    · rw [if_neg hn, Nat.add_zero]
      by_cases htn : t = n
      · subst htn
        constructor
        · intro hp; exact absurd hp hn
        · rintro ⟨h3, h4⟩
          exfalso
          have h0 : 0 < t ∨ t = 0 := by omega
          rcases h0 with h0 | h0
          · have hq : cnB P t ≤ t - a := by
              have : ∀ m, m ≤ t → cnB P m ≤ m - a := by
                intro m
                induction m with
                | zero => intro _; exact Nat.zero_le _
                | succ m ihm =>
                  intro hm
                  unfold cnB
                  have := ihm (by omega)
                  split
                  · rename_i hp; have := h1 m (by omega) hp; omega
                  · omega
              exact this t (Nat.le_refl _)
            omega
          · subst h0; simp [cnB] at h4; omega
      · exact ih' t (by omega)
theorem reach_seg {g : Nat → Nat} {p t : Nat} (ht : t < 5) : 0 < arv g p t ↔ g 2 ≤ t ∧ t < g 2 + reach g p := by
  have := cnB_seg (P := hit g p) (a := g 2) 5 (fun t _ h => by
    simp only [hit, decide_eq_true_eq] at h
    refine Nat.not_lt.mp fun z => ?_
    rw [arv_out (by omega)] at h
    omega) (fun t _ h u h2 hu => by
    simp only [hit, decide_eq_true_eq] at h ⊢
    exact arv_down h u h2 hu) t ht
  unfold reach
  simpa [hit] using this
def isPr (x : Int32) (n : Nat) : Prop := (0 < x → x = nI n) ∧ (¬ 0 < x → n = 0)
theorem isPr_n {n : Nat} (h : n < 1073741824) : isPr (nI n) n := ⟨fun _ => rfl, fun z => Nat.eq_zero_of_not_pos fun h2 => z ((nI_gt0 (by omega)).mpr h2)⟩
theorem isPr_sub {a b : Nat} (ha : a < 1073741824) (hb : b < 1073741824) : isPr (nI a - nI b) (a - b) := by
  have ht := pk_sub_toInt (a := a) (b := b) (by omega) (by omega)
  constructor
  · intro h
    rw [Int32.lt_iff_toInt_lt, ht] at h
    have : (0 : Int32).toInt = 0 := by decide
    rw [this] at h
    exact pk_sub (by omega)
  · intro h
    rw [Int32.lt_iff_toInt_lt, ht] at h
    have : (0 : Int32).toInt = 0 := by decide
    rw [this] at h
    omega
theorem cnB_0 {P : Nat → Bool} : ∀ {n : Nat}, (∀ k, k < n → P k = false) → cnB P n = 0 := by
  intro n
  induction n with
  | zero => intro _; rfl
  | succ n ih => intro h; unfold cnB; rw [ih (fun k hk => h k (by omega)), h n (by omega)]; rfl
theorem cnB_rest {P : Nat → Bool} {k : Nat} : ∀ {n : Nat}, k ≤ n → (∀ j, k ≤ j → j < n → P j = false) → cnB P n = cnB P k := by
  intro n
  induction n with
  | zero => intro h _; rw [show k = 0 by omega]
  | succ n ih =>
    intro h h2
    by_cases hk : k = n + 1
    · rw [hk]
    · show cnB P n + (if P n = true then 1 else 0) = cnB P k
      rw [ih (by omega) (fun j h3 h4 => h2 j h3 (by omega)), h2 n (by omega) (by omega)]
      rfl
theorem arv_0 {g : Nat → Nat} {p t u : Nat} (h : prs g p t = 0) (hu : t ≤ u) : arv g p u = 0 := by
  unfold arv
  split
  · exact prs_0 h hu
  · rfl
theorem cnB_t {P : Nat → Bool} {k : Nat} (h : P k = true) : cnB P (k + 1) = cnB P k + 1 := by
  show cnB P k + (if P k = true then 1 else 0) = _
  rw [if_pos h]
theorem cnB_f {P : Nat → Bool} {k : Nat} (h : P k = false) : cnB P (k + 1) = cnB P k := by
  show cnB P k + (if P k = true then 1 else 0) = _
  rw [h]
  rfl
theorem lp_mem1 {X X1 : gX} {k : Nat} (h : (∀ i, i ≠ 208 → X1 i = X i) ∧ ∀ j, j < k → X1 208 j = nI 0) : (∀ i, i ≠ 208 → gu X1 208 k (nI 0) i = X i) ∧ ∀ j, j < k + 1 → gu X1 208 k (nI 0) 208 j = nI 0 := by
  refine ⟨fun i hi => (gu_ne i hi).trans (h.1 i hi), fun j hj => ?_⟩
  by_cases hz : j = k
  · subst hz; exact gu_at
  · rw [gu_other (fun z => hz z.2)]
    exact h.2 j (by omega)
theorem lp_mem0 {X X1 : gX} {g : Nat → Nat} {p : Nat} (h : (∀ i, i ≠ 208 → X1 i = X i) ∧ ∀ j, j < 5 → X1 208 j = nI 0) : (∀ i, i ≠ 208 → X1 i = X i) ∧ ∀ j, j < 5 → X1 208 j = if j < g 2 then nI (arv g p j) else nI 0 := by
  refine ⟨h.1, fun j hj => ?_⟩
  rw [h.2 j hj]
  split
  · rw [arv_out (by omega)]
  · rfl
theorem lp_mem2 {X X2 : gX} {F : Nat → Int32} {t : Nat} {v : Int32} (h : (∀ i, i ≠ 208 → X2 i = X i) ∧ ∀ j, j < 5 → X2 208 j = if j < t then F j else nI 0) (hv : v = F t) : (∀ i, i ≠ 208 → gu X2 208 t v i = X i) ∧ ∀ j, j < 5 → gu X2 208 t v 208 j = if j < t + 1 then F j else nI 0 := by
  refine ⟨fun i hi => (gu_ne i hi).trans (h.1 i hi), fun j hj => ?_⟩
  by_cases hz : j = t
  · subst hz
    rw [gu_at, if_pos (Nat.lt_succ_self _)]
    exact hv
  · rw [gu_other (fun z => hz z.2), h.2 j hj]
    by_cases hjt : j < t
    · rw [if_pos hjt, if_pos (by omega)]
    · rw [if_neg hjt, if_neg (by omega)]
def uz (g : Nat → Nat) (n : Nat) : Nat → Nat := fun j => if 9 + g 2 ≤ j ∧ j < 9 + g 2 + n then g j - 1 else g j
theorem uz_step {g : Nat → Nat} {k j : Nat} : updN (uz g k) (9 + g 2 + k) (g (9 + g 2 + k) - 1) j = uz g (k + 1) j := by
  unfold updN uz
  by_cases hz : j = 9 + g 2 + k
  · rw [if_pos hz, if_pos (by omega), hz]
  · rw [if_neg hz]
    by_cases hy : 9 + g 2 ≤ j ∧ j < 9 + g 2 + k
    · rw [if_pos hy, if_pos (by omega)]
    · rw [if_neg hy, if_neg (by omega)]
def addm (g : Nat → Nat) (s f v p : Nat) : Nat → Nat := updN (updN g (70 + 8 * (10 * s + f) + cnt g s f) (20 * v + 2 * p)) (20 + (10 * s + f)) (cnt g s f + 1)
def stz (g : Nat → Nat) (b q n : Nat) : Nat → Nat := fun j => if b ≤ j ∧ j < b + n ∧ (g j % 2 = 0 ∧ g j / 2 % 10 ≤ q) then g j + 1 else g j
def stt (g : Nat → Nat) (s f q k : Nat) : Bool := decide (mk g s f k % 2 = 0) && decide (mk g s f k / 2 % 10 ≤ q)
def stk (g : Nat → Nat) (s f q : Nat) : Nat → Nat := stz g (70 + 8 * (10 * s + f)) q (cnt g s f)
theorem stz_ge {g : Nat → Nat} {b q n j : Nat} (h : b + n ≤ j ∨ j < b) : stz g b q n j = g j := by
  unfold stz
  rw [if_neg (by omega)]
theorem stz_step1 {g : Nat → Nat} {s f q k j : Nat} (hj : j < 470) (h0 : mk g s f k % 2 = 0) (h1 : mk g s f k / 2 % 10 ≤ q) : updN (stz g (70 + 8 * (10 * s + f)) q k) (70 + 8 * (10 * s + f) + k) (mk g s f k + 1) j = stz g (70 + 8 * (10 * s + f)) q (k + 1) j := by
  unfold mk at *
  unfold updN
  by_cases hz : j = 70 + 8 * (10 * s + f) + k
  · rw [if_pos hz, hz]
    unfold stz
    rw [if_pos ⟨by omega, by omega, h0, h1⟩]
  · rw [if_neg hz]
    unfold stz
    by_cases hy : 70 + 8 * (10 * s + f) ≤ j ∧ j < 70 + 8 * (10 * s + f) + k ∧ (g j % 2 = 0 ∧ g j / 2 % 10 ≤ q)
    · rw [if_pos hy, if_pos ⟨hy.1, by omega, hy.2.2⟩]
    · rw [if_neg hy, if_neg (fun w => hy ⟨w.1, by omega, w.2.2⟩)]
theorem stz_step0 {g : Nat → Nat} {b q k j : Nat} (h : ¬ (g (b + k) % 2 = 0 ∧ g (b + k) / 2 % 10 ≤ q)) : stz g b q k j = stz g b q (k + 1) j := by
  unfold stz
  by_cases hz : j = b + k
  · subst hz
    rw [if_neg (by omega), if_neg (fun w => h w.2.2)]
  · by_cases hy : b ≤ j ∧ j < b + k ∧ (g j % 2 = 0 ∧ g j / 2 % 10 ≤ q)
    · rw [if_pos hy, if_pos ⟨hy.1, by omega, hy.2.2⟩]
    · rw [if_neg hy, if_neg (fun w => hy ⟨w.1, by omega, w.2.2⟩)]

set_option maxHeartbeats 4000000 in
set_option maxRecDepth 100000 in
theorem c_manyV {l : Launch} {ad : Nat → Nat} {X : gX} {s f c : Nat} (hs : s < 5) (hf : f < 10) (hv : X 202 (20 + (10 * s + f)) = nI c) : K_X7_many l ad [.ref 201, .int (nI s), .int (nI f)] X (pR X (nI c)) := by
  refine Ct.of [.ref 201, .int (nI s), .int (nI f)] 0 (by decide +kernel) rfl (Nat.le_of_ble_eq_true rfl) (fun F hl hC hRt _ => ?_)
  subst hl
  refine g_aload_0 hC dX7_many_0 (pc' := 1) rfl ?_
  refine g_getR hC fl_X7_7 (sh_M ad) rfl dX7_many_1 (pc' := 4) rfl ?_
  refine g_bipush hC dX7_many_4 (pc' := 6) kc_bipush_20 rfl ?_
  refine g_iload_1 hC dX7_many_6 (pc' := 7) rfl ?_
  refine g_iload_2 hC dX7_many_7 (pc' := 8) rfl ?_
  refine g_callS2R hC (c_spot) ml_X7_57 ⟨(Nat.le_of_ble_eq_true rfl), (Nat.le_of_ble_eq_true rfl)⟩ (Nat.le_of_ble_eq_true rfl) dX7_many_8 (pc' := 11) rfl ⟨Nat.zero_le _, Nat.zero_le _⟩ ?_
  refine g_iaddN hC dX7_many_11 (pc' := 12) rfl ?_
  refine g_iald hC (sh_mnow ad) (Nat.le_of_ble_eq_true rfl) (by omega) (hv) dX7_many_12 (pc' := 13) rfl ?_
  refine g_iretR hC hRt rfl dX7_many_13 ?_
  first | rfl | simp_all | omega

set_option maxHeartbeats 4000000 in
set_option maxRecDepth 100000 in
theorem c_markAtV {l : Launch} {ad : Nat → Nat} {X : gX} {s f k m : Nat} (hs : s < 5) (hf : f < 10) (hk : k < 8) (hv : X 202 (70 + 8 * (10 * s + f) + k) = nI m) : K_X7_markAt l ad [.ref 201, .int (nI s), .int (nI f), .int (nI k)] X (pR X (nI m)) := by
  refine Ct.of [.ref 201, .int (nI s), .int (nI f), .int (nI k)] 0 (by decide +kernel) rfl (Nat.le_of_ble_eq_true rfl) (fun F hl hC hRt _ => ?_)
  subst hl
  refine g_aload_0 hC dX7_markAt_0 (pc' := 1) rfl ?_
  refine g_getR hC fl_X7_7 (sh_M ad) rfl dX7_markAt_1 (pc' := 4) rfl ?_
  refine g_bipush hC dX7_markAt_4 (pc' := 6) kc_bipush_70 rfl ?_
  refine g_bipush hC dX7_markAt_6 (pc' := 8) kc_bipush_8 rfl ?_
  refine g_iload_1 hC dX7_markAt_8 (pc' := 9) rfl ?_
  refine g_iload_2 hC dX7_markAt_9 (pc' := 10) rfl ?_
  refine g_callS2R hC (c_spot) ml_X7_57 ⟨(Nat.le_of_ble_eq_true rfl), (Nat.le_of_ble_eq_true rfl)⟩ (Nat.le_of_ble_eq_true rfl) dX7_markAt_10 (pc' := 13) rfl ⟨Nat.zero_le _, Nat.zero_le _⟩ ?_
  refine g_imulN hC dX7_markAt_13 (pc' := 14) rfl ?_
  refine g_iaddN hC dX7_markAt_14 (pc' := 15) rfl ?_
  refine g_iload_3 hC dX7_markAt_15 (pc' := 16) rfl ?_
  refine g_iaddN hC dX7_markAt_16 (pc' := 17) rfl ?_
  refine g_iald hC (sh_mnow ad) (Nat.le_of_ble_eq_true rfl) (by omega) (hv) dX7_markAt_17 (pc' := 18) rfl ?_
  refine g_iretR hC hRt rfl dX7_markAt_18 ?_
  first | rfl | simp_all | omega

set_option maxHeartbeats 4000000 in
set_option maxRecDepth 100000 in
theorem c_layPress {l : Launch} {ad : Nat → Nat} {X : gX} {p : Nat} {g : Nat → Nat} (hp : 1 ≤ p ∧ p ≤ 9) (hR : RM X g) (hI : Inv g) : K_X7_layPress l ad [.ref 201, .int (nI p)] X (fun v X' => v = nI (reach g p) ∧ (∀ i, i ≠ 208 → X' i = X i) ∧ ∀ t, t < 5 → X' 208 t = nI (arv g p t)) := by
  refine Ct.of [.ref 201, .int (nI p), .null, .null, .null] 3 (by decide +kernel) rfl (Nat.le_of_ble_eq_true rfl) (fun F hl hC hRt _ => ?_)
  subst hl
  have b23 : g 2 ≤ g 3 ∧ g 3 ≤ 5 := hI.1.2.2
  refine g_iconst hC dX7_layPress_0 (pc' := 1) kc_iconst_0 rfl ?_
  refine g_istore_2 hC dX7_layPress_1 (pc' := 2) rfl (Nat.le_of_ble_eq_true rfl) rfl ?_
  refine g_iload_1 hC dX7_layPress_2 (pc' := 3) rfl ?_
  refine g_istore_3 hC dX7_layPress_3 (pc' := 4) rfl (Nat.le_of_ble_eq_true rfl) rfl ?_
  refine g_iconst hC dX7_layPress_4 (pc' := 5) kc_iconst_0 rfl ?_
  refine g_istore_4 hC dX7_layPress_5 (pc' := 7) rfl (Nat.le_of_ble_eq_true rfl) rfl ?_
  have L7 : ∀ k, k ≤ 5 → ∀ X1 : gX, ((∀ i, i ≠ 208 → X1 i = X i) ∧ ∀ j, j < k → X1 208 j = nI 0) → G F (S0 ad) (0, 0) X1 7 [.ref 201, .int (nI p), .int (nI 0), .int (nI p), .int (nI k)] [] := by
    refine up_ind _ (fun k hk7 ih7 => ?_)
    intro X1 hm7
    refine g_iload_4 hC dX7_layPress_7 (pc' := 9) rfl ?_
    refine g_iconst hC dX7_layPress_9 (pc' := 10) kc_iconst_5 rfl ?_
    refine g_icmpN_ge hC dX7_layPress_10 (pc' := 13) (tgt := 27) (by decide) rfl (by omega) (by omega) (fun h10 => ?_) (fun h10 => ?_)
    · refine g_aload_0 hC dX7_layPress_27 (pc' := 28) rfl ?_
      refine g_getR hC fl_X7_7 (sh_M ad) rfl dX7_layPress_28 (pc' := 31) rfl ?_
      refine g_iconst hC dX7_layPress_31 (pc' := 32) kc_iconst_2 rfl ?_
      refine g_iald hC (sh_mnow ad) (Nat.le_of_ble_eq_true rfl) (by omega) ((hR.of (hm7.1 202 (by decide))).at (by decide) (by decide)) dX7_layPress_32 (pc' := 33) rfl ?_
      refine g_istore_4 hC dX7_layPress_33 (pc' := 35) rfl (Nat.le_of_ble_eq_true rfl) rfl ?_
      have L35 : ∀ t, t ≤ g 3 → g 2 ≤ t → ∀ x : Int32, isPr x (prs g p t) → ∀ X2 : gX, ((∀ i, i ≠ 208 → X2 i = X i) ∧ ∀ j, j < 5 → X2 208 j = if j < t then nI (arv g p j) else nI 0) → G F (S0 ad) (0, 0) X2 35 [.ref 201, .int (nI p), .int (nI (cnB (hit g p) t)), .int (x), .int (nI t)] [] := by
        refine up_ind _ (fun t hk35 ih35 => ?_)
        intro ht2 x hq
        intro X2 hm35
        refine g_iload_4 hC dX7_layPress_35 (pc' := 37) rfl ?_
        refine g_aload_0 hC dX7_layPress_37 (pc' := 38) rfl ?_
        refine g_getR hC fl_X7_7 (sh_M ad) rfl dX7_layPress_38 (pc' := 41) rfl ?_
        refine g_iconst hC dX7_layPress_41 (pc' := 42) kc_iconst_3 rfl ?_
        refine g_iald hC (sh_mnow ad) (Nat.le_of_ble_eq_true rfl) (by omega) ((hR.of (hm35.1 202 (by decide))).low) dX7_layPress_42 (pc' := 43) rfl ?_
        refine g_icmpL_gt hC dX7_layPress_43 (pc' := 46) (tgt := 96) (by decide) rfl (by omega) (by omega) (fun h43 => ?_) (fun h43 => ?_)
        · refine g_iload_2 hC dX7_layPress_96 (pc' := 97) rfl ?_
          refine g_iretI hC hRt rfl dX7_layPress_97 ?_
          refine ⟨?_, hm35.1, fun j hj => ?_⟩
          · refine congrArg nI (cnB_rest (by omega) (fun j h1 h2 => ?_)).symm
            simp only [hit, decide_eq_false_iff_not]
            rw [arv_out (by omega)]; decide
          · rw [hm35.2 j hj]
            split
            · rfl
            · rw [arv_out (by omega)]
        · have bt := hI.t (show t < 5 by omega)
          have bp := prs_le g p t
          have hin : inS g t = true := inS_iff.mpr ⟨ht2, h43⟩
          refine g_iload_3 hC dX7_layPress_46 (pc' := 47) rfl ?_
          refine g_if_le hC dX7_layPress_47 (pc' := 50) (tgt := 96) (by decide) rfl (fun h47 => ?_) (fun h47 => ?_)
          · refine g_iload_2 hC dX7_layPress_96 (pc' := 97) rfl ?_
            refine g_iretI hC hRt rfl dX7_layPress_97 ?_
            refine ⟨?_, hm35.1, fun j hj => ?_⟩
            · refine congrArg nI (cnB_rest (by omega) (fun j h1 h2 => ?_)).symm
              simp only [hit, decide_eq_false_iff_not]
              rw [arv_0 (hq.2 (Int32.not_lt.mpr h47)) (by omega)]; decide
            · rw [hm35.2 j hj]
              split
              · rfl
              · rw [arv_0 (hq.2 (Int32.not_lt.mpr h47)) (by omega)]
          · have hx0 : 0 < x := Int32.not_le.mp h47
            obtain rfl := hq.1 hx0
            have hpos : 0 < prs g p t := (nI_gt0 (by omega)).mp hx0
            refine g_aload_0 hC dX7_layPress_50 (pc' := 51) rfl ?_
            refine g_getR hC fl_X7_29 (sh_M ad) rfl dX7_layPress_51 (pc' := 54) rfl ?_
            refine g_iload_4 hC dX7_layPress_54 (pc' := 56) rfl ?_
            refine g_iload_3 hC dX7_layPress_56 (pc' := 57) rfl ?_
            refine g_iast hC (sh_mcomes ad) (Nat.le_of_ble_eq_true rfl) (by omega) dX7_layPress_57 (pc' := 58) rfl ?_
            refine g_iinc_2 hC dX7_layPress_58 (pc' := 61) rfl (Nat.le_of_ble_eq_true rfl) rfl (nI_inc _ _ kc_iinc_1) ?_
            refine g_aload_0 hC dX7_layPress_61 (pc' := 62) rfl ?_
            refine g_getR hC fl_X7_7 (sh_M ad) rfl dX7_layPress_62 (pc' := 65) rfl ?_
            refine g_bipush hC dX7_layPress_65 (pc' := 67) kc_bipush_9 rfl ?_
            refine g_iload_4 hC dX7_layPress_67 (pc' := 69) rfl ?_
            refine g_iaddN hC dX7_layPress_69 (pc' := 70) rfl ?_
            refine g_iald hC (sh_mnow ad) (Nat.le_of_ble_eq_true rfl) (by omega) ((hR.of (hm35.1 202 (by decide))).at (by omega) (by omega)) dX7_layPress_70 (pc' := 71) rfl ?_
            refine g_ifN_le hC dX7_layPress_71 (pc' := 74) (tgt := 88) (by decide) rfl (by omega) (fun h71 => ?_) (fun h71 => ?_)
            · refine g_iconst hC dX7_layPress_88 (pc' := 89) kc_iconst_0 rfl ?_
              refine g_istore_3 hC dX7_layPress_89 (pc' := 90) rfl (Nat.le_of_ble_eq_true rfl) rfl ?_
              refine g_iinc_4 hC dX7_layPress_90 (pc' := 93) rfl (Nat.le_of_ble_eq_true rfl) rfl (nI_inc _ _ kc_iinc_1) ?_
              refine g_goto hC dX7_layPress_93 (tgt := 35) (by decide) ?_
              exact g_weak (ih35 (by omega) (by omega) ((nI 0)) (by rw [prs_in hin]; simp only [h71, Nat.lt_irrefl, if_false]; exact isPr_n (by omega)) _ (by exact lp_mem2 hm35 (by rw [arv_in (by omega)]))) (gle_s (gle_s (gle_i (by exact congrArg nI (cnB_t (by simp only [hit, arv_in (show g 2 ≤ t ∧ t < g 3 from ⟨ht2, h43⟩)]; exact decide_eq_true hpos))) (gle_i (by rfl) (gle_i (by first | rfl | omega) gle_nil)))))
            · refine g_iload_3 hC dX7_layPress_74 (pc' := 75) rfl ?_
              refine g_aload_0 hC dX7_layPress_75 (pc' := 76) rfl ?_
              refine g_getR hC fl_X7_7 (sh_M ad) rfl dX7_layPress_76 (pc' := 79) rfl ?_
              refine g_iconst hC dX7_layPress_79 (pc' := 80) kc_iconst_4 rfl ?_
              refine g_iload_4 hC dX7_layPress_80 (pc' := 82) rfl ?_
              refine g_iaddN hC dX7_layPress_82 (pc' := 83) rfl ?_
              refine g_iald hC (sh_mnow ad) (Nat.le_of_ble_eq_true rfl) (by omega) ((hR.of (hm35.1 202 (by decide))).at (by omega) (by omega)) dX7_layPress_83 (pc' := 84) rfl ?_
              refine g_isub hC dX7_layPress_84 (pc' := 85) rfl ?_
              refine g_goto hC dX7_layPress_85 (tgt := 89) (by decide) ?_
              refine g_istore_3 hC dX7_layPress_89 (pc' := 90) rfl (Nat.le_of_ble_eq_true rfl) rfl ?_
              refine g_iinc_4 hC dX7_layPress_90 (pc' := 93) rfl (Nat.le_of_ble_eq_true rfl) rfl (nI_inc _ _ kc_iinc_1) ?_
              refine g_goto hC dX7_layPress_93 (tgt := 35) (by decide) ?_
              exact g_weak (ih35 (by omega) (by omega) (((nI (prs g p t)) - (nI (g (4 + t))))) (by rw [prs_in hin]; rw [if_pos h71]; exact isPr_sub (by omega) (by omega)) _ (by exact lp_mem2 hm35 (by rw [arv_in (by omega)]))) (gle_s (gle_s (gle_i (by exact congrArg nI (cnB_t (by simp only [hit, arv_in (show g 2 ≤ t ∧ t < g 3 from ⟨ht2, h43⟩)]; exact decide_eq_true hpos))) (gle_i (by rfl) (gle_i (by first | rfl | omega) gle_nil)))))
      have hk5 : k = 5 := by omega
      subst hk5
      exact g_weak (L35 (g 2) (by omega) (Nat.le_refl _) (nI p) (by rw [prs_top g p (g 2) (Nat.le_refl _)]; exact isPr_n (by omega)) _ (by exact lp_mem0 hm7)) (gle_s (gle_s (gle_i (by rw [cnB_0 (fun k hk => by simp only [hit, arv_out (show ¬ (g 2 ≤ k ∧ k < g 3) by omega)]; decide)]) (gle_i (by rfl) (gle_i (by first | rfl | omega) gle_nil)))))
    · refine g_aload_0 hC dX7_layPress_13 (pc' := 14) rfl ?_
      refine g_getR hC fl_X7_29 (sh_M ad) rfl dX7_layPress_14 (pc' := 17) rfl ?_
      refine g_iload_4 hC dX7_layPress_17 (pc' := 19) rfl ?_
      refine g_iconst hC dX7_layPress_19 (pc' := 20) kc_iconst_0 rfl ?_
      refine g_iast hC (sh_mcomes ad) (Nat.le_of_ble_eq_true rfl) (by omega) dX7_layPress_20 (pc' := 21) rfl ?_
      refine g_iinc_4 hC dX7_layPress_21 (pc' := 24) rfl (Nat.le_of_ble_eq_true rfl) rfl (nI_inc _ _ kc_iinc_1) ?_
      refine g_goto hC dX7_layPress_24 (tgt := 7) (by decide) ?_
      exact g_weak (ih7 (by omega) _ (by exact lp_mem1 hm7)) (gle_s (gle_s (gle_s (gle_s (gle_i (by first | rfl | omega) gle_nil)))))
  exact g_weak (L7 0 (by exact Nat.zero_le _) _ (by exact ⟨fun _ _ => rfl, fun j hj => absurd hj (Nat.not_lt_zero j)⟩)) (gle_s (gle_s (gle_s (gle_s (gle_s gle_nil)))))

set_option maxHeartbeats 4000000 in
set_option maxRecDepth 100000 in
theorem c_usePress {l : Launch} {ad : Nat → Nat} {X : gX} {n : Nat} {g : Nat → Nat} (hn : 1 ≤ n ∧ g 2 + n ≤ 5) (hu : ∀ k, k < n - 1 → 1 ≤ g (9 + g 2 + k)) (hR : RM X g) (hI : Inv g) : K_X7_usePress l ad [.ref 201, .int (nI n)] X (fun X' => RM X' (uz g (n - 1)) ∧ ∀ i, i ≠ 202 → X' i = X i) := by
  refine Ct.of [.ref 201, .int (nI n), .null] 1 (by decide +kernel) rfl (Nat.le_of_ble_eq_true rfl) (fun F hl hC hRt _ => ?_)
  subst hl
  refine g_iconst hC dX7_usePress_0 (pc' := 1) kc_iconst_0 rfl ?_
  refine g_istore_2 hC dX7_usePress_1 (pc' := 2) rfl (Nat.le_of_ble_eq_true rfl) rfl ?_
  have L2 : ∀ k, k ≤ n - 1 → ∀ X1 : gX, (RM X1 (uz g k) ∧ ∀ i, i ≠ 202 → X1 i = X i) → G F (S0 ad) (0, 0) X1 2 [.ref 201, .int (nI n), .int (nI k)] [] := by
    refine up_ind _ (fun k hk2 ih2 => ?_)
    intro X1 hm2
    refine g_iload_2 hC dX7_usePress_2 (pc' := 3) rfl ?_
    refine g_iload_1 hC dX7_usePress_3 (pc' := 4) rfl ?_
    refine g_iconst hC dX7_usePress_4 (pc' := 5) kc_iconst_1 rfl ?_
    refine g_isubN hC dX7_usePress_5 (pc' := 6) rfl (by omega) ?_
    refine g_icmpN_ge hC dX7_usePress_6 (pc' := 9) (tgt := 35) (by decide) rfl (by omega) (by omega) (fun h6 => ?_) (fun h6 => ?_)
    · refine g_vretV hC hRt dX7_usePress_35 ?_
      rw [show k = n - 1 by omega] at hm2
      exact hm2
    · have h22 : X1 202 2 = nI (g 2) := (hm2.1.at (by decide) (by decide)).trans (by unfold uz; rw [if_neg (by omega)])
      have hv2 : X1 202 (9 + g 2 + k) = nI (g (9 + g 2 + k)) := (hm2.1.at (by omega) (by omega)).trans (by unfold uz; rw [if_neg (by omega)])
      have := hu k (by omega)
      refine g_aload_0 hC dX7_usePress_9 (pc' := 10) rfl ?_
      refine g_getR hC fl_X7_7 (sh_M ad) rfl dX7_usePress_10 (pc' := 13) rfl ?_
      refine g_bipush hC dX7_usePress_13 (pc' := 15) kc_bipush_9 rfl ?_
      refine g_aload_0 hC dX7_usePress_15 (pc' := 16) rfl ?_
      refine g_getR hC fl_X7_7 (sh_M ad) rfl dX7_usePress_16 (pc' := 19) rfl ?_
      refine g_iconst hC dX7_usePress_19 (pc' := 20) kc_iconst_2 rfl ?_
      refine g_iald hC (sh_mnow ad) (Nat.le_of_ble_eq_true rfl) (by omega) (h22) dX7_usePress_20 (pc' := 21) rfl ?_
      refine g_iaddN hC dX7_usePress_21 (pc' := 22) rfl ?_
      refine g_iload_2 hC dX7_usePress_22 (pc' := 23) rfl ?_
      refine g_iaddN hC dX7_usePress_23 (pc' := 24) rfl ?_
      refine g_dup2 hC dX7_usePress_24 (pc' := 25) rfl rfl rfl ?_
      refine g_iald hC (sh_mnow ad) (Nat.le_of_ble_eq_true rfl) (by omega) (hv2) dX7_usePress_25 (pc' := 26) rfl ?_
      refine g_iconst hC dX7_usePress_26 (pc' := 27) kc_iconst_1 rfl ?_
      refine g_isubN hC dX7_usePress_27 (pc' := 28) rfl (by omega) ?_
      refine g_iast hC (sh_mnow ad) (Nat.le_of_ble_eq_true rfl) (by omega) dX7_usePress_28 (pc' := 29) rfl ?_
      refine g_iinc_2 hC dX7_usePress_29 (pc' := 32) rfl (Nat.le_of_ble_eq_true rfl) rfl (nI_inc _ _ kc_iinc_1) ?_
      refine g_goto hC dX7_usePress_32 (tgt := 2) (by decide) ?_
      exact g_weak (ih2 (by omega) _ (by exact ⟨(hm2.1.upd (by omega)).congr (fun j hj => uz_step), fun i hi => (gu_ne i hi).trans (hm2.2 i hi)⟩)) (gle_s (gle_s (gle_i (by first | rfl | omega) gle_nil)))
  exact g_weak (L2 0 (by exact Nat.zero_le _) _ (by exact ⟨hR.congr (fun j _ => by unfold uz; rw [if_neg (by omega)]), fun _ _ => rfl⟩)) (gle_s (gle_s (gle_s gle_nil)))

set_option maxHeartbeats 4000000 in
set_option maxRecDepth 100000 in
theorem c_addMark {l : Launch} {ad : Nat → Nat} {X : gX} {s f v p : Nat} {g : Nat → Nat} (hs : s < 5) (hf : f < 10) (hc : cnt g s f < 8) (hR : RM X g) : K_X7_addMark l ad [.ref 201, .int (nI s), .int (nI f), .int (nI v), .int (nI p)] X (fun X' => RM X' (addm g s f v p) ∧ ∀ i, i ≠ 202 → X' i = X i) := by
  refine Ct.of [.ref 201, .int (nI s), .int (nI f), .int (nI v), .int (nI p)] 0 (by decide +kernel) rfl (Nat.le_of_ble_eq_true rfl) (fun F hl hC hRt _ => ?_)
  subst hl
  refine g_aload_0 hC dX7_addMark_0 (pc' := 1) rfl ?_
  refine g_getR hC fl_X7_7 (sh_M ad) rfl dX7_addMark_1 (pc' := 4) rfl ?_
  refine g_bipush hC dX7_addMark_4 (pc' := 6) kc_bipush_70 rfl ?_
  refine g_bipush hC dX7_addMark_6 (pc' := 8) kc_bipush_8 rfl ?_
  refine g_iload_1 hC dX7_addMark_8 (pc' := 9) rfl ?_
  refine g_iload_2 hC dX7_addMark_9 (pc' := 10) rfl ?_
  refine g_callS2R hC (c_spot) ml_X7_57 ⟨(Nat.le_of_ble_eq_true rfl), (Nat.le_of_ble_eq_true rfl)⟩ (Nat.le_of_ble_eq_true rfl) dX7_addMark_10 (pc' := 13) rfl ⟨Nat.zero_le _, Nat.zero_le _⟩ ?_
  refine g_imulN hC dX7_addMark_13 (pc' := 14) rfl ?_
  refine g_iaddN hC dX7_addMark_14 (pc' := 15) rfl ?_
  refine g_aload_0 hC dX7_addMark_15 (pc' := 16) rfl ?_
  refine g_iload_1 hC dX7_addMark_16 (pc' := 17) rfl ?_
  refine g_iload_2 hC dX7_addMark_17 (pc' := 18) rfl ?_
  refine g_callV2R hC (c_many hs hf hR) ml_X7_61 (sh_M ad) rfl ⟨(Nat.le_of_ble_eq_true rfl), (Nat.le_of_ble_eq_true rfl)⟩ (Nat.le_of_ble_eq_true rfl) dX7_addMark_18 (pc' := 21) rfl ⟨Nat.zero_le _, Nat.zero_le _⟩ ?_
  refine g_iaddN hC dX7_addMark_21 (pc' := 22) rfl ?_
  refine g_bipush hC dX7_addMark_22 (pc' := 24) kc_bipush_20 rfl ?_
  refine g_iload_3 hC dX7_addMark_24 (pc' := 25) rfl ?_
  refine g_imulN hC dX7_addMark_25 (pc' := 26) rfl ?_
  refine g_iconst hC dX7_addMark_26 (pc' := 27) kc_iconst_2 rfl ?_
  refine g_iload_4 hC dX7_addMark_27 (pc' := 29) rfl ?_
  refine g_imulN hC dX7_addMark_29 (pc' := 30) rfl ?_
  refine g_iaddN hC dX7_addMark_30 (pc' := 31) rfl ?_
  refine g_iast hC (sh_mnow ad) (Nat.le_of_ble_eq_true rfl) (by omega) dX7_addMark_31 (pc' := 32) rfl ?_
  have hv2 : (gu X 202 ((70 + (8 * (10 * s + f))) + (cnt g s f)) ((nI ((20 * v) + (2 * p))))) 202 (20 + (10 * s + f)) = nI (cnt g s f) := (gu_other (by omega)).trans (hR.cnt hs hf)
  refine g_aload_0 hC dX7_addMark_32 (pc' := 33) rfl ?_
  refine g_getR hC fl_X7_7 (sh_M ad) rfl dX7_addMark_33 (pc' := 36) rfl ?_
  refine g_bipush hC dX7_addMark_36 (pc' := 38) kc_bipush_20 rfl ?_
  refine g_iload_1 hC dX7_addMark_38 (pc' := 39) rfl ?_
  refine g_iload_2 hC dX7_addMark_39 (pc' := 40) rfl ?_
  refine g_callS2R hC (c_spot) ml_X7_57 ⟨(Nat.le_of_ble_eq_true rfl), (Nat.le_of_ble_eq_true rfl)⟩ (Nat.le_of_ble_eq_true rfl) dX7_addMark_40 (pc' := 43) rfl ⟨Nat.zero_le _, Nat.zero_le _⟩ ?_
  refine g_iaddN hC dX7_addMark_43 (pc' := 44) rfl ?_
  refine g_dup2 hC dX7_addMark_44 (pc' := 45) rfl rfl rfl ?_
  refine g_iald hC (sh_mnow ad) (Nat.le_of_ble_eq_true rfl) (by omega) (hv2) dX7_addMark_45 (pc' := 46) rfl ?_
  refine g_iconst hC dX7_addMark_46 (pc' := 47) kc_iconst_1 rfl ?_
  refine g_iaddN hC dX7_addMark_47 (pc' := 48) rfl ?_
  refine g_iast hC (sh_mnow ad) (Nat.le_of_ble_eq_true rfl) (by omega) dX7_addMark_48 (pc' := 49) rfl ?_
  refine g_vretV hC hRt dX7_addMark_49 ?_
  exact ⟨((hR.upd (by omega)).upd (by omega)), fun i hi => (gu_ne i hi).trans (gu_ne i hi)⟩

set_option maxHeartbeats 4000000 in
set_option maxRecDepth 100000 in
theorem c_strikeAt {l : Launch} {ad : Nat → Nat} {X : gX} {s f q : Nat} {g : Nat → Nat} (hs : s < 5) (hf : f < 10) (hq : q ≤ 9) (hR : RM X g) (hI : Inv g) : K_X7_strikeAt l ad [.ref 201, .int (nI s), .int (nI f), .int (nI q)] X (fun v X' => v = nI (cnB (stt g s f q) (cnt g s f)) ∧ RM X' (stk g s f q) ∧ ∀ i, i ≠ 202 → X' i = X i) := by
  refine Ct.of [.ref 201, .int (nI s), .int (nI f), .int (nI q), .null, .null, .null] 3 (by decide +kernel) rfl (Nat.le_of_ble_eq_true rfl) (fun F hl hC hRt _ => ?_)
  subst hl
  have bc := hI.c hs hf
  refine g_iconst hC dX7_strikeAt_0 (pc' := 1) kc_iconst_0 rfl ?_
  refine g_istore_4 hC dX7_strikeAt_1 (pc' := 3) rfl (Nat.le_of_ble_eq_true rfl) rfl ?_
  refine g_iconst hC dX7_strikeAt_3 (pc' := 4) kc_iconst_0 rfl ?_
  refine g_istore_5 hC dX7_strikeAt_4 (pc' := 6) rfl (Nat.le_of_ble_eq_true rfl) rfl ?_
  have L6 : ∀ k, k ≤ cnt g s f → ∀ X1 : gX, (RM X1 (stz g (70 + 8 * (10 * s + f)) q k) ∧ ∀ i, i ≠ 202 → X1 i = X i) → G F (S0 ad) (0, 0) X1 6 [.ref 201, .int (nI s), .int (nI f), .int (nI q), .int (nI (cnB (stt g s f q) k)), .int (nI k), .null] [] := by
    refine up_ind _ (fun k hk6 ih6 => ?_)
    intro X1 hm6
    have hc1 : X1 202 (20 + (10 * s + f)) = nI (cnt g s f) := (hm6.1.at (by omega) (by omega)).trans (congrArg nI (stz_ge (by omega)))
    refine g_iload_5 hC dX7_strikeAt_6 (pc' := 8) rfl ?_
    refine g_aload_0 hC dX7_strikeAt_8 (pc' := 9) rfl ?_
    refine g_iload_1 hC dX7_strikeAt_9 (pc' := 10) rfl ?_
    refine g_iload_2 hC dX7_strikeAt_10 (pc' := 11) rfl ?_
    refine g_callV2R hC (c_manyV hs hf hc1) ml_X7_61 (sh_M ad) rfl ⟨(Nat.le_of_ble_eq_true rfl), (Nat.le_of_ble_eq_true rfl)⟩ (Nat.le_of_ble_eq_true rfl) dX7_strikeAt_11 (pc' := 14) rfl ⟨Nat.zero_le _, Nat.zero_le _⟩ ?_
    refine g_icmpN_ge hC dX7_strikeAt_14 (pc' := 17) (tgt := 76) (by decide) rfl (by omega) (by omega) (fun h14 => ?_) (fun h14 => ?_)
    · refine g_iload_4 hC dX7_strikeAt_76 (pc' := 78) rfl ?_
      refine g_iretI hC hRt rfl dX7_strikeAt_78 ?_
      rw [show k = cnt g s f by omega] at hm6 ⊢
      exact ⟨rfl, hm6⟩
    · have hk1 : X1 202 (70 + 8 * (10 * s + f) + k) = nI (mk g s f k) := (hm6.1.at (by omega) (by omega)).trans (congrArg nI (stz_ge (by omega)))
      have bm : mk g s f k < 20000 := hI.m hs hf (by omega)
      refine g_aload_0 hC dX7_strikeAt_17 (pc' := 18) rfl ?_
      refine g_iload_1 hC dX7_strikeAt_18 (pc' := 19) rfl ?_
      refine g_iload_2 hC dX7_strikeAt_19 (pc' := 20) rfl ?_
      refine g_iload_5 hC dX7_strikeAt_20 (pc' := 22) rfl ?_
      refine g_callV3R hC (c_markAtV hs hf (show k < 8 by omega) hk1) ml_X7_64 (sh_M ad) rfl ⟨(Nat.le_of_ble_eq_true rfl), (Nat.le_of_ble_eq_true rfl)⟩ (Nat.le_of_ble_eq_true rfl) dX7_strikeAt_22 (pc' := 25) rfl ⟨Nat.zero_le _, Nat.zero_le _⟩ ?_
      refine g_istore_6 hC dX7_strikeAt_25 (pc' := 27) rfl (Nat.le_of_ble_eq_true rfl) rfl ?_
      refine g_iload_6 hC dX7_strikeAt_27 (pc' := 29) rfl ?_
      refine g_callS1R hC (c_isStruck bm) ml_X7_68 ⟨(Nat.le_of_ble_eq_true rfl), (Nat.le_of_ble_eq_true rfl)⟩ (Nat.le_of_ble_eq_true rfl) dX7_strikeAt_29 (pc' := 32) rfl ⟨Nat.zero_le _, Nat.zero_le _⟩ ?_
      refine g_ifZ_ne hC dX7_strikeAt_32 (pc' := 35) (tgt := 70) (by decide) rfl (fun h32 => ?_) (fun h32 => ?_)
      · simp only [decide_eq_true_eq] at h32
        refine g_iinc_5 hC dX7_strikeAt_70 (pc' := 73) rfl (Nat.le_of_ble_eq_true rfl) rfl (nI_inc _ _ kc_iinc_1) ?_
        refine g_goto hC dX7_strikeAt_73 (tgt := 6) (by decide) ?_
        exact g_weak (ih6 (by omega) _ (by first | exact ⟨(hm6.1.upd (by omega)).congr (fun j hj => stz_step1 hj h32b (by omega)), fun i hi => (gu_ne i hi).trans (hm6.2 i hi)⟩ | exact ⟨hm6.1.congr (fun j hj => stz_step0 (by show ¬ (mk g s f k % 2 = 0 ∧ mk g s f k / 2 % 10 ≤ q); omega)), hm6.2⟩)) (gle_s (gle_s (gle_s (gle_s (gle_i (by simp [cnB, stt, *]) (gle_i (by first | rfl | omega) (gle_u gle_nil)))))))
      · simp only [decide_eq_false_iff_not] at h32
        have h32b : mk g s f k % 2 = 0 := by omega
        refine g_iload_6 hC dX7_strikeAt_35 (pc' := 37) rfl ?_
        refine g_callS1R hC (c_strengthOf bm) ml_X7_71 ⟨(Nat.le_of_ble_eq_true rfl), (Nat.le_of_ble_eq_true rfl)⟩ (Nat.le_of_ble_eq_true rfl) dX7_strikeAt_37 (pc' := 40) rfl ⟨Nat.zero_le _, Nat.zero_le _⟩ ?_
        refine g_iload_3 hC dX7_strikeAt_40 (pc' := 41) rfl ?_
        refine g_icmpN_gt hC dX7_strikeAt_41 (pc' := 44) (tgt := 70) (by decide) rfl (by omega) (by omega) (fun h41 => ?_) (fun h41 => ?_)
        · have h41b : ¬ mk g s f k / 2 % 10 ≤ q := by omega
          refine g_iinc_5 hC dX7_strikeAt_70 (pc' := 73) rfl (Nat.le_of_ble_eq_true rfl) rfl (nI_inc _ _ kc_iinc_1) ?_
          refine g_goto hC dX7_strikeAt_73 (tgt := 6) (by decide) ?_
          exact g_weak (ih6 (by omega) _ (by first | exact ⟨(hm6.1.upd (by omega)).congr (fun j hj => stz_step1 hj h32b (by omega)), fun i hi => (gu_ne i hi).trans (hm6.2 i hi)⟩ | exact ⟨hm6.1.congr (fun j hj => stz_step0 (by show ¬ (mk g s f k % 2 = 0 ∧ mk g s f k / 2 % 10 ≤ q); omega)), hm6.2⟩)) (gle_s (gle_s (gle_s (gle_s (gle_i (by simp [cnB, stt, *]) (gle_i (by first | rfl | omega) (gle_u gle_nil)))))))
        · refine g_aload_0 hC dX7_strikeAt_44 (pc' := 45) rfl ?_
          refine g_getR hC fl_X7_7 (sh_M ad) rfl dX7_strikeAt_45 (pc' := 48) rfl ?_
          refine g_bipush hC dX7_strikeAt_48 (pc' := 50) kc_bipush_70 rfl ?_
          refine g_bipush hC dX7_strikeAt_50 (pc' := 52) kc_bipush_8 rfl ?_
          refine g_iload_1 hC dX7_strikeAt_52 (pc' := 53) rfl ?_
          refine g_iload_2 hC dX7_strikeAt_53 (pc' := 54) rfl ?_
          refine g_callS2R hC (c_spot) ml_X7_57 ⟨(Nat.le_of_ble_eq_true rfl), (Nat.le_of_ble_eq_true rfl)⟩ (Nat.le_of_ble_eq_true rfl) dX7_strikeAt_54 (pc' := 57) rfl ⟨Nat.zero_le _, Nat.zero_le _⟩ ?_
          refine g_imulN hC dX7_strikeAt_57 (pc' := 58) rfl ?_
          refine g_iaddN hC dX7_strikeAt_58 (pc' := 59) rfl ?_
          refine g_iload_5 hC dX7_strikeAt_59 (pc' := 61) rfl ?_
          refine g_iaddN hC dX7_strikeAt_61 (pc' := 62) rfl ?_
          refine g_dup2 hC dX7_strikeAt_62 (pc' := 63) rfl rfl rfl ?_
          refine g_iald hC (sh_mnow ad) (Nat.le_of_ble_eq_true rfl) (by omega) (hk1) dX7_strikeAt_63 (pc' := 64) rfl ?_
          refine g_iconst hC dX7_strikeAt_64 (pc' := 65) kc_iconst_1 rfl ?_
          refine g_iaddN hC dX7_strikeAt_65 (pc' := 66) rfl ?_
          refine g_iast hC (sh_mnow ad) (Nat.le_of_ble_eq_true rfl) (by omega) dX7_strikeAt_66 (pc' := 67) rfl ?_
          refine g_iinc_4 hC dX7_strikeAt_67 (pc' := 70) rfl (Nat.le_of_ble_eq_true rfl) rfl (nI_inc _ _ kc_iinc_1) ?_
          refine g_iinc_5 hC dX7_strikeAt_70 (pc' := 73) rfl (Nat.le_of_ble_eq_true rfl) rfl (nI_inc _ _ kc_iinc_1) ?_
          refine g_goto hC dX7_strikeAt_73 (tgt := 6) (by decide) ?_
          exact g_weak (ih6 (by omega) _ (by first | exact ⟨(hm6.1.upd (by omega)).congr (fun j hj => stz_step1 hj h32b (by omega)), fun i hi => (gu_ne i hi).trans (hm6.2 i hi)⟩ | exact ⟨hm6.1.congr (fun j hj => stz_step0 (by show ¬ (mk g s f k % 2 = 0 ∧ mk g s f k / 2 % 10 ≤ q); omega)), hm6.2⟩)) (gle_s (gle_s (gle_s (gle_s (gle_i (by simp [cnB, stt, *]) (gle_i (by first | rfl | omega) (gle_u gle_nil)))))))
  exact g_weak (L6 0 (by exact Nat.zero_le _) _ (by exact ⟨hR.congr (fun j _ => (by unfold stz; rw [if_neg (by omega)])), fun _ _ => rfl⟩)) (gle_s (gle_s (gle_s (gle_s (gle_i (by rfl) (gle_s (gle_u gle_nil)))))))
end
section
def recN (b : Bool) (n : Nat) : Nat := if b = true then n else if n = 6 then 6 else n + 1
def recH (b : Bool) (h : Nat → Nat → Nat) (n : Nat) (g : Nat → Nat) : Nat → Nat → Nat := fun i => if b = true then h i else if n = 6 then (if i = 5 then g else h (i + 1)) else (if i = n then g else h i)
def HM (X : gX) (n : Nat) (h : Nat → Nat → Nat) : Prop := ∀ i j, i < n → j < 470 → X 204 (470 * i + j) = ar (h i) j
/-- the model's now, history and mode -/
def MR (X : gX) (g : Nat → Nat) (n : Nat) (h : Nat → Nat → Nat) (b : Bool) : Prop := RM X g ∧ X 201 3 = nI n ∧ n ≤ 6 ∧ HM X n h ∧ X 201 8 = zI b
/-- what a change may touch -/
def fW (X X' : gX) : Prop := (∀ i, i ≠ 201 → i ≠ 202 → i ≠ 204 → i ≠ 208 → X' i = X i) ∧ ∀ j, j ≠ 3 → X' 201 j = X 201 j
theorem fW.rf {X : gX} : fW X X := ⟨fun _ _ _ _ _ => rfl, fun _ _ => rfl⟩
theorem fW.tr {X Y W : gX} (h : fW X Y) (h2 : fW Y W) : fW X W := ⟨fun i a b c d => (h2.1 i a b c d).trans (h.1 i a b c d), fun j hj => (h2.2 j hj).trans (h.2 j hj)⟩
theorem fW.n {X Y : gX} (h : ∀ i, i ≠ 202 → Y i = X i) : fW X Y := ⟨fun i _ h2 _ _ => h i h2, fun j _ => by rw [h 201 (by decide)]⟩
theorem fW.c {X Y : gX} (h : ∀ i, i ≠ 208 → Y i = X i) : fW X Y := ⟨fun i _ _ _ h2 => h i h2, fun j _ => by rw [h 201 (by decide)]⟩
theorem MR.c {X Y : gX} {g : Nat → Nat} {n : Nat} {h : Nat → Nat → Nat} {b : Bool} (m : MR X g n h b) (e : ∀ i, i ≠ 208 → Y i = X i) : MR Y g n h b :=
  ⟨m.1.of (e 202 (by decide)), by rw [e 201 (by decide)]; exact m.2.1, m.2.2.1, fun i j hi hj => by rw [e 204 (by decide)]; exact m.2.2.2.1 i j hi hj, by rw [e 201 (by decide)]; exact m.2.2.2.2⟩
theorem MR.n {X Y : gX} {g g' : Nat → Nat} {n : Nat} {h : Nat → Nat → Nat} {b : Bool} (m : MR X g n h b) (r : RM Y g') (e : ∀ i, i ≠ 202 → Y i = X i) : MR Y g' n h b :=
  ⟨r, by rw [e 201 (by decide)]; exact m.2.1, m.2.2.1, fun i j hi hj => by rw [e 204 (by decide)]; exact m.2.2.2.1 i j hi hj, by rw [e 201 (by decide)]; exact m.2.2.2.2⟩
theorem MR.congr {X : gX} {g g' : Nat → Nat} {n : Nat} {h : Nat → Nat → Nat} {b : Bool} (m : MR X g n h b) (e : ∀ j, j < 470 → g j = g' j) : MR X g' n h b := ⟨m.1.congr e, m.2⟩
theorem gu_id {X : gX} {a j k : Nat} {x : Int32} (h : k ≠ j) : gu X a j x a k = X a k := gu_other (fun z => h z.2)
theorem rec_sh1 {X X1 : gX} {k : Nat} (h : (∀ i, i ≠ 204 → X1 i = X i) ∧ ∀ j, X1 204 j = if j < k then X 204 (j + 470) else X 204 j) : (∀ i, i ≠ 204 → gu X1 204 k (X 204 (k + 470)) i = X i) ∧ ∀ j, gu X1 204 k (X 204 (k + 470)) 204 j = if j < k + 1 then X 204 (j + 470) else X 204 j := by
  refine ⟨fun i hi => (gu_ne i hi).trans (h.1 i hi), fun j => ?_⟩
  by_cases hz : j = k
  · subst hz
    rw [gu_at, if_pos (Nat.lt_succ_self _)]
  · rw [gu_id hz, h.2 j]
    by_cases hy : j < k
    · rw [if_pos hy, if_pos (by omega)]
    · rw [if_neg hy, if_neg (by omega)]
theorem rec_cp1 {Y X1 : gX} {q k : Nat} {g : Nat → Nat} (h : (∀ i, i ≠ 204 → X1 i = Y i) ∧ ∀ j, X1 204 j = if q ≤ j ∧ j < q + k then ar g (j - q) else Y 204 j) : (∀ i, i ≠ 204 → gu X1 204 (q + k) (ar g k) i = Y i) ∧ ∀ j, gu X1 204 (q + k) (ar g k) 204 j = if q ≤ j ∧ j < q + (k + 1) then ar g (j - q) else Y 204 j := by
  refine ⟨fun i hi => (gu_ne i hi).trans (h.1 i hi), fun j => ?_⟩
  by_cases hz : j = q + k
  · subst hz
    rw [gu_at, if_pos (by omega), show q + k - q = k by omega]
  · rw [gu_id hz, h.2 j]
    by_cases hy : q ≤ j ∧ j < q + k
    · rw [if_pos hy, if_pos (by omega)]
    · rw [if_neg hy, if_neg (by omega)]
/-- the recording of a state: the last copy, and the count -/
theorem rec_end {X Y W : gX} {g : Nat → Nat} {n m : Nat} {h : Nat → Nat → Nat} (hm : MR X g n h false) (hmn : m = if n = 6 then 5 else n)
    (hY : (∀ i, i ≠ 201 → i ≠ 204 → Y i = X i) ∧ (∀ j, j ≠ 3 → Y 201 j = X 201 j) ∧ ∀ j, Y 204 j = if n = 6 ∧ j < 2350 then X 204 (j + 470) else X 204 j)
    (hW : (∀ i, i ≠ 204 → W i = Y i) ∧ ∀ j, W 204 j = if m * 470 ≤ j ∧ j < m * 470 + 470 then ar g (j - m * 470) else Y 204 j) :
    MR (gu W 201 3 (nI (m + 1))) g (recN false n) (recH false h n g) false ∧ fW X (gu W 201 3 (nI (m + 1))) := by
  have hn := hm.2.2.1
  have e1 : recN false n = m + 1 := by rw [hmn]; unfold recN; simp only [Bool.false_eq_true, if_false]; split <;> omega
  refine ⟨⟨?_, ?_, ?_, ?_, ?_⟩, ?_, ?_⟩
  · exact hm.1.of (((gu_ne 202 (by decide)).trans (hW.1 202 (by decide))).trans (hY.1 202 (by decide) (by decide)))
  · rw [e1]; exact gu_at
  · rw [e1, hmn]; split <;> omega
  · intro i j hi hj
    rw [e1] at hi
    rw [gu_ne 204 (by decide), hW.2]
    by_cases him : i = m
    · subst him
      rw [if_pos (by omega), show 470 * i + j - i * 470 = j by omega]
      unfold recH
      simp only [Bool.false_eq_true, if_false]
      by_cases h6 : n = 6
      · rw [if_pos h6, if_pos (by rw [hmn, if_pos h6])]
      · rw [if_neg h6, if_pos (by rw [hmn, if_neg h6])]
    · rw [if_neg (by omega), hY.2.2]
      unfold recH
      simp only [Bool.false_eq_true, if_false]
      by_cases h6 : n = 6
      · rw [if_pos h6] at hmn
        rw [if_pos ⟨h6, by omega⟩, if_pos h6, if_neg (by omega), show 470 * i + j + 470 = 470 * (i + 1) + j by omega]
        exact hm.2.2.2.1 (i + 1) j (by omega) hj
      · rw [if_neg h6] at hmn
        rw [if_neg (by omega), if_neg h6, if_neg (by omega)]
        exact hm.2.2.2.1 i j (by omega) hj
  · rw [gu_id (by decide), hW.1 201 (by decide), hY.2.1 8 (by decide)]
    exact hm.2.2.2.2
  · intro i h1 h2 h3 h4
    exact ((gu_ne i h1).trans (hW.1 i h3)).trans (hY.1 i h1 h3)
  · intro j hj
    rw [gu_id hj, hW.1 201 (by decide)]
    exact hY.2.1 j hj
theorem MR.rec1 {X : gX} {g : Nat → Nat} {n : Nat} {h : Nat → Nat → Nat} (m : MR X g n h true) : MR X g (recN true n) (recH true h n g) true := m

set_option maxHeartbeats 4000000 in
set_option maxRecDepth 100000 in
theorem c_record {l : Launch} {ad : Nat → Nat} {X : gX} {n : Nat} {h : Nat → Nat → Nat} {b : Bool} {g : Nat → Nat} (hm : MR X g n h b) (hI : Inv g) : K_X7_record l ad [.ref 201] X (fun X' => MR X' g (recN b n) (recH b h n g) b ∧ fW X X') := by
  refine Ct.of [.ref 201, .null] 1 (by decide +kernel) rfl (Nat.le_of_ble_eq_true rfl) (fun F hl hC hRt _ => ?_)
  subst hl
  have hn6 : n ≤ 6 := hm.2.2.1
  have b23 : g 2 ≤ g 3 ∧ g 3 ≤ 5 := hI.1.2.2
  refine g_aload_0 hC dX7_record_0 (pc' := 1) rfl ?_
  refine g_getI hC fl_X7_35 (sh_M ad) rfl (hm.2.2.2.2) dX7_record_1 (pc' := 4) rfl ?_
  refine g_ifZ_eq hC dX7_record_4 (pc' := 7) (tgt := 8) (by decide) rfl (fun h4 => ?_) (fun h4 => ?_)
  · subst h4
    refine g_aload_0 hC dX7_record_8 (pc' := 9) rfl ?_
    refine g_getI hC fl_X7_39 (sh_M ad) rfl (hm.2.1) dX7_record_9 (pc' := 12) rfl ?_
    refine g_bipush hC dX7_record_12 (pc' := 14) kc_bipush_6 rfl ?_
    have J53 : ∀ (m : Nat) (Y : gX), m = (if n = 6 then 5 else n) → ((∀ i, i ≠ 201 → i ≠ 204 → Y i = X i) ∧ (∀ j, j ≠ 3 → Y 201 j = X 201 j) ∧ ∀ j, Y 204 j = if n = 6 ∧ j < 2350 then X 204 (j + 470) else X 204 j) → Y 201 3 = nI m → G F (S0 ad) (0, 0) Y 53 [.ref 201, .null] [] := by
      intro m Y hmn hY hY3; have hm5 : m ≤ 5 := by rw [hmn]; split <;> omega
      refine g_iconst hC dX7_record_53 (pc' := 54) kc_iconst_0 rfl ?_
      refine g_istore_1 hC dX7_record_54 (pc' := 55) rfl (Nat.le_of_ble_eq_true rfl) rfl ?_
      have L55 : ∀ k, k ≤ 470 → ∀ X2 : gX, ((∀ i, i ≠ 204 → X2 i = Y i) ∧ ∀ j, X2 204 j = if m * 470 ≤ j ∧ j < m * 470 + k then ar g (j - m * 470) else Y 204 j) → G F (S0 ad) (0, 0) X2 55 [.ref 201, .int (nI k)] [] := by
        refine up_ind _ (fun k hk55 ih55 => ?_)
        intro X2 hm55
        have hY3 : X2 201 3 = nI m := by rw [hm55.1 201 (by decide)]; exact hY3
        have hW3 := hY3
        refine g_iload_1 hC dX7_record_55 (pc' := 56) rfl ?_
        refine g_sipush hC dX7_record_56 (pc' := 59) kc_sipush_470 rfl ?_
        refine g_icmpN_ge hC dX7_record_59 (pc' := 62) (tgt := 89) (by decide) rfl (by omega) (by omega) (fun h59 => ?_) (fun h59 => ?_)
        · refine g_aload_0 hC dX7_record_89 (pc' := 90) rfl ?_
          refine g_dup hC dX7_record_90 (pc' := 91) rfl rfl ?_
          refine g_getI hC fl_X7_39 (sh_M ad) rfl (hW3) dX7_record_91 (pc' := 94) rfl ?_
          refine g_iconst hC dX7_record_94 (pc' := 95) kc_iconst_1 rfl ?_
          refine g_iaddN hC dX7_record_95 (pc' := 96) rfl ?_
          refine g_putI hC fl_X7_39 (sh_M ad) rfl rfl rfl dX7_record_96 (pc' := 99) rfl ?_
          refine g_vretV hC hRt dX7_record_99 ?_
          exact rec_end hm hmn hY (by rw [show k = 470 by omega] at hm55; exact hm55)
        · have he81 : X2 202 k = ar g k := by rw [hm55.1 202 (by decide), hY.1 202 (by decide) (by decide)]; exact hm.1 k (by omega)
          refine g_aload_0 hC dX7_record_62 (pc' := 63) rfl ?_
          refine g_getR hC fl_X7_16 (sh_M ad) rfl dX7_record_63 (pc' := 66) rfl ?_
          refine g_aload_0 hC dX7_record_66 (pc' := 67) rfl ?_
          refine g_getI hC fl_X7_39 (sh_M ad) rfl (hY3) dX7_record_67 (pc' := 70) rfl ?_
          refine g_sipush hC dX7_record_70 (pc' := 73) kc_sipush_470 rfl ?_
          refine g_imulN hC dX7_record_73 (pc' := 74) rfl ?_
          refine g_iload_1 hC dX7_record_74 (pc' := 75) rfl ?_
          refine g_iaddN hC dX7_record_75 (pc' := 76) rfl ?_
          refine g_aload_0 hC dX7_record_76 (pc' := 77) rfl ?_
          refine g_getR hC fl_X7_7 (sh_M ad) rfl dX7_record_77 (pc' := 80) rfl ?_
          refine g_iload_1 hC dX7_record_80 (pc' := 81) rfl ?_
          refine g_iald hC (sh_mnow ad) (Nat.le_of_ble_eq_true rfl) (by omega) (he81) dX7_record_81 (pc' := 82) rfl ?_
          refine g_iast hC (sh_mhistory ad) (Nat.le_of_ble_eq_true rfl) (by omega) dX7_record_82 (pc' := 83) rfl ?_
          refine g_iinc_1 hC dX7_record_83 (pc' := 86) rfl (Nat.le_of_ble_eq_true rfl) rfl (nI_inc _ _ kc_iinc_1) ?_
          refine g_goto hC dX7_record_86 (tgt := 55) (by decide) ?_
          exact g_weak (ih55 (by omega) _ (by exact rec_cp1 hm55)) (gle_s (gle_i (by first | rfl | omega) gle_nil))
      exact g_weak (L55 0 (by exact Nat.zero_le _) _ (by exact ⟨fun _ _ => rfl, fun j => by rw [if_neg (by omega)]⟩)) (gle_s (gle_s gle_nil))
    refine g_icmpN_ne hC dX7_record_14 (pc' := 17) (tgt := 53) (by decide) rfl (by omega) (by omega) (fun h14 => ?_) (fun h14 => ?_)
    · exact g_weak (J53 n X (by rw [if_neg h14]) ⟨fun _ _ _ => rfl, fun _ _ => rfl, fun j => by rw [if_neg (fun w => h14 w.1)]⟩ hm.2.1) (gle_s (gle_u gle_nil))
    · refine g_iconst hC dX7_record_17 (pc' := 18) kc_iconst_0 rfl ?_
      refine g_istore_1 hC dX7_record_18 (pc' := 19) rfl (Nat.le_of_ble_eq_true rfl) rfl ?_
      have L19 : ∀ k, k ≤ 2350 → ∀ X1 : gX, ((∀ i, i ≠ 204 → X1 i = X i) ∧ ∀ j, X1 204 j = if j < k then X 204 (j + 470) else X 204 j) → G F (S0 ad) (0, 0) X1 19 [.ref 201, .int (nI k)] [] := by
        refine up_ind _ (fun k hk19 ih19 => ?_)
        intro X1 hm19
        have he40 : X1 204 (k + 470) = X 204 (k + 470) := by rw [hm19.2, if_neg (by omega)]
        refine g_iload_1 hC dX7_record_19 (pc' := 20) rfl ?_
        refine g_sipush hC dX7_record_20 (pc' := 23) kc_sipush_2350 rfl ?_
        refine g_icmpN_ge hC dX7_record_23 (pc' := 26) (tgt := 48) (by decide) rfl (by omega) (by omega) (fun h23 => ?_) (fun h23 => ?_)
        · refine g_aload_0 hC dX7_record_48 (pc' := 49) rfl ?_
          refine g_iconst hC dX7_record_49 (pc' := 50) kc_iconst_5 rfl ?_
          refine g_putI hC fl_X7_39 (sh_M ad) rfl rfl rfl dX7_record_50 (pc' := 53) rfl ?_
          exact g_weak (J53 5 _ (by rw [if_pos h14]) ⟨fun i h1 h2 => (gu_ne i h1).trans (hm19.1 i h2), fun j hj => (gu_id hj).trans (by rw [hm19.1 201 (by decide)]), fun j => by rw [gu_ne 204 (by decide), hm19.2 j, show k = 2350 by omega]; simp [h14]⟩ gu_at) (gle_s (gle_u gle_nil))
        · refine g_aload_0 hC dX7_record_26 (pc' := 27) rfl ?_
          refine g_getR hC fl_X7_16 (sh_M ad) rfl dX7_record_27 (pc' := 30) rfl ?_
          refine g_iload_1 hC dX7_record_30 (pc' := 31) rfl ?_
          refine g_aload_0 hC dX7_record_31 (pc' := 32) rfl ?_
          refine g_getR hC fl_X7_16 (sh_M ad) rfl dX7_record_32 (pc' := 35) rfl ?_
          refine g_iload_1 hC dX7_record_35 (pc' := 36) rfl ?_
          refine g_sipush hC dX7_record_36 (pc' := 39) kc_sipush_470 rfl ?_
          refine g_iaddN hC dX7_record_39 (pc' := 40) rfl ?_
          refine g_iald hC (sh_mhistory ad) (Nat.le_of_ble_eq_true rfl) (by omega) (he40) dX7_record_40 (pc' := 41) rfl ?_
          refine g_iast hC (sh_mhistory ad) (Nat.le_of_ble_eq_true rfl) (by omega) dX7_record_41 (pc' := 42) rfl ?_
          refine g_iinc_1 hC dX7_record_42 (pc' := 45) rfl (Nat.le_of_ble_eq_true rfl) rfl (nI_inc _ _ kc_iinc_1) ?_
          refine g_goto hC dX7_record_45 (tgt := 19) (by decide) ?_
          exact g_weak (ih19 (by omega) _ (by exact rec_sh1 hm19)) (gle_s (gle_i (by first | rfl | omega) gle_nil))
      exact g_weak (L19 0 (by exact Nat.zero_le _) _ (by exact ⟨fun _ _ => rfl, fun j => by rw [if_neg (Nat.not_lt_zero j)]⟩)) (gle_s (gle_s gle_nil))
  · subst h4
    refine g_vretV hC hRt dX7_record_7 ?_
    exact ⟨hm.rec1, fW.rf⟩
end
