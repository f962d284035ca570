-- ===== PART A: goes FIRST, ahead of the names: the tables' words, and 'selects' of the private methods out of them =====
/-- a private method of a class that the tables say can be made, by its rows of tables_1 -/
def lw_okq (q : MethodName × Nat) : Prop := (q.1.cls ≠ "java/lang/invoke/MethodHandle" ∧ q.1.cls ≠ "java/lang/invoke/VarHandle") ∧ Cond.instantiable q.1.cls q.2 ∈ tables_1 ∧ Cond.privateMethod q.1 ∈ tables_1 ∧ Cond.instanceMethod q.1 ∈ tables_1
theorem lw_p0 : lw_okq (⟨"CarbonSheets$History", "dropOldest", "()V"⟩, 2) := ⟨⟨by decide +kernel, by decide +kernel⟩, List.mem_of_getElem? (i := 114) (by decide +kernel), List.mem_of_getElem? (i := 213) (by decide +kernel), List.mem_of_getElem? (i := 214) (by decide +kernel)⟩
theorem lw_p1 : lw_okq (⟨"CarbonSheets$Tally", "addVotes", "(II)V"⟩, 8) := ⟨⟨by decide +kernel, by decide +kernel⟩, List.mem_of_getElem? (i := 78) (by decide +kernel), List.mem_of_getElem? (i := 416) (by decide +kernel), List.mem_of_getElem? (i := 417) (by decide +kernel)⟩
theorem lw_p2 : lw_okq (⟨"CarbonSheets$Tally", "findLeaders", "()V"⟩, 8) := ⟨⟨by decide +kernel, by decide +kernel⟩, List.mem_of_getElem? (i := 78) (by decide +kernel), List.mem_of_getElem? (i := 420) (by decide +kernel), List.mem_of_getElem? (i := 421) (by decide +kernel)⟩
theorem lw_p3 : lw_okq (⟨"CarbonSheets", "fieldsWithLeaders", "(II)I"⟩, 8) := ⟨⟨by decide +kernel, by decide +kernel⟩, List.mem_of_getElem? (i := 12) (by decide +kernel), List.mem_of_getElem? (i := 442) (by decide +kernel), List.mem_of_getElem? (i := 443) (by decide +kernel)⟩
theorem lw_p4 : lw_okq (⟨"CarbonSheets$OrderReader", "takesKind", "(C)Z"⟩, 5) := ⟨⟨by decide +kernel, by decide +kernel⟩, List.mem_of_getElem? (i := 148) (by decide +kernel), List.mem_of_getElem? (i := 520) (by decide +kernel), List.mem_of_getElem? (i := 521) (by decide +kernel)⟩
theorem lw_p5 : lw_okq (⟨"CarbonSheets$OrderReader", "goesOn", "(ZI)Z"⟩, 5) := ⟨⟨by decide +kernel, by decide +kernel⟩, List.mem_of_getElem? (i := 148) (by decide +kernel), List.mem_of_getElem? (i := 524) (by decide +kernel), List.mem_of_getElem? (i := 525) (by decide +kernel)⟩
theorem lw_p6 : lw_okq (⟨"CarbonSheets$OrderReader", "takesField", "(C)Z"⟩, 5) := ⟨⟨by decide +kernel, by decide +kernel⟩, List.mem_of_getElem? (i := 148) (by decide +kernel), List.mem_of_getElem? (i := 528) (by decide +kernel), List.mem_of_getElem? (i := 529) (by decide +kernel)⟩
theorem lw_p7 : lw_okq (⟨"CarbonSheets$OrderReader", "takesFirstDigit", "(C)Z"⟩, 5) := ⟨⟨by decide +kernel, by decide +kernel⟩, List.mem_of_getElem? (i := 148) (by decide +kernel), List.mem_of_getElem? (i := 535) (by decide +kernel), List.mem_of_getElem? (i := 536) (by decide +kernel)⟩
theorem lw_p8 : lw_okq (⟨"CarbonSheets$OrderReader", "takesOneMoreDigit", "(C)Z"⟩, 5) := ⟨⟨by decide +kernel, by decide +kernel⟩, List.mem_of_getElem? (i := 148) (by decide +kernel), List.mem_of_getElem? (i := 539) (by decide +kernel), List.mem_of_getElem? (i := 540) (by decide +kernel)⟩
theorem lw_p9 : lw_okq (⟨"CarbonSheets$OrderReader", "takesPressure", "(C)Z"⟩, 5) := ⟨⟨by decide +kernel, by decide +kernel⟩, List.mem_of_getElem? (i := 148) (by decide +kernel), List.mem_of_getElem? (i := 543) (by decide +kernel), List.mem_of_getElem? (i := 544) (by decide +kernel)⟩
theorem lw_p10 : lw_okq (⟨"CarbonSheets", "carryOutThePad", "()I"⟩, 8) := ⟨⟨by decide +kernel, by decide +kernel⟩, List.mem_of_getElem? (i := 12) (by decide +kernel), List.mem_of_getElem? (i := 556) (by decide +kernel), List.mem_of_getElem? (i := 557) (by decide +kernel)⟩
theorem lw_p11 : lw_okq (⟨"CarbonSheets", "carriesOutOrder", "()Z"⟩, 8) := ⟨⟨by decide +kernel, by decide +kernel⟩, List.mem_of_getElem? (i := 12) (by decide +kernel), List.mem_of_getElem? (i := 563) (by decide +kernel), List.mem_of_getElem? (i := 564) (by decide +kernel)⟩
theorem lw_p12 : lw_okq (⟨"CarbonSheetsModel", "record", "()V"⟩, 19) := ⟨⟨by decide +kernel, by decide +kernel⟩, List.mem_of_getElem? (i := 586) (by decide +kernel), List.mem_of_getElem? (i := 657) (by decide +kernel), List.mem_of_getElem? (i := 658) (by decide +kernel)⟩
theorem lw_p13 : lw_okq (⟨"CarbonSheetsModel", "isInStack", "(I)Z"⟩, 19) := ⟨⟨by decide +kernel, by decide +kernel⟩, List.mem_of_getElem? (i := 586) (by decide +kernel), List.mem_of_getElem? (i := 672) (by decide +kernel), List.mem_of_getElem? (i := 673) (by decide +kernel)⟩
theorem lw_p14 : lw_okq (⟨"CarbonSheetsModel", "barOf", "(III)I"⟩, 19) := ⟨⟨by decide +kernel, by decide +kernel⟩, List.mem_of_getElem? (i := 586) (by decide +kernel), List.mem_of_getElem? (i := 680) (by decide +kernel), List.mem_of_getElem? (i := 681) (by decide +kernel)⟩
theorem lw_p15 : lw_okq (⟨"CarbonSheetsModel", "hasStack", "()Z"⟩, 19) := ⟨⟨by decide +kernel, by decide +kernel⟩, List.mem_of_getElem? (i := 586) (by decide +kernel), List.mem_of_getElem? (i := 687) (by decide +kernel), List.mem_of_getElem? (i := 688) (by decide +kernel)⟩
def lw_privs_1 : List (MethodName × Nat) := [(⟨"CarbonSheets$History", "dropOldest", "()V"⟩, 2), (⟨"CarbonSheets$Tally", "addVotes", "(II)V"⟩, 8), (⟨"CarbonSheets$Tally", "findLeaders", "()V"⟩, 8), (⟨"CarbonSheets", "fieldsWithLeaders", "(II)I"⟩, 8), (⟨"CarbonSheets$OrderReader", "takesKind", "(C)Z"⟩, 5), (⟨"CarbonSheets$OrderReader", "goesOn", "(ZI)Z"⟩, 5), (⟨"CarbonSheets$OrderReader", "takesField", "(C)Z"⟩, 5), (⟨"CarbonSheets$OrderReader", "takesFirstDigit", "(C)Z"⟩, 5), (⟨"CarbonSheets$OrderReader", "takesOneMoreDigit", "(C)Z"⟩, 5), (⟨"CarbonSheets$OrderReader", "takesPressure", "(C)Z"⟩, 5), (⟨"CarbonSheets", "carryOutThePad", "()I"⟩, 8), (⟨"CarbonSheets", "carriesOutOrder", "()Z"⟩, 8), (⟨"CarbonSheetsModel", "record", "()V"⟩, 19), (⟨"CarbonSheetsModel", "isInStack", "(I)Z"⟩, 19), (⟨"CarbonSheetsModel", "barOf", "(III)I"⟩, 19), (⟨"CarbonSheetsModel", "hasStack", "()Z"⟩, 19)]
theorem lw_r1 : ∀ q ∈ lw_privs_1, lw_okq q := List.forall_mem_cons.mpr ⟨lw_p0, List.forall_mem_cons.mpr ⟨lw_p1, List.forall_mem_cons.mpr ⟨lw_p2, List.forall_mem_cons.mpr ⟨lw_p3, List.forall_mem_cons.mpr ⟨lw_p4, List.forall_mem_cons.mpr ⟨lw_p5, List.forall_mem_cons.mpr ⟨lw_p6, List.forall_mem_cons.mpr ⟨lw_p7, List.forall_mem_cons.mpr ⟨lw_p8, List.forall_mem_cons.mpr ⟨lw_p9, List.forall_mem_cons.mpr ⟨lw_p10, List.forall_mem_cons.mpr ⟨lw_p11, List.forall_mem_cons.mpr ⟨lw_p12, List.forall_mem_cons.mpr ⟨lw_p13, List.forall_mem_cons.mpr ⟨lw_p14, List.forall_mem_cons.mpr ⟨lw_p15, fun _ h => absurd h List.not_mem_nil⟩⟩⟩⟩⟩⟩⟩⟩⟩⟩⟩⟩⟩⟩⟩⟩
theorem lw_p16 : lw_okq (⟨"CarbonSheetsModel", "layPress", "(I)I"⟩, 19) := ⟨⟨by decide +kernel, by decide +kernel⟩, List.mem_of_getElem? (i := 586) (by decide +kernel), List.mem_of_getElem? (i := 691) (by decide +kernel), List.mem_of_getElem? (i := 692) (by decide +kernel)⟩
theorem lw_p17 : lw_okq (⟨"CarbonSheetsModel", "many", "(II)I"⟩, 19) := ⟨⟨by decide +kernel, by decide +kernel⟩, List.mem_of_getElem? (i := 586) (by decide +kernel), List.mem_of_getElem? (i := 695) (by decide +kernel), List.mem_of_getElem? (i := 696) (by decide +kernel)⟩
theorem lw_p18 : lw_okq (⟨"CarbonSheetsModel", "writeNow", "(III)I"⟩, 19) := ⟨⟨by decide +kernel, by decide +kernel⟩, List.mem_of_getElem? (i := 586) (by decide +kernel), List.mem_of_getElem? (i := 702) (by decide +kernel), List.mem_of_getElem? (i := 703) (by decide +kernel)⟩
theorem lw_p19 : lw_okq (⟨"CarbonSheetsModel", "usePress", "(I)V"⟩, 19) := ⟨⟨by decide +kernel, by decide +kernel⟩, List.mem_of_getElem? (i := 586) (by decide +kernel), List.mem_of_getElem? (i := 706) (by decide +kernel), List.mem_of_getElem? (i := 707) (by decide +kernel)⟩
theorem lw_p20 : lw_okq (⟨"CarbonSheetsModel", "addMark", "(IIII)V"⟩, 19) := ⟨⟨by decide +kernel, by decide +kernel⟩, List.mem_of_getElem? (i := 586) (by decide +kernel), List.mem_of_getElem? (i := 710) (by decide +kernel), List.mem_of_getElem? (i := 711) (by decide +kernel)⟩
theorem lw_p21 : lw_okq (⟨"CarbonSheetsModel", "strikeNow", "(II)I"⟩, 19) := ⟨⟨by decide +kernel, by decide +kernel⟩, List.mem_of_getElem? (i := 586) (by decide +kernel), List.mem_of_getElem? (i := 718) (by decide +kernel), List.mem_of_getElem? (i := 719) (by decide +kernel)⟩
theorem lw_p22 : lw_okq (⟨"CarbonSheetsModel", "strikeAt", "(III)I"⟩, 19) := ⟨⟨by decide +kernel, by decide +kernel⟩, List.mem_of_getElem? (i := 586) (by decide +kernel), List.mem_of_getElem? (i := 722) (by decide +kernel), List.mem_of_getElem? (i := 723) (by decide +kernel)⟩
theorem lw_p23 : lw_okq (⟨"CarbonSheetsModel", "markAt", "(III)I"⟩, 19) := ⟨⟨by decide +kernel, by decide +kernel⟩, List.mem_of_getElem? (i := 586) (by decide +kernel), List.mem_of_getElem? (i := 726) (by decide +kernel), List.mem_of_getElem? (i := 727) (by decide +kernel)⟩
theorem lw_p24 : lw_okq (⟨"CarbonSheetsModel", "marksOf", "(IZ)I"⟩, 19) := ⟨⟨by decide +kernel, by decide +kernel⟩, List.mem_of_getElem? (i := 586) (by decide +kernel), List.mem_of_getElem? (i := 752) (by decide +kernel), List.mem_of_getElem? (i := 753) (by decide +kernel)⟩
theorem lw_p25 : lw_okq (⟨"CarbonSheetsModel", "fieldsOf", "(II)I"⟩, 19) := ⟨⟨by decide +kernel, by decide +kernel⟩, List.mem_of_getElem? (i := 586) (by decide +kernel), List.mem_of_getElem? (i := 756) (by decide +kernel), List.mem_of_getElem? (i := 757) (by decide +kernel)⟩
theorem lw_p26 : lw_okq (⟨"CarbonSheetsModel", "stateOf", "(II)I"⟩, 19) := ⟨⟨by decide +kernel, by decide +kernel⟩, List.mem_of_getElem? (i := 586) (by decide +kernel), List.mem_of_getElem? (i := 760) (by decide +kernel), List.mem_of_getElem? (i := 761) (by decide +kernel)⟩
theorem lw_p27 : lw_okq (⟨"CarbonSheetsModel", "lastAt", "(II)I"⟩, 19) := ⟨⟨by decide +kernel, by decide +kernel⟩, List.mem_of_getElem? (i := 586) (by decide +kernel), List.mem_of_getElem? (i := 764) (by decide +kernel), List.mem_of_getElem? (i := 765) (by decide +kernel)⟩
theorem lw_p28 : lw_okq (⟨"CarbonSheetsModel", "isReadable", "(I)Z"⟩, 19) := ⟨⟨by decide +kernel, by decide +kernel⟩, List.mem_of_getElem? (i := 586) (by decide +kernel), List.mem_of_getElem? (i := 768) (by decide +kernel), List.mem_of_getElem? (i := 769) (by decide +kernel)⟩
theorem lw_p29 : lw_okq (⟨"CarbonSheetsModel", "lastOf", "(III)I"⟩, 19) := ⟨⟨by decide +kernel, by decide +kernel⟩, List.mem_of_getElem? (i := 586) (by decide +kernel), List.mem_of_getElem? (i := 779) (by decide +kernel), List.mem_of_getElem? (i := 780) (by decide +kernel)⟩
theorem lw_p30 : lw_okq (⟨"CarbonSheetsModel", "layTogether", "(I)V"⟩, 19) := ⟨⟨by decide +kernel, by decide +kernel⟩, List.mem_of_getElem? (i := 586) (by decide +kernel), List.mem_of_getElem? (i := 791) (by decide +kernel), List.mem_of_getElem? (i := 792) (by decide +kernel)⟩
theorem lw_p31 : lw_okq (⟨"CarbonSheetsModel", "votesFor", "(II)I"⟩, 19) := ⟨⟨by decide +kernel, by decide +kernel⟩, List.mem_of_getElem? (i := 586) (by decide +kernel), List.mem_of_getElem? (i := 795) (by decide +kernel), List.mem_of_getElem? (i := 796) (by decide +kernel)⟩
def lw_privs_2 : List (MethodName × Nat) := [(⟨"CarbonSheetsModel", "layPress", "(I)I"⟩, 19), (⟨"CarbonSheetsModel", "many", "(II)I"⟩, 19), (⟨"CarbonSheetsModel", "writeNow", "(III)I"⟩, 19), (⟨"CarbonSheetsModel", "usePress", "(I)V"⟩, 19), (⟨"CarbonSheetsModel", "addMark", "(IIII)V"⟩, 19), (⟨"CarbonSheetsModel", "strikeNow", "(II)I"⟩, 19), (⟨"CarbonSheetsModel", "strikeAt", "(III)I"⟩, 19), (⟨"CarbonSheetsModel", "markAt", "(III)I"⟩, 19), (⟨"CarbonSheetsModel", "marksOf", "(IZ)I"⟩, 19), (⟨"CarbonSheetsModel", "fieldsOf", "(II)I"⟩, 19), (⟨"CarbonSheetsModel", "stateOf", "(II)I"⟩, 19), (⟨"CarbonSheetsModel", "lastAt", "(II)I"⟩, 19), (⟨"CarbonSheetsModel", "isReadable", "(I)Z"⟩, 19), (⟨"CarbonSheetsModel", "lastOf", "(III)I"⟩, 19), (⟨"CarbonSheetsModel", "layTogether", "(I)V"⟩, 19), (⟨"CarbonSheetsModel", "votesFor", "(II)I"⟩, 19)]
theorem lw_r2 : ∀ q ∈ lw_privs_2, lw_okq q := List.forall_mem_cons.mpr ⟨lw_p16, List.forall_mem_cons.mpr ⟨lw_p17, List.forall_mem_cons.mpr ⟨lw_p18, List.forall_mem_cons.mpr ⟨lw_p19, List.forall_mem_cons.mpr ⟨lw_p20, List.forall_mem_cons.mpr ⟨lw_p21, List.forall_mem_cons.mpr ⟨lw_p22, List.forall_mem_cons.mpr ⟨lw_p23, List.forall_mem_cons.mpr ⟨lw_p24, List.forall_mem_cons.mpr ⟨lw_p25, List.forall_mem_cons.mpr ⟨lw_p26, List.forall_mem_cons.mpr ⟨lw_p27, List.forall_mem_cons.mpr ⟨lw_p28, List.forall_mem_cons.mpr ⟨lw_p29, List.forall_mem_cons.mpr ⟨lw_p30, List.forall_mem_cons.mpr ⟨lw_p31, fun _ h => absurd h List.not_mem_nil⟩⟩⟩⟩⟩⟩⟩⟩⟩⟩⟩⟩⟩⟩⟩⟩
theorem lw_p32 : lw_okq (⟨"CarbonSheetsModel", "stack", "()I"⟩, 19) := ⟨⟨by decide +kernel, by decide +kernel⟩, List.mem_of_getElem? (i := 586) (by decide +kernel), List.mem_of_getElem? (i := 803) (by decide +kernel), List.mem_of_getElem? (i := 804) (by decide +kernel)⟩
theorem lw_p33 : lw_okq (⟨"CarbonSheetsModel", "fieldsWith", "(Z)I"⟩, 19) := ⟨⟨by decide +kernel, by decide +kernel⟩, List.mem_of_getElem? (i := 586) (by decide +kernel), List.mem_of_getElem? (i := 807) (by decide +kernel), List.mem_of_getElem? (i := 808) (by decide +kernel)⟩
theorem lw_p34 : lw_okq (⟨"CarbonSheetsModel", "keep", "()V"⟩, 19) := ⟨⟨by decide +kernel, by decide +kernel⟩, List.mem_of_getElem? (i := 586) (by decide +kernel), List.mem_of_getElem? (i := 823) (by decide +kernel), List.mem_of_getElem? (i := 824) (by decide +kernel)⟩
theorem lw_p35 : lw_okq (⟨"CarbonSheetsModel", "isEmptyInStack", "(I)Z"⟩, 19) := ⟨⟨by decide +kernel, by decide +kernel⟩, List.mem_of_getElem? (i := 586) (by decide +kernel), List.mem_of_getElem? (i := 827) (by decide +kernel), List.mem_of_getElem? (i := 828) (by decide +kernel)⟩
theorem lw_p36 : lw_okq (⟨"CarbonSheetsModel", "comeBack", "()V"⟩, 19) := ⟨⟨by decide +kernel, by decide +kernel⟩, List.mem_of_getElem? (i := 586) (by decide +kernel), List.mem_of_getElem? (i := 831) (by decide +kernel), List.mem_of_getElem? (i := 832) (by decide +kernel)⟩
theorem lw_p37 : lw_okq (⟨"CarbonSheetsModel", "faultOf", "()I"⟩, 19) := ⟨⟨by decide +kernel, by decide +kernel⟩, List.mem_of_getElem? (i := 586) (by decide +kernel), List.mem_of_getElem? (i := 856) (by decide +kernel), List.mem_of_getElem? (i := 857) (by decide +kernel)⟩
theorem lw_p38 : lw_okq (⟨"CarbonSheetsModel", "readOne", "()V"⟩, 19) := ⟨⟨by decide +kernel, by decide +kernel⟩, List.mem_of_getElem? (i := 586) (by decide +kernel), List.mem_of_getElem? (i := 860) (by decide +kernel), List.mem_of_getElem? (i := 861) (by decide +kernel)⟩
theorem lw_p39 : lw_okq (⟨"CarbonSheetsModel", "sign", "()I"⟩, 19) := ⟨⟨by decide +kernel, by decide +kernel⟩, List.mem_of_getElem? (i := 586) (by decide +kernel), List.mem_of_getElem? (i := 864) (by decide +kernel), List.mem_of_getElem? (i := 865) (by decide +kernel)⟩
theorem lw_p40 : lw_okq (⟨"CarbonSheetsModel", "one", "(II)I"⟩, 19) := ⟨⟨by decide +kernel, by decide +kernel⟩, List.mem_of_getElem? (i := 586) (by decide +kernel), List.mem_of_getElem? (i := 868) (by decide +kernel), List.mem_of_getElem? (i := 869) (by decide +kernel)⟩
theorem lw_p41 : lw_okq (⟨"CarbonSheetsModel", "between", "(I)V"⟩, 19) := ⟨⟨by decide +kernel, by decide +kernel⟩, List.mem_of_getElem? (i := 586) (by decide +kernel), List.mem_of_getElem? (i := 872) (by decide +kernel), List.mem_of_getElem? (i := 873) (by decide +kernel)⟩
theorem lw_p42 : lw_okq (⟨"CarbonSheetsModel", "number", "()I"⟩, 19) := ⟨⟨by decide +kernel, by decide +kernel⟩, List.mem_of_getElem? (i := 586) (by decide +kernel), List.mem_of_getElem? (i := 876) (by decide +kernel), List.mem_of_getElem? (i := 877) (by decide +kernel)⟩
theorem lw_p43 : lw_okq (⟨"CarbonSheetsModel", "carry", "(I)I"⟩, 19) := ⟨⟨by decide +kernel, by decide +kernel⟩, List.mem_of_getElem? (i := 586) (by decide +kernel), List.mem_of_getElem? (i := 884) (by decide +kernel), List.mem_of_getElem? (i := 885) (by decide +kernel)⟩
def lw_privs_3 : List (MethodName × Nat) := [(⟨"CarbonSheetsModel", "stack", "()I"⟩, 19), (⟨"CarbonSheetsModel", "fieldsWith", "(Z)I"⟩, 19), (⟨"CarbonSheetsModel", "keep", "()V"⟩, 19), (⟨"CarbonSheetsModel", "isEmptyInStack", "(I)Z"⟩, 19), (⟨"CarbonSheetsModel", "comeBack", "()V"⟩, 19), (⟨"CarbonSheetsModel", "faultOf", "()I"⟩, 19), (⟨"CarbonSheetsModel", "readOne", "()V"⟩, 19), (⟨"CarbonSheetsModel", "sign", "()I"⟩, 19), (⟨"CarbonSheetsModel", "one", "(II)I"⟩, 19), (⟨"CarbonSheetsModel", "between", "(I)V"⟩, 19), (⟨"CarbonSheetsModel", "number", "()I"⟩, 19), (⟨"CarbonSheetsModel", "carry", "(I)I"⟩, 19)]
theorem lw_r3 : ∀ q ∈ lw_privs_3, lw_okq q := List.forall_mem_cons.mpr ⟨lw_p32, List.forall_mem_cons.mpr ⟨lw_p33, List.forall_mem_cons.mpr ⟨lw_p34, List.forall_mem_cons.mpr ⟨lw_p35, List.forall_mem_cons.mpr ⟨lw_p36, List.forall_mem_cons.mpr ⟨lw_p37, List.forall_mem_cons.mpr ⟨lw_p38, List.forall_mem_cons.mpr ⟨lw_p39, List.forall_mem_cons.mpr ⟨lw_p40, List.forall_mem_cons.mpr ⟨lw_p41, List.forall_mem_cons.mpr ⟨lw_p42, List.forall_mem_cons.mpr ⟨lw_p43, fun _ h => absurd h List.not_mem_nil⟩⟩⟩⟩⟩⟩⟩⟩⟩⟩⟩⟩
def lw_privs : List (MethodName × Nat) := lw_privs_1 ++ (lw_privs_2 ++ (lw_privs_3))
def lw_tbl : List Cond := k2_sels lw_privs ++ tables_1
theorem lw_privs_ok : ∀ q ∈ lw_privs, lw_okq q := by
  show ∀ q ∈ lw_privs_1 ++ (lw_privs_2 ++ (lw_privs_3)), lw_okq q
  exact List.forall_mem_append.mpr ⟨lw_r1, List.forall_mem_append.mpr ⟨lw_r2, lw_r3⟩⟩

def RX0 : String := "CarbonSheets$History"
def TX0 : u_T := fun k => match k with
  | 0 => ("CarbonSheets$History", "size", "I", false)
  | _ => ("CarbonSheets$History", "states", "[LCarbonSheets$State;", true)
def tyX0 : Nat → FieldType := fun k => match k with
  | 0 => .int
  | _ => .array (.object "CarbonSheets$State")
abbrev wsX00 : List Cond := u_ws RX0 TX0 2
theorem nmX0 : ∀ a, a < 2 → ∀ b, b < 2 → a ≠ b → (TX0 a).2.1 ≠ (TX0 b).2.1 := by decide +kernel
theorem tyX0_ok : ∀ k, k < 2 → parseFieldDescriptor (TX0 k).2.2.1 = some (tyX0 k) := by decide +kernel
abbrev cX0_init : ByteArray := prog_2_method_1_code
def yX0_init : MethodName := ⟨RX0, "<init>", "()V"⟩
abbrev cX0_record : ByteArray := prog_2_method_2_code
def yX0_record : MethodName := ⟨RX0, "record", "(LCarbonSheets$State;)V"⟩
abbrev cX0_dropOldest : ByteArray := prog_2_method_3_code
def yX0_dropOldest : MethodName := ⟨RX0, "dropOldest", "()V"⟩
abbrev cX0_takesBackInto : ByteArray := prog_2_method_4_code
def yX0_takesBackInto : MethodName := ⟨RX0, "takesBackInto", "(LCarbonSheets$State;)Z"⟩
def RX1 : String := "CarbonSheets$OrderReader"
def TX1 : u_T := fun k => match k with
  | 0 => ("CarbonSheets$OrderReader", "kind", "I", false)
  | 1 => ("CarbonSheets$OrderReader", "field", "I", false)
  | 2 => ("CarbonSheets$OrderReader", "value", "I", false)
  | 3 => ("CarbonSheets$OrderReader", "pressure", "I", false)
  | _ => ("CarbonSheets$OrderReader", "expected", "I", false)
def tyX1 : Nat → FieldType := fun k => match k with
  | 0 => .int
  | 1 => .int
  | 2 => .int
  | 3 => .int
  | _ => .int
abbrev wsX10 : List Cond := u_ws RX1 TX1 5
theorem nmX1 : ∀ a, a < 5 → ∀ b, b < 5 → a ≠ b → (TX1 a).2.1 ≠ (TX1 b).2.1 := by decide +kernel
theorem tyX1_ok : ∀ k, k < 5 → parseFieldDescriptor (TX1 k).2.2.1 = some (tyX1 k) := by decide +kernel
abbrev cX1_init : ByteArray := prog_3_method_1_code
def yX1_init : MethodName := ⟨RX1, "<init>", "()V"⟩
abbrev cX1_begin : ByteArray := prog_3_method_2_code
def yX1_begin : MethodName := ⟨RX1, "begin", "()V"⟩
abbrev cX1_isAfterOrder : ByteArray := prog_3_method_3_code
def yX1_isAfterOrder : MethodName := ⟨RX1, "isAfterOrder", "()Z"⟩
abbrev cX1_takes : ByteArray := prog_3_method_4_code
def yX1_takes : MethodName := ⟨RX1, "takes", "(C)Z"⟩
abbrev cX1_goesOn : ByteArray := prog_3_method_5_code
def yX1_goesOn : MethodName := ⟨RX1, "goesOn", "(ZI)Z"⟩
abbrev cX1_takesKind : ByteArray := prog_3_method_6_code
def yX1_takesKind : MethodName := ⟨RX1, "takesKind", "(C)Z"⟩
abbrev cX1_takesField : ByteArray := prog_3_method_7_code
def yX1_takesField : MethodName := ⟨RX1, "takesField", "(C)Z"⟩
abbrev cX1_takesFirstDigit : ByteArray := prog_3_method_8_code
def yX1_takesFirstDigit : MethodName := ⟨RX1, "takesFirstDigit", "(C)Z"⟩
abbrev cX1_takesOneMoreDigit : ByteArray := prog_3_method_9_code
def yX1_takesOneMoreDigit : MethodName := ⟨RX1, "takesOneMoreDigit", "(C)Z"⟩
abbrev cX1_takesPressure : ByteArray := prog_3_method_10_code
def yX1_takesPressure : MethodName := ⟨RX1, "takesPressure", "(C)Z"⟩
abbrev cX1_isDigit : ByteArray := prog_3_method_11_code
def yX1_isDigit : MethodName := ⟨RX1, "isDigit", "(C)Z"⟩
def RX2 : String := "CarbonSheets$Pad"
def TX2 : u_T := fun k => match k with
  | 0 => ("CarbonSheets$Pad", "length", "I", false)
  | _ => ("CarbonSheets$Pad", "codes", "[C", true)
def tyX2 : Nat → FieldType := fun k => match k with
  | 0 => .int
  | _ => .array .char
abbrev wsX20 : List Cond := u_ws RX2 TX2 2
theorem nmX2 : ∀ a, a < 2 → ∀ b, b < 2 → a ≠ b → (TX2 a).2.1 ≠ (TX2 b).2.1 := by decide +kernel
theorem tyX2_ok : ∀ k, k < 2 → parseFieldDescriptor (TX2 k).2.2.1 = some (tyX2 k) := by decide +kernel
abbrev cX2_init : ByteArray := prog_4_method_1_code
def yX2_init : MethodName := ⟨RX2, "<init>", "()V"⟩
abbrev cX2_sizeOf : ByteArray := prog_4_method_2_code
def yX2_sizeOf : MethodName := ⟨RX2, "sizeOf", "(J)I"⟩
abbrev cX2_append : ByteArray := prog_4_method_3_code
def yX2_append : MethodName := ⟨RX2, "append", "(JI)V"⟩
abbrev cX2_firstFault : ByteArray := prog_4_method_4_code
def yX2_firstFault : MethodName := ⟨RX2, "firstFault", "(LCarbonSheets$OrderReader;)I"⟩
def RX3 : String := "CarbonSheets$Sheet"
def TX3 : u_T := fun k => match k with
  | 0 => ("CarbonSheets$Sheet", "thickness", "I", false)
  | 1 => ("CarbonSheets$Sheet", "uses", "I", false)
  | 2 => ("CarbonSheets$Sheet", "amendedFields", "I", false)
  | 3 => ("CarbonSheets$Sheet", "counts", "[I", true)
  | _ => ("CarbonSheets$Sheet", "marks", "[I", true)
def tyX3 : Nat → FieldType := fun k => match k with
  | 0 => .int
  | 1 => .int
  | 2 => .int
  | 3 => .array .int
  | _ => .array .int
abbrev wsX30 : List Cond := u_ws RX3 TX3 5
theorem nmX3 : ∀ a, a < 5 → ∀ b, b < 5 → a ≠ b → (TX3 a).2.1 ≠ (TX3 b).2.1 := by decide +kernel
theorem tyX3_ok : ∀ k, k < 5 → parseFieldDescriptor (TX3 k).2.2.1 = some (tyX3 k) := by decide +kernel
abbrev cX3_init : ByteArray := prog_5_method_1_code
def yX3_init : MethodName := ⟨RX3, "<init>", "()V"⟩
abbrev cX3_copyFrom : ByteArray := prog_5_method_2_code
def yX3_copyFrom : MethodName := ⟨RX3, "copyFrom", "(LCarbonSheets$Sheet;)V"⟩
abbrev cX3_hasRoom : ByteArray := prog_5_method_3_code
def yX3_hasRoom : MethodName := ⟨RX3, "hasRoom", "(I)Z"⟩
abbrev cX3_addMark : ByteArray := prog_5_method_4_code
def yX3_addMark : MethodName := ⟨RX3, "addMark", "(III)V"⟩
abbrev cX3_valueAt : ByteArray := prog_5_method_5_code
def yX3_valueAt : MethodName := ⟨RX3, "valueAt", "(II)I"⟩
abbrev cX3_strengthAt : ByteArray := prog_5_method_6_code
def yX3_strengthAt : MethodName := ⟨RX3, "strengthAt", "(II)I"⟩
abbrev cX3_isStruck : ByteArray := prog_5_method_7_code
def yX3_isStruck : MethodName := ⟨RX3, "isStruck", "(II)Z"⟩
abbrev cX3_isReadable : ByteArray := prog_5_method_8_code
def yX3_isReadable : MethodName := ⟨RX3, "isReadable", "(III)Z"⟩
abbrev cX3_strikeUpTo : ByteArray := prog_5_method_9_code
def yX3_strikeUpTo : MethodName := ⟨RX3, "strikeUpTo", "(II)I"⟩
abbrev cX3_lastReadable : ByteArray := prog_5_method_10_code
def yX3_lastReadable : MethodName := ⟨RX3, "lastReadable", "(II)I"⟩
abbrev cX3_readableMarks : ByteArray := prog_5_method_11_code
def yX3_readableMarks : MethodName := ⟨RX3, "readableMarks", "(II)I"⟩
abbrev cX3_strongestReadable : ByteArray := prog_5_method_12_code
def yX3_strongestReadable : MethodName := ⟨RX3, "strongestReadable", "(II)I"⟩
abbrev cX3_kindOf : ByteArray := prog_5_method_13_code
def yX3_kindOf : MethodName := ⟨RX3, "kindOf", "(III)I"⟩
abbrev cX3_allMarks : ByteArray := prog_5_method_14_code
def yX3_allMarks : MethodName := ⟨RX3, "allMarks", "()I"⟩
abbrev cX3_struckMarks : ByteArray := prog_5_method_15_code
def yX3_struckMarks : MethodName := ⟨RX3, "struckMarks", "()I"⟩
def RX4 : String := "CarbonSheets$State"
def TX4 : u_T := fun k => match k with
  | 0 => ("CarbonSheets$State", "sheets", "[LCarbonSheets$Sheet;", true)
  | 1 => ("CarbonSheets$State", "settings", "[I", true)
  | 2 => ("CarbonSheets$State", "top", "I", false)
  | 3 => ("CarbonSheets$State", "low", "I", false)
  | _ => ("CarbonSheets$State", "arriving", "[I", true)
def tyX4 : Nat → FieldType := fun k => match k with
  | 0 => .array (.object "CarbonSheets$Sheet")
  | 1 => .array .int
  | 2 => .int
  | 3 => .int
  | _ => .array .int
abbrev wsX40 : List Cond := u_ws RX4 TX4 5
theorem nmX4 : ∀ a, a < 5 → ∀ b, b < 5 → a ≠ b → (TX4 a).2.1 ≠ (TX4 b).2.1 := by decide +kernel
theorem tyX4_ok : ∀ k, k < 5 → parseFieldDescriptor (TX4 k).2.2.1 = some (tyX4 k) := by decide +kernel
abbrev cX4_init : ByteArray := prog_6_method_1_code
def yX4_init : MethodName := ⟨RX4, "<init>", "()V"⟩
abbrev cX4_copyFrom : ByteArray := prog_6_method_2_code
def yX4_copyFrom : MethodName := ⟨RX4, "copyFrom", "(LCarbonSheets$State;)V"⟩
abbrev cX4_isStackEmpty : ByteArray := prog_6_method_3_code
def yX4_isStackEmpty : MethodName := ⟨RX4, "isStackEmpty", "()Z"⟩
abbrev cX4_isInStack : ByteArray := prog_6_method_4_code
def yX4_isInStack : MethodName := ⟨RX4, "isInStack", "(I)Z"⟩
abbrev cX4_stack : ByteArray := prog_6_method_5_code
def yX4_stack : MethodName := ⟨RX4, "stack", "()I"⟩
abbrev cX4_noteIfApart : ByteArray := prog_6_method_6_code
def yX4_noteIfApart : MethodName := ⟨RX4, "noteIfApart", "(II)V"⟩
abbrev cX4_measure : ByteArray := prog_6_method_7_code
def yX4_measure : MethodName := ⟨RX4, "measure", "(I)V"⟩
abbrev cX4_wearCarbons : ByteArray := prog_6_method_8_code
def yX4_wearCarbons : MethodName := ⟨RX4, "wearCarbons", "()V"⟩
abbrev cX4_refusalToWrite : ByteArray := prog_6_method_9_code
def yX4_refusalToWrite : MethodName := ⟨RX4, "refusalToWrite", "(III)I"⟩
abbrev cX4_pressValue : ByteArray := prog_6_method_10_code
def yX4_pressValue : MethodName := ⟨RX4, "pressValue", "(III)I"⟩
abbrev cX4_refusalToStrike : ByteArray := prog_6_method_11_code
def yX4_refusalToStrike : MethodName := ⟨RX4, "refusalToStrike", "(II)I"⟩
abbrev cX4_pressStroke : ByteArray := prog_6_method_12_code
def yX4_pressStroke : MethodName := ⟨RX4, "pressStroke", "(II)I"⟩
abbrev cX4_refusalToTear : ByteArray := prog_6_method_13_code
def yX4_refusalToTear : MethodName := ⟨RX4, "refusalToTear", "(I)I"⟩
abbrev cX4_tearOff : ByteArray := prog_6_method_14_code
def yX4_tearOff : MethodName := ⟨RX4, "tearOff", "(I)I"⟩
abbrev cX4_kindOf : ByteArray := prog_6_method_15_code
def yX4_kindOf : MethodName := ⟨RX4, "kindOf", "(II)I"⟩
abbrev cX4_fieldsThatAre : ByteArray := prog_6_method_16_code
def yX4_fieldsThatAre : MethodName := ⟨RX4, "fieldsThatAre", "(II)I"⟩
abbrev cX4_readTheSame : ByteArray := prog_6_method_17_code
def yX4_readTheSame : MethodName := ⟨RX4, "readTheSame", "(III)Z"⟩
abbrev cX4_lastValue : ByteArray := prog_6_method_18_code
def yX4_lastValue : MethodName := ⟨RX4, "lastValue", "(II)I"⟩
abbrev cX4_lastStrength : ByteArray := prog_6_method_19_code
def yX4_lastStrength : MethodName := ⟨RX4, "lastStrength", "(II)I"⟩
abbrev cX4_allMarks : ByteArray := prog_6_method_20_code
def yX4_allMarks : MethodName := ⟨RX4, "allMarks", "()I"⟩
abbrev cX4_wouldBeEmptied : ByteArray := prog_6_method_21_code
def yX4_wouldBeEmptied : MethodName := ⟨RX4, "wouldBeEmptied", "(II)Z"⟩
abbrev cX4_pressesToTheLowest : ByteArray := prog_6_method_22_code
def yX4_pressesToTheLowest : MethodName := ⟨RX4, "pressesToTheLowest", "(I)I"⟩
def RX5 : String := "CarbonSheets$Tally"
def TX5 : u_T := fun k => match k with
  | 0 => ("CarbonSheets$Tally", "clearSheets", "I", false)
  | 1 => ("CarbonSheets$Tally", "leaders", "I", false)
  | 2 => ("CarbonSheets$Tally", "lowest", "I", false)
  | 3 => ("CarbonSheets$Tally", "highest", "I", false)
  | 4 => ("CarbonSheets$Tally", "most", "I", false)
  | 5 => ("CarbonSheets$Tally", "candidates", "I", false)
  | 6 => ("CarbonSheets$Tally", "values", "[I", true)
  | _ => ("CarbonSheets$Tally", "votes", "[I", true)
def tyX5 : Nat → FieldType := fun k => match k with
  | 0 => .int
  | 1 => .int
  | 2 => .int
  | 3 => .int
  | 4 => .int
  | 5 => .int
  | 6 => .array .int
  | _ => .array .int
abbrev wsX50 : List Cond := u_ws RX5 TX5 8
theorem nmX5 : ∀ a, a < 8 → ∀ b, b < 8 → a ≠ b → (TX5 a).2.1 ≠ (TX5 b).2.1 := by decide +kernel
theorem tyX5_ok : ∀ k, k < 8 → parseFieldDescriptor (TX5 k).2.2.1 = some (tyX5 k) := by decide +kernel
abbrev cX5_init : ByteArray := prog_7_method_1_code
def yX5_init : MethodName := ⟨RX5, "<init>", "()V"⟩
abbrev cX5_takeIn : ByteArray := prog_7_method_2_code
def yX5_takeIn : MethodName := ⟨RX5, "takeIn", "(LCarbonSheets$State;I)V"⟩
abbrev cX5_addVotes : ByteArray := prog_7_method_3_code
def yX5_addVotes : MethodName := ⟨RX5, "addVotes", "(II)V"⟩
abbrev cX5_findLeaders : ByteArray := prog_7_method_4_code
def yX5_findLeaders : MethodName := ⟨RX5, "findLeaders", "()V"⟩
def RX6 : String := "CarbonSheets"
def TX6 : u_T := fun k => match k with
  | 0 => ("CarbonSheets", "now", "LCarbonSheets$State;", true)
  | 1 => ("CarbonSheets", "trial", "LCarbonSheets$State;", true)
  | 2 => ("CarbonSheets", "tally", "LCarbonSheets$Tally;", true)
  | 3 => ("CarbonSheets", "history", "LCarbonSheets$History;", true)
  | 4 => ("CarbonSheets", "slots", "[LCarbonSheets$State;", true)
  | 5 => ("CarbonSheets", "isSaved", "[Z", true)
  | 6 => ("CarbonSheets", "pad", "LCarbonSheets$Pad;", true)
  | _ => ("CarbonSheets", "reader", "LCarbonSheets$OrderReader;", true)
def tyX6 : Nat → FieldType := fun k => match k with
  | 0 => .object "CarbonSheets$State"
  | 1 => .object "CarbonSheets$State"
  | 2 => .object "CarbonSheets$Tally"
  | 3 => .object "CarbonSheets$History"
  | 4 => .array (.object "CarbonSheets$State")
  | 5 => .array .boolean
  | 6 => .object "CarbonSheets$Pad"
  | _ => .object "CarbonSheets$OrderReader"
abbrev wsX60 : List Cond := u_ws RX6 TX6 8
theorem nmX6 : ∀ a, a < 8 → ∀ b, b < 8 → a ≠ b → (TX6 a).2.1 ≠ (TX6 b).2.1 := by decide +kernel
theorem tyX6_ok : ∀ k, k < 8 → parseFieldDescriptor (TX6 k).2.2.1 = some (tyX6 k) := by decide +kernel
abbrev cX6_init : ByteArray := prog_1_method_1_code
def yX6_init : MethodName := ⟨RX6, "<init>", "()V"⟩
abbrev cX6_set : ByteArray := prog_1_method_2_code
def yX6_set : MethodName := ⟨RX6, "set", "(II)I"⟩
abbrev cX6_thickness : ByteArray := prog_1_method_3_code
def yX6_thickness : MethodName := ⟨RX6, "thickness", "(II)I"⟩
abbrev cX6_carbon : ByteArray := prog_1_method_4_code
def yX6_carbon : MethodName := ⟨RX6, "carbon", "(II)I"⟩
abbrev cX6_write : ByteArray := prog_1_method_5_code
def yX6_write : MethodName := ⟨RX6, "write", "(III)I"⟩
abbrev cX6_strike : ByteArray := prog_1_method_6_code
def yX6_strike : MethodName := ⟨RX6, "strike", "(II)I"⟩
abbrev cX6_paint : ByteArray := prog_1_method_7_code
def yX6_paint : MethodName := ⟨RX6, "paint", "(II)I"⟩
abbrev cX6_amend : ByteArray := prog_1_method_8_code
def yX6_amend : MethodName := ⟨RX6, "amend", "(IIII)I"⟩
abbrev cX6_tear : ByteArray := prog_1_method_9_code
def yX6_tear : MethodName := ⟨RX6, "tear", "(I)I"⟩
abbrev cX6_ofSheet : ByteArray := prog_1_method_10_code
def yX6_ofSheet : MethodName := ⟨RX6, "ofSheet", "(II)I"⟩
abbrev cX6_reading : ByteArray := prog_1_method_11_code
def yX6_reading : MethodName := ⟨RX6, "reading", "(III)I"⟩
abbrev cX6_ofMark : ByteArray := prog_1_method_12_code
def yX6_ofMark : MethodName := ⟨RX6, "ofMark", "(IIII)I"⟩
abbrev cX6_together : ByteArray := prog_1_method_13_code
def yX6_together : MethodName := ⟨RX6, "together", "(II)I"⟩
abbrev cX6_count : ByteArray := prog_1_method_14_code
def yX6_count : MethodName := ⟨RX6, "count", "(I)I"⟩
abbrev cX6_differ : ByteArray := prog_1_method_15_code
def yX6_differ : MethodName := ⟨RX6, "differ", "(II)I"⟩
abbrev cX6_enoughFor : ByteArray := prog_1_method_16_code
def yX6_enoughFor : MethodName := ⟨RX6, "enoughFor", "(I)I"⟩
abbrev cX6_strikeFor : ByteArray := prog_1_method_17_code
def yX6_strikeFor : MethodName := ⟨RX6, "strikeFor", "(I)I"⟩
abbrev cX6_lasts : ByteArray := prog_1_method_18_code
def yX6_lasts : MethodName := ⟨RX6, "lasts", "(I)I"⟩
abbrev cX6_ifWritten : ByteArray := prog_1_method_19_code
def yX6_ifWritten : MethodName := ⟨RX6, "ifWritten", "(III)I"⟩
abbrev cX6_put : ByteArray := prog_1_method_20_code
def yX6_put : MethodName := ⟨RX6, "put", "(J)I"⟩
abbrev cX6_wipe : ByteArray := prog_1_method_21_code
def yX6_wipe : MethodName := ⟨RX6, "wipe", "()I"⟩
abbrev cX6_fault : ByteArray := prog_1_method_22_code
def yX6_fault : MethodName := ⟨RX6, "fault", "()I"⟩
abbrev cX6_carryOut : ByteArray := prog_1_method_23_code
def yX6_carryOut : MethodName := ⟨RX6, "carryOut", "()I"⟩
abbrev cX6_undo : ByteArray := prog_1_method_24_code
def yX6_undo : MethodName := ⟨RX6, "undo", "()I"⟩
abbrev cX6_save : ByteArray := prog_1_method_25_code
def yX6_save : MethodName := ⟨RX6, "save", "(I)I"⟩
abbrev cX6_restore : ByteArray := prog_1_method_26_code
def yX6_restore : MethodName := ⟨RX6, "restore", "(I)I"⟩
abbrev cX6_fieldsWithLeaders : ByteArray := prog_1_method_27_code
def yX6_fieldsWithLeaders : MethodName := ⟨RX6, "fieldsWithLeaders", "(II)I"⟩
abbrev cX6_carryOutThePad : ByteArray := prog_1_method_28_code
def yX6_carryOutThePad : MethodName := ⟨RX6, "carryOutThePad", "()I"⟩
abbrev cX6_carriesOutOrder : ByteArray := prog_1_method_29_code
def yX6_carriesOutOrder : MethodName := ⟨RX6, "carriesOutOrder", "()Z"⟩
abbrev cX6_isWithin : ByteArray := prog_1_method_30_code
def yX6_isWithin : MethodName := ⟨RX6, "isWithin", "(III)Z"⟩
abbrev cX6_isSheet : ByteArray := prog_1_method_31_code
def yX6_isSheet : MethodName := ⟨RX6, "isSheet", "(I)Z"⟩
abbrev cX6_isField : ByteArray := prog_1_method_32_code
def yX6_isField : MethodName := ⟨RX6, "isField", "(I)Z"⟩
abbrev cX6_isValue : ByteArray := prog_1_method_33_code
def yX6_isValue : MethodName := ⟨RX6, "isValue", "(I)Z"⟩
abbrev cX6_isPressure : ByteArray := prog_1_method_34_code
def yX6_isPressure : MethodName := ⟨RX6, "isPressure", "(I)Z"⟩
abbrev cX6_isSlot : ByteArray := prog_1_method_35_code
def yX6_isSlot : MethodName := ⟨RX6, "isSlot", "(I)Z"⟩
abbrev cX6_isSettingWith : ByteArray := prog_1_method_36_code
def yX6_isSettingWith : MethodName := ⟨RX6, "isSettingWith", "(II)Z"⟩
def RX7 : String := "CarbonSheetsModel"
def TX7 : u_T := fun k => match k with
  | 0 => ("CarbonSheetsModel", "now", "[I", true)
  | 1 => ("CarbonSheetsModel", "kept", "[I", true)
  | 2 => ("CarbonSheetsModel", "history", "[I", true)
  | 3 => ("CarbonSheetsModel", "undos", "I", false)
  | 4 => ("CarbonSheetsModel", "saved", "[I", true)
  | 5 => ("CarbonSheetsModel", "isSaved", "[Z", true)
  | 6 => ("CarbonSheetsModel", "pad", "[I", true)
  | 7 => ("CarbonSheetsModel", "signs", "I", false)
  | 8 => ("CarbonSheetsModel", "isInText", "Z", false)
  | 9 => ("CarbonSheetsModel", "comes", "[I", true)
  | 10 => ("CarbonSheetsModel", "leaders", "I", false)
  | 11 => ("CarbonSheetsModel", "lowest", "I", false)
  | 12 => ("CarbonSheetsModel", "highest", "I", false)
  | 13 => ("CarbonSheetsModel", "votes", "I", false)
  | 14 => ("CarbonSheetsModel", "clear", "I", false)
  | 15 => ("CarbonSheetsModel", "orders", "[I", true)
  | 16 => ("CarbonSheetsModel", "read", "I", false)
  | 17 => ("CarbonSheetsModel", "place", "I", false)
  | _ => ("CarbonSheetsModel", "isWrong", "Z", false)
def tyX7 : Nat → FieldType := fun k => match k with
  | 0 => .array .int
  | 1 => .array .int
  | 2 => .array .int
  | 3 => .int
  | 4 => .array .int
  | 5 => .array .boolean
  | 6 => .array .int
  | 7 => .int
  | 8 => .boolean
  | 9 => .array .int
  | 10 => .int
  | 11 => .int
  | 12 => .int
  | 13 => .int
  | 14 => .int
  | 15 => .array .int
  | 16 => .int
  | 17 => .int
  | _ => .boolean
abbrev wsX70 : List Cond := u_ws RX7 TX7 19
theorem nmX7 : ∀ a, a < 19 → ∀ b, b < 19 → a ≠ b → (TX7 a).2.1 ≠ (TX7 b).2.1 := by decide +kernel
theorem tyX7_ok : ∀ k, k < 19 → parseFieldDescriptor (TX7 k).2.2.1 = some (tyX7 k) := by decide +kernel
abbrev cX7_init : ByteArray := prog_9_method_1_code
def yX7_init : MethodName := ⟨RX7, "<init>", "()V"⟩
abbrev cX7_in : ByteArray := prog_9_method_2_code
def yX7_in : MethodName := ⟨RX7, "in", "(III)Z"⟩
abbrev cX7_record : ByteArray := prog_9_method_3_code
def yX7_record : MethodName := ⟨RX7, "record", "()V"⟩
abbrev cX7_set : ByteArray := prog_9_method_4_code
def yX7_set : MethodName := ⟨RX7, "set", "(II)I"⟩
abbrev cX7_isSheet : ByteArray := prog_9_method_5_code
def yX7_isSheet : MethodName := ⟨RX7, "isSheet", "(I)Z"⟩
abbrev cX7_isField : ByteArray := prog_9_method_6_code
def yX7_isField : MethodName := ⟨RX7, "isField", "(I)Z"⟩
abbrev cX7_isInStack : ByteArray := prog_9_method_7_code
def yX7_isInStack : MethodName := ⟨RX7, "isInStack", "(I)Z"⟩
abbrev cX7_hasStack : ByteArray := prog_9_method_8_code
def yX7_hasStack : MethodName := ⟨RX7, "hasStack", "()Z"⟩
abbrev cX7_thickness : ByteArray := prog_9_method_9_code
def yX7_thickness : MethodName := ⟨RX7, "thickness", "(II)I"⟩
abbrev cX7_carbon : ByteArray := prog_9_method_10_code
def yX7_carbon : MethodName := ⟨RX7, "carbon", "(II)I"⟩
abbrev cX7_spot : ByteArray := prog_9_method_11_code
def yX7_spot : MethodName := ⟨RX7, "spot", "(II)I"⟩
abbrev cX7_many : ByteArray := prog_9_method_12_code
def yX7_many : MethodName := ⟨RX7, "many", "(II)I"⟩
abbrev cX7_markAt : ByteArray := prog_9_method_13_code
def yX7_markAt : MethodName := ⟨RX7, "markAt", "(III)I"⟩
abbrev cX7_valueOf : ByteArray := prog_9_method_14_code
def yX7_valueOf : MethodName := ⟨RX7, "valueOf", "(I)I"⟩
abbrev cX7_strengthOf : ByteArray := prog_9_method_15_code
def yX7_strengthOf : MethodName := ⟨RX7, "strengthOf", "(I)I"⟩
abbrev cX7_isStruck : ByteArray := prog_9_method_16_code
def yX7_isStruck : MethodName := ⟨RX7, "isStruck", "(I)Z"⟩
abbrev cX7_addMark : ByteArray := prog_9_method_17_code
def yX7_addMark : MethodName := ⟨RX7, "addMark", "(IIII)V"⟩
abbrev cX7_strikeAt : ByteArray := prog_9_method_18_code
def yX7_strikeAt : MethodName := ⟨RX7, "strikeAt", "(III)I"⟩
abbrev cX7_layPress : ByteArray := prog_9_method_19_code
def yX7_layPress : MethodName := ⟨RX7, "layPress", "(I)I"⟩
abbrev cX7_usePress : ByteArray := prog_9_method_20_code
def yX7_usePress : MethodName := ⟨RX7, "usePress", "(I)V"⟩
abbrev cX7_barOf : ByteArray := prog_9_method_21_code
def yX7_barOf : MethodName := ⟨RX7, "barOf", "(III)I"⟩
abbrev cX7_writeNow : ByteArray := prog_9_method_22_code
def yX7_writeNow : MethodName := ⟨RX7, "writeNow", "(III)I"⟩
abbrev cX7_write : ByteArray := prog_9_method_23_code
def yX7_write : MethodName := ⟨RX7, "write", "(III)I"⟩
abbrev cX7_strikeNow : ByteArray := prog_9_method_24_code
def yX7_strikeNow : MethodName := ⟨RX7, "strikeNow", "(II)I"⟩
abbrev cX7_strike : ByteArray := prog_9_method_25_code
def yX7_strike : MethodName := ⟨RX7, "strike", "(II)I"⟩
abbrev cX7_paint : ByteArray := prog_9_method_26_code
def yX7_paint : MethodName := ⟨RX7, "paint", "(II)I"⟩
abbrev cX7_amend : ByteArray := prog_9_method_27_code
def yX7_amend : MethodName := ⟨RX7, "amend", "(IIII)I"⟩
abbrev cX7_tear : ByteArray := prog_9_method_28_code
def yX7_tear : MethodName := ⟨RX7, "tear", "(I)I"⟩
abbrev cX7_isReadable : ByteArray := prog_9_method_29_code
def yX7_isReadable : MethodName := ⟨RX7, "isReadable", "(I)Z"⟩
abbrev cX7_lastAt : ByteArray := prog_9_method_30_code
def yX7_lastAt : MethodName := ⟨RX7, "lastAt", "(II)I"⟩
abbrev cX7_stateOf : ByteArray := prog_9_method_31_code
def yX7_stateOf : MethodName := ⟨RX7, "stateOf", "(II)I"⟩
abbrev cX7_lastOf : ByteArray := prog_9_method_32_code
def yX7_lastOf : MethodName := ⟨RX7, "lastOf", "(III)I"⟩
abbrev cX7_fieldsOf : ByteArray := prog_9_method_33_code
def yX7_fieldsOf : MethodName := ⟨RX7, "fieldsOf", "(II)I"⟩
abbrev cX7_marksOf : ByteArray := prog_9_method_34_code
def yX7_marksOf : MethodName := ⟨RX7, "marksOf", "(IZ)I"⟩
abbrev cX7_ofSheet : ByteArray := prog_9_method_35_code
def yX7_ofSheet : MethodName := ⟨RX7, "ofSheet", "(II)I"⟩
abbrev cX7_reading : ByteArray := prog_9_method_36_code
def yX7_reading : MethodName := ⟨RX7, "reading", "(III)I"⟩
abbrev cX7_ofMark : ByteArray := prog_9_method_37_code
def yX7_ofMark : MethodName := ⟨RX7, "ofMark", "(IIII)I"⟩
abbrev cX7_votesFor : ByteArray := prog_9_method_38_code
def yX7_votesFor : MethodName := ⟨RX7, "votesFor", "(II)I"⟩
abbrev cX7_layTogether : ByteArray := prog_9_method_39_code
def yX7_layTogether : MethodName := ⟨RX7, "layTogether", "(I)V"⟩
abbrev cX7_together : ByteArray := prog_9_method_40_code
def yX7_together : MethodName := ⟨RX7, "together", "(II)I"⟩
abbrev cX7_fieldsWith : ByteArray := prog_9_method_41_code
def yX7_fieldsWith : MethodName := ⟨RX7, "fieldsWith", "(Z)I"⟩
abbrev cX7_stack : ByteArray := prog_9_method_42_code
def yX7_stack : MethodName := ⟨RX7, "stack", "()I"⟩
abbrev cX7_count : ByteArray := prog_9_method_43_code
def yX7_count : MethodName := ⟨RX7, "count", "(I)I"⟩
abbrev cX7_differ : ByteArray := prog_9_method_44_code
def yX7_differ : MethodName := ⟨RX7, "differ", "(II)I"⟩
abbrev cX7_enoughFor : ByteArray := prog_9_method_45_code
def yX7_enoughFor : MethodName := ⟨RX7, "enoughFor", "(I)I"⟩
abbrev cX7_keep : ByteArray := prog_9_method_46_code
def yX7_keep : MethodName := ⟨RX7, "keep", "()V"⟩
abbrev cX7_comeBack : ByteArray := prog_9_method_47_code
def yX7_comeBack : MethodName := ⟨RX7, "comeBack", "()V"⟩
abbrev cX7_isEmptyInStack : ByteArray := prog_9_method_48_code
def yX7_isEmptyInStack : MethodName := ⟨RX7, "isEmptyInStack", "(I)Z"⟩
abbrev cX7_strikeFor : ByteArray := prog_9_method_49_code
def yX7_strikeFor : MethodName := ⟨RX7, "strikeFor", "(I)I"⟩
abbrev cX7_lasts : ByteArray := prog_9_method_50_code
def yX7_lasts : MethodName := ⟨RX7, "lasts", "(I)I"⟩
abbrev cX7_ifWritten : ByteArray := prog_9_method_51_code
def yX7_ifWritten : MethodName := ⟨RX7, "ifWritten", "(III)I"⟩
abbrev cX7_sign : ByteArray := prog_9_method_52_code
def yX7_sign : MethodName := ⟨RX7, "sign", "()I"⟩
abbrev cX7_one : ByteArray := prog_9_method_53_code
def yX7_one : MethodName := ⟨RX7, "one", "(II)I"⟩
abbrev cX7_between : ByteArray := prog_9_method_54_code
def yX7_between : MethodName := ⟨RX7, "between", "(I)V"⟩
abbrev cX7_number : ByteArray := prog_9_method_55_code
def yX7_number : MethodName := ⟨RX7, "number", "()I"⟩
abbrev cX7_readOne : ByteArray := prog_9_method_56_code
def yX7_readOne : MethodName := ⟨RX7, "readOne", "()V"⟩
abbrev cX7_faultOf : ByteArray := prog_9_method_57_code
def yX7_faultOf : MethodName := ⟨RX7, "faultOf", "()I"⟩
abbrev cX7_put : ByteArray := prog_9_method_58_code
def yX7_put : MethodName := ⟨RX7, "put", "(J)I"⟩
abbrev cX7_wipe : ByteArray := prog_9_method_59_code
def yX7_wipe : MethodName := ⟨RX7, "wipe", "()I"⟩
abbrev cX7_fault : ByteArray := prog_9_method_60_code
def yX7_fault : MethodName := ⟨RX7, "fault", "()I"⟩
abbrev cX7_carry : ByteArray := prog_9_method_61_code
def yX7_carry : MethodName := ⟨RX7, "carry", "(I)I"⟩
abbrev cX7_carryOut : ByteArray := prog_9_method_62_code
def yX7_carryOut : MethodName := ⟨RX7, "carryOut", "()I"⟩
abbrev cX7_undo : ByteArray := prog_9_method_63_code
def yX7_undo : MethodName := ⟨RX7, "undo", "()I"⟩
abbrev cX7_save : ByteArray := prog_9_method_64_code
def yX7_save : MethodName := ⟨RX7, "save", "(I)I"⟩
abbrev cX7_restore : ByteArray := prog_9_method_65_code
def yX7_restore : MethodName := ⟨RX7, "restore", "(I)I"⟩
def RL : String := "CarbonSheetsLaw"
abbrev cL_law : ByteArray := code
def yL_law : MethodName := ⟨RL, "law", "([I)Z"⟩
