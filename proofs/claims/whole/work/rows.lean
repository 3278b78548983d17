section
-- ===== PART A: goes FIRST, ahead of the names: the tables' words, and 'selects' of the private methods out of them =====
/-- a private method of a class that the tables say can be made, by its rows of tables_1 -/
def lw_okq (q : MethodName × Nat) : Prop := (q.1.cls ≠ "java/lang/invoke/MethodHandle" ∧ q.1.cls ≠ "java/lang/invoke/VarHandle") ∧ Cond.instantiable q.1.cls q.2 ∈ tables_1 ∧ Cond.privateMethod q.1 ∈ tables_1 ∧ Cond.instanceMethod q.1 ∈ tables_1
theorem lw_p0 : lw_okq (⟨"RopeLadder", "textOf", "(I)LRopeLadder$Text;"⟩, 10) := ⟨⟨by decide +kernel, by decide +kernel⟩, List.mem_of_getElem? (i := 13) (by decide +kernel), List.mem_of_getElem? (i := 222) (by decide +kernel), List.mem_of_getElem? (i := 223) (by decide +kernel)⟩
theorem lw_p1 : lw_okq (⟨"RopeLadder$Text", "understand", "()V"⟩, 8) := ⟨⟨by decide +kernel, by decide +kernel⟩, List.mem_of_getElem? (i := 21) (by decide +kernel), List.mem_of_getElem? (i := 234) (by decide +kernel), List.mem_of_getElem? (i := 235) (by decide +kernel)⟩
theorem lw_p2 : lw_okq (⟨"RopeLadder$Text", "firstFault", "()I"⟩, 8) := ⟨⟨by decide +kernel, by decide +kernel⟩, List.mem_of_getElem? (i := 21) (by decide +kernel), List.mem_of_getElem? (i := 238) (by decide +kernel), List.mem_of_getElem? (i := 239) (by decide +kernel)⟩
theorem lw_p3 : lw_okq (⟨"RopeLadder$Text", "goesOn", "(I)Z"⟩, 8) := ⟨⟨by decide +kernel, by decide +kernel⟩, List.mem_of_getElem? (i := 21) (by decide +kernel), List.mem_of_getElem? (i := 242) (by decide +kernel), List.mem_of_getElem? (i := 243) (by decide +kernel)⟩
theorem lw_p4 : lw_okq (⟨"RopeLadder$Text", "byteAt", "(I)I"⟩, 8) := ⟨⟨by decide +kernel, by decide +kernel⟩, List.mem_of_getElem? (i := 21) (by decide +kernel), List.mem_of_getElem? (i := 246) (by decide +kernel), List.mem_of_getElem? (i := 247) (by decide +kernel)⟩
theorem lw_p5 : lw_okq (⟨"RopeLadder$Text", "twoFiguresAt", "(I)I"⟩, 8) := ⟨⟨by decide +kernel, by decide +kernel⟩, List.mem_of_getElem? (i := 21) (by decide +kernel), List.mem_of_getElem? (i := 250) (by decide +kernel), List.mem_of_getElem? (i := 251) (by decide +kernel)⟩
theorem lw_p6 : lw_okq (⟨"RopeLadder", "takeUpTexts", "()V"⟩, 10) := ⟨⟨by decide +kernel, by decide +kernel⟩, List.mem_of_getElem? (i := 13) (by decide +kernel), List.mem_of_getElem? (i := 254) (by decide +kernel), List.mem_of_getElem? (i := 255) (by decide +kernel)⟩
theorem lw_p7 : lw_okq (⟨"RopeLadder$Sea", "alone", "(III)I"⟩, 6) := ⟨⟨by decide +kernel, by decide +kernel⟩, List.mem_of_getElem? (i := 57) (by decide +kernel), List.mem_of_getElem? (i := 266) (by decide +kernel), List.mem_of_getElem? (i := 267) (by decide +kernel)⟩
theorem lw_p8 : lw_okq (⟨"RopeLadder$Sea", "cutByLee", "(II)I"⟩, 6) := ⟨⟨by decide +kernel, by decide +kernel⟩, List.mem_of_getElem? (i := 57) (by decide +kernel), List.mem_of_getElem? (i := 281) (by decide +kernel), List.mem_of_getElem? (i := 282) (by decide +kernel)⟩
theorem lw_p9 : lw_okq (⟨"RopeLadder", "isSwell", "(I)Z"⟩, 10) := ⟨⟨by decide +kernel, by decide +kernel⟩, List.mem_of_getElem? (i := 13) (by decide +kernel), List.mem_of_getElem? (i := 311) (by decide +kernel), List.mem_of_getElem? (i := 312) (by decide +kernel)⟩
theorem lw_p10 : lw_okq (⟨"RopeLadder", "stepAt", "(I)I"⟩, 10) := ⟨⟨by decide +kernel, by decide +kernel⟩, List.mem_of_getElem? (i := 13) (by decide +kernel), List.mem_of_getElem? (i := 433) (by decide +kernel), List.mem_of_getElem? (i := 434) (by decide +kernel)⟩
theorem lw_p11 : lw_okq (⟨"RopeLadder", "oddsToFall", "(I)I"⟩, 10) := ⟨⟨by decide +kernel, by decide +kernel⟩, List.mem_of_getElem? (i := 13) (by decide +kernel), List.mem_of_getElem? (i := 441) (by decide +kernel), List.mem_of_getElem? (i := 442) (by decide +kernel)⟩
theorem lw_p12 : lw_okq (⟨"RopeLadder$Climb", "rungHeight", "(I)I"⟩, 5) := ⟨⟨by decide +kernel, by decide +kernel⟩, List.mem_of_getElem? (i := 112) (by decide +kernel), List.mem_of_getElem? (i := 461) (by decide +kernel), List.mem_of_getElem? (i := 462) (by decide +kernel)⟩
theorem lw_p13 : lw_okq (⟨"RopeLadder", "chance", "(I)J"⟩, 10) := ⟨⟨by decide +kernel, by decide +kernel⟩, List.mem_of_getElem? (i := 13) (by decide +kernel), List.mem_of_getElem? (i := 475) (by decide +kernel), List.mem_of_getElem? (i := 476) (by decide +kernel)⟩
theorem lw_p14 : lw_okq (⟨"RopeLadder", "distanceToFoot", "(I)I"⟩, 10) := ⟨⟨by decide +kernel, by decide +kernel⟩, List.mem_of_getElem? (i := 13) (by decide +kernel), List.mem_of_getElem? (i := 498) (by decide +kernel), List.mem_of_getElem? (i := 499) (by decide +kernel)⟩
theorem lw_p15 : lw_okq (⟨"RopeLadder$Sea", "heightWithoutLee", "(I)I"⟩, 6) := ⟨⟨by decide +kernel, by decide +kernel⟩, List.mem_of_getElem? (i := 57) (by decide +kernel), List.mem_of_getElem? (i := 513) (by decide +kernel), List.mem_of_getElem? (i := 514) (by decide +kernel)⟩
def lw_privs_1 : List (MethodName × Nat) := [(⟨"RopeLadder", "textOf", "(I)LRopeLadder$Text;"⟩, 10), (⟨"RopeLadder$Text", "understand", "()V"⟩, 8), (⟨"RopeLadder$Text", "firstFault", "()I"⟩, 8), (⟨"RopeLadder$Text", "goesOn", "(I)Z"⟩, 8), (⟨"RopeLadder$Text", "byteAt", "(I)I"⟩, 8), (⟨"RopeLadder$Text", "twoFiguresAt", "(I)I"⟩, 8), (⟨"RopeLadder", "takeUpTexts", "()V"⟩, 10), (⟨"RopeLadder$Sea", "alone", "(III)I"⟩, 6), (⟨"RopeLadder$Sea", "cutByLee", "(II)I"⟩, 6), (⟨"RopeLadder", "isSwell", "(I)Z"⟩, 10), (⟨"RopeLadder", "stepAt", "(I)I"⟩, 10), (⟨"RopeLadder", "oddsToFall", "(I)I"⟩, 10), (⟨"RopeLadder$Climb", "rungHeight", "(I)I"⟩, 5), (⟨"RopeLadder", "chance", "(I)J"⟩, 10), (⟨"RopeLadder", "distanceToFoot", "(I)I"⟩, 10), (⟨"RopeLadder$Sea", "heightWithoutLee", "(I)I"⟩, 6)]
theorem lw_r1 : ∀ q ∈ lw_privs_1, lw_okq q := List.forall_mem_cons.mpr ⟨lw_p0, List.forall_mem_cons.mpr ⟨lw_p1, List.forall_mem_cons.mpr ⟨lw_p2, List.forall_mem_cons.mpr ⟨lw_p3, List.forall_mem_cons.mpr ⟨lw_p4, List.forall_mem_cons.mpr ⟨lw_p5, List.forall_mem_cons.mpr ⟨lw_p6, List.forall_mem_cons.mpr ⟨lw_p7, List.forall_mem_cons.mpr ⟨lw_p8, List.forall_mem_cons.mpr ⟨lw_p9, List.forall_mem_cons.mpr ⟨lw_p10, List.forall_mem_cons.mpr ⟨lw_p11, List.forall_mem_cons.mpr ⟨lw_p12, List.forall_mem_cons.mpr ⟨lw_p13, List.forall_mem_cons.mpr ⟨lw_p14, List.forall_mem_cons.mpr ⟨lw_p15, fun _ h => absurd h List.not_mem_nil⟩⟩⟩⟩⟩⟩⟩⟩⟩⟩⟩⟩⟩⟩⟩⟩
theorem lw_p16 : lw_okq (⟨"RopeLadder", "sheetOf", "(I)LRopeLadder$Sheet;"⟩, 10) := ⟨⟨by decide +kernel, by decide +kernel⟩, List.mem_of_getElem? (i := 13) (by decide +kernel), List.mem_of_getElem? (i := 546) (by decide +kernel), List.mem_of_getElem? (i := 547) (by decide +kernel)⟩
theorem lw_p17 : lw_okq (⟨"RopeLadder", "find", "(I)I"⟩, 10) := ⟨⟨by decide +kernel, by decide +kernel⟩, List.mem_of_getElem? (i := 13) (by decide +kernel), List.mem_of_getElem? (i := 550) (by decide +kernel), List.mem_of_getElem? (i := 551) (by decide +kernel)⟩
theorem lw_p18 : lw_okq (⟨"RopeLadder", "allSeenComesOut", "(II)Z"⟩, 10) := ⟨⟨by decide +kernel, by decide +kernel⟩, List.mem_of_getElem? (i := 13) (by decide +kernel), List.mem_of_getElem? (i := 563) (by decide +kernel), List.mem_of_getElem? (i := 564) (by decide +kernel)⟩
theorem lw_p19 : lw_okq (⟨"RopeLadder", "nextStep", "(I)I"⟩, 10) := ⟨⟨by decide +kernel, by decide +kernel⟩, List.mem_of_getElem? (i := 13) (by decide +kernel), List.mem_of_getElem? (i := 583) (by decide +kernel), List.mem_of_getElem? (i := 584) (by decide +kernel)⟩
theorem lw_p20 : lw_okq (⟨"RopeLadder", "getsUp", "(I)Z"⟩, 10) := ⟨⟨by decide +kernel, by decide +kernel⟩, List.mem_of_getElem? (i := 13) (by decide +kernel), List.mem_of_getElem? (i := 592) (by decide +kernel), List.mem_of_getElem? (i := 593) (by decide +kernel)⟩
theorem lw_p21 : lw_okq (⟨"RopeLadder$Sheet", "narrow", "(I)I"⟩, 4) := ⟨⟨by decide +kernel, by decide +kernel⟩, List.mem_of_getElem? (i := 165) (by decide +kernel), List.mem_of_getElem? (i := 623) (by decide +kernel), List.mem_of_getElem? (i := 624) (by decide +kernel)⟩
theorem lw_p22 : lw_okq (⟨"RopeLadderModel", "faultOf", "(I)I"⟩, 22) := ⟨⟨by decide +kernel, by decide +kernel⟩, List.mem_of_getElem? (i := 696) (by decide +kernel), List.mem_of_getElem? (i := 792) (by decide +kernel), List.mem_of_getElem? (i := 793) (by decide +kernel)⟩
theorem lw_p23 : lw_okq (⟨"RopeLadderModel", "readsText", "(I)I"⟩, 22) := ⟨⟨by decide +kernel, by decide +kernel⟩, List.mem_of_getElem? (i := 696) (by decide +kernel), List.mem_of_getElem? (i := 796) (by decide +kernel), List.mem_of_getElem? (i := 797) (by decide +kernel)⟩
theorem lw_p24 : lw_okq (⟨"RopeLadderModel", "figureAt", "(II)I"⟩, 22) := ⟨⟨by decide +kernel, by decide +kernel⟩, List.mem_of_getElem? (i := 696) (by decide +kernel), List.mem_of_getElem? (i := 800) (by decide +kernel), List.mem_of_getElem? (i := 801) (by decide +kernel)⟩
theorem lw_p25 : lw_okq (⟨"RopeLadderModel", "isSwell", "(I)Z"⟩, 22) := ⟨⟨by decide +kernel, by decide +kernel⟩, List.mem_of_getElem? (i := 696) (by decide +kernel), List.mem_of_getElem? (i := 808) (by decide +kernel), List.mem_of_getElem? (i := 809) (by decide +kernel)⟩
theorem lw_p26 : lw_okq (⟨"RopeLadderModel", "reads", "()V"⟩, 22) := ⟨⟨by decide +kernel, by decide +kernel⟩, List.mem_of_getElem? (i := 696) (by decide +kernel), List.mem_of_getElem? (i := 812) (by decide +kernel), List.mem_of_getElem? (i := 813) (by decide +kernel)⟩
theorem lw_p27 : lw_okq (⟨"RopeLadderModel", "rollOf", "(I)I"⟩, 22) := ⟨⟨by decide +kernel, by decide +kernel⟩, List.mem_of_getElem? (i := 696) (by decide +kernel), List.mem_of_getElem? (i := 820) (by decide +kernel), List.mem_of_getElem? (i := 821) (by decide +kernel)⟩
theorem lw_p28 : lw_okq (⟨"RopeLadderModel", "highOfTenth", "(I)I"⟩, 22) := ⟨⟨by decide +kernel, by decide +kernel⟩, List.mem_of_getElem? (i := 696) (by decide +kernel), List.mem_of_getElem? (i := 849) (by decide +kernel), List.mem_of_getElem? (i := 850) (by decide +kernel)⟩
theorem lw_p29 : lw_okq (⟨"RopeLadderModel", "highBy", "(I)I"⟩, 22) := ⟨⟨by decide +kernel, by decide +kernel⟩, List.mem_of_getElem? (i := 696) (by decide +kernel), List.mem_of_getElem? (i := 853) (by decide +kernel), List.mem_of_getElem? (i := 854) (by decide +kernel)⟩
theorem lw_p30 : lw_okq (⟨"RopeLadderModel", "isLee", "(I)Z"⟩, 22) := ⟨⟨by decide +kernel, by decide +kernel⟩, List.mem_of_getElem? (i := 696) (by decide +kernel), List.mem_of_getElem? (i := 857) (by decide +kernel), List.mem_of_getElem? (i := 858) (by decide +kernel)⟩
theorem lw_p31 : lw_okq (⟨"RopeLadderModel", "rawHigh", "(I)I"⟩, 22) := ⟨⟨by decide +kernel, by decide +kernel⟩, List.mem_of_getElem? (i := 696) (by decide +kernel), List.mem_of_getElem? (i := 861) (by decide +kernel), List.mem_of_getElem? (i := 862) (by decide +kernel)⟩
def lw_privs_2 : List (MethodName × Nat) := [(⟨"RopeLadder", "sheetOf", "(I)LRopeLadder$Sheet;"⟩, 10), (⟨"RopeLadder", "find", "(I)I"⟩, 10), (⟨"RopeLadder", "allSeenComesOut", "(II)Z"⟩, 10), (⟨"RopeLadder", "nextStep", "(I)I"⟩, 10), (⟨"RopeLadder", "getsUp", "(I)Z"⟩, 10), (⟨"RopeLadder$Sheet", "narrow", "(I)I"⟩, 4), (⟨"RopeLadderModel", "faultOf", "(I)I"⟩, 22), (⟨"RopeLadderModel", "readsText", "(I)I"⟩, 22), (⟨"RopeLadderModel", "figureAt", "(II)I"⟩, 22), (⟨"RopeLadderModel", "isSwell", "(I)Z"⟩, 22), (⟨"RopeLadderModel", "reads", "()V"⟩, 22), (⟨"RopeLadderModel", "rollOf", "(I)I"⟩, 22), (⟨"RopeLadderModel", "highOfTenth", "(I)I"⟩, 22), (⟨"RopeLadderModel", "highBy", "(I)I"⟩, 22), (⟨"RopeLadderModel", "isLee", "(I)Z"⟩, 22), (⟨"RopeLadderModel", "rawHigh", "(I)I"⟩, 22)]
theorem lw_r2 : ∀ q ∈ lw_privs_2, lw_okq q := List.forall_mem_cons.mpr ⟨lw_p16, List.forall_mem_cons.mpr ⟨lw_p17, List.forall_mem_cons.mpr ⟨lw_p18, List.forall_mem_cons.mpr ⟨lw_p19, List.forall_mem_cons.mpr ⟨lw_p20, List.forall_mem_cons.mpr ⟨lw_p21, List.forall_mem_cons.mpr ⟨lw_p22, List.forall_mem_cons.mpr ⟨lw_p23, List.forall_mem_cons.mpr ⟨lw_p24, List.forall_mem_cons.mpr ⟨lw_p25, List.forall_mem_cons.mpr ⟨lw_p26, List.forall_mem_cons.mpr ⟨lw_p27, List.forall_mem_cons.mpr ⟨lw_p28, List.forall_mem_cons.mpr ⟨lw_p29, List.forall_mem_cons.mpr ⟨lw_p30, List.forall_mem_cons.mpr ⟨lw_p31, fun _ h => absurd h List.not_mem_nil⟩⟩⟩⟩⟩⟩⟩⟩⟩⟩⟩⟩⟩⟩⟩⟩
theorem lw_p32 : lw_okq (⟨"RopeLadderModel", "doesOf", "(I)I"⟩, 22) := ⟨⟨by decide +kernel, by decide +kernel⟩, List.mem_of_getElem? (i := 696) (by decide +kernel), List.mem_of_getElem? (i := 869) (by decide +kernel), List.mem_of_getElem? (i := 870) (by decide +kernel)⟩
theorem lw_p33 : lw_okq (⟨"RopeLadderModel", "lays", "()V"⟩, 22) := ⟨⟨by decide +kernel, by decide +kernel⟩, List.mem_of_getElem? (i := 696) (by decide +kernel), List.mem_of_getElem? (i := 873) (by decide +kernel), List.mem_of_getElem? (i := 874) (by decide +kernel)⟩
theorem lw_p34 : lw_okq (⟨"RopeLadderModel", "doesNow", "(I)I"⟩, 22) := ⟨⟨by decide +kernel, by decide +kernel⟩, List.mem_of_getElem? (i := 696) (by decide +kernel), List.mem_of_getElem? (i := 877) (by decide +kernel), List.mem_of_getElem? (i := 878) (by decide +kernel)⟩
theorem lw_p35 : lw_okq (⟨"RopeLadderModel", "leansOf", "(I)I"⟩, 22) := ⟨⟨by decide +kernel, by decide +kernel⟩, List.mem_of_getElem? (i := 696) (by decide +kernel), List.mem_of_getElem? (i := 885) (by decide +kernel), List.mem_of_getElem? (i := 886) (by decide +kernel)⟩
theorem lw_p36 : lw_okq (⟨"RopeLadderModel", "leansNow", "(I)I"⟩, 22) := ⟨⟨by decide +kernel, by decide +kernel⟩, List.mem_of_getElem? (i := 696) (by decide +kernel), List.mem_of_getElem? (i := 889) (by decide +kernel), List.mem_of_getElem? (i := 890) (by decide +kernel)⟩
theorem lw_p37 : lw_okq (⟨"RopeLadderModel", "crestOf", "(II)I"⟩, 22) := ⟨⟨by decide +kernel, by decide +kernel⟩, List.mem_of_getElem? (i := 696) (by decide +kernel), List.mem_of_getElem? (i := 897) (by decide +kernel), List.mem_of_getElem? (i := 898) (by decide +kernel)⟩
theorem lw_p38 : lw_okq (⟨"RopeLadderModel", "nextCrest", "(I)I"⟩, 22) := ⟨⟨by decide +kernel, by decide +kernel⟩, List.mem_of_getElem? (i := 696) (by decide +kernel), List.mem_of_getElem? (i := 901) (by decide +kernel), List.mem_of_getElem? (i := 902) (by decide +kernel)⟩
theorem lw_p39 : lw_okq (⟨"RopeLadderModel", "seventhOf", "(I)I"⟩, 22) := ⟨⟨by decide +kernel, by decide +kernel⟩, List.mem_of_getElem? (i := 696) (by decide +kernel), List.mem_of_getElem? (i := 909) (by decide +kernel), List.mem_of_getElem? (i := 910) (by decide +kernel)⟩
theorem lw_p40 : lw_okq (⟨"RopeLadderModel", "lullOf", "(III)I"⟩, 22) := ⟨⟨by decide +kernel, by decide +kernel⟩, List.mem_of_getElem? (i := 696) (by decide +kernel), List.mem_of_getElem? (i := 920) (by decide +kernel), List.mem_of_getElem? (i := 921) (by decide +kernel)⟩
theorem lw_p41 : lw_okq (⟨"RopeLadderModel", "stepOf", "(I)I"⟩, 22) := ⟨⟨by decide +kernel, by decide +kernel⟩, List.mem_of_getElem? (i := 696) (by decide +kernel), List.mem_of_getElem? (i := 928) (by decide +kernel), List.mem_of_getElem? (i := 929) (by decide +kernel)⟩
theorem lw_p42 : lw_okq (⟨"RopeLadderModel", "stepNow", "(I)I"⟩, 22) := ⟨⟨by decide +kernel, by decide +kernel⟩, List.mem_of_getElem? (i := 696) (by decide +kernel), List.mem_of_getElem? (i := 932) (by decide +kernel), List.mem_of_getElem? (i := 933) (by decide +kernel)⟩
theorem lw_p43 : lw_okq (⟨"RopeLadderModel", "fallOf", "(I)I"⟩, 22) := ⟨⟨by decide +kernel, by decide +kernel⟩, List.mem_of_getElem? (i := 696) (by decide +kernel), List.mem_of_getElem? (i := 940) (by decide +kernel), List.mem_of_getElem? (i := 941) (by decide +kernel)⟩
theorem lw_p44 : lw_okq (⟨"RopeLadderModel", "fallNow", "(I)I"⟩, 22) := ⟨⟨by decide +kernel, by decide +kernel⟩, List.mem_of_getElem? (i := 696) (by decide +kernel), List.mem_of_getElem? (i := 944) (by decide +kernel), List.mem_of_getElem? (i := 945) (by decide +kernel)⟩
theorem lw_p45 : lw_okq (⟨"RopeLadderModel", "climbOf", "(I)I"⟩, 22) := ⟨⟨by decide +kernel, by decide +kernel⟩, List.mem_of_getElem? (i := 696) (by decide +kernel), List.mem_of_getElem? (i := 952) (by decide +kernel), List.mem_of_getElem? (i := 953) (by decide +kernel)⟩
theorem lw_p46 : lw_okq (⟨"RopeLadderModel", "climbs", "(I)I"⟩, 22) := ⟨⟨by decide +kernel, by decide +kernel⟩, List.mem_of_getElem? (i := 696) (by decide +kernel), List.mem_of_getElem? (i := 956) (by decide +kernel), List.mem_of_getElem? (i := 957) (by decide +kernel)⟩
theorem lw_p47 : lw_okq (⟨"RopeLadderModel", "bangsOf", "(I)I"⟩, 22) := ⟨⟨by decide +kernel, by decide +kernel⟩, List.mem_of_getElem? (i := 696) (by decide +kernel), List.mem_of_getElem? (i := 964) (by decide +kernel), List.mem_of_getElem? (i := 965) (by decide +kernel)⟩
def lw_privs_3 : List (MethodName × Nat) := [(⟨"RopeLadderModel", "doesOf", "(I)I"⟩, 22), (⟨"RopeLadderModel", "lays", "()V"⟩, 22), (⟨"RopeLadderModel", "doesNow", "(I)I"⟩, 22), (⟨"RopeLadderModel", "leansOf", "(I)I"⟩, 22), (⟨"RopeLadderModel", "leansNow", "(I)I"⟩, 22), (⟨"RopeLadderModel", "crestOf", "(II)I"⟩, 22), (⟨"RopeLadderModel", "nextCrest", "(I)I"⟩, 22), (⟨"RopeLadderModel", "seventhOf", "(I)I"⟩, 22), (⟨"RopeLadderModel", "lullOf", "(III)I"⟩, 22), (⟨"RopeLadderModel", "stepOf", "(I)I"⟩, 22), (⟨"RopeLadderModel", "stepNow", "(I)I"⟩, 22), (⟨"RopeLadderModel", "fallOf", "(I)I"⟩, 22), (⟨"RopeLadderModel", "fallNow", "(I)I"⟩, 22), (⟨"RopeLadderModel", "climbOf", "(I)I"⟩, 22), (⟨"RopeLadderModel", "climbs", "(I)I"⟩, 22), (⟨"RopeLadderModel", "bangsOf", "(I)I"⟩, 22)]
theorem lw_r3 : ∀ q ∈ lw_privs_3, lw_okq q := List.forall_mem_cons.mpr ⟨lw_p32, List.forall_mem_cons.mpr ⟨lw_p33, List.forall_mem_cons.mpr ⟨lw_p34, List.forall_mem_cons.mpr ⟨lw_p35, List.forall_mem_cons.mpr ⟨lw_p36, List.forall_mem_cons.mpr ⟨lw_p37, List.forall_mem_cons.mpr ⟨lw_p38, List.forall_mem_cons.mpr ⟨lw_p39, List.forall_mem_cons.mpr ⟨lw_p40, List.forall_mem_cons.mpr ⟨lw_p41, List.forall_mem_cons.mpr ⟨lw_p42, List.forall_mem_cons.mpr ⟨lw_p43, List.forall_mem_cons.mpr ⟨lw_p44, List.forall_mem_cons.mpr ⟨lw_p45, List.forall_mem_cons.mpr ⟨lw_p46, List.forall_mem_cons.mpr ⟨lw_p47, fun _ h => absurd h List.not_mem_nil⟩⟩⟩⟩⟩⟩⟩⟩⟩⟩⟩⟩⟩⟩⟩⟩
theorem lw_p48 : lw_okq (⟨"RopeLadderModel", "safeOf", "(II)J"⟩, 22) := ⟨⟨by decide +kernel, by decide +kernel⟩, List.mem_of_getElem? (i := 696) (by decide +kernel), List.mem_of_getElem? (i := 972) (by decide +kernel), List.mem_of_getElem? (i := 973) (by decide +kernel)⟩
theorem lw_p49 : lw_okq (⟨"RopeLadderModel", "safeNow", "(I)J"⟩, 22) := ⟨⟨by decide +kernel, by decide +kernel⟩, List.mem_of_getElem? (i := 696) (by decide +kernel), List.mem_of_getElem? (i := 976) (by decide +kernel), List.mem_of_getElem? (i := 977) (by decide +kernel)⟩
theorem lw_p50 : lw_okq (⟨"RopeLadderModel", "bestOf", "(II)I"⟩, 22) := ⟨⟨by decide +kernel, by decide +kernel⟩, List.mem_of_getElem? (i := 696) (by decide +kernel), List.mem_of_getElem? (i := 994) (by decide +kernel), List.mem_of_getElem? (i := 995) (by decide +kernel)⟩
theorem lw_p51 : lw_okq (⟨"RopeLadderModel", "callOf", "(II)I"⟩, 22) := ⟨⟨by decide +kernel, by decide +kernel⟩, List.mem_of_getElem? (i := 696) (by decide +kernel), List.mem_of_getElem? (i := 1002) (by decide +kernel), List.mem_of_getElem? (i := 1003) (by decide +kernel)⟩
theorem lw_p52 : lw_okq (⟨"RopeLadderModel", "downOf", "(III)I"⟩, 22) := ⟨⟨by decide +kernel, by decide +kernel⟩, List.mem_of_getElem? (i := 696) (by decide +kernel), List.mem_of_getElem? (i := 1010) (by decide +kernel), List.mem_of_getElem? (i := 1011) (by decide +kernel)⟩
theorem lw_p53 : lw_okq (⟨"RopeLadderModel", "savesNow", "()I"⟩, 22) := ⟨⟨by decide +kernel, by decide +kernel⟩, List.mem_of_getElem? (i := 696) (by decide +kernel), List.mem_of_getElem? (i := 1018) (by decide +kernel), List.mem_of_getElem? (i := 1019) (by decide +kernel)⟩
theorem lw_p54 : lw_okq (⟨"RopeLadderModel", "ladderOf", "(II)I"⟩, 22) := ⟨⟨by decide +kernel, by decide +kernel⟩, List.mem_of_getElem? (i := 696) (by decide +kernel), List.mem_of_getElem? (i := 1026) (by decide +kernel), List.mem_of_getElem? (i := 1027) (by decide +kernel)⟩
theorem lw_p55 : lw_okq (⟨"RopeLadderModel", "meets", "(I)I"⟩, 22) := ⟨⟨by decide +kernel, by decide +kernel⟩, List.mem_of_getElem? (i := 696) (by decide +kernel), List.mem_of_getElem? (i := 1045) (by decide +kernel), List.mem_of_getElem? (i := 1046) (by decide +kernel)⟩
theorem lw_p56 : lw_okq (⟨"RopeLadderModel", "learnOf", "(II)I"⟩, 22) := ⟨⟨by decide +kernel, by decide +kernel⟩, List.mem_of_getElem? (i := 696) (by decide +kernel), List.mem_of_getElem? (i := 1054) (by decide +kernel), List.mem_of_getElem? (i := 1055) (by decide +kernel)⟩
theorem lw_p57 : lw_okq (⟨"RopeLadderModel", "nightOf", "(II)I"⟩, 22) := ⟨⟨by decide +kernel, by decide +kernel⟩, List.mem_of_getElem? (i := 696) (by decide +kernel), List.mem_of_getElem? (i := 1062) (by decide +kernel), List.mem_of_getElem? (i := 1063) (by decide +kernel)⟩
theorem lw_p58 : lw_okq (⟨"RopeLadderModel", "lot", "(I)I"⟩, 22) := ⟨⟨by decide +kernel, by decide +kernel⟩, List.mem_of_getElem? (i := 696) (by decide +kernel), List.mem_of_getElem? (i := 1066) (by decide +kernel), List.mem_of_getElem? (i := 1067) (by decide +kernel)⟩
theorem lw_p59 : lw_okq (⟨"RopeLadderModel", "lacks", "(III)I"⟩, 22) := ⟨⟨by decide +kernel, by decide +kernel⟩, List.mem_of_getElem? (i := 696) (by decide +kernel), List.mem_of_getElem? (i := 1083) (by decide +kernel), List.mem_of_getElem? (i := 1084) (by decide +kernel)⟩
theorem lw_p60 : lw_okq (⟨"RopeLadderModel", "keep", "(III)V"⟩, 22) := ⟨⟨by decide +kernel, by decide +kernel⟩, List.mem_of_getElem? (i := 696) (by decide +kernel), List.mem_of_getElem? (i := 1087) (by decide +kernel), List.mem_of_getElem? (i := 1088) (by decide +kernel)⟩
theorem lw_p61 : lw_okq (⟨"RopeLadderModel", "sumOf", "(I)I"⟩, 22) := ⟨⟨by decide +kernel, by decide +kernel⟩, List.mem_of_getElem? (i := 696) (by decide +kernel), List.mem_of_getElem? (i := 1108) (by decide +kernel), List.mem_of_getElem? (i := 1109) (by decide +kernel)⟩
theorem lw_p62 : lw_okq (⟨"RopeLadderModel", "tenthDigest", "(JI)J"⟩, 22) := ⟨⟨by decide +kernel, by decide +kernel⟩, List.mem_of_getElem? (i := 696) (by decide +kernel), List.mem_of_getElem? (i := 1119) (by decide +kernel), List.mem_of_getElem? (i := 1120) (by decide +kernel)⟩
def lw_privs_4 : List (MethodName × Nat) := [(⟨"RopeLadderModel", "safeOf", "(II)J"⟩, 22), (⟨"RopeLadderModel", "safeNow", "(I)J"⟩, 22), (⟨"RopeLadderModel", "bestOf", "(II)I"⟩, 22), (⟨"RopeLadderModel", "callOf", "(II)I"⟩, 22), (⟨"RopeLadderModel", "downOf", "(III)I"⟩, 22), (⟨"RopeLadderModel", "savesNow", "()I"⟩, 22), (⟨"RopeLadderModel", "ladderOf", "(II)I"⟩, 22), (⟨"RopeLadderModel", "meets", "(I)I"⟩, 22), (⟨"RopeLadderModel", "learnOf", "(II)I"⟩, 22), (⟨"RopeLadderModel", "nightOf", "(II)I"⟩, 22), (⟨"RopeLadderModel", "lot", "(I)I"⟩, 22), (⟨"RopeLadderModel", "lacks", "(III)I"⟩, 22), (⟨"RopeLadderModel", "keep", "(III)V"⟩, 22), (⟨"RopeLadderModel", "sumOf", "(I)I"⟩, 22), (⟨"RopeLadderModel", "tenthDigest", "(JI)J"⟩, 22)]
theorem lw_r4 : ∀ q ∈ lw_privs_4, lw_okq q := List.forall_mem_cons.mpr ⟨lw_p48, List.forall_mem_cons.mpr ⟨lw_p49, List.forall_mem_cons.mpr ⟨lw_p50, List.forall_mem_cons.mpr ⟨lw_p51, List.forall_mem_cons.mpr ⟨lw_p52, List.forall_mem_cons.mpr ⟨lw_p53, List.forall_mem_cons.mpr ⟨lw_p54, List.forall_mem_cons.mpr ⟨lw_p55, List.forall_mem_cons.mpr ⟨lw_p56, List.forall_mem_cons.mpr ⟨lw_p57, List.forall_mem_cons.mpr ⟨lw_p58, List.forall_mem_cons.mpr ⟨lw_p59, List.forall_mem_cons.mpr ⟨lw_p60, List.forall_mem_cons.mpr ⟨lw_p61, List.forall_mem_cons.mpr ⟨lw_p62, fun _ h => absurd h List.not_mem_nil⟩⟩⟩⟩⟩⟩⟩⟩⟩⟩⟩⟩⟩⟩⟩
def lw_privs : List (MethodName × Nat) := lw_privs_1 ++ (lw_privs_2 ++ (lw_privs_3 ++ (lw_privs_4)))
def lw_tbl : List Cond := k2_sels lw_privs ++ tables_1
theorem lw_privs_ok : ∀ q ∈ lw_privs, lw_okq q := by
  show ∀ q ∈ lw_privs_1 ++ (lw_privs_2 ++ (lw_privs_3 ++ (lw_privs_4))), lw_okq q
  exact List.forall_mem_append.mpr ⟨lw_r1, List.forall_mem_append.mpr ⟨lw_r2, List.forall_mem_append.mpr ⟨lw_r3, lw_r4⟩⟩⟩
end
section
/-! ===== BEGIN words of one list among another's, by their places ===== -/
theorem goodIn_r {big : List Cond} (ws : List Cond) (ps : List Nat) (hp : ws = ps.filterMap (fun i => big[i]?)) (h : ws.all goodWord = true) : GoodIn big ws := by
  intro w hw
  have h1 := List.all_eq_true.mp h w hw
  rw [hp] at hw
  obtain ⟨i, -, hi⟩ := List.mem_filterMap.mp hw
  have hm : w ∈ big := by first | exact List.mem_of_getElem? hi | exact List.getElem?_mem hi
  exact ⟨hm, good_of_word h1⟩
theorem goodIn_app {big a b : List Cond} (ha : GoodIn big a) (hb : GoodIn big b) : GoodIn big (a ++ b) := fun w h => (List.mem_append.mp h).elim (ha w) (hb w)
theorem goodIn_ca {big a b : List Cond} {c : Cond} (ha : GoodIn big (c :: a)) (hb : GoodIn big b) : GoodIn big (c :: (a ++ b)) := fun w h => (List.mem_cons.mp h).elim (fun e => ha w (List.mem_cons.mpr (Or.inl e))) (fun h => (List.mem_append.mp h).elim (fun h => ha w (List.mem_cons.mpr (Or.inr h))) (hb w))
theorem goodIn_sub {big ws : List Cond} (hm : ∀ w ∈ ws, w ∈ big) (h : ws.all goodWord = true) : GoodIn big ws := fun w hw => ⟨hm w hw, good_of_word (List.all_eq_true.mp h w hw)⟩
/-! ===== END ===== -/

/-! ===== BEGIN printed: names, fields, word lists, decode rows ===== -/
def RX0 : String := "RopeLadder$Climb"
def TX0 : u_T := fun k => match k with
  | 0 => ("RopeLadder$Climb", "sea", "LRopeLadder$Sea;", true)
  | 1 => ("RopeLadder$Climb", "ship", "LRopeLadder$Ship;", true)
  | 2 => ("RopeLadder$Climb", "settings", "LRopeLadder$Settings;", true)
  | 3 => ("RopeLadder$Climb", "end", "I", false)
  | _ => ("RopeLadder$Climb", "banged", "I", false)
def tyX0 : Nat → FieldType := fun k => match k with
  | 0 => .object "RopeLadder$Sea"
  | 1 => .object "RopeLadder$Ship"
  | 2 => .object "RopeLadder$Settings"
  | 3 => .int
  | _ => .int
abbrev wsX00 : List Cond := u_ws RX0 TX0 5
theorem nmX0 : ∀ a, a < 5 → ∀ b, b < 5 → a ≠ b → (TX0 a).2.1 ≠ (TX0 b).2.1 := by decide +kernel
theorem tyX0_ok : ∀ k, k < 5 → parseFieldDescriptor (TX0 k).2.2.1 = some (tyX0 k) := by decide +kernel
abbrev cX0_init : ByteArray := prog_2_method_1_code
def yX0_init : MethodName := ⟨RX0, "<init>", "(LRopeLadder$Sea;LRopeLadder$Ship;LRopeLadder$Settings;)V"⟩
abbrev cX0_goFrom : ByteArray := prog_2_method_2_code
def yX0_goFrom : MethodName := ⟨RX0, "goFrom", "(I)V"⟩
abbrev cX0_rungHeight : ByteArray := prog_2_method_3_code
def yX0_rungHeight : MethodName := ⟨RX0, "rungHeight", "(I)I"⟩
def RX1 : String := "RopeLadder$Lots"
def TX1 : u_T := fun k => match k with
  | _ => ("RopeLadder$Lots", "seed", "I", false)
def tyX1 : Nat → FieldType := fun k => match k with
  | _ => .int
abbrev wsX10 : List Cond := u_ws RX1 TX1 1
theorem nmX1 : ∀ a, a < 1 → ∀ b, b < 1 → a ≠ b → (TX1 a).2.1 ≠ (TX1 b).2.1 := by decide +kernel
theorem tyX1_ok : ∀ k, k < 1 → parseFieldDescriptor (TX1 k).2.2.1 = some (tyX1 k) := by decide +kernel
abbrev cX1_init : ByteArray := prog_3_method_1_code
def yX1_init : MethodName := ⟨RX1, "<init>", "()V"⟩
abbrev cX1_draw : ByteArray := prog_3_method_2_code
def yX1_draw : MethodName := ⟨RX1, "draw", "(I)I"⟩
def RX2 : String := "RopeLadder$Sea"
def TX2 : u_T := fun k => match k with
  | 0 => ("RopeLadder$Sea", "swells", "LRopeLadder$Text;", true)
  | 1 => ("RopeLadder$Sea", "begins", "[I", true)
  | 2 => ("RopeLadder$Sea", "withoutLee", "[I", true)
  | 3 => ("RopeLadder$Sea", "heights", "[I", true)
  | 4 => ("RopeLadder$Sea", "leeFrom", "I", false)
  | _ => ("RopeLadder$Sea", "leeMany", "I", false)
def tyX2 : Nat → FieldType := fun k => match k with
  | 0 => .object "RopeLadder$Text"
  | 1 => .array .int
  | 2 => .array .int
  | 3 => .array .int
  | 4 => .int
  | _ => .int
abbrev wsX20 : List Cond := u_ws RX2 TX2 6
theorem nmX2 : ∀ a, a < 6 → ∀ b, b < 6 → a ≠ b → (TX2 a).2.1 ≠ (TX2 b).2.1 := by decide +kernel
theorem tyX2_ok : ∀ k, k < 6 → parseFieldDescriptor (TX2 k).2.2.1 = some (tyX2 k) := by decide +kernel
abbrev cX2_init : ByteArray := prog_4_method_1_code
def yX2_init : MethodName := ⟨RX2, "<init>", "(LRopeLadder$Text;)V"⟩
abbrev cX2_beginOf : ByteArray := prog_4_method_2_code
def yX2_beginOf : MethodName := ⟨RX2, "beginOf", "(I)I"⟩
abbrev cX2_beginAt : ByteArray := prog_4_method_3_code
def yX2_beginAt : MethodName := ⟨RX2, "beginAt", "(II)V"⟩
abbrev cX2_putLee : ByteArray := prog_4_method_4_code
def yX2_putLee : MethodName := ⟨RX2, "putLee", "(II)V"⟩
abbrev cX2_renew : ByteArray := prog_4_method_5_code
def yX2_renew : MethodName := ⟨RX2, "renew", "()V"⟩
abbrev cX2_alone : ByteArray := prog_4_method_6_code
def yX2_alone : MethodName := ⟨RX2, "alone", "(III)I"⟩
abbrev cX2_cutByLee : ByteArray := prog_4_method_7_code
def yX2_cutByLee : MethodName := ⟨RX2, "cutByLee", "(II)I"⟩
abbrev cX2_heightAt : ByteArray := prog_4_method_8_code
def yX2_heightAt : MethodName := ⟨RX2, "heightAt", "(I)I"⟩
abbrev cX2_heightWithoutLee : ByteArray := prog_4_method_9_code
def yX2_heightWithoutLee : MethodName := ⟨RX2, "heightWithoutLee", "(I)I"⟩
abbrev cX2_heightWith : ByteArray := prog_4_method_10_code
def yX2_heightWith : MethodName := ⟨RX2, "heightWith", "(III)I"⟩
abbrev cX2_moveAt : ByteArray := prog_4_method_11_code
def yX2_moveAt : MethodName := ⟨RX2, "moveAt", "(I)I"⟩
abbrev cX2_crestFrom : ByteArray := prog_4_method_12_code
def yX2_crestFrom : MethodName := ⟨RX2, "crestFrom", "(II)I"⟩
abbrev cX2_highestCrestFrom : ByteArray := prog_4_method_13_code
def yX2_highestCrestFrom : MethodName := ⟨RX2, "highestCrestFrom", "(I)I"⟩
abbrev cX2_crestsInAll : ByteArray := prog_4_method_14_code
def yX2_crestsInAll : MethodName := ⟨RX2, "crestsInAll", "()I"⟩
abbrev cX2_lullFrom : ByteArray := prog_4_method_15_code
def yX2_lullFrom : MethodName := ⟨RX2, "lullFrom", "(II)I"⟩
abbrev cX2_spread : ByteArray := prog_4_method_16_code
def yX2_spread : MethodName := ⟨RX2, "spread", "(III)I"⟩
abbrev cX2_greatestHeight : ByteArray := prog_4_method_17_code
def yX2_greatestHeight : MethodName := ⟨RX2, "greatestHeight", "()I"⟩
abbrev cX2_greatestHeightUpTo : ByteArray := prog_4_method_18_code
def yX2_greatestHeightUpTo : MethodName := ⟨RX2, "greatestHeightUpTo", "(III)I"⟩
abbrev cX2_leastHeight : ByteArray := prog_4_method_19_code
def yX2_leastHeight : MethodName := ⟨RX2, "leastHeight", "(II)I"⟩
abbrev cX2_savedByLee : ByteArray := prog_4_method_20_code
def yX2_savedByLee : MethodName := ⟨RX2, "savedByLee", "()I"⟩
def RX3 : String := "RopeLadder$Settings"
def TX3 : u_T := fun k => match k with
  | _ => ("RopeLadder$Settings", "values", "[I", true)
def tyX3 : Nat → FieldType := fun k => match k with
  | _ => .array .int
abbrev wsX30 : List Cond := u_ws RX3 TX3 1
theorem nmX3 : ∀ a, a < 1 → ∀ b, b < 1 → a ≠ b → (TX3 a).2.1 ≠ (TX3 b).2.1 := by decide +kernel
theorem tyX3_ok : ∀ k, k < 1 → parseFieldDescriptor (TX3 k).2.2.1 = some (tyX3 k) := by decide +kernel
abbrev cX3_init : ByteArray := prog_5_method_1_code
def yX3_init : MethodName := ⟨RX3, "<init>", "()V"⟩
abbrev cX3_allows : ByteArray := prog_5_method_2_code
def yX3_allows : MethodName := ⟨RX3, "allows", "(II)Z"⟩
abbrev cX3_of : ByteArray := prog_5_method_3_code
def yX3_of : MethodName := ⟨RX3, "of", "(I)I"⟩
abbrev cX3_change : ByteArray := prog_5_method_4_code
def yX3_change : MethodName := ⟨RX3, "change", "(II)V"⟩
def RX4 : String := "RopeLadder$Sheet"
def TX4 : u_T := fun k => match k with
  | 0 => ("RopeLadder$Sheet", "items", "[I", true)
  | 1 => ("RopeLadder$Sheet", "lost", "Z", false)
  | 2 => ("RopeLadder$Sheet", "form", "I", false)
  | _ => ("RopeLadder$Sheet", "size", "I", false)
def tyX4 : Nat → FieldType := fun k => match k with
  | 0 => .array .int
  | 1 => .boolean
  | 2 => .int
  | _ => .int
abbrev wsX40 : List Cond := u_ws RX4 TX4 4
theorem nmX4 : ∀ a, a < 4 → ∀ b, b < 4 → a ≠ b → (TX4 a).2.1 ≠ (TX4 b).2.1 := by decide +kernel
theorem tyX4_ok : ∀ k, k < 4 → parseFieldDescriptor (TX4 k).2.2.1 = some (tyX4 k) := by decide +kernel
abbrev cX4_init : ByteArray := prog_6_method_1_code
def yX4_init : MethodName := ⟨RX4, "<init>", "()V"⟩
abbrev cX4_become : ByteArray := prog_6_method_2_code
def yX4_become : MethodName := ⟨RX4, "become", "(II)V"⟩
abbrev cX4_troubleAt : ByteArray := prog_6_method_3_code
def yX4_troubleAt : MethodName := ⟨RX4, "troubleAt", "(II)I"⟩
abbrev cX4_holds : ByteArray := prog_6_method_4_code
def yX4_holds : MethodName := ⟨RX4, "holds", "(II)Z"⟩
abbrev cX4_itemAt : ByteArray := prog_6_method_5_code
def yX4_itemAt : MethodName := ⟨RX4, "itemAt", "(I)I"⟩
abbrev cX4_store : ByteArray := prog_6_method_6_code
def yX4_store : MethodName := ⟨RX4, "store", "(II)V"⟩
abbrev cX4_narrow : ByteArray := prog_6_method_7_code
def yX4_narrow : MethodName := ⟨RX4, "narrow", "(I)I"⟩
abbrev cX4_take : ByteArray := prog_6_method_8_code
def yX4_take : MethodName := ⟨RX4, "take", "(LRopeLadder$Sheet;III)V"⟩
def RX5 : String := "RopeLadder$Ship"
def TX5 : u_T := fun k => match k with
  | 0 => ("RopeLadder$Ship", "roll", "LRopeLadder$Text;", true)
  | 1 => ("RopeLadder$Ship", "height", "I", false)
  | _ => ("RopeLadder$Ship", "length", "I", false)
def tyX5 : Nat → FieldType := fun k => match k with
  | 0 => .object "RopeLadder$Text"
  | 1 => .int
  | _ => .int
abbrev wsX50 : List Cond := u_ws RX5 TX5 3
theorem nmX5 : ∀ a, a < 3 → ∀ b, b < 3 → a ≠ b → (TX5 a).2.1 ≠ (TX5 b).2.1 := by decide +kernel
theorem tyX5_ok : ∀ k, k < 3 → parseFieldDescriptor (TX5 k).2.2.1 = some (tyX5 k) := by decide +kernel
abbrev cX5_init : ByteArray := prog_7_method_1_code
def yX5_init : MethodName := ⟨RX5, "<init>", "(LRopeLadder$Text;)V"⟩
abbrev cX5_renew : ByteArray := prog_7_method_2_code
def yX5_renew : MethodName := ⟨RX5, "renew", "()V"⟩
abbrev cX5_leanAt : ByteArray := prog_7_method_3_code
def yX5_leanAt : MethodName := ⟨RX5, "leanAt", "(I)I"⟩
abbrev cX5_notOutFrom : ByteArray := prog_7_method_4_code
def yX5_notOutFrom : MethodName := ⟨RX5, "notOutFrom", "(I)I"⟩
def RX6 : String := "RopeLadder$Sightings"
def TX6 : u_T := fun k => match k with
  | 0 => ("RopeLadder$Sightings", "tenths", "[I", true)
  | 1 => ("RopeLadder$Sightings", "heights", "[I", true)
  | _ => ("RopeLadder$Sightings", "number", "I", false)
def tyX6 : Nat → FieldType := fun k => match k with
  | 0 => .array .int
  | 1 => .array .int
  | _ => .int
abbrev wsX60 : List Cond := u_ws RX6 TX6 3
theorem nmX6 : ∀ a, a < 3 → ∀ b, b < 3 → a ≠ b → (TX6 a).2.1 ≠ (TX6 b).2.1 := by decide +kernel
theorem tyX6_ok : ∀ k, k < 3 → parseFieldDescriptor (TX6 k).2.2.1 = some (tyX6 k) := by decide +kernel
abbrev cX6_init : ByteArray := prog_8_method_1_code
def yX6_init : MethodName := ⟨RX6, "<init>", "()V"⟩
abbrev cX6_append : ByteArray := prog_8_method_2_code
def yX6_append : MethodName := ⟨RX6, "append", "(II)V"⟩
abbrev cX6_tenthOf : ByteArray := prog_8_method_3_code
def yX6_tenthOf : MethodName := ⟨RX6, "tenthOf", "(I)I"⟩
abbrev cX6_heightOf : ByteArray := prog_8_method_4_code
def yX6_heightOf : MethodName := ⟨RX6, "heightOf", "(I)I"⟩
def RX7 : String := "RopeLadder$Text"
def TX7 : u_T := fun k => match k with
  | 0 => ("RopeLadder$Text", "mostBytes", "I", true)
  | 1 => ("RopeLadder$Text", "mostSwells", "I", true)
  | 2 => ("RopeLadder$Text", "bytes", "[I", true)
  | 3 => ("RopeLadder$Text", "heights", "[I", true)
  | 4 => ("RopeLadder$Text", "lengths", "[I", true)
  | 5 => ("RopeLadder$Text", "size", "I", false)
  | 6 => ("RopeLadder$Text", "faultPlace", "I", false)
  | _ => ("RopeLadder$Text", "number", "I", false)
def tyX7 : Nat → FieldType := fun k => match k with
  | 0 => .int
  | 1 => .int
  | 2 => .array .int
  | 3 => .array .int
  | 4 => .array .int
  | 5 => .int
  | 6 => .int
  | _ => .int
abbrev wsX70 : List Cond := u_ws RX7 TX7 8
theorem nmX7 : ∀ a, a < 8 → ∀ b, b < 8 → a ≠ b → (TX7 a).2.1 ≠ (TX7 b).2.1 := by decide +kernel
theorem tyX7_ok : ∀ k, k < 8 → parseFieldDescriptor (TX7 k).2.2.1 = some (tyX7 k) := by decide +kernel
abbrev cX7_init : ByteArray := prog_9_method_1_code
def yX7_init : MethodName := ⟨RX7, "<init>", "(II)V"⟩
abbrev cX7_isFull : ByteArray := prog_9_method_2_code
def yX7_isFull : MethodName := ⟨RX7, "isFull", "()Z"⟩
abbrev cX7_append : ByteArray := prog_9_method_3_code
def yX7_append : MethodName := ⟨RX7, "append", "(I)V"⟩
abbrev cX7_shorten : ByteArray := prog_9_method_4_code
def yX7_shorten : MethodName := ⟨RX7, "shorten", "(I)V"⟩
abbrev cX7_heightOf : ByteArray := prog_9_method_5_code
def yX7_heightOf : MethodName := ⟨RX7, "heightOf", "(I)I"⟩
abbrev cX7_lengthOf : ByteArray := prog_9_method_6_code
def yX7_lengthOf : MethodName := ⟨RX7, "lengthOf", "(I)I"⟩
abbrev cX7_heightsTogether : ByteArray := prog_9_method_7_code
def yX7_heightsTogether : MethodName := ⟨RX7, "heightsTogether", "()I"⟩
abbrev cX7_understand : ByteArray := prog_9_method_8_code
def yX7_understand : MethodName := ⟨RX7, "understand", "()V"⟩
abbrev cX7_firstFault : ByteArray := prog_9_method_9_code
def yX7_firstFault : MethodName := ⟨RX7, "firstFault", "()I"⟩
abbrev cX7_goesOn : ByteArray := prog_9_method_10_code
def yX7_goesOn : MethodName := ⟨RX7, "goesOn", "(I)Z"⟩
abbrev cX7_byteAt : ByteArray := prog_9_method_11_code
def yX7_byteAt : MethodName := ⟨RX7, "byteAt", "(I)I"⟩
abbrev cX7_twoFiguresAt : ByteArray := prog_9_method_12_code
def yX7_twoFiguresAt : MethodName := ⟨RX7, "twoFiguresAt", "(I)I"⟩
def RX8 : String := "RopeLadder"
def TX8 : u_T := fun k => match k with
  | 0 => ("RopeLadder", "swellsText", "LRopeLadder$Text;", true)
  | 1 => ("RopeLadder", "rollText", "LRopeLadder$Text;", true)
  | 2 => ("RopeLadder", "sea", "LRopeLadder$Sea;", true)
  | 3 => ("RopeLadder", "ship", "LRopeLadder$Ship;", true)
  | 4 => ("RopeLadder", "settings", "LRopeLadder$Settings;", true)
  | 5 => ("RopeLadder", "climbing", "LRopeLadder$Climb;", true)
  | 6 => ("RopeLadder", "sightings", "LRopeLadder$Sightings;", true)
  | 7 => ("RopeLadder", "lots", "LRopeLadder$Lots;", true)
  | 8 => ("RopeLadder", "sheets", "[LRopeLadder$Sheet;", true)
  | _ => ("RopeLadder", "finding", "I", false)
def tyX8 : Nat → FieldType := fun k => match k with
  | 0 => .object "RopeLadder$Text"
  | 1 => .object "RopeLadder$Text"
  | 2 => .object "RopeLadder$Sea"
  | 3 => .object "RopeLadder$Ship"
  | 4 => .object "RopeLadder$Settings"
  | 5 => .object "RopeLadder$Climb"
  | 6 => .object "RopeLadder$Sightings"
  | 7 => .object "RopeLadder$Lots"
  | 8 => .array (.object "RopeLadder$Sheet")
  | _ => .int
abbrev wsX80 : List Cond := u_ws RX8 TX8 10
theorem nmX8 : ∀ a, a < 10 → ∀ b, b < 10 → a ≠ b → (TX8 a).2.1 ≠ (TX8 b).2.1 := by decide +kernel
theorem tyX8_ok : ∀ k, k < 10 → parseFieldDescriptor (TX8 k).2.2.1 = some (tyX8 k) := by decide +kernel
abbrev cX8_init : ByteArray := prog_1_method_1_code
def yX8_init : MethodName := ⟨RX8, "<init>", "()V"⟩
abbrev cX8_type : ByteArray := prog_1_method_2_code
def yX8_type : MethodName := ⟨RX8, "type", "(II)I"⟩
abbrev cX8_wipe : ByteArray := prog_1_method_3_code
def yX8_wipe : MethodName := ⟨RX8, "wipe", "(I)I"⟩
abbrev cX8_undo : ByteArray := prog_1_method_4_code
def yX8_undo : MethodName := ⟨RX8, "undo", "(I)I"⟩
abbrev cX8_fault : ByteArray := prog_1_method_5_code
def yX8_fault : MethodName := ⟨RX8, "fault", "(I)I"⟩
abbrev cX8_swell : ByteArray := prog_1_method_6_code
def yX8_swell : MethodName := ⟨RX8, "swell", "(II)I"⟩
abbrev cX8_roll : ByteArray := prog_1_method_7_code
def yX8_roll : MethodName := ⟨RX8, "roll", "(I)I"⟩
abbrev cX8_begins : ByteArray := prog_1_method_8_code
def yX8_begins : MethodName := ⟨RX8, "begins", "(II)I"⟩
abbrev cX8_lee : ByteArray := prog_1_method_9_code
def yX8_lee : MethodName := ⟨RX8, "lee", "(II)I"⟩
abbrev cX8_set : ByteArray := prog_1_method_10_code
def yX8_set : MethodName := ⟨RX8, "set", "(II)I"⟩
abbrev cX8_high : ByteArray := prog_1_method_11_code
def yX8_high : MethodName := ⟨RX8, "high", "(I)I"⟩
abbrev cX8_does : ByteArray := prog_1_method_12_code
def yX8_does : MethodName := ⟨RX8, "does", "(I)I"⟩
abbrev cX8_leans : ByteArray := prog_1_method_13_code
def yX8_leans : MethodName := ⟨RX8, "leans", "(I)I"⟩
abbrev cX8_crest : ByteArray := prog_1_method_14_code
def yX8_crest : MethodName := ⟨RX8, "crest", "(II)I"⟩
abbrev cX8_seventh : ByteArray := prog_1_method_15_code
def yX8_seventh : MethodName := ⟨RX8, "seventh", "(I)I"⟩
abbrev cX8_lull : ByteArray := prog_1_method_16_code
def yX8_lull : MethodName := ⟨RX8, "lull", "(III)I"⟩
abbrev cX8_step : ByteArray := prog_1_method_17_code
def yX8_step : MethodName := ⟨RX8, "step", "(I)I"⟩
abbrev cX8_fall : ByteArray := prog_1_method_18_code
def yX8_fall : MethodName := ⟨RX8, "fall", "(I)I"⟩
abbrev cX8_climb : ByteArray := prog_1_method_19_code
def yX8_climb : MethodName := ⟨RX8, "climb", "(I)I"⟩
abbrev cX8_bangs : ByteArray := prog_1_method_20_code
def yX8_bangs : MethodName := ⟨RX8, "bangs", "(I)I"⟩
abbrev cX8_safe : ByteArray := prog_1_method_21_code
def yX8_safe : MethodName := ⟨RX8, "safe", "(II)J"⟩
abbrev cX8_best : ByteArray := prog_1_method_22_code
def yX8_best : MethodName := ⟨RX8, "best", "(II)I"⟩
abbrev cX8_call : ByteArray := prog_1_method_23_code
def yX8_call : MethodName := ⟨RX8, "call", "(II)I"⟩
abbrev cX8_down : ByteArray := prog_1_method_24_code
def yX8_down : MethodName := ⟨RX8, "down", "(III)I"⟩
abbrev cX8_saves : ByteArray := prog_1_method_25_code
def yX8_saves : MethodName := ⟨RX8, "saves", "()I"⟩
abbrev cX8_ladder : ByteArray := prog_1_method_26_code
def yX8_ladder : MethodName := ⟨RX8, "ladder", "(II)I"⟩
abbrev cX8_seen : ByteArray := prog_1_method_27_code
def yX8_seen : MethodName := ⟨RX8, "seen", "(II)I"⟩
abbrev cX8_forget : ByteArray := prog_1_method_28_code
def yX8_forget : MethodName := ⟨RX8, "forget", "()I"⟩
abbrev cX8_read : ByteArray := prog_1_method_29_code
def yX8_read : MethodName := ⟨RX8, "read", "(I)I"⟩
abbrev cX8_learn : ByteArray := prog_1_method_30_code
def yX8_learn : MethodName := ⟨RX8, "learn", "(II)I"⟩
abbrev cX8_night : ByteArray := prog_1_method_31_code
def yX8_night : MethodName := ⟨RX8, "night", "(II)I"⟩
abbrev cX8_sheet : ByteArray := prog_1_method_32_code
def yX8_sheet : MethodName := ⟨RX8, "sheet", "(III)I"⟩
abbrev cX8_lose : ByteArray := prog_1_method_33_code
def yX8_lose : MethodName := ⟨RX8, "lose", "(I)I"⟩
abbrev cX8_put : ByteArray := prog_1_method_34_code
def yX8_put : MethodName := ⟨RX8, "put", "(IIII)I"⟩
abbrev cX8_get : ByteArray := prog_1_method_35_code
def yX8_get : MethodName := ⟨RX8, "get", "(III)I"⟩
abbrev cX8_copy : ByteArray := prog_1_method_36_code
def yX8_copy : MethodName := ⟨RX8, "copy", "(IIIII)I"⟩
abbrev cX8_write : ByteArray := prog_1_method_37_code
def yX8_write : MethodName := ⟨RX8, "write", "(II)I"⟩
abbrev cX8_count : ByteArray := prog_1_method_38_code
def yX8_count : MethodName := ⟨RX8, "count", "(I)I"⟩
abbrev cX8_digest : ByteArray := prog_1_method_39_code
def yX8_digest : MethodName := ⟨RX8, "digest", "()J"⟩
abbrev cX8_textOf : ByteArray := prog_1_method_40_code
def yX8_textOf : MethodName := ⟨RX8, "textOf", "(I)LRopeLadder$Text;"⟩
abbrev cX8_takeUpTexts : ByteArray := prog_1_method_41_code
def yX8_takeUpTexts : MethodName := ⟨RX8, "takeUpTexts", "()V"⟩
abbrev cX8_sheetOf : ByteArray := prog_1_method_42_code
def yX8_sheetOf : MethodName := ⟨RX8, "sheetOf", "(I)LRopeLadder$Sheet;"⟩
abbrev cX8_isSwell : ByteArray := prog_1_method_43_code
def yX8_isSwell : MethodName := ⟨RX8, "isSwell", "(I)Z"⟩
abbrev cX8_isEither : ByteArray := prog_1_method_44_code
def yX8_isEither : MethodName := ⟨RX8, "isEither", "(I)Z"⟩
abbrev cX8_isTenth : ByteArray := prog_1_method_45_code
def yX8_isTenth : MethodName := ⟨RX8, "isTenth", "(I)Z"⟩
abbrev cX8_isSpan : ByteArray := prog_1_method_46_code
def yX8_isSpan : MethodName := ⟨RX8, "isSpan", "(I)Z"⟩
abbrev cX8_isForm : ByteArray := prog_1_method_47_code
def yX8_isForm : MethodName := ⟨RX8, "isForm", "(I)Z"⟩
abbrev cX8_spanEnd : ByteArray := prog_1_method_48_code
def yX8_spanEnd : MethodName := ⟨RX8, "spanEnd", "(II)I"⟩
abbrev cX8_find : ByteArray := prog_1_method_49_code
def yX8_find : MethodName := ⟨RX8, "find", "(I)I"⟩
abbrev cX8_stepAt : ByteArray := prog_1_method_50_code
def yX8_stepAt : MethodName := ⟨RX8, "stepAt", "(I)I"⟩
abbrev cX8_oddsToFall : ByteArray := prog_1_method_51_code
def yX8_oddsToFall : MethodName := ⟨RX8, "oddsToFall", "(I)I"⟩
abbrev cX8_chance : ByteArray := prog_1_method_52_code
def yX8_chance : MethodName := ⟨RX8, "chance", "(I)J"⟩
abbrev cX8_distanceToFoot : ByteArray := prog_1_method_53_code
def yX8_distanceToFoot : MethodName := ⟨RX8, "distanceToFoot", "(I)I"⟩
abbrev cX8_allSeenComesOut : ByteArray := prog_1_method_54_code
def yX8_allSeenComesOut : MethodName := ⟨RX8, "allSeenComesOut", "(II)Z"⟩
abbrev cX8_nextStep : ByteArray := prog_1_method_55_code
def yX8_nextStep : MethodName := ⟨RX8, "nextStep", "(I)I"⟩
abbrev cX8_getsUp : ByteArray := prog_1_method_56_code
def yX8_getsUp : MethodName := ⟨RX8, "getsUp", "(I)Z"⟩
def RX9 : String := "RopeLadderModel"
def TX9 : u_T := fun k => match k with
  | 0 => ("RopeLadderModel", "typed", "[I", true)
  | 1 => ("RopeLadderModel", "texts", "[I", true)
  | 2 => ("RopeLadderModel", "swells", "I", false)
  | 3 => ("RopeLadderModel", "heights", "[I", true)
  | 4 => ("RopeLadderModel", "lengths", "[I", true)
  | 5 => ("RopeLadderModel", "rolls", "I", false)
  | 6 => ("RopeLadderModel", "phases", "[I", true)
  | 7 => ("RopeLadderModel", "leeFrom", "I", false)
  | 8 => ("RopeLadderModel", "leeMany", "I", false)
  | 9 => ("RopeLadderModel", "settings", "[I", true)
  | 10 => ("RopeLadderModel", "highs", "[I", true)
  | 11 => ("RopeLadderModel", "bangsNow", "I", false)
  | 12 => ("RopeLadderModel", "seens", "I", false)
  | 13 => ("RopeLadderModel", "seenTenth", "[I", true)
  | 14 => ("RopeLadderModel", "seenHigh", "[I", true)
  | 15 => ("RopeLadderModel", "lotNow", "I", false)
  | 16 => ("RopeLadderModel", "isThere", "[Z", true)
  | 17 => ("RopeLadderModel", "forms", "[I", true)
  | 18 => ("RopeLadderModel", "sizes", "[I", true)
  | 19 => ("RopeLadderModel", "items", "[I", true)
  | 20 => ("RopeLadderModel", "moved", "[I", true)
  | _ => ("RopeLadderModel", "finding", "I", false)
def tyX9 : Nat → FieldType := fun k => match k with
  | 0 => .array .int
  | 1 => .array .int
  | 2 => .int
  | 3 => .array .int
  | 4 => .array .int
  | 5 => .int
  | 6 => .array .int
  | 7 => .int
  | 8 => .int
  | 9 => .array .int
  | 10 => .array .int
  | 11 => .int
  | 12 => .int
  | 13 => .array .int
  | 14 => .array .int
  | 15 => .int
  | 16 => .array .boolean
  | 17 => .array .int
  | 18 => .array .int
  | 19 => .array .int
  | 20 => .array .int
  | _ => .int
abbrev wsX90 : List Cond := u_ws RX9 TX9 22
theorem nmX9 : ∀ a, a < 22 → ∀ b, b < 22 → a ≠ b → (TX9 a).2.1 ≠ (TX9 b).2.1 := by decide +kernel
theorem tyX9_ok : ∀ k, k < 22 → parseFieldDescriptor (TX9 k).2.2.1 = some (tyX9 k) := by decide +kernel
abbrev cX9_init : ByteArray := prog_11_method_1_code
def yX9_init : MethodName := ⟨RX9, "<init>", "()V"⟩
abbrev cX9_in : ByteArray := prog_11_method_3_code
def yX9_in : MethodName := ⟨RX9, "in", "(III)Z"⟩
abbrev cX9_no : ByteArray := prog_11_method_4_code
def yX9_no : MethodName := ⟨RX9, "no", "(I)J"⟩
abbrev cX9_lowest : ByteArray := prog_11_method_5_code
def yX9_lowest : MethodName := ⟨RX9, "lowest", "(JJI)J"⟩
abbrev cX9_isText : ByteArray := prog_11_method_6_code
def yX9_isText : MethodName := ⟨RX9, "isText", "(I)Z"⟩
abbrev cX9_isTenth : ByteArray := prog_11_method_7_code
def yX9_isTenth : MethodName := ⟨RX9, "isTenth", "(I)Z"⟩
abbrev cX9_type : ByteArray := prog_11_method_8_code
def yX9_type : MethodName := ⟨RX9, "type", "(II)I"⟩
abbrev cX9_wipe : ByteArray := prog_11_method_9_code
def yX9_wipe : MethodName := ⟨RX9, "wipe", "(I)I"⟩
abbrev cX9_undo : ByteArray := prog_11_method_10_code
def yX9_undo : MethodName := ⟨RX9, "undo", "(I)I"⟩
abbrev cX9_figureAt : ByteArray := prog_11_method_11_code
def yX9_figureAt : MethodName := ⟨RX9, "figureAt", "(II)I"⟩
abbrev cX9_readsText : ByteArray := prog_11_method_12_code
def yX9_readsText : MethodName := ⟨RX9, "readsText", "(I)I"⟩
abbrev cX9_faultOf : ByteArray := prog_11_method_13_code
def yX9_faultOf : MethodName := ⟨RX9, "faultOf", "(I)I"⟩
abbrev cX9_reads : ByteArray := prog_11_method_14_code
def yX9_reads : MethodName := ⟨RX9, "reads", "()V"⟩
abbrev cX9_fault : ByteArray := prog_11_method_15_code
def yX9_fault : MethodName := ⟨RX9, "fault", "(I)I"⟩
abbrev cX9_isSwell : ByteArray := prog_11_method_16_code
def yX9_isSwell : MethodName := ⟨RX9, "isSwell", "(I)Z"⟩
abbrev cX9_swell : ByteArray := prog_11_method_17_code
def yX9_swell : MethodName := ⟨RX9, "swell", "(II)I"⟩
abbrev cX9_rollOf : ByteArray := prog_11_method_18_code
def yX9_rollOf : MethodName := ⟨RX9, "rollOf", "(I)I"⟩
abbrev cX9_roll : ByteArray := prog_11_method_19_code
def yX9_roll : MethodName := ⟨RX9, "roll", "(I)I"⟩
abbrev cX9_begins : ByteArray := prog_11_method_20_code
def yX9_begins : MethodName := ⟨RX9, "begins", "(II)I"⟩
abbrev cX9_lee : ByteArray := prog_11_method_21_code
def yX9_lee : MethodName := ⟨RX9, "lee", "(II)I"⟩
abbrev cX9_lowOf : ByteArray := prog_11_method_22_code
def yX9_lowOf : MethodName := ⟨RX9, "lowOf", "(I)I"⟩
abbrev cX9_highOf : ByteArray := prog_11_method_23_code
def yX9_highOf : MethodName := ⟨RX9, "highOf", "(I)I"⟩
abbrev cX9_set : ByteArray := prog_11_method_24_code
def yX9_set : MethodName := ⟨RX9, "set", "(II)I"⟩
abbrev cX9_isLee : ByteArray := prog_11_method_25_code
def yX9_isLee : MethodName := ⟨RX9, "isLee", "(I)Z"⟩
abbrev cX9_rawHigh : ByteArray := prog_11_method_26_code
def yX9_rawHigh : MethodName := ⟨RX9, "rawHigh", "(I)I"⟩
abbrev cX9_highBy : ByteArray := prog_11_method_27_code
def yX9_highBy : MethodName := ⟨RX9, "highBy", "(I)I"⟩
abbrev cX9_lays : ByteArray := prog_11_method_28_code
def yX9_lays : MethodName := ⟨RX9, "lays", "()V"⟩
abbrev cX9_highOfTenth : ByteArray := prog_11_method_29_code
def yX9_highOfTenth : MethodName := ⟨RX9, "highOfTenth", "(I)I"⟩
abbrev cX9_high : ByteArray := prog_11_method_30_code
def yX9_high : MethodName := ⟨RX9, "high", "(I)I"⟩
abbrev cX9_doesNow : ByteArray := prog_11_method_31_code
def yX9_doesNow : MethodName := ⟨RX9, "doesNow", "(I)I"⟩
abbrev cX9_doesOf : ByteArray := prog_11_method_32_code
def yX9_doesOf : MethodName := ⟨RX9, "doesOf", "(I)I"⟩
abbrev cX9_does : ByteArray := prog_11_method_33_code
def yX9_does : MethodName := ⟨RX9, "does", "(I)I"⟩
abbrev cX9_leansNow : ByteArray := prog_11_method_34_code
def yX9_leansNow : MethodName := ⟨RX9, "leansNow", "(I)I"⟩
abbrev cX9_leansOf : ByteArray := prog_11_method_35_code
def yX9_leansOf : MethodName := ⟨RX9, "leansOf", "(I)I"⟩
abbrev cX9_leans : ByteArray := prog_11_method_36_code
def yX9_leans : MethodName := ⟨RX9, "leans", "(I)I"⟩
abbrev cX9_nextCrest : ByteArray := prog_11_method_37_code
def yX9_nextCrest : MethodName := ⟨RX9, "nextCrest", "(I)I"⟩
abbrev cX9_crestOf : ByteArray := prog_11_method_38_code
def yX9_crestOf : MethodName := ⟨RX9, "crestOf", "(II)I"⟩
abbrev cX9_crest : ByteArray := prog_11_method_39_code
def yX9_crest : MethodName := ⟨RX9, "crest", "(II)I"⟩
abbrev cX9_seventhOf : ByteArray := prog_11_method_40_code
def yX9_seventhOf : MethodName := ⟨RX9, "seventhOf", "(I)I"⟩
abbrev cX9_seventh : ByteArray := prog_11_method_41_code
def yX9_seventh : MethodName := ⟨RX9, "seventh", "(I)I"⟩
abbrev cX9_lullOf : ByteArray := prog_11_method_42_code
def yX9_lullOf : MethodName := ⟨RX9, "lullOf", "(III)I"⟩
abbrev cX9_isMany : ByteArray := prog_11_method_43_code
def yX9_isMany : MethodName := ⟨RX9, "isMany", "(I)Z"⟩
abbrev cX9_lull : ByteArray := prog_11_method_44_code
def yX9_lull : MethodName := ⟨RX9, "lull", "(III)I"⟩
abbrev cX9_stepNow : ByteArray := prog_11_method_45_code
def yX9_stepNow : MethodName := ⟨RX9, "stepNow", "(I)I"⟩
abbrev cX9_stepOf : ByteArray := prog_11_method_46_code
def yX9_stepOf : MethodName := ⟨RX9, "stepOf", "(I)I"⟩
abbrev cX9_step : ByteArray := prog_11_method_47_code
def yX9_step : MethodName := ⟨RX9, "step", "(I)I"⟩
abbrev cX9_fallNow : ByteArray := prog_11_method_48_code
def yX9_fallNow : MethodName := ⟨RX9, "fallNow", "(I)I"⟩
abbrev cX9_fallOf : ByteArray := prog_11_method_49_code
def yX9_fallOf : MethodName := ⟨RX9, "fallOf", "(I)I"⟩
abbrev cX9_fall : ByteArray := prog_11_method_50_code
def yX9_fall : MethodName := ⟨RX9, "fall", "(I)I"⟩
abbrev cX9_climbs : ByteArray := prog_11_method_51_code
def yX9_climbs : MethodName := ⟨RX9, "climbs", "(I)I"⟩
abbrev cX9_climbOf : ByteArray := prog_11_method_52_code
def yX9_climbOf : MethodName := ⟨RX9, "climbOf", "(I)I"⟩
abbrev cX9_climb : ByteArray := prog_11_method_53_code
def yX9_climb : MethodName := ⟨RX9, "climb", "(I)I"⟩
abbrev cX9_bangsOf : ByteArray := prog_11_method_54_code
def yX9_bangsOf : MethodName := ⟨RX9, "bangsOf", "(I)I"⟩
abbrev cX9_bangs : ByteArray := prog_11_method_55_code
def yX9_bangs : MethodName := ⟨RX9, "bangs", "(I)I"⟩
abbrev cX9_power : ByteArray := prog_11_method_56_code
def yX9_power : MethodName := ⟨RX9, "power", "(II)J"⟩
abbrev cX9_safeNow : ByteArray := prog_11_method_57_code
def yX9_safeNow : MethodName := ⟨RX9, "safeNow", "(I)J"⟩
abbrev cX9_safeOf : ByteArray := prog_11_method_58_code
def yX9_safeOf : MethodName := ⟨RX9, "safeOf", "(II)J"⟩
abbrev cX9_safe : ByteArray := prog_11_method_59_code
def yX9_safe : MethodName := ⟨RX9, "safe", "(II)J"⟩
abbrev cX9_bestOf : ByteArray := prog_11_method_60_code
def yX9_bestOf : MethodName := ⟨RX9, "bestOf", "(II)I"⟩
abbrev cX9_best : ByteArray := prog_11_method_61_code
def yX9_best : MethodName := ⟨RX9, "best", "(II)I"⟩
abbrev cX9_callOf : ByteArray := prog_11_method_62_code
def yX9_callOf : MethodName := ⟨RX9, "callOf", "(II)I"⟩
abbrev cX9_call : ByteArray := prog_11_method_63_code
def yX9_call : MethodName := ⟨RX9, "call", "(II)I"⟩
abbrev cX9_downOf : ByteArray := prog_11_method_64_code
def yX9_downOf : MethodName := ⟨RX9, "downOf", "(III)I"⟩
abbrev cX9_down : ByteArray := prog_11_method_65_code
def yX9_down : MethodName := ⟨RX9, "down", "(III)I"⟩
abbrev cX9_savesNow : ByteArray := prog_11_method_66_code
def yX9_savesNow : MethodName := ⟨RX9, "savesNow", "()I"⟩
abbrev cX9_saves : ByteArray := prog_11_method_67_code
def yX9_saves : MethodName := ⟨RX9, "saves", "()I"⟩
abbrev cX9_ladderOf : ByteArray := prog_11_method_68_code
def yX9_ladderOf : MethodName := ⟨RX9, "ladderOf", "(II)I"⟩
abbrev cX9_ladder : ByteArray := prog_11_method_69_code
def yX9_ladder : MethodName := ⟨RX9, "ladder", "(II)I"⟩
abbrev cX9_seen : ByteArray := prog_11_method_70_code
def yX9_seen : MethodName := ⟨RX9, "seen", "(II)I"⟩
abbrev cX9_forget : ByteArray := prog_11_method_71_code
def yX9_forget : MethodName := ⟨RX9, "forget", "()I"⟩
abbrev cX9_read : ByteArray := prog_11_method_72_code
def yX9_read : MethodName := ⟨RX9, "read", "(I)I"⟩
abbrev cX9_learnOf : ByteArray := prog_11_method_73_code
def yX9_learnOf : MethodName := ⟨RX9, "learnOf", "(II)I"⟩
abbrev cX9_learn : ByteArray := prog_11_method_74_code
def yX9_learn : MethodName := ⟨RX9, "learn", "(II)I"⟩
abbrev cX9_lot : ByteArray := prog_11_method_75_code
def yX9_lot : MethodName := ⟨RX9, "lot", "(I)I"⟩
abbrev cX9_nightOf : ByteArray := prog_11_method_76_code
def yX9_nightOf : MethodName := ⟨RX9, "nightOf", "(II)I"⟩
abbrev cX9_night : ByteArray := prog_11_method_77_code
def yX9_night : MethodName := ⟨RX9, "night", "(II)I"⟩
abbrev cX9_meets : ByteArray := prog_11_method_78_code
def yX9_meets : MethodName := ⟨RX9, "meets", "(I)I"⟩
abbrev cX9_isSheet : ByteArray := prog_11_method_79_code
def yX9_isSheet : MethodName := ⟨RX9, "isSheet", "(I)Z"⟩
abbrev cX9_sheet : ByteArray := prog_11_method_80_code
def yX9_sheet : MethodName := ⟨RX9, "sheet", "(III)I"⟩
abbrev cX9_lose : ByteArray := prog_11_method_81_code
def yX9_lose : MethodName := ⟨RX9, "lose", "(I)I"⟩
abbrev cX9_lacks : ByteArray := prog_11_method_82_code
def yX9_lacks : MethodName := ⟨RX9, "lacks", "(III)I"⟩
abbrev cX9_keep : ByteArray := prog_11_method_83_code
def yX9_keep : MethodName := ⟨RX9, "keep", "(III)V"⟩
abbrev cX9_put : ByteArray := prog_11_method_84_code
def yX9_put : MethodName := ⟨RX9, "put", "(IIII)I"⟩
abbrev cX9_get : ByteArray := prog_11_method_85_code
def yX9_get : MethodName := ⟨RX9, "get", "(III)I"⟩
abbrev cX9_copy : ByteArray := prog_11_method_86_code
def yX9_copy : MethodName := ⟨RX9, "copy", "(IIIII)I"⟩
abbrev cX9_write : ByteArray := prog_11_method_87_code
def yX9_write : MethodName := ⟨RX9, "write", "(II)I"⟩
abbrev cX9_sumOf : ByteArray := prog_11_method_88_code
def yX9_sumOf : MethodName := ⟨RX9, "sumOf", "(I)I"⟩
abbrev cX9_count : ByteArray := prog_11_method_89_code
def yX9_count : MethodName := ⟨RX9, "count", "(I)I"⟩
abbrev cX9_tenthDigest : ByteArray := prog_11_method_90_code
def yX9_tenthDigest : MethodName := ⟨RX9, "tenthDigest", "(JI)J"⟩
abbrev cX9_digest : ByteArray := prog_11_method_91_code
def yX9_digest : MethodName := ⟨RX9, "digest", "()J"⟩
def RJ9 : String := "java/lang/Math"
def TJ9 : u_T := fun k => match k with
  | _ => ("", "", "", false)
def tyJ9 : Nat → FieldType := fun k => match k with
  | _ => .int
abbrev wsJ90 : List Cond := u_ws RJ9 TJ9 0
theorem nmJ9 : ∀ a, a < 0 → ∀ b, b < 0 → a ≠ b → (TJ9 a).2.1 ≠ (TJ9 b).2.1 := by decide +kernel
theorem tyJ9_ok : ∀ k, k < 0 → parseFieldDescriptor (TJ9 k).2.2.1 = some (tyJ9 k) := by decide +kernel
abbrev cJ9_abs_0f7a4 : ByteArray := prog_12_method_59_code
def yJ9_abs_0f7a4 : MethodName := ⟨RJ9, "abs", "(I)I"⟩
abbrev cJ9_max_7cf53 : ByteArray := prog_12_method_65_code
def yJ9_max_7cf53 : MethodName := ⟨RJ9, "max", "(II)I"⟩
abbrev cJ9_min_7cf53 : ByteArray := prog_12_method_69_code
def yJ9_min_7cf53 : MethodName := ⟨RJ9, "min", "(II)I"⟩
def RL : String := "RopeLadderLaw"
abbrev cL_law : ByteArray := code
def yL_law : MethodName := ⟨RL, "law", "([I)Z"⟩
abbrev vwCl : List vw_C := [(RX0, TX0, 5), (RX1, TX1, 1), (RX2, TX2, 6), (RX3, TX3, 1), (RX4, TX4, 4), (RX5, TX5, 3), (RX6, TX6, 3), (RX7, TX7, 8), (RX8, TX8, 10), (RX9, TX9, 22)]
end
section
theorem dX0_init_0 : decode cX0_init 0 = .ok (.aload_n 0, 1) := by decide +kernel
theorem dX0_init_1 : decode cX0_init 1 = .ok (.invokespecial 3, 3) := by decide +kernel
theorem dX0_init_4 : decode cX0_init 4 = .ok (.aload_n 0, 1) := by decide +kernel
theorem dX0_init_5 : decode cX0_init 5 = .ok (.iconst (-1), 1) := by decide +kernel
theorem dX0_init_6 : decode cX0_init 6 = .ok (.putfield 9, 3) := by decide +kernel
theorem dX0_init_9 : decode cX0_init 9 = .ok (.aload_n 0, 1) := by decide +kernel
theorem dX0_init_10 : decode cX0_init 10 = .ok (.aload_n 1, 1) := by decide +kernel
theorem dX0_init_11 : decode cX0_init 11 = .ok (.putfield 15, 3) := by decide +kernel
theorem dX0_init_14 : decode cX0_init 14 = .ok (.aload_n 0, 1) := by decide +kernel
theorem dX0_init_15 : decode cX0_init 15 = .ok (.aload_n 2, 1) := by decide +kernel
theorem dX0_init_16 : decode cX0_init 16 = .ok (.putfield 19, 3) := by decide +kernel
theorem dX0_init_19 : decode cX0_init 19 = .ok (.aload_n 0, 1) := by decide +kernel
theorem dX0_init_20 : decode cX0_init 20 = .ok (.aload_n 3, 1) := by decide +kernel
theorem dX0_init_21 : decode cX0_init 21 = .ok (.putfield 23, 3) := by decide +kernel
theorem dX0_init_24 : decode cX0_init 24 = .ok (.return_, 1) := by decide +kernel
theorem dX0_goFrom_0 : decode cX0_goFrom 0 = .ok (.aload_n 0, 1) := by decide +kernel
theorem dX0_goFrom_1 : decode cX0_goFrom 1 = .ok (.iconst (-1), 1) := by decide +kernel
theorem dX0_goFrom_2 : decode cX0_goFrom 2 = .ok (.putfield 9, 3) := by decide +kernel
theorem dX0_goFrom_5 : decode cX0_goFrom 5 = .ok (.aload_n 0, 1) := by decide +kernel
theorem dX0_goFrom_6 : decode cX0_goFrom 6 = .ok (.iconst 0, 1) := by decide +kernel
theorem dX0_goFrom_7 : decode cX0_goFrom 7 = .ok (.putfield 27, 3) := by decide +kernel
theorem dX0_goFrom_10 : decode cX0_goFrom 10 = .ok (.iload_n 1, 1) := by decide +kernel
theorem dX0_goFrom_11 : decode cX0_goFrom 11 = .ok (.istore_n 2, 1) := by decide +kernel
theorem dX0_goFrom_12 : decode cX0_goFrom 12 = .ok (.aload_n 0, 1) := by decide +kernel
theorem dX0_goFrom_13 : decode cX0_goFrom 13 = .ok (.getfield 23, 3) := by decide +kernel
theorem dX0_goFrom_16 : decode cX0_goFrom 16 = .ok (.iconst 1, 1) := by decide +kernel
theorem dX0_goFrom_17 : decode cX0_goFrom 17 = .ok (.invokevirtual 32, 3) := by decide +kernel
theorem dX0_goFrom_20 : decode cX0_goFrom 20 = .ok (.istore_n 3, 1) := by decide +kernel
theorem dX0_goFrom_21 : decode cX0_goFrom 21 = .ok (.iconst 1, 1) := by decide +kernel
theorem dX0_goFrom_22 : decode cX0_goFrom 22 = .ok (.istore 4, 2) := by decide +kernel
theorem dX0_goFrom_24 : decode cX0_goFrom 24 = .ok (.iload 4, 2) := by decide +kernel
theorem dX0_goFrom_26 : decode cX0_goFrom 26 = .ok (.iload_n 3, 1) := by decide +kernel
theorem dX0_goFrom_27 : decode cX0_goFrom 27 = .ok (.if_icmp .gt 75, 3) := by decide +kernel
theorem dX0_goFrom_30 : decode cX0_goFrom 30 = .ok (.aload_n 0, 1) := by decide +kernel
theorem dX0_goFrom_31 : decode cX0_goFrom 31 = .ok (.getfield 19, 3) := by decide +kernel
theorem dX0_goFrom_34 : decode cX0_goFrom 34 = .ok (.iload_n 2, 1) := by decide +kernel
theorem dX0_goFrom_35 : decode cX0_goFrom 35 = .ok (.aload_n 0, 1) := by decide +kernel
theorem dX0_goFrom_36 : decode cX0_goFrom 36 = .ok (.getfield 23, 3) := by decide +kernel
theorem dX0_goFrom_39 : decode cX0_goFrom 39 = .ok (.bipush 10, 2) := by decide +kernel
theorem dX0_goFrom_41 : decode cX0_goFrom 41 = .ok (.invokevirtual 32, 3) := by decide +kernel
theorem dX0_goFrom_44 : decode cX0_goFrom 44 = .ok (.iadd, 1) := by decide +kernel
theorem dX0_goFrom_45 : decode cX0_goFrom 45 = .ok (.invokevirtual 36, 3) := by decide +kernel
theorem dX0_goFrom_48 : decode cX0_goFrom 48 = .ok (.istore_n 2, 1) := by decide +kernel
theorem dX0_goFrom_49 : decode cX0_goFrom 49 = .ok (.iload_n 2, 1) := by decide +kernel
theorem dX0_goFrom_50 : decode cX0_goFrom 50 = .ok (.sipush 399, 3) := by decide +kernel
theorem dX0_goFrom_53 : decode cX0_goFrom 53 = .ok (.if_icmp .gt 20, 3) := by decide +kernel
theorem dX0_goFrom_56 : decode cX0_goFrom 56 = .ok (.aload_n 0, 1) := by decide +kernel
theorem dX0_goFrom_57 : decode cX0_goFrom 57 = .ok (.getfield 15, 3) := by decide +kernel
theorem dX0_goFrom_60 : decode cX0_goFrom 60 = .ok (.iload_n 2, 1) := by decide +kernel
theorem dX0_goFrom_61 : decode cX0_goFrom 61 = .ok (.invokevirtual 41, 3) := by decide +kernel
theorem dX0_goFrom_64 : decode cX0_goFrom 64 = .ok (.aload_n 0, 1) := by decide +kernel
theorem dX0_goFrom_65 : decode cX0_goFrom 65 = .ok (.iload 4, 2) := by decide +kernel
theorem dX0_goFrom_67 : decode cX0_goFrom 67 = .ok (.invokevirtual 46, 3) := by decide +kernel
theorem dX0_goFrom_70 : decode cX0_goFrom 70 = .ok (.if_icmp .le 4, 3) := by decide +kernel
theorem dX0_goFrom_73 : decode cX0_goFrom 73 = .ok (.return_, 1) := by decide +kernel
theorem dX0_goFrom_74 : decode cX0_goFrom 74 = .ok (.aload_n 0, 1) := by decide +kernel
theorem dX0_goFrom_75 : decode cX0_goFrom 75 = .ok (.getfield 19, 3) := by decide +kernel
theorem dX0_goFrom_78 : decode cX0_goFrom 78 = .ok (.iload_n 2, 1) := by decide +kernel
theorem dX0_goFrom_79 : decode cX0_goFrom 79 = .ok (.invokevirtual 49, 3) := by decide +kernel
theorem dX0_goFrom_82 : decode cX0_goFrom 82 = .ok (.iconst 2, 1) := by decide +kernel
theorem dX0_goFrom_83 : decode cX0_goFrom 83 = .ok (.if_icmp .ne 13, 3) := by decide +kernel
theorem dX0_goFrom_86 : decode cX0_goFrom 86 = .ok (.aload_n 0, 1) := by decide +kernel
theorem dX0_goFrom_87 : decode cX0_goFrom 87 = .ok (.dup, 1) := by decide +kernel
theorem dX0_goFrom_88 : decode cX0_goFrom 88 = .ok (.getfield 27, 3) := by decide +kernel
theorem dX0_goFrom_91 : decode cX0_goFrom 91 = .ok (.iconst 1, 1) := by decide +kernel
theorem dX0_goFrom_92 : decode cX0_goFrom 92 = .ok (.iadd, 1) := by decide +kernel
theorem dX0_goFrom_93 : decode cX0_goFrom 93 = .ok (.putfield 27, 3) := by decide +kernel
theorem dX0_goFrom_96 : decode cX0_goFrom 96 = .ok (.iinc 4 1, 3) := by decide +kernel
theorem dX0_goFrom_99 : decode cX0_goFrom 99 = .ok (.goto (-75), 3) := by decide +kernel
theorem dX0_goFrom_102 : decode cX0_goFrom 102 = .ok (.aload_n 0, 1) := by decide +kernel
theorem dX0_goFrom_103 : decode cX0_goFrom 103 = .ok (.iload_n 2, 1) := by decide +kernel
theorem dX0_goFrom_104 : decode cX0_goFrom 104 = .ok (.putfield 9, 3) := by decide +kernel
theorem dX0_goFrom_107 : decode cX0_goFrom 107 = .ok (.return_, 1) := by decide +kernel
theorem dX0_rungHeight_0 : decode cX0_rungHeight 0 = .ok (.aload_n 0, 1) := by decide +kernel
theorem dX0_rungHeight_1 : decode cX0_rungHeight 1 = .ok (.getfield 23, 3) := by decide +kernel
theorem dX0_rungHeight_4 : decode cX0_rungHeight 4 = .ok (.iconst 0, 1) := by decide +kernel
theorem dX0_rungHeight_5 : decode cX0_rungHeight 5 = .ok (.invokevirtual 32, 3) := by decide +kernel
theorem dX0_rungHeight_8 : decode cX0_rungHeight 8 = .ok (.iload_n 1, 1) := by decide +kernel
theorem dX0_rungHeight_9 : decode cX0_rungHeight 9 = .ok (.aload_n 0, 1) := by decide +kernel
theorem dX0_rungHeight_10 : decode cX0_rungHeight 10 = .ok (.getfield 23, 3) := by decide +kernel
theorem dX0_rungHeight_13 : decode cX0_rungHeight 13 = .ok (.iconst 2, 1) := by decide +kernel
theorem dX0_rungHeight_14 : decode cX0_rungHeight 14 = .ok (.invokevirtual 32, 3) := by decide +kernel
theorem dX0_rungHeight_17 : decode cX0_rungHeight 17 = .ok (.imul, 1) := by decide +kernel
theorem dX0_rungHeight_18 : decode cX0_rungHeight 18 = .ok (.iadd, 1) := by decide +kernel
theorem dX0_rungHeight_19 : decode cX0_rungHeight 19 = .ok (.ireturn, 1) := by decide +kernel
theorem dX1_init_0 : decode cX1_init 0 = .ok (.aload_n 0, 1) := by decide +kernel
theorem dX1_init_1 : decode cX1_init 1 = .ok (.invokespecial 1, 3) := by decide +kernel
theorem dX1_init_4 : decode cX1_init 4 = .ok (.return_, 1) := by decide +kernel
theorem dX1_draw_0 : decode cX1_draw 0 = .ok (.aload_n 0, 1) := by decide +kernel
theorem dX1_draw_1 : decode cX1_draw 1 = .ok (.ldc 7, 2) := by decide +kernel
theorem dX1_draw_3 : decode cX1_draw 3 = .ok (.aload_n 0, 1) := by decide +kernel
theorem dX1_draw_4 : decode cX1_draw 4 = .ok (.getfield 8, 3) := by decide +kernel
theorem dX1_draw_7 : decode cX1_draw 7 = .ok (.imul, 1) := by decide +kernel
theorem dX1_draw_8 : decode cX1_draw 8 = .ok (.sipush 12345, 3) := by decide +kernel
theorem dX1_draw_11 : decode cX1_draw 11 = .ok (.iadd, 1) := by decide +kernel
theorem dX1_draw_12 : decode cX1_draw 12 = .ok (.putfield 8, 3) := by decide +kernel
theorem dX1_draw_15 : decode cX1_draw 15 = .ok (.iload_n 1, 1) := by decide +kernel
theorem dX1_draw_16 : decode cX1_draw 16 = .ok (.iconst 1, 1) := by decide +kernel
theorem dX1_draw_17 : decode cX1_draw 17 = .ok (.if_icmp .ge 7, 3) := by decide +kernel
theorem dX1_draw_20 : decode cX1_draw 20 = .ok (.iconst 0, 1) := by decide +kernel
theorem dX1_draw_21 : decode cX1_draw 21 = .ok (.goto 12, 3) := by decide +kernel
theorem dX1_draw_24 : decode cX1_draw 24 = .ok (.aload_n 0, 1) := by decide +kernel
theorem dX1_draw_25 : decode cX1_draw 25 = .ok (.getfield 8, 3) := by decide +kernel
theorem dX1_draw_28 : decode cX1_draw 28 = .ok (.bipush 16, 2) := by decide +kernel
theorem dX1_draw_30 : decode cX1_draw 30 = .ok (.iushr, 1) := by decide +kernel
theorem dX1_draw_31 : decode cX1_draw 31 = .ok (.iload_n 1, 1) := by decide +kernel
theorem dX1_draw_32 : decode cX1_draw 32 = .ok (.irem, 1) := by decide +kernel
theorem dX1_draw_33 : decode cX1_draw 33 = .ok (.ireturn, 1) := by decide +kernel
theorem dX2_init_0 : decode cX2_init 0 = .ok (.aload_n 0, 1) := by decide +kernel
theorem dX2_init_1 : decode cX2_init 1 = .ok (.invokespecial 3, 3) := by decide +kernel
theorem dX2_init_4 : decode cX2_init 4 = .ok (.aload_n 0, 1) := by decide +kernel
theorem dX2_init_5 : decode cX2_init 5 = .ok (.bipush 6, 2) := by decide +kernel
theorem dX2_init_7 : decode cX2_init 7 = .ok (.newarray .int, 2) := by decide +kernel
theorem dX2_init_9 : decode cX2_init 9 = .ok (.putfield 9, 3) := by decide +kernel
theorem dX2_init_12 : decode cX2_init 12 = .ok (.aload_n 0, 1) := by decide +kernel
theorem dX2_init_13 : decode cX2_init 13 = .ok (.sipush 400, 3) := by decide +kernel
theorem dX2_init_16 : decode cX2_init 16 = .ok (.newarray .int, 2) := by decide +kernel
theorem dX2_init_18 : decode cX2_init 18 = .ok (.putfield 15, 3) := by decide +kernel
theorem dX2_init_21 : decode cX2_init 21 = .ok (.aload_n 0, 1) := by decide +kernel
theorem dX2_init_22 : decode cX2_init 22 = .ok (.sipush 400, 3) := by decide +kernel
theorem dX2_init_25 : decode cX2_init 25 = .ok (.newarray .int, 2) := by decide +kernel
theorem dX2_init_27 : decode cX2_init 27 = .ok (.putfield 18, 3) := by decide +kernel
theorem dX2_init_30 : decode cX2_init 30 = .ok (.aload_n 0, 1) := by decide +kernel
theorem dX2_init_31 : decode cX2_init 31 = .ok (.aload_n 1, 1) := by decide +kernel
theorem dX2_init_32 : decode cX2_init 32 = .ok (.putfield 21, 3) := by decide +kernel
theorem dX2_init_35 : decode cX2_init 35 = .ok (.return_, 1) := by decide +kernel
theorem dX2_beginOf_0 : decode cX2_beginOf 0 = .ok (.iload_n 1, 1) := by decide +kernel
theorem dX2_beginOf_1 : decode cX2_beginOf 1 = .ok (.ifCond .lt 21, 3) := by decide +kernel
theorem dX2_beginOf_4 : decode cX2_beginOf 4 = .ok (.iload_n 1, 1) := by decide +kernel
theorem dX2_beginOf_5 : decode cX2_beginOf 5 = .ok (.aload_n 0, 1) := by decide +kernel
theorem dX2_beginOf_6 : decode cX2_beginOf 6 = .ok (.getfield 9, 3) := by decide +kernel
theorem dX2_beginOf_9 : decode cX2_beginOf 9 = .ok (.arraylength, 1) := by decide +kernel
theorem dX2_beginOf_10 : decode cX2_beginOf 10 = .ok (.if_icmp .ge 12, 3) := by decide +kernel
theorem dX2_beginOf_13 : decode cX2_beginOf 13 = .ok (.aload_n 0, 1) := by decide +kernel
theorem dX2_beginOf_14 : decode cX2_beginOf 14 = .ok (.getfield 9, 3) := by decide +kernel
theorem dX2_beginOf_17 : decode cX2_beginOf 17 = .ok (.iload_n 1, 1) := by decide +kernel
theorem dX2_beginOf_18 : decode cX2_beginOf 18 = .ok (.iaload, 1) := by decide +kernel
theorem dX2_beginOf_19 : decode cX2_beginOf 19 = .ok (.goto 4, 3) := by decide +kernel
theorem dX2_beginOf_22 : decode cX2_beginOf 22 = .ok (.iconst 0, 1) := by decide +kernel
theorem dX2_beginOf_23 : decode cX2_beginOf 23 = .ok (.ireturn, 1) := by decide +kernel
theorem dX2_beginAt_0 : decode cX2_beginAt 0 = .ok (.iload_n 1, 1) := by decide +kernel
theorem dX2_beginAt_1 : decode cX2_beginAt 1 = .ok (.ifCond .lt 23, 3) := by decide +kernel
theorem dX2_beginAt_4 : decode cX2_beginAt 4 = .ok (.iload_n 1, 1) := by decide +kernel
theorem dX2_beginAt_5 : decode cX2_beginAt 5 = .ok (.aload_n 0, 1) := by decide +kernel
theorem dX2_beginAt_6 : decode cX2_beginAt 6 = .ok (.getfield 9, 3) := by decide +kernel
theorem dX2_beginAt_9 : decode cX2_beginAt 9 = .ok (.arraylength, 1) := by decide +kernel
theorem dX2_beginAt_10 : decode cX2_beginAt 10 = .ok (.if_icmp .ge 14, 3) := by decide +kernel
theorem dX2_beginAt_13 : decode cX2_beginAt 13 = .ok (.aload_n 0, 1) := by decide +kernel
theorem dX2_beginAt_14 : decode cX2_beginAt 14 = .ok (.getfield 9, 3) := by decide +kernel
theorem dX2_beginAt_17 : decode cX2_beginAt 17 = .ok (.iload_n 1, 1) := by decide +kernel
theorem dX2_beginAt_18 : decode cX2_beginAt 18 = .ok (.iload_n 2, 1) := by decide +kernel
theorem dX2_beginAt_19 : decode cX2_beginAt 19 = .ok (.iastore, 1) := by decide +kernel
theorem dX2_beginAt_20 : decode cX2_beginAt 20 = .ok (.aload_n 0, 1) := by decide +kernel
theorem dX2_beginAt_21 : decode cX2_beginAt 21 = .ok (.invokevirtual 25, 3) := by decide +kernel
theorem dX2_beginAt_24 : decode cX2_beginAt 24 = .ok (.return_, 1) := by decide +kernel
theorem dX2_putLee_0 : decode cX2_putLee 0 = .ok (.aload_n 0, 1) := by decide +kernel
theorem dX2_putLee_1 : decode cX2_putLee 1 = .ok (.iload_n 1, 1) := by decide +kernel
theorem dX2_putLee_2 : decode cX2_putLee 2 = .ok (.putfield 28, 3) := by decide +kernel
theorem dX2_putLee_5 : decode cX2_putLee 5 = .ok (.aload_n 0, 1) := by decide +kernel
theorem dX2_putLee_6 : decode cX2_putLee 6 = .ok (.iload_n 2, 1) := by decide +kernel
theorem dX2_putLee_7 : decode cX2_putLee 7 = .ok (.putfield 32, 3) := by decide +kernel
theorem dX2_putLee_10 : decode cX2_putLee 10 = .ok (.aload_n 0, 1) := by decide +kernel
theorem dX2_putLee_11 : decode cX2_putLee 11 = .ok (.invokevirtual 25, 3) := by decide +kernel
theorem dX2_putLee_14 : decode cX2_putLee 14 = .ok (.return_, 1) := by decide +kernel
theorem dX2_renew_0 : decode cX2_renew 0 = .ok (.iconst 0, 1) := by decide +kernel
theorem dX2_renew_1 : decode cX2_renew 1 = .ok (.istore_n 1, 1) := by decide +kernel
theorem dX2_renew_2 : decode cX2_renew 2 = .ok (.iload_n 1, 1) := by decide +kernel
theorem dX2_renew_3 : decode cX2_renew 3 = .ok (.aload_n 0, 1) := by decide +kernel
theorem dX2_renew_4 : decode cX2_renew 4 = .ok (.getfield 15, 3) := by decide +kernel
theorem dX2_renew_7 : decode cX2_renew 7 = .ok (.arraylength, 1) := by decide +kernel
theorem dX2_renew_8 : decode cX2_renew 8 = .ok (.if_icmp .ge 16, 3) := by decide +kernel
theorem dX2_renew_11 : decode cX2_renew 11 = .ok (.aload_n 0, 1) := by decide +kernel
theorem dX2_renew_12 : decode cX2_renew 12 = .ok (.getfield 15, 3) := by decide +kernel
theorem dX2_renew_15 : decode cX2_renew 15 = .ok (.iload_n 1, 1) := by decide +kernel
theorem dX2_renew_16 : decode cX2_renew 16 = .ok (.iconst 0, 1) := by decide +kernel
theorem dX2_renew_17 : decode cX2_renew 17 = .ok (.iastore, 1) := by decide +kernel
theorem dX2_renew_18 : decode cX2_renew 18 = .ok (.iinc 1 1, 3) := by decide +kernel
theorem dX2_renew_21 : decode cX2_renew 21 = .ok (.goto (-19), 3) := by decide +kernel
theorem dX2_renew_24 : decode cX2_renew 24 = .ok (.iconst 0, 1) := by decide +kernel
theorem dX2_renew_25 : decode cX2_renew 25 = .ok (.istore_n 1, 1) := by decide +kernel
theorem dX2_renew_26 : decode cX2_renew 26 = .ok (.iload_n 1, 1) := by decide +kernel
theorem dX2_renew_27 : decode cX2_renew 27 = .ok (.aload_n 0, 1) := by decide +kernel
theorem dX2_renew_28 : decode cX2_renew 28 = .ok (.getfield 21, 3) := by decide +kernel
theorem dX2_renew_31 : decode cX2_renew 31 = .ok (.getfield 35, 3) := by decide +kernel
theorem dX2_renew_34 : decode cX2_renew 34 = .ok (.if_icmp .ge 51, 3) := by decide +kernel
theorem dX2_renew_37 : decode cX2_renew 37 = .ok (.aload_n 0, 1) := by decide +kernel
theorem dX2_renew_38 : decode cX2_renew 38 = .ok (.getfield 21, 3) := by decide +kernel
theorem dX2_renew_41 : decode cX2_renew 41 = .ok (.iload_n 1, 1) := by decide +kernel
theorem dX2_renew_42 : decode cX2_renew 42 = .ok (.invokevirtual 40, 3) := by decide +kernel
theorem dX2_renew_45 : decode cX2_renew 45 = .ok (.istore_n 2, 1) := by decide +kernel
theorem dX2_renew_46 : decode cX2_renew 46 = .ok (.iconst 0, 1) := by decide +kernel
theorem dX2_renew_47 : decode cX2_renew 47 = .ok (.istore_n 3, 1) := by decide +kernel
theorem dX2_renew_48 : decode cX2_renew 48 = .ok (.iload_n 3, 1) := by decide +kernel
theorem dX2_renew_49 : decode cX2_renew 49 = .ok (.aload_n 0, 1) := by decide +kernel
theorem dX2_renew_50 : decode cX2_renew 50 = .ok (.getfield 15, 3) := by decide +kernel
theorem dX2_renew_53 : decode cX2_renew 53 = .ok (.arraylength, 1) := by decide +kernel
theorem dX2_renew_54 : decode cX2_renew 54 = .ok (.if_icmp .ge 25, 3) := by decide +kernel
theorem dX2_renew_57 : decode cX2_renew 57 = .ok (.aload_n 0, 1) := by decide +kernel
theorem dX2_renew_58 : decode cX2_renew 58 = .ok (.getfield 15, 3) := by decide +kernel
theorem dX2_renew_61 : decode cX2_renew 61 = .ok (.iload_n 3, 1) := by decide +kernel
theorem dX2_renew_62 : decode cX2_renew 62 = .ok (.dup2, 1) := by decide +kernel
theorem dX2_renew_63 : decode cX2_renew 63 = .ok (.iaload, 1) := by decide +kernel
theorem dX2_renew_64 : decode cX2_renew 64 = .ok (.aload_n 0, 1) := by decide +kernel
theorem dX2_renew_65 : decode cX2_renew 65 = .ok (.iload_n 1, 1) := by decide +kernel
theorem dX2_renew_66 : decode cX2_renew 66 = .ok (.iload_n 2, 1) := by decide +kernel
theorem dX2_renew_67 : decode cX2_renew 67 = .ok (.iload_n 3, 1) := by decide +kernel
theorem dX2_renew_68 : decode cX2_renew 68 = .ok (.invokevirtual 44, 3) := by decide +kernel
theorem dX2_renew_71 : decode cX2_renew 71 = .ok (.iadd, 1) := by decide +kernel
theorem dX2_renew_72 : decode cX2_renew 72 = .ok (.iastore, 1) := by decide +kernel
theorem dX2_renew_73 : decode cX2_renew 73 = .ok (.iinc 3 1, 3) := by decide +kernel
theorem dX2_renew_76 : decode cX2_renew 76 = .ok (.goto (-28), 3) := by decide +kernel
theorem dX2_renew_79 : decode cX2_renew 79 = .ok (.iinc 1 1, 3) := by decide +kernel
theorem dX2_renew_82 : decode cX2_renew 82 = .ok (.goto (-56), 3) := by decide +kernel
theorem dX2_renew_85 : decode cX2_renew 85 = .ok (.iconst 0, 1) := by decide +kernel
theorem dX2_renew_86 : decode cX2_renew 86 = .ok (.istore_n 1, 1) := by decide +kernel
theorem dX2_renew_87 : decode cX2_renew 87 = .ok (.iload_n 1, 1) := by decide +kernel
theorem dX2_renew_88 : decode cX2_renew 88 = .ok (.aload_n 0, 1) := by decide +kernel
theorem dX2_renew_89 : decode cX2_renew 89 = .ok (.getfield 18, 3) := by decide +kernel
theorem dX2_renew_92 : decode cX2_renew 92 = .ok (.arraylength, 1) := by decide +kernel
theorem dX2_renew_93 : decode cX2_renew 93 = .ok (.if_icmp .ge 35, 3) := by decide +kernel
theorem dX2_renew_96 : decode cX2_renew 96 = .ok (.iload_n 1, 1) := by decide +kernel
theorem dX2_renew_97 : decode cX2_renew 97 = .ok (.aload_n 0, 1) := by decide +kernel
theorem dX2_renew_98 : decode cX2_renew 98 = .ok (.getfield 15, 3) := by decide +kernel
theorem dX2_renew_101 : decode cX2_renew 101 = .ok (.arraylength, 1) := by decide +kernel
theorem dX2_renew_102 : decode cX2_renew 102 = .ok (.if_icmp .ge 26, 3) := by decide +kernel
theorem dX2_renew_105 : decode cX2_renew 105 = .ok (.aload_n 0, 1) := by decide +kernel
theorem dX2_renew_106 : decode cX2_renew 106 = .ok (.getfield 18, 3) := by decide +kernel
theorem dX2_renew_109 : decode cX2_renew 109 = .ok (.iload_n 1, 1) := by decide +kernel
theorem dX2_renew_110 : decode cX2_renew 110 = .ok (.aload_n 0, 1) := by decide +kernel
theorem dX2_renew_111 : decode cX2_renew 111 = .ok (.iload_n 1, 1) := by decide +kernel
theorem dX2_renew_112 : decode cX2_renew 112 = .ok (.aload_n 0, 1) := by decide +kernel
theorem dX2_renew_113 : decode cX2_renew 113 = .ok (.getfield 15, 3) := by decide +kernel
theorem dX2_renew_116 : decode cX2_renew 116 = .ok (.iload_n 1, 1) := by decide +kernel
theorem dX2_renew_117 : decode cX2_renew 117 = .ok (.iaload, 1) := by decide +kernel
theorem dX2_renew_118 : decode cX2_renew 118 = .ok (.invokevirtual 48, 3) := by decide +kernel
theorem dX2_renew_121 : decode cX2_renew 121 = .ok (.iastore, 1) := by decide +kernel
theorem dX2_renew_122 : decode cX2_renew 122 = .ok (.iinc 1 1, 3) := by decide +kernel
theorem dX2_renew_125 : decode cX2_renew 125 = .ok (.goto (-38), 3) := by decide +kernel
theorem dX2_renew_128 : decode cX2_renew 128 = .ok (.return_, 1) := by decide +kernel
theorem dX2_alone_0 : decode cX2_alone 0 = .ok (.iload_n 2, 1) := by decide +kernel
theorem dX2_alone_1 : decode cX2_alone 1 = .ok (.iconst 2, 1) := by decide +kernel
theorem dX2_alone_2 : decode cX2_alone 2 = .ok (.if_icmp .ge 5, 3) := by decide +kernel
theorem dX2_alone_5 : decode cX2_alone 5 = .ok (.iconst 0, 1) := by decide +kernel
theorem dX2_alone_6 : decode cX2_alone 6 = .ok (.ireturn, 1) := by decide +kernel
theorem dX2_alone_7 : decode cX2_alone 7 = .ok (.iload_n 3, 1) := by decide +kernel
theorem dX2_alone_8 : decode cX2_alone 8 = .ok (.aload_n 0, 1) := by decide +kernel
theorem dX2_alone_9 : decode cX2_alone 9 = .ok (.iload_n 1, 1) := by decide +kernel
theorem dX2_alone_10 : decode cX2_alone 10 = .ok (.invokevirtual 52, 3) := by decide +kernel
theorem dX2_alone_13 : decode cX2_alone 13 = .ok (.iadd, 1) := by decide +kernel
theorem dX2_alone_14 : decode cX2_alone 14 = .ok (.iload_n 2, 1) := by decide +kernel
theorem dX2_alone_15 : decode cX2_alone 15 = .ok (.irem, 1) := by decide +kernel
theorem dX2_alone_16 : decode cX2_alone 16 = .ok (.istore 4, 2) := by decide +kernel
theorem dX2_alone_18 : decode cX2_alone 18 = .ok (.aload_n 0, 1) := by decide +kernel
theorem dX2_alone_19 : decode cX2_alone 19 = .ok (.getfield 21, 3) := by decide +kernel
theorem dX2_alone_22 : decode cX2_alone 22 = .ok (.iload_n 1, 1) := by decide +kernel
theorem dX2_alone_23 : decode cX2_alone 23 = .ok (.invokevirtual 55, 3) := by decide +kernel
theorem dX2_alone_26 : decode cX2_alone 26 = .ok (.iload 4, 2) := by decide +kernel
theorem dX2_alone_28 : decode cX2_alone 28 = .ok (.iload_n 2, 1) := by decide +kernel
theorem dX2_alone_29 : decode cX2_alone 29 = .ok (.iload 4, 2) := by decide +kernel
theorem dX2_alone_31 : decode cX2_alone 31 = .ok (.isub, 1) := by decide +kernel
theorem dX2_alone_32 : decode cX2_alone 32 = .ok (.invokestatic 58, 3) := by decide +kernel
theorem dX2_alone_35 : decode cX2_alone 35 = .ok (.imul, 1) := by decide +kernel
theorem dX2_alone_36 : decode cX2_alone 36 = .ok (.ireturn, 1) := by decide +kernel
theorem dX2_cutByLee_0 : decode cX2_cutByLee 0 = .ok (.iload_n 1, 1) := by decide +kernel
theorem dX2_cutByLee_1 : decode cX2_cutByLee 1 = .ok (.aload_n 0, 1) := by decide +kernel
theorem dX2_cutByLee_2 : decode cX2_cutByLee 2 = .ok (.getfield 28, 3) := by decide +kernel
theorem dX2_cutByLee_5 : decode cX2_cutByLee 5 = .ok (.if_icmp .lt 20, 3) := by decide +kernel
theorem dX2_cutByLee_8 : decode cX2_cutByLee 8 = .ok (.iload_n 1, 1) := by decide +kernel
theorem dX2_cutByLee_9 : decode cX2_cutByLee 9 = .ok (.aload_n 0, 1) := by decide +kernel
theorem dX2_cutByLee_10 : decode cX2_cutByLee 10 = .ok (.getfield 28, 3) := by decide +kernel
theorem dX2_cutByLee_13 : decode cX2_cutByLee 13 = .ok (.isub, 1) := by decide +kernel
theorem dX2_cutByLee_14 : decode cX2_cutByLee 14 = .ok (.aload_n 0, 1) := by decide +kernel
theorem dX2_cutByLee_15 : decode cX2_cutByLee 15 = .ok (.getfield 32, 3) := by decide +kernel
theorem dX2_cutByLee_18 : decode cX2_cutByLee 18 = .ok (.if_icmp .ge 7, 3) := by decide +kernel
theorem dX2_cutByLee_21 : decode cX2_cutByLee 21 = .ok (.iconst 1, 1) := by decide +kernel
theorem dX2_cutByLee_22 : decode cX2_cutByLee 22 = .ok (.goto 4, 3) := by decide +kernel
theorem dX2_cutByLee_25 : decode cX2_cutByLee 25 = .ok (.iconst 0, 1) := by decide +kernel
theorem dX2_cutByLee_26 : decode cX2_cutByLee 26 = .ok (.istore_n 3, 1) := by decide +kernel
theorem dX2_cutByLee_27 : decode cX2_cutByLee 27 = .ok (.iload_n 3, 1) := by decide +kernel
theorem dX2_cutByLee_28 : decode cX2_cutByLee 28 = .ok (.ifCond .eq 9, 3) := by decide +kernel
theorem dX2_cutByLee_31 : decode cX2_cutByLee 31 = .ok (.iload_n 2, 1) := by decide +kernel
theorem dX2_cutByLee_32 : decode cX2_cutByLee 32 = .ok (.iconst 2, 1) := by decide +kernel
theorem dX2_cutByLee_33 : decode cX2_cutByLee 33 = .ok (.idiv, 1) := by decide +kernel
theorem dX2_cutByLee_34 : decode cX2_cutByLee 34 = .ok (.goto 4, 3) := by decide +kernel
theorem dX2_cutByLee_37 : decode cX2_cutByLee 37 = .ok (.iload_n 2, 1) := by decide +kernel
theorem dX2_cutByLee_38 : decode cX2_cutByLee 38 = .ok (.ireturn, 1) := by decide +kernel
theorem dX2_heightAt_0 : decode cX2_heightAt 0 = .ok (.iload_n 1, 1) := by decide +kernel
theorem dX2_heightAt_1 : decode cX2_heightAt 1 = .ok (.ifCond .lt 21, 3) := by decide +kernel
theorem dX2_heightAt_4 : decode cX2_heightAt 4 = .ok (.iload_n 1, 1) := by decide +kernel
theorem dX2_heightAt_5 : decode cX2_heightAt 5 = .ok (.aload_n 0, 1) := by decide +kernel
theorem dX2_heightAt_6 : decode cX2_heightAt 6 = .ok (.getfield 18, 3) := by decide +kernel
theorem dX2_heightAt_9 : decode cX2_heightAt 9 = .ok (.arraylength, 1) := by decide +kernel
theorem dX2_heightAt_10 : decode cX2_heightAt 10 = .ok (.if_icmp .ge 12, 3) := by decide +kernel
theorem dX2_heightAt_13 : decode cX2_heightAt 13 = .ok (.aload_n 0, 1) := by decide +kernel
theorem dX2_heightAt_14 : decode cX2_heightAt 14 = .ok (.getfield 18, 3) := by decide +kernel
theorem dX2_heightAt_17 : decode cX2_heightAt 17 = .ok (.iload_n 1, 1) := by decide +kernel
theorem dX2_heightAt_18 : decode cX2_heightAt 18 = .ok (.iaload, 1) := by decide +kernel
theorem dX2_heightAt_19 : decode cX2_heightAt 19 = .ok (.goto 4, 3) := by decide +kernel
theorem dX2_heightAt_22 : decode cX2_heightAt 22 = .ok (.iconst 0, 1) := by decide +kernel
theorem dX2_heightAt_23 : decode cX2_heightAt 23 = .ok (.ireturn, 1) := by decide +kernel
theorem dX2_heightWithoutLee_0 : decode cX2_heightWithoutLee 0 = .ok (.iload_n 1, 1) := by decide +kernel
theorem dX2_heightWithoutLee_1 : decode cX2_heightWithoutLee 1 = .ok (.ifCond .lt 21, 3) := by decide +kernel
theorem dX2_heightWithoutLee_4 : decode cX2_heightWithoutLee 4 = .ok (.iload_n 1, 1) := by decide +kernel
theorem dX2_heightWithoutLee_5 : decode cX2_heightWithoutLee 5 = .ok (.aload_n 0, 1) := by decide +kernel
theorem dX2_heightWithoutLee_6 : decode cX2_heightWithoutLee 6 = .ok (.getfield 15, 3) := by decide +kernel
theorem dX2_heightWithoutLee_9 : decode cX2_heightWithoutLee 9 = .ok (.arraylength, 1) := by decide +kernel
theorem dX2_heightWithoutLee_10 : decode cX2_heightWithoutLee 10 = .ok (.if_icmp .ge 12, 3) := by decide +kernel
theorem dX2_heightWithoutLee_13 : decode cX2_heightWithoutLee 13 = .ok (.aload_n 0, 1) := by decide +kernel
theorem dX2_heightWithoutLee_14 : decode cX2_heightWithoutLee 14 = .ok (.getfield 15, 3) := by decide +kernel
theorem dX2_heightWithoutLee_17 : decode cX2_heightWithoutLee 17 = .ok (.iload_n 1, 1) := by decide +kernel
theorem dX2_heightWithoutLee_18 : decode cX2_heightWithoutLee 18 = .ok (.iaload, 1) := by decide +kernel
theorem dX2_heightWithoutLee_19 : decode cX2_heightWithoutLee 19 = .ok (.goto 4, 3) := by decide +kernel
theorem dX2_heightWithoutLee_22 : decode cX2_heightWithoutLee 22 = .ok (.iconst 0, 1) := by decide +kernel
theorem dX2_heightWithoutLee_23 : decode cX2_heightWithoutLee 23 = .ok (.ireturn, 1) := by decide +kernel
theorem dX2_heightWith_0 : decode cX2_heightWith 0 = .ok (.aload_n 0, 1) := by decide +kernel
theorem dX2_heightWith_1 : decode cX2_heightWith 1 = .ok (.iload_n 3, 1) := by decide +kernel
theorem dX2_heightWith_2 : decode cX2_heightWith 2 = .ok (.invokevirtual 63, 3) := by decide +kernel
theorem dX2_heightWith_5 : decode cX2_heightWith 5 = .ok (.aload_n 0, 1) := by decide +kernel
theorem dX2_heightWith_6 : decode cX2_heightWith 6 = .ok (.iload_n 1, 1) := by decide +kernel
theorem dX2_heightWith_7 : decode cX2_heightWith 7 = .ok (.aload_n 0, 1) := by decide +kernel
theorem dX2_heightWith_8 : decode cX2_heightWith 8 = .ok (.getfield 21, 3) := by decide +kernel
theorem dX2_heightWith_11 : decode cX2_heightWith 11 = .ok (.iload_n 1, 1) := by decide +kernel
theorem dX2_heightWith_12 : decode cX2_heightWith 12 = .ok (.invokevirtual 40, 3) := by decide +kernel
theorem dX2_heightWith_15 : decode cX2_heightWith 15 = .ok (.iload_n 3, 1) := by decide +kernel
theorem dX2_heightWith_16 : decode cX2_heightWith 16 = .ok (.invokevirtual 44, 3) := by decide +kernel
theorem dX2_heightWith_19 : decode cX2_heightWith 19 = .ok (.isub, 1) := by decide +kernel
theorem dX2_heightWith_20 : decode cX2_heightWith 20 = .ok (.istore 4, 2) := by decide +kernel
theorem dX2_heightWith_22 : decode cX2_heightWith 22 = .ok (.aload_n 0, 1) := by decide +kernel
theorem dX2_heightWith_23 : decode cX2_heightWith 23 = .ok (.iload_n 3, 1) := by decide +kernel
theorem dX2_heightWith_24 : decode cX2_heightWith 24 = .ok (.iload 4, 2) := by decide +kernel
theorem dX2_heightWith_26 : decode cX2_heightWith 26 = .ok (.aload_n 0, 1) := by decide +kernel
theorem dX2_heightWith_27 : decode cX2_heightWith 27 = .ok (.iload_n 1, 1) := by decide +kernel
theorem dX2_heightWith_28 : decode cX2_heightWith 28 = .ok (.iload_n 2, 1) := by decide +kernel
theorem dX2_heightWith_29 : decode cX2_heightWith 29 = .ok (.iload_n 3, 1) := by decide +kernel
theorem dX2_heightWith_30 : decode cX2_heightWith 30 = .ok (.invokevirtual 44, 3) := by decide +kernel
theorem dX2_heightWith_33 : decode cX2_heightWith 33 = .ok (.iadd, 1) := by decide +kernel
theorem dX2_heightWith_34 : decode cX2_heightWith 34 = .ok (.invokevirtual 48, 3) := by decide +kernel
theorem dX2_heightWith_37 : decode cX2_heightWith 37 = .ok (.ireturn, 1) := by decide +kernel
theorem dX2_moveAt_0 : decode cX2_moveAt 0 = .ok (.iload_n 1, 1) := by decide +kernel
theorem dX2_moveAt_1 : decode cX2_moveAt 1 = .ok (.ifCond .le 14, 3) := by decide +kernel
theorem dX2_moveAt_4 : decode cX2_moveAt 4 = .ok (.iload_n 1, 1) := by decide +kernel
theorem dX2_moveAt_5 : decode cX2_moveAt 5 = .ok (.aload_n 0, 1) := by decide +kernel
theorem dX2_moveAt_6 : decode cX2_moveAt 6 = .ok (.getfield 18, 3) := by decide +kernel
theorem dX2_moveAt_9 : decode cX2_moveAt 9 = .ok (.arraylength, 1) := by decide +kernel
theorem dX2_moveAt_10 : decode cX2_moveAt 10 = .ok (.iconst 1, 1) := by decide +kernel
theorem dX2_moveAt_11 : decode cX2_moveAt 11 = .ok (.isub, 1) := by decide +kernel
theorem dX2_moveAt_12 : decode cX2_moveAt 12 = .ok (.if_icmp .lt 5, 3) := by decide +kernel
theorem dX2_moveAt_15 : decode cX2_moveAt 15 = .ok (.iconst 0, 1) := by decide +kernel
theorem dX2_moveAt_16 : decode cX2_moveAt 16 = .ok (.ireturn, 1) := by decide +kernel
theorem dX2_moveAt_17 : decode cX2_moveAt 17 = .ok (.aload_n 0, 1) := by decide +kernel
theorem dX2_moveAt_18 : decode cX2_moveAt 18 = .ok (.getfield 18, 3) := by decide +kernel
theorem dX2_moveAt_21 : decode cX2_moveAt 21 = .ok (.iload_n 1, 1) := by decide +kernel
theorem dX2_moveAt_22 : decode cX2_moveAt 22 = .ok (.iaload, 1) := by decide +kernel
theorem dX2_moveAt_23 : decode cX2_moveAt 23 = .ok (.istore_n 2, 1) := by decide +kernel
theorem dX2_moveAt_24 : decode cX2_moveAt 24 = .ok (.aload_n 0, 1) := by decide +kernel
theorem dX2_moveAt_25 : decode cX2_moveAt 25 = .ok (.getfield 18, 3) := by decide +kernel
theorem dX2_moveAt_28 : decode cX2_moveAt 28 = .ok (.iload_n 1, 1) := by decide +kernel
theorem dX2_moveAt_29 : decode cX2_moveAt 29 = .ok (.iconst 1, 1) := by decide +kernel
theorem dX2_moveAt_30 : decode cX2_moveAt 30 = .ok (.iadd, 1) := by decide +kernel
theorem dX2_moveAt_31 : decode cX2_moveAt 31 = .ok (.iaload, 1) := by decide +kernel
theorem dX2_moveAt_32 : decode cX2_moveAt 32 = .ok (.istore_n 3, 1) := by decide +kernel
theorem dX2_moveAt_33 : decode cX2_moveAt 33 = .ok (.iload_n 3, 1) := by decide +kernel
theorem dX2_moveAt_34 : decode cX2_moveAt 34 = .ok (.iload_n 2, 1) := by decide +kernel
theorem dX2_moveAt_35 : decode cX2_moveAt 35 = .ok (.if_icmp .ge 21, 3) := by decide +kernel
theorem dX2_moveAt_38 : decode cX2_moveAt 38 = .ok (.aload_n 0, 1) := by decide +kernel
theorem dX2_moveAt_39 : decode cX2_moveAt 39 = .ok (.getfield 18, 3) := by decide +kernel
theorem dX2_moveAt_42 : decode cX2_moveAt 42 = .ok (.iload_n 1, 1) := by decide +kernel
theorem dX2_moveAt_43 : decode cX2_moveAt 43 = .ok (.iconst 1, 1) := by decide +kernel
theorem dX2_moveAt_44 : decode cX2_moveAt 44 = .ok (.isub, 1) := by decide +kernel
theorem dX2_moveAt_45 : decode cX2_moveAt 45 = .ok (.iaload, 1) := by decide +kernel
theorem dX2_moveAt_46 : decode cX2_moveAt 46 = .ok (.iload_n 2, 1) := by decide +kernel
theorem dX2_moveAt_47 : decode cX2_moveAt 47 = .ok (.if_icmp .gt 7, 3) := by decide +kernel
theorem dX2_moveAt_50 : decode cX2_moveAt 50 = .ok (.iconst 1, 1) := by decide +kernel
theorem dX2_moveAt_51 : decode cX2_moveAt 51 = .ok (.goto 4, 3) := by decide +kernel
theorem dX2_moveAt_54 : decode cX2_moveAt 54 = .ok (.iconst 3, 1) := by decide +kernel
theorem dX2_moveAt_55 : decode cX2_moveAt 55 = .ok (.ireturn, 1) := by decide +kernel
theorem dX2_moveAt_56 : decode cX2_moveAt 56 = .ok (.iload_n 3, 1) := by decide +kernel
theorem dX2_moveAt_57 : decode cX2_moveAt 57 = .ok (.iload_n 2, 1) := by decide +kernel
theorem dX2_moveAt_58 : decode cX2_moveAt 58 = .ok (.if_icmp .le 7, 3) := by decide +kernel
theorem dX2_moveAt_61 : decode cX2_moveAt 61 = .ok (.iconst 2, 1) := by decide +kernel
theorem dX2_moveAt_62 : decode cX2_moveAt 62 = .ok (.goto 4, 3) := by decide +kernel
theorem dX2_moveAt_65 : decode cX2_moveAt 65 = .ok (.iconst 0, 1) := by decide +kernel
theorem dX2_moveAt_66 : decode cX2_moveAt 66 = .ok (.ireturn, 1) := by decide +kernel
theorem dX2_crestFrom_0 : decode cX2_crestFrom 0 = .ok (.iconst 0, 1) := by decide +kernel
theorem dX2_crestFrom_1 : decode cX2_crestFrom 1 = .ok (.istore_n 3, 1) := by decide +kernel
theorem dX2_crestFrom_2 : decode cX2_crestFrom 2 = .ok (.iload_n 1, 1) := by decide +kernel
theorem dX2_crestFrom_3 : decode cX2_crestFrom 3 = .ok (.istore 4, 2) := by decide +kernel
theorem dX2_crestFrom_5 : decode cX2_crestFrom 5 = .ok (.iload 4, 2) := by decide +kernel
theorem dX2_crestFrom_7 : decode cX2_crestFrom 7 = .ok (.aload_n 0, 1) := by decide +kernel
theorem dX2_crestFrom_8 : decode cX2_crestFrom 8 = .ok (.getfield 18, 3) := by decide +kernel
theorem dX2_crestFrom_11 : decode cX2_crestFrom 11 = .ok (.arraylength, 1) := by decide +kernel
theorem dX2_crestFrom_12 : decode cX2_crestFrom 12 = .ok (.if_icmp .ge 30, 3) := by decide +kernel
theorem dX2_crestFrom_15 : decode cX2_crestFrom 15 = .ok (.aload_n 0, 1) := by decide +kernel
theorem dX2_crestFrom_16 : decode cX2_crestFrom 16 = .ok (.iload 4, 2) := by decide +kernel
theorem dX2_crestFrom_18 : decode cX2_crestFrom 18 = .ok (.invokevirtual 66, 3) := by decide +kernel
theorem dX2_crestFrom_21 : decode cX2_crestFrom 21 = .ok (.iconst 1, 1) := by decide +kernel
theorem dX2_crestFrom_22 : decode cX2_crestFrom 22 = .ok (.if_icmp .ne 14, 3) := by decide +kernel
theorem dX2_crestFrom_25 : decode cX2_crestFrom 25 = .ok (.iinc 3 1, 3) := by decide +kernel
theorem dX2_crestFrom_28 : decode cX2_crestFrom 28 = .ok (.iload_n 3, 1) := by decide +kernel
theorem dX2_crestFrom_29 : decode cX2_crestFrom 29 = .ok (.iload_n 2, 1) := by decide +kernel
theorem dX2_crestFrom_30 : decode cX2_crestFrom 30 = .ok (.if_icmp .ne 6, 3) := by decide +kernel
theorem dX2_crestFrom_33 : decode cX2_crestFrom 33 = .ok (.iload 4, 2) := by decide +kernel
theorem dX2_crestFrom_35 : decode cX2_crestFrom 35 = .ok (.ireturn, 1) := by decide +kernel
theorem dX2_crestFrom_36 : decode cX2_crestFrom 36 = .ok (.iinc 4 1, 3) := by decide +kernel
theorem dX2_crestFrom_39 : decode cX2_crestFrom 39 = .ok (.goto (-34), 3) := by decide +kernel
theorem dX2_crestFrom_42 : decode cX2_crestFrom 42 = .ok (.iconst (-1), 1) := by decide +kernel
theorem dX2_crestFrom_43 : decode cX2_crestFrom 43 = .ok (.ireturn, 1) := by decide +kernel
theorem dX2_highestCrestFrom_0 : decode cX2_highestCrestFrom 0 = .ok (.iconst (-1), 1) := by decide +kernel
theorem dX2_highestCrestFrom_1 : decode cX2_highestCrestFrom 1 = .ok (.istore_n 2, 1) := by decide +kernel
theorem dX2_highestCrestFrom_2 : decode cX2_highestCrestFrom 2 = .ok (.iconst (-1), 1) := by decide +kernel
theorem dX2_highestCrestFrom_3 : decode cX2_highestCrestFrom 3 = .ok (.istore_n 3, 1) := by decide +kernel
theorem dX2_highestCrestFrom_4 : decode cX2_highestCrestFrom 4 = .ok (.aload_n 0, 1) := by decide +kernel
theorem dX2_highestCrestFrom_5 : decode cX2_highestCrestFrom 5 = .ok (.iload_n 1, 1) := by decide +kernel
theorem dX2_highestCrestFrom_6 : decode cX2_highestCrestFrom 6 = .ok (.iconst 1, 1) := by decide +kernel
theorem dX2_highestCrestFrom_7 : decode cX2_highestCrestFrom 7 = .ok (.invokevirtual 69, 3) := by decide +kernel
theorem dX2_highestCrestFrom_10 : decode cX2_highestCrestFrom 10 = .ok (.istore 4, 2) := by decide +kernel
theorem dX2_highestCrestFrom_12 : decode cX2_highestCrestFrom 12 = .ok (.iconst 1, 1) := by decide +kernel
theorem dX2_highestCrestFrom_13 : decode cX2_highestCrestFrom 13 = .ok (.istore 5, 2) := by decide +kernel
theorem dX2_highestCrestFrom_15 : decode cX2_highestCrestFrom 15 = .ok (.iload 5, 2) := by decide +kernel
theorem dX2_highestCrestFrom_17 : decode cX2_highestCrestFrom 17 = .ok (.bipush 7, 2) := by decide +kernel
theorem dX2_highestCrestFrom_19 : decode cX2_highestCrestFrom 19 = .ok (.if_icmp .gt 46, 3) := by decide +kernel
theorem dX2_highestCrestFrom_22 : decode cX2_highestCrestFrom 22 = .ok (.iload 4, 2) := by decide +kernel
theorem dX2_highestCrestFrom_24 : decode cX2_highestCrestFrom 24 = .ok (.iconst (-1), 1) := by decide +kernel
theorem dX2_highestCrestFrom_25 : decode cX2_highestCrestFrom 25 = .ok (.if_icmp .eq 40, 3) := by decide +kernel
theorem dX2_highestCrestFrom_28 : decode cX2_highestCrestFrom 28 = .ok (.aload_n 0, 1) := by decide +kernel
theorem dX2_highestCrestFrom_29 : decode cX2_highestCrestFrom 29 = .ok (.iload 4, 2) := by decide +kernel
theorem dX2_highestCrestFrom_31 : decode cX2_highestCrestFrom 31 = .ok (.invokevirtual 72, 3) := by decide +kernel
theorem dX2_highestCrestFrom_34 : decode cX2_highestCrestFrom 34 = .ok (.iload_n 3, 1) := by decide +kernel
theorem dX2_highestCrestFrom_35 : decode cX2_highestCrestFrom 35 = .ok (.if_icmp .le 13, 3) := by decide +kernel
theorem dX2_highestCrestFrom_38 : decode cX2_highestCrestFrom 38 = .ok (.iload 5, 2) := by decide +kernel
theorem dX2_highestCrestFrom_40 : decode cX2_highestCrestFrom 40 = .ok (.istore_n 2, 1) := by decide +kernel
theorem dX2_highestCrestFrom_41 : decode cX2_highestCrestFrom 41 = .ok (.aload_n 0, 1) := by decide +kernel
theorem dX2_highestCrestFrom_42 : decode cX2_highestCrestFrom 42 = .ok (.iload 4, 2) := by decide +kernel
theorem dX2_highestCrestFrom_44 : decode cX2_highestCrestFrom 44 = .ok (.invokevirtual 72, 3) := by decide +kernel
theorem dX2_highestCrestFrom_47 : decode cX2_highestCrestFrom 47 = .ok (.istore_n 3, 1) := by decide +kernel
theorem dX2_highestCrestFrom_48 : decode cX2_highestCrestFrom 48 = .ok (.aload_n 0, 1) := by decide +kernel
theorem dX2_highestCrestFrom_49 : decode cX2_highestCrestFrom 49 = .ok (.iload 4, 2) := by decide +kernel
theorem dX2_highestCrestFrom_51 : decode cX2_highestCrestFrom 51 = .ok (.iconst 1, 1) := by decide +kernel
theorem dX2_highestCrestFrom_52 : decode cX2_highestCrestFrom 52 = .ok (.iadd, 1) := by decide +kernel
theorem dX2_highestCrestFrom_53 : decode cX2_highestCrestFrom 53 = .ok (.iconst 1, 1) := by decide +kernel
theorem dX2_highestCrestFrom_54 : decode cX2_highestCrestFrom 54 = .ok (.invokevirtual 69, 3) := by decide +kernel
theorem dX2_highestCrestFrom_57 : decode cX2_highestCrestFrom 57 = .ok (.istore 4, 2) := by decide +kernel
theorem dX2_highestCrestFrom_59 : decode cX2_highestCrestFrom 59 = .ok (.iinc 5 1, 3) := by decide +kernel
theorem dX2_highestCrestFrom_62 : decode cX2_highestCrestFrom 62 = .ok (.goto (-47), 3) := by decide +kernel
theorem dX2_highestCrestFrom_65 : decode cX2_highestCrestFrom 65 = .ok (.iload_n 2, 1) := by decide +kernel
theorem dX2_highestCrestFrom_66 : decode cX2_highestCrestFrom 66 = .ok (.ireturn, 1) := by decide +kernel
theorem dX2_crestsInAll_0 : decode cX2_crestsInAll 0 = .ok (.iconst 0, 1) := by decide +kernel
theorem dX2_crestsInAll_1 : decode cX2_crestsInAll 1 = .ok (.istore_n 1, 1) := by decide +kernel
theorem dX2_crestsInAll_2 : decode cX2_crestsInAll 2 = .ok (.iconst 0, 1) := by decide +kernel
theorem dX2_crestsInAll_3 : decode cX2_crestsInAll 3 = .ok (.istore_n 2, 1) := by decide +kernel
theorem dX2_crestsInAll_4 : decode cX2_crestsInAll 4 = .ok (.iload_n 2, 1) := by decide +kernel
theorem dX2_crestsInAll_5 : decode cX2_crestsInAll 5 = .ok (.aload_n 0, 1) := by decide +kernel
theorem dX2_crestsInAll_6 : decode cX2_crestsInAll 6 = .ok (.getfield 18, 3) := by decide +kernel
theorem dX2_crestsInAll_9 : decode cX2_crestsInAll 9 = .ok (.arraylength, 1) := by decide +kernel
theorem dX2_crestsInAll_10 : decode cX2_crestsInAll 10 = .ok (.if_icmp .ge 21, 3) := by decide +kernel
theorem dX2_crestsInAll_13 : decode cX2_crestsInAll 13 = .ok (.aload_n 0, 1) := by decide +kernel
theorem dX2_crestsInAll_14 : decode cX2_crestsInAll 14 = .ok (.iload_n 2, 1) := by decide +kernel
theorem dX2_crestsInAll_15 : decode cX2_crestsInAll 15 = .ok (.invokevirtual 66, 3) := by decide +kernel
theorem dX2_crestsInAll_18 : decode cX2_crestsInAll 18 = .ok (.iconst 1, 1) := by decide +kernel
theorem dX2_crestsInAll_19 : decode cX2_crestsInAll 19 = .ok (.if_icmp .ne 6, 3) := by decide +kernel
theorem dX2_crestsInAll_22 : decode cX2_crestsInAll 22 = .ok (.iinc 1 1, 3) := by decide +kernel
theorem dX2_crestsInAll_25 : decode cX2_crestsInAll 25 = .ok (.iinc 2 1, 3) := by decide +kernel
theorem dX2_crestsInAll_28 : decode cX2_crestsInAll 28 = .ok (.goto (-24), 3) := by decide +kernel
theorem dX2_crestsInAll_31 : decode cX2_crestsInAll 31 = .ok (.iload_n 1, 1) := by decide +kernel
theorem dX2_crestsInAll_32 : decode cX2_crestsInAll 32 = .ok (.ireturn, 1) := by decide +kernel
theorem dX2_lullFrom_0 : decode cX2_lullFrom 0 = .ok (.iconst (-1), 1) := by decide +kernel
theorem dX2_lullFrom_1 : decode cX2_lullFrom 1 = .ok (.istore_n 3, 1) := by decide +kernel
theorem dX2_lullFrom_2 : decode cX2_lullFrom 2 = .ok (.ldc 77, 2) := by decide +kernel
theorem dX2_lullFrom_4 : decode cX2_lullFrom 4 = .ok (.istore 4, 2) := by decide +kernel
theorem dX2_lullFrom_6 : decode cX2_lullFrom 6 = .ok (.iload_n 1, 1) := by decide +kernel
theorem dX2_lullFrom_7 : decode cX2_lullFrom 7 = .ok (.istore 5, 2) := by decide +kernel
theorem dX2_lullFrom_9 : decode cX2_lullFrom 9 = .ok (.iload 5, 2) := by decide +kernel
theorem dX2_lullFrom_11 : decode cX2_lullFrom 11 = .ok (.iload_n 2, 1) := by decide +kernel
theorem dX2_lullFrom_12 : decode cX2_lullFrom 12 = .ok (.iadd, 1) := by decide +kernel
theorem dX2_lullFrom_13 : decode cX2_lullFrom 13 = .ok (.sipush 400, 3) := by decide +kernel
theorem dX2_lullFrom_16 : decode cX2_lullFrom 16 = .ok (.if_icmp .gt 34, 3) := by decide +kernel
theorem dX2_lullFrom_19 : decode cX2_lullFrom 19 = .ok (.aload_n 0, 1) := by decide +kernel
theorem dX2_lullFrom_20 : decode cX2_lullFrom 20 = .ok (.iload 5, 2) := by decide +kernel
theorem dX2_lullFrom_22 : decode cX2_lullFrom 22 = .ok (.iload_n 2, 1) := by decide +kernel
theorem dX2_lullFrom_23 : decode cX2_lullFrom 23 = .ok (.iload 4, 2) := by decide +kernel
theorem dX2_lullFrom_25 : decode cX2_lullFrom 25 = .ok (.invokevirtual 78, 3) := by decide +kernel
theorem dX2_lullFrom_28 : decode cX2_lullFrom 28 = .ok (.istore 6, 2) := by decide +kernel
theorem dX2_lullFrom_30 : decode cX2_lullFrom 30 = .ok (.iload 6, 2) := by decide +kernel
theorem dX2_lullFrom_32 : decode cX2_lullFrom 32 = .ok (.iload 4, 2) := by decide +kernel
theorem dX2_lullFrom_34 : decode cX2_lullFrom 34 = .ok (.if_icmp .ge 10, 3) := by decide +kernel
theorem dX2_lullFrom_37 : decode cX2_lullFrom 37 = .ok (.iload 5, 2) := by decide +kernel
theorem dX2_lullFrom_39 : decode cX2_lullFrom 39 = .ok (.istore_n 3, 1) := by decide +kernel
theorem dX2_lullFrom_40 : decode cX2_lullFrom 40 = .ok (.iload 6, 2) := by decide +kernel
theorem dX2_lullFrom_42 : decode cX2_lullFrom 42 = .ok (.istore 4, 2) := by decide +kernel
theorem dX2_lullFrom_44 : decode cX2_lullFrom 44 = .ok (.iinc 5 1, 3) := by decide +kernel
theorem dX2_lullFrom_47 : decode cX2_lullFrom 47 = .ok (.goto (-38), 3) := by decide +kernel
theorem dX2_lullFrom_50 : decode cX2_lullFrom 50 = .ok (.iload_n 3, 1) := by decide +kernel
theorem dX2_lullFrom_51 : decode cX2_lullFrom 51 = .ok (.ireturn, 1) := by decide +kernel
theorem dX2_spread_0 : decode cX2_spread 0 = .ok (.aload_n 0, 1) := by decide +kernel
theorem dX2_spread_1 : decode cX2_spread 1 = .ok (.iload_n 1, 1) := by decide +kernel
theorem dX2_spread_2 : decode cX2_spread 2 = .ok (.invokevirtual 72, 3) := by decide +kernel
theorem dX2_spread_5 : decode cX2_spread 5 = .ok (.istore 4, 2) := by decide +kernel
theorem dX2_spread_7 : decode cX2_spread 7 = .ok (.iload 4, 2) := by decide +kernel
theorem dX2_spread_9 : decode cX2_spread 9 = .ok (.istore 5, 2) := by decide +kernel
theorem dX2_spread_11 : decode cX2_spread 11 = .ok (.iconst 1, 1) := by decide +kernel
theorem dX2_spread_12 : decode cX2_spread 12 = .ok (.istore 6, 2) := by decide +kernel
theorem dX2_spread_14 : decode cX2_spread 14 = .ok (.iload 6, 2) := by decide +kernel
theorem dX2_spread_16 : decode cX2_spread 16 = .ok (.iload_n 2, 1) := by decide +kernel
theorem dX2_spread_17 : decode cX2_spread 17 = .ok (.if_icmp .ge 46, 3) := by decide +kernel
theorem dX2_spread_20 : decode cX2_spread 20 = .ok (.iload 5, 2) := by decide +kernel
theorem dX2_spread_22 : decode cX2_spread 22 = .ok (.iload 4, 2) := by decide +kernel
theorem dX2_spread_24 : decode cX2_spread 24 = .ok (.isub, 1) := by decide +kernel
theorem dX2_spread_25 : decode cX2_spread 25 = .ok (.iload_n 3, 1) := by decide +kernel
theorem dX2_spread_26 : decode cX2_spread 26 = .ok (.if_icmp .ge 37, 3) := by decide +kernel
theorem dX2_spread_29 : decode cX2_spread 29 = .ok (.aload_n 0, 1) := by decide +kernel
theorem dX2_spread_30 : decode cX2_spread 30 = .ok (.iload_n 1, 1) := by decide +kernel
theorem dX2_spread_31 : decode cX2_spread 31 = .ok (.iload 6, 2) := by decide +kernel
theorem dX2_spread_33 : decode cX2_spread 33 = .ok (.iadd, 1) := by decide +kernel
theorem dX2_spread_34 : decode cX2_spread 34 = .ok (.invokevirtual 72, 3) := by decide +kernel
theorem dX2_spread_37 : decode cX2_spread 37 = .ok (.istore 7, 2) := by decide +kernel
theorem dX2_spread_39 : decode cX2_spread 39 = .ok (.iload 4, 2) := by decide +kernel
theorem dX2_spread_41 : decode cX2_spread 41 = .ok (.iload 7, 2) := by decide +kernel
theorem dX2_spread_43 : decode cX2_spread 43 = .ok (.invokestatic 58, 3) := by decide +kernel
theorem dX2_spread_46 : decode cX2_spread 46 = .ok (.istore 4, 2) := by decide +kernel
theorem dX2_spread_48 : decode cX2_spread 48 = .ok (.iload 5, 2) := by decide +kernel
theorem dX2_spread_50 : decode cX2_spread 50 = .ok (.iload 7, 2) := by decide +kernel
theorem dX2_spread_52 : decode cX2_spread 52 = .ok (.invokestatic 81, 3) := by decide +kernel
theorem dX2_spread_55 : decode cX2_spread 55 = .ok (.istore 5, 2) := by decide +kernel
theorem dX2_spread_57 : decode cX2_spread 57 = .ok (.iinc 6 1, 3) := by decide +kernel
theorem dX2_spread_60 : decode cX2_spread 60 = .ok (.goto (-46), 3) := by decide +kernel
theorem dX2_spread_63 : decode cX2_spread 63 = .ok (.iload 5, 2) := by decide +kernel
theorem dX2_spread_65 : decode cX2_spread 65 = .ok (.iload 4, 2) := by decide +kernel
theorem dX2_spread_67 : decode cX2_spread 67 = .ok (.isub, 1) := by decide +kernel
theorem dX2_spread_68 : decode cX2_spread 68 = .ok (.ireturn, 1) := by decide +kernel
theorem dX2_greatestHeight_0 : decode cX2_greatestHeight 0 = .ok (.aload_n 0, 1) := by decide +kernel
theorem dX2_greatestHeight_1 : decode cX2_greatestHeight 1 = .ok (.ldc 77, 2) := by decide +kernel
theorem dX2_greatestHeight_3 : decode cX2_greatestHeight 3 = .ok (.iconst 0, 1) := by decide +kernel
theorem dX2_greatestHeight_4 : decode cX2_greatestHeight 4 = .ok (.sipush 400, 3) := by decide +kernel
theorem dX2_greatestHeight_7 : decode cX2_greatestHeight 7 = .ok (.invokevirtual 84, 3) := by decide +kernel
theorem dX2_greatestHeight_10 : decode cX2_greatestHeight 10 = .ok (.ireturn, 1) := by decide +kernel
theorem dX2_greatestHeightUpTo_0 : decode cX2_greatestHeightUpTo 0 = .ok (.iconst 0, 1) := by decide +kernel
theorem dX2_greatestHeightUpTo_1 : decode cX2_greatestHeightUpTo 1 = .ok (.istore 4, 2) := by decide +kernel
theorem dX2_greatestHeightUpTo_3 : decode cX2_greatestHeightUpTo 3 = .ok (.iload_n 2, 1) := by decide +kernel
theorem dX2_greatestHeightUpTo_4 : decode cX2_greatestHeightUpTo 4 = .ok (.istore 5, 2) := by decide +kernel
theorem dX2_greatestHeightUpTo_6 : decode cX2_greatestHeightUpTo 6 = .ok (.iload 5, 2) := by decide +kernel
theorem dX2_greatestHeightUpTo_8 : decode cX2_greatestHeightUpTo 8 = .ok (.iload_n 3, 1) := by decide +kernel
theorem dX2_greatestHeightUpTo_9 : decode cX2_greatestHeightUpTo 9 = .ok (.if_icmp .ge 34, 3) := by decide +kernel
theorem dX2_greatestHeightUpTo_12 : decode cX2_greatestHeightUpTo 12 = .ok (.aload_n 0, 1) := by decide +kernel
theorem dX2_greatestHeightUpTo_13 : decode cX2_greatestHeightUpTo 13 = .ok (.iload 5, 2) := by decide +kernel
theorem dX2_greatestHeightUpTo_15 : decode cX2_greatestHeightUpTo 15 = .ok (.invokevirtual 72, 3) := by decide +kernel
theorem dX2_greatestHeightUpTo_18 : decode cX2_greatestHeightUpTo 18 = .ok (.istore 6, 2) := by decide +kernel
theorem dX2_greatestHeightUpTo_20 : decode cX2_greatestHeightUpTo 20 = .ok (.iload 6, 2) := by decide +kernel
theorem dX2_greatestHeightUpTo_22 : decode cX2_greatestHeightUpTo 22 = .ok (.iload_n 1, 1) := by decide +kernel
theorem dX2_greatestHeightUpTo_23 : decode cX2_greatestHeightUpTo 23 = .ok (.if_icmp .gt 14, 3) := by decide +kernel
theorem dX2_greatestHeightUpTo_26 : decode cX2_greatestHeightUpTo 26 = .ok (.iload 6, 2) := by decide +kernel
theorem dX2_greatestHeightUpTo_28 : decode cX2_greatestHeightUpTo 28 = .ok (.iload 4, 2) := by decide +kernel
theorem dX2_greatestHeightUpTo_30 : decode cX2_greatestHeightUpTo 30 = .ok (.if_icmp .le 7, 3) := by decide +kernel
theorem dX2_greatestHeightUpTo_33 : decode cX2_greatestHeightUpTo 33 = .ok (.iload 6, 2) := by decide +kernel
theorem dX2_greatestHeightUpTo_35 : decode cX2_greatestHeightUpTo 35 = .ok (.istore 4, 2) := by decide +kernel
theorem dX2_greatestHeightUpTo_37 : decode cX2_greatestHeightUpTo 37 = .ok (.iinc 5 1, 3) := by decide +kernel
theorem dX2_greatestHeightUpTo_40 : decode cX2_greatestHeightUpTo 40 = .ok (.goto (-34), 3) := by decide +kernel
theorem dX2_greatestHeightUpTo_43 : decode cX2_greatestHeightUpTo 43 = .ok (.iload 4, 2) := by decide +kernel
theorem dX2_greatestHeightUpTo_45 : decode cX2_greatestHeightUpTo 45 = .ok (.ireturn, 1) := by decide +kernel
theorem dX2_leastHeight_0 : decode cX2_leastHeight 0 = .ok (.aload_n 0, 1) := by decide +kernel
theorem dX2_leastHeight_1 : decode cX2_leastHeight 1 = .ok (.iload_n 1, 1) := by decide +kernel
theorem dX2_leastHeight_2 : decode cX2_leastHeight 2 = .ok (.invokevirtual 72, 3) := by decide +kernel
theorem dX2_leastHeight_5 : decode cX2_leastHeight 5 = .ok (.istore_n 3, 1) := by decide +kernel
theorem dX2_leastHeight_6 : decode cX2_leastHeight 6 = .ok (.iload_n 1, 1) := by decide +kernel
theorem dX2_leastHeight_7 : decode cX2_leastHeight 7 = .ok (.iconst 1, 1) := by decide +kernel
theorem dX2_leastHeight_8 : decode cX2_leastHeight 8 = .ok (.iadd, 1) := by decide +kernel
theorem dX2_leastHeight_9 : decode cX2_leastHeight 9 = .ok (.istore 4, 2) := by decide +kernel
theorem dX2_leastHeight_11 : decode cX2_leastHeight 11 = .ok (.iload 4, 2) := by decide +kernel
theorem dX2_leastHeight_13 : decode cX2_leastHeight 13 = .ok (.iload_n 2, 1) := by decide +kernel
theorem dX2_leastHeight_14 : decode cX2_leastHeight 14 = .ok (.if_icmp .ge 20, 3) := by decide +kernel
theorem dX2_leastHeight_17 : decode cX2_leastHeight 17 = .ok (.iload_n 3, 1) := by decide +kernel
theorem dX2_leastHeight_18 : decode cX2_leastHeight 18 = .ok (.aload_n 0, 1) := by decide +kernel
theorem dX2_leastHeight_19 : decode cX2_leastHeight 19 = .ok (.iload 4, 2) := by decide +kernel
theorem dX2_leastHeight_21 : decode cX2_leastHeight 21 = .ok (.invokevirtual 72, 3) := by decide +kernel
theorem dX2_leastHeight_24 : decode cX2_leastHeight 24 = .ok (.invokestatic 58, 3) := by decide +kernel
theorem dX2_leastHeight_27 : decode cX2_leastHeight 27 = .ok (.istore_n 3, 1) := by decide +kernel
theorem dX2_leastHeight_28 : decode cX2_leastHeight 28 = .ok (.iinc 4 1, 3) := by decide +kernel
theorem dX2_leastHeight_31 : decode cX2_leastHeight 31 = .ok (.goto (-20), 3) := by decide +kernel
theorem dX2_leastHeight_34 : decode cX2_leastHeight 34 = .ok (.iload_n 3, 1) := by decide +kernel
theorem dX2_leastHeight_35 : decode cX2_leastHeight 35 = .ok (.ireturn, 1) := by decide +kernel
theorem dX2_savedByLee_0 : decode cX2_savedByLee 0 = .ok (.aload_n 0, 1) := by decide +kernel
theorem dX2_savedByLee_1 : decode cX2_savedByLee 1 = .ok (.getfield 32, 3) := by decide +kernel
theorem dX2_savedByLee_4 : decode cX2_savedByLee 4 = .ok (.ifCond .ne 5, 3) := by decide +kernel
theorem dX2_savedByLee_7 : decode cX2_savedByLee 7 = .ok (.iconst (-1), 1) := by decide +kernel
theorem dX2_savedByLee_8 : decode cX2_savedByLee 8 = .ok (.ireturn, 1) := by decide +kernel
theorem dX2_savedByLee_9 : decode cX2_savedByLee 9 = .ok (.sipush 400, 3) := by decide +kernel
theorem dX2_savedByLee_12 : decode cX2_savedByLee 12 = .ok (.aload_n 0, 1) := by decide +kernel
theorem dX2_savedByLee_13 : decode cX2_savedByLee 13 = .ok (.getfield 28, 3) := by decide +kernel
theorem dX2_savedByLee_16 : decode cX2_savedByLee 16 = .ok (.aload_n 0, 1) := by decide +kernel
theorem dX2_savedByLee_17 : decode cX2_savedByLee 17 = .ok (.getfield 32, 3) := by decide +kernel
theorem dX2_savedByLee_20 : decode cX2_savedByLee 20 = .ok (.iadd, 1) := by decide +kernel
theorem dX2_savedByLee_21 : decode cX2_savedByLee 21 = .ok (.invokestatic 58, 3) := by decide +kernel
theorem dX2_savedByLee_24 : decode cX2_savedByLee 24 = .ok (.istore_n 1, 1) := by decide +kernel
theorem dX2_savedByLee_25 : decode cX2_savedByLee 25 = .ok (.iconst 0, 1) := by decide +kernel
theorem dX2_savedByLee_26 : decode cX2_savedByLee 26 = .ok (.istore_n 2, 1) := by decide +kernel
theorem dX2_savedByLee_27 : decode cX2_savedByLee 27 = .ok (.aload_n 0, 1) := by decide +kernel
theorem dX2_savedByLee_28 : decode cX2_savedByLee 28 = .ok (.getfield 28, 3) := by decide +kernel
theorem dX2_savedByLee_31 : decode cX2_savedByLee 31 = .ok (.istore_n 3, 1) := by decide +kernel
theorem dX2_savedByLee_32 : decode cX2_savedByLee 32 = .ok (.iload_n 3, 1) := by decide +kernel
theorem dX2_savedByLee_33 : decode cX2_savedByLee 33 = .ok (.iload_n 1, 1) := by decide +kernel
theorem dX2_savedByLee_34 : decode cX2_savedByLee 34 = .ok (.if_icmp .ge 19, 3) := by decide +kernel
theorem dX2_savedByLee_37 : decode cX2_savedByLee 37 = .ok (.iload_n 2, 1) := by decide +kernel
theorem dX2_savedByLee_38 : decode cX2_savedByLee 38 = .ok (.aload_n 0, 1) := by decide +kernel
theorem dX2_savedByLee_39 : decode cX2_savedByLee 39 = .ok (.iload_n 3, 1) := by decide +kernel
theorem dX2_savedByLee_40 : decode cX2_savedByLee 40 = .ok (.invokevirtual 63, 3) := by decide +kernel
theorem dX2_savedByLee_43 : decode cX2_savedByLee 43 = .ok (.invokestatic 81, 3) := by decide +kernel
theorem dX2_savedByLee_46 : decode cX2_savedByLee 46 = .ok (.istore_n 2, 1) := by decide +kernel
theorem dX2_savedByLee_47 : decode cX2_savedByLee 47 = .ok (.iinc 3 1, 3) := by decide +kernel
theorem dX2_savedByLee_50 : decode cX2_savedByLee 50 = .ok (.goto (-18), 3) := by decide +kernel
theorem dX2_savedByLee_53 : decode cX2_savedByLee 53 = .ok (.iload_n 2, 1) := by decide +kernel
theorem dX2_savedByLee_54 : decode cX2_savedByLee 54 = .ok (.aload_n 0, 1) := by decide +kernel
theorem dX2_savedByLee_55 : decode cX2_savedByLee 55 = .ok (.ldc 77, 2) := by decide +kernel
theorem dX2_savedByLee_57 : decode cX2_savedByLee 57 = .ok (.aload_n 0, 1) := by decide +kernel
theorem dX2_savedByLee_58 : decode cX2_savedByLee 58 = .ok (.getfield 28, 3) := by decide +kernel
theorem dX2_savedByLee_61 : decode cX2_savedByLee 61 = .ok (.iload_n 1, 1) := by decide +kernel
theorem dX2_savedByLee_62 : decode cX2_savedByLee 62 = .ok (.invokevirtual 84, 3) := by decide +kernel
theorem dX2_savedByLee_65 : decode cX2_savedByLee 65 = .ok (.isub, 1) := by decide +kernel
theorem dX2_savedByLee_66 : decode cX2_savedByLee 66 = .ok (.ireturn, 1) := by decide +kernel
theorem dX3_init_0 : decode cX3_init 0 = .ok (.aload_n 0, 1) := by decide +kernel
theorem dX3_init_1 : decode cX3_init 1 = .ok (.invokespecial 1, 3) := by decide +kernel
theorem dX3_init_4 : decode cX3_init 4 = .ok (.aload_n 0, 1) := by decide +kernel
theorem dX3_init_5 : decode cX3_init 5 = .ok (.getstatic 7, 3) := by decide +kernel
theorem dX3_init_8 : decode cX3_init 8 = .ok (.arraylength, 1) := by decide +kernel
theorem dX3_init_9 : decode cX3_init 9 = .ok (.newarray .int, 2) := by decide +kernel
theorem dX3_init_11 : decode cX3_init 11 = .ok (.putfield 13, 3) := by decide +kernel
theorem dX3_init_14 : decode cX3_init 14 = .ok (.iconst 0, 1) := by decide +kernel
theorem dX3_init_15 : decode cX3_init 15 = .ok (.istore_n 1, 1) := by decide +kernel
theorem dX3_init_16 : decode cX3_init 16 = .ok (.iload_n 1, 1) := by decide +kernel
theorem dX3_init_17 : decode cX3_init 17 = .ok (.aload_n 0, 1) := by decide +kernel
theorem dX3_init_18 : decode cX3_init 18 = .ok (.getfield 13, 3) := by decide +kernel
theorem dX3_init_21 : decode cX3_init 21 = .ok (.arraylength, 1) := by decide +kernel
theorem dX3_init_22 : decode cX3_init 22 = .ok (.if_icmp .ge 28, 3) := by decide +kernel
theorem dX3_init_25 : decode cX3_init 25 = .ok (.iload_n 1, 1) := by decide +kernel
theorem dX3_init_26 : decode cX3_init 26 = .ok (.getstatic 7, 3) := by decide +kernel
theorem dX3_init_29 : decode cX3_init 29 = .ok (.arraylength, 1) := by decide +kernel
theorem dX3_init_30 : decode cX3_init 30 = .ok (.if_icmp .ge 20, 3) := by decide +kernel
theorem dX3_init_33 : decode cX3_init 33 = .ok (.aload_n 0, 1) := by decide +kernel
theorem dX3_init_34 : decode cX3_init 34 = .ok (.getfield 13, 3) := by decide +kernel
theorem dX3_init_37 : decode cX3_init 37 = .ok (.iload_n 1, 1) := by decide +kernel
theorem dX3_init_38 : decode cX3_init 38 = .ok (.getstatic 7, 3) := by decide +kernel
theorem dX3_init_41 : decode cX3_init 41 = .ok (.iload_n 1, 1) := by decide +kernel
theorem dX3_init_42 : decode cX3_init 42 = .ok (.iaload, 1) := by decide +kernel
theorem dX3_init_43 : decode cX3_init 43 = .ok (.iastore, 1) := by decide +kernel
theorem dX3_init_44 : decode cX3_init 44 = .ok (.iinc 1 1, 3) := by decide +kernel
theorem dX3_init_47 : decode cX3_init 47 = .ok (.goto (-31), 3) := by decide +kernel
theorem dX3_init_50 : decode cX3_init 50 = .ok (.return_, 1) := by decide +kernel
theorem dX3_allows_0 : decode cX3_allows 0 = .ok (.iload_n 1, 1) := by decide +kernel
theorem dX3_allows_1 : decode cX3_allows 1 = .ok (.ifCond .lt 41, 3) := by decide +kernel
theorem dX3_allows_4 : decode cX3_allows 4 = .ok (.iload_n 1, 1) := by decide +kernel
theorem dX3_allows_5 : decode cX3_allows 5 = .ok (.getstatic 16, 3) := by decide +kernel
theorem dX3_allows_8 : decode cX3_allows 8 = .ok (.arraylength, 1) := by decide +kernel
theorem dX3_allows_9 : decode cX3_allows 9 = .ok (.if_icmp .ge 33, 3) := by decide +kernel
theorem dX3_allows_12 : decode cX3_allows 12 = .ok (.iload_n 1, 1) := by decide +kernel
theorem dX3_allows_13 : decode cX3_allows 13 = .ok (.getstatic 19, 3) := by decide +kernel
theorem dX3_allows_16 : decode cX3_allows 16 = .ok (.arraylength, 1) := by decide +kernel
theorem dX3_allows_17 : decode cX3_allows 17 = .ok (.if_icmp .ge 25, 3) := by decide +kernel
theorem dX3_allows_20 : decode cX3_allows 20 = .ok (.iload_n 2, 1) := by decide +kernel
theorem dX3_allows_21 : decode cX3_allows 21 = .ok (.getstatic 16, 3) := by decide +kernel
theorem dX3_allows_24 : decode cX3_allows 24 = .ok (.iload_n 1, 1) := by decide +kernel
theorem dX3_allows_25 : decode cX3_allows 25 = .ok (.iaload, 1) := by decide +kernel
theorem dX3_allows_26 : decode cX3_allows 26 = .ok (.if_icmp .lt 16, 3) := by decide +kernel
theorem dX3_allows_29 : decode cX3_allows 29 = .ok (.iload_n 2, 1) := by decide +kernel
theorem dX3_allows_30 : decode cX3_allows 30 = .ok (.getstatic 19, 3) := by decide +kernel
theorem dX3_allows_33 : decode cX3_allows 33 = .ok (.iload_n 1, 1) := by decide +kernel
theorem dX3_allows_34 : decode cX3_allows 34 = .ok (.iaload, 1) := by decide +kernel
theorem dX3_allows_35 : decode cX3_allows 35 = .ok (.if_icmp .gt 7, 3) := by decide +kernel
theorem dX3_allows_38 : decode cX3_allows 38 = .ok (.iconst 1, 1) := by decide +kernel
theorem dX3_allows_39 : decode cX3_allows 39 = .ok (.goto 4, 3) := by decide +kernel
theorem dX3_allows_42 : decode cX3_allows 42 = .ok (.iconst 0, 1) := by decide +kernel
theorem dX3_allows_43 : decode cX3_allows 43 = .ok (.ireturn, 1) := by decide +kernel
theorem dX3_of_0 : decode cX3_of 0 = .ok (.iload_n 1, 1) := by decide +kernel
theorem dX3_of_1 : decode cX3_of 1 = .ok (.ifCond .lt 21, 3) := by decide +kernel
theorem dX3_of_4 : decode cX3_of 4 = .ok (.iload_n 1, 1) := by decide +kernel
theorem dX3_of_5 : decode cX3_of 5 = .ok (.aload_n 0, 1) := by decide +kernel
theorem dX3_of_6 : decode cX3_of 6 = .ok (.getfield 13, 3) := by decide +kernel
theorem dX3_of_9 : decode cX3_of 9 = .ok (.arraylength, 1) := by decide +kernel
theorem dX3_of_10 : decode cX3_of 10 = .ok (.if_icmp .ge 12, 3) := by decide +kernel
theorem dX3_of_13 : decode cX3_of 13 = .ok (.aload_n 0, 1) := by decide +kernel
theorem dX3_of_14 : decode cX3_of 14 = .ok (.getfield 13, 3) := by decide +kernel
theorem dX3_of_17 : decode cX3_of 17 = .ok (.iload_n 1, 1) := by decide +kernel
theorem dX3_of_18 : decode cX3_of 18 = .ok (.iaload, 1) := by decide +kernel
theorem dX3_of_19 : decode cX3_of 19 = .ok (.goto 4, 3) := by decide +kernel
theorem dX3_of_22 : decode cX3_of 22 = .ok (.iconst 0, 1) := by decide +kernel
theorem dX3_of_23 : decode cX3_of 23 = .ok (.ireturn, 1) := by decide +kernel
theorem dX3_change_0 : decode cX3_change 0 = .ok (.iload_n 1, 1) := by decide +kernel
theorem dX3_change_1 : decode cX3_change 1 = .ok (.ifCond .lt 19, 3) := by decide +kernel
theorem dX3_change_4 : decode cX3_change 4 = .ok (.iload_n 1, 1) := by decide +kernel
theorem dX3_change_5 : decode cX3_change 5 = .ok (.aload_n 0, 1) := by decide +kernel
theorem dX3_change_6 : decode cX3_change 6 = .ok (.getfield 13, 3) := by decide +kernel
theorem dX3_change_9 : decode cX3_change 9 = .ok (.arraylength, 1) := by decide +kernel
theorem dX3_change_10 : decode cX3_change 10 = .ok (.if_icmp .ge 10, 3) := by decide +kernel
theorem dX3_change_13 : decode cX3_change 13 = .ok (.aload_n 0, 1) := by decide +kernel
theorem dX3_change_14 : decode cX3_change 14 = .ok (.getfield 13, 3) := by decide +kernel
theorem dX3_change_17 : decode cX3_change 17 = .ok (.iload_n 1, 1) := by decide +kernel
theorem dX3_change_18 : decode cX3_change 18 = .ok (.iload_n 2, 1) := by decide +kernel
theorem dX3_change_19 : decode cX3_change 19 = .ok (.iastore, 1) := by decide +kernel
theorem dX3_change_20 : decode cX3_change 20 = .ok (.return_, 1) := by decide +kernel
theorem dX4_init_0 : decode cX4_init 0 = .ok (.aload_n 0, 1) := by decide +kernel
theorem dX4_init_1 : decode cX4_init 1 = .ok (.invokespecial 3, 3) := by decide +kernel
theorem dX4_init_4 : decode cX4_init 4 = .ok (.aload_n 0, 1) := by decide +kernel
theorem dX4_init_5 : decode cX4_init 5 = .ok (.bipush 48, 2) := by decide +kernel
theorem dX4_init_7 : decode cX4_init 7 = .ok (.newarray .int, 2) := by decide +kernel
theorem dX4_init_9 : decode cX4_init 9 = .ok (.putfield 9, 3) := by decide +kernel
theorem dX4_init_12 : decode cX4_init 12 = .ok (.aload_n 0, 1) := by decide +kernel
theorem dX4_init_13 : decode cX4_init 13 = .ok (.iconst 1, 1) := by decide +kernel
theorem dX4_init_14 : decode cX4_init 14 = .ok (.putfield 15, 3) := by decide +kernel
theorem dX4_init_17 : decode cX4_init 17 = .ok (.return_, 1) := by decide +kernel
theorem dX4_become_0 : decode cX4_become 0 = .ok (.aload_n 0, 1) := by decide +kernel
theorem dX4_become_1 : decode cX4_become 1 = .ok (.iconst 0, 1) := by decide +kernel
theorem dX4_become_2 : decode cX4_become 2 = .ok (.putfield 15, 3) := by decide +kernel
theorem dX4_become_5 : decode cX4_become 5 = .ok (.aload_n 0, 1) := by decide +kernel
theorem dX4_become_6 : decode cX4_become 6 = .ok (.iload_n 1, 1) := by decide +kernel
theorem dX4_become_7 : decode cX4_become 7 = .ok (.putfield 19, 3) := by decide +kernel
theorem dX4_become_10 : decode cX4_become 10 = .ok (.aload_n 0, 1) := by decide +kernel
theorem dX4_become_11 : decode cX4_become 11 = .ok (.iload_n 2, 1) := by decide +kernel
theorem dX4_become_12 : decode cX4_become 12 = .ok (.putfield 23, 3) := by decide +kernel
theorem dX4_become_15 : decode cX4_become 15 = .ok (.iconst 0, 1) := by decide +kernel
theorem dX4_become_16 : decode cX4_become 16 = .ok (.istore_n 3, 1) := by decide +kernel
theorem dX4_become_17 : decode cX4_become 17 = .ok (.iload_n 3, 1) := by decide +kernel
theorem dX4_become_18 : decode cX4_become 18 = .ok (.aload_n 0, 1) := by decide +kernel
theorem dX4_become_19 : decode cX4_become 19 = .ok (.getfield 9, 3) := by decide +kernel
theorem dX4_become_22 : decode cX4_become 22 = .ok (.arraylength, 1) := by decide +kernel
theorem dX4_become_23 : decode cX4_become 23 = .ok (.if_icmp .ge 16, 3) := by decide +kernel
theorem dX4_become_26 : decode cX4_become 26 = .ok (.aload_n 0, 1) := by decide +kernel
theorem dX4_become_27 : decode cX4_become 27 = .ok (.getfield 9, 3) := by decide +kernel
theorem dX4_become_30 : decode cX4_become 30 = .ok (.iload_n 3, 1) := by decide +kernel
theorem dX4_become_31 : decode cX4_become 31 = .ok (.iconst 0, 1) := by decide +kernel
theorem dX4_become_32 : decode cX4_become 32 = .ok (.iastore, 1) := by decide +kernel
theorem dX4_become_33 : decode cX4_become 33 = .ok (.iinc 3 1, 3) := by decide +kernel
theorem dX4_become_36 : decode cX4_become 36 = .ok (.goto (-19), 3) := by decide +kernel
theorem dX4_become_39 : decode cX4_become 39 = .ok (.return_, 1) := by decide +kernel
theorem dX4_troubleAt_0 : decode cX4_troubleAt 0 = .ok (.aload_n 0, 1) := by decide +kernel
theorem dX4_troubleAt_1 : decode cX4_troubleAt 1 = .ok (.getfield 15, 3) := by decide +kernel
theorem dX4_troubleAt_4 : decode cX4_troubleAt 4 = .ok (.ifCond .eq 5, 3) := by decide +kernel
theorem dX4_troubleAt_7 : decode cX4_troubleAt 7 = .ok (.iconst 1, 1) := by decide +kernel
theorem dX4_troubleAt_8 : decode cX4_troubleAt 8 = .ok (.ireturn, 1) := by decide +kernel
theorem dX4_troubleAt_9 : decode cX4_troubleAt 9 = .ok (.aload_n 0, 1) := by decide +kernel
theorem dX4_troubleAt_10 : decode cX4_troubleAt 10 = .ok (.getfield 19, 3) := by decide +kernel
theorem dX4_troubleAt_13 : decode cX4_troubleAt 13 = .ok (.iload_n 1, 1) := by decide +kernel
theorem dX4_troubleAt_14 : decode cX4_troubleAt 14 = .ok (.if_icmp .eq 5, 3) := by decide +kernel
theorem dX4_troubleAt_17 : decode cX4_troubleAt 17 = .ok (.iconst 3, 1) := by decide +kernel
theorem dX4_troubleAt_18 : decode cX4_troubleAt 18 = .ok (.ireturn, 1) := by decide +kernel
theorem dX4_troubleAt_19 : decode cX4_troubleAt 19 = .ok (.iload_n 2, 1) := by decide +kernel
theorem dX4_troubleAt_20 : decode cX4_troubleAt 20 = .ok (.ifCond .lt 11, 3) := by decide +kernel
theorem dX4_troubleAt_23 : decode cX4_troubleAt 23 = .ok (.iload_n 2, 1) := by decide +kernel
theorem dX4_troubleAt_24 : decode cX4_troubleAt 24 = .ok (.aload_n 0, 1) := by decide +kernel
theorem dX4_troubleAt_25 : decode cX4_troubleAt 25 = .ok (.getfield 23, 3) := by decide +kernel
theorem dX4_troubleAt_28 : decode cX4_troubleAt 28 = .ok (.if_icmp .lt 7, 3) := by decide +kernel
theorem dX4_troubleAt_31 : decode cX4_troubleAt 31 = .ok (.iconst 2, 1) := by decide +kernel
theorem dX4_troubleAt_32 : decode cX4_troubleAt 32 = .ok (.goto 4, 3) := by decide +kernel
theorem dX4_troubleAt_35 : decode cX4_troubleAt 35 = .ok (.iconst 0, 1) := by decide +kernel
theorem dX4_troubleAt_36 : decode cX4_troubleAt 36 = .ok (.ireturn, 1) := by decide +kernel
theorem dX4_holds_0 : decode cX4_holds 0 = .ok (.iload_n 1, 1) := by decide +kernel
theorem dX4_holds_1 : decode cX4_holds 1 = .ok (.ifCond .lt 29, 3) := by decide +kernel
theorem dX4_holds_4 : decode cX4_holds 4 = .ok (.iload_n 2, 1) := by decide +kernel
theorem dX4_holds_5 : decode cX4_holds 5 = .ok (.ifCond .lt 25, 3) := by decide +kernel
theorem dX4_holds_8 : decode cX4_holds 8 = .ok (.iload_n 1, 1) := by decide +kernel
theorem dX4_holds_9 : decode cX4_holds 9 = .ok (.aload_n 0, 1) := by decide +kernel
theorem dX4_holds_10 : decode cX4_holds 10 = .ok (.getfield 23, 3) := by decide +kernel
theorem dX4_holds_13 : decode cX4_holds 13 = .ok (.if_icmp .gt 17, 3) := by decide +kernel
theorem dX4_holds_16 : decode cX4_holds 16 = .ok (.iload_n 2, 1) := by decide +kernel
theorem dX4_holds_17 : decode cX4_holds 17 = .ok (.aload_n 0, 1) := by decide +kernel
theorem dX4_holds_18 : decode cX4_holds 18 = .ok (.getfield 23, 3) := by decide +kernel
theorem dX4_holds_21 : decode cX4_holds 21 = .ok (.iload_n 1, 1) := by decide +kernel
theorem dX4_holds_22 : decode cX4_holds 22 = .ok (.isub, 1) := by decide +kernel
theorem dX4_holds_23 : decode cX4_holds 23 = .ok (.if_icmp .gt 7, 3) := by decide +kernel
theorem dX4_holds_26 : decode cX4_holds 26 = .ok (.iconst 1, 1) := by decide +kernel
theorem dX4_holds_27 : decode cX4_holds 27 = .ok (.goto 4, 3) := by decide +kernel
theorem dX4_holds_30 : decode cX4_holds 30 = .ok (.iconst 0, 1) := by decide +kernel
theorem dX4_holds_31 : decode cX4_holds 31 = .ok (.ireturn, 1) := by decide +kernel
theorem dX4_itemAt_0 : decode cX4_itemAt 0 = .ok (.iload_n 1, 1) := by decide +kernel
theorem dX4_itemAt_1 : decode cX4_itemAt 1 = .ok (.ifCond .lt 21, 3) := by decide +kernel
theorem dX4_itemAt_4 : decode cX4_itemAt 4 = .ok (.iload_n 1, 1) := by decide +kernel
theorem dX4_itemAt_5 : decode cX4_itemAt 5 = .ok (.aload_n 0, 1) := by decide +kernel
theorem dX4_itemAt_6 : decode cX4_itemAt 6 = .ok (.getfield 9, 3) := by decide +kernel
theorem dX4_itemAt_9 : decode cX4_itemAt 9 = .ok (.arraylength, 1) := by decide +kernel
theorem dX4_itemAt_10 : decode cX4_itemAt 10 = .ok (.if_icmp .ge 12, 3) := by decide +kernel
theorem dX4_itemAt_13 : decode cX4_itemAt 13 = .ok (.aload_n 0, 1) := by decide +kernel
theorem dX4_itemAt_14 : decode cX4_itemAt 14 = .ok (.getfield 9, 3) := by decide +kernel
theorem dX4_itemAt_17 : decode cX4_itemAt 17 = .ok (.iload_n 1, 1) := by decide +kernel
theorem dX4_itemAt_18 : decode cX4_itemAt 18 = .ok (.iaload, 1) := by decide +kernel
theorem dX4_itemAt_19 : decode cX4_itemAt 19 = .ok (.goto 4, 3) := by decide +kernel
theorem dX4_itemAt_22 : decode cX4_itemAt 22 = .ok (.iconst 0, 1) := by decide +kernel
theorem dX4_itemAt_23 : decode cX4_itemAt 23 = .ok (.ireturn, 1) := by decide +kernel
theorem dX4_store_0 : decode cX4_store 0 = .ok (.iload_n 1, 1) := by decide +kernel
theorem dX4_store_1 : decode cX4_store 1 = .ok (.ifCond .lt 23, 3) := by decide +kernel
theorem dX4_store_4 : decode cX4_store 4 = .ok (.iload_n 1, 1) := by decide +kernel
theorem dX4_store_5 : decode cX4_store 5 = .ok (.aload_n 0, 1) := by decide +kernel
theorem dX4_store_6 : decode cX4_store 6 = .ok (.getfield 9, 3) := by decide +kernel
theorem dX4_store_9 : decode cX4_store 9 = .ok (.arraylength, 1) := by decide +kernel
theorem dX4_store_10 : decode cX4_store 10 = .ok (.if_icmp .ge 14, 3) := by decide +kernel
theorem dX4_store_13 : decode cX4_store 13 = .ok (.aload_n 0, 1) := by decide +kernel
theorem dX4_store_14 : decode cX4_store 14 = .ok (.getfield 9, 3) := by decide +kernel
theorem dX4_store_17 : decode cX4_store 17 = .ok (.iload_n 1, 1) := by decide +kernel
theorem dX4_store_18 : decode cX4_store 18 = .ok (.aload_n 0, 1) := by decide +kernel
theorem dX4_store_19 : decode cX4_store 19 = .ok (.iload_n 2, 1) := by decide +kernel
theorem dX4_store_20 : decode cX4_store 20 = .ok (.invokevirtual 26, 3) := by decide +kernel
theorem dX4_store_23 : decode cX4_store 23 = .ok (.iastore, 1) := by decide +kernel
theorem dX4_store_24 : decode cX4_store 24 = .ok (.return_, 1) := by decide +kernel
theorem dX4_narrow_0 : decode cX4_narrow 0 = .ok (.aload_n 0, 1) := by decide +kernel
theorem dX4_narrow_1 : decode cX4_narrow 1 = .ok (.getfield 19, 3) := by decide +kernel
theorem dX4_narrow_4 : decode cX4_narrow 4 = .ok (.ifCond .ne 6, 3) := by decide +kernel
theorem dX4_narrow_7 : decode cX4_narrow 7 = .ok (.iload_n 1, 1) := by decide +kernel
theorem dX4_narrow_8 : decode cX4_narrow 8 = .ok (.i2b, 1) := by decide +kernel
theorem dX4_narrow_9 : decode cX4_narrow 9 = .ok (.ireturn, 1) := by decide +kernel
theorem dX4_narrow_10 : decode cX4_narrow 10 = .ok (.aload_n 0, 1) := by decide +kernel
theorem dX4_narrow_11 : decode cX4_narrow 11 = .ok (.getfield 19, 3) := by decide +kernel
theorem dX4_narrow_14 : decode cX4_narrow 14 = .ok (.iconst 1, 1) := by decide +kernel
theorem dX4_narrow_15 : decode cX4_narrow 15 = .ok (.if_icmp .ne 8, 3) := by decide +kernel
theorem dX4_narrow_18 : decode cX4_narrow 18 = .ok (.iload_n 1, 1) := by decide +kernel
theorem dX4_narrow_19 : decode cX4_narrow 19 = .ok (.i2s, 1) := by decide +kernel
theorem dX4_narrow_20 : decode cX4_narrow 20 = .ok (.goto 4, 3) := by decide +kernel
theorem dX4_narrow_23 : decode cX4_narrow 23 = .ok (.iload_n 1, 1) := by decide +kernel
theorem dX4_narrow_24 : decode cX4_narrow 24 = .ok (.ireturn, 1) := by decide +kernel
theorem dX4_take_0 : decode cX4_take 0 = .ok (.iconst 0, 1) := by decide +kernel
theorem dX4_take_1 : decode cX4_take 1 = .ok (.istore 5, 2) := by decide +kernel
theorem dX4_take_3 : decode cX4_take 3 = .ok (.iload 5, 2) := by decide +kernel
theorem dX4_take_5 : decode cX4_take 5 = .ok (.iload 4, 2) := by decide +kernel
theorem dX4_take_7 : decode cX4_take 7 = .ok (.if_icmp .ge 44, 3) := by decide +kernel
theorem dX4_take_10 : decode cX4_take 10 = .ok (.iload_n 3, 1) := by decide +kernel
theorem dX4_take_11 : decode cX4_take 11 = .ok (.iload_n 2, 1) := by decide +kernel
theorem dX4_take_12 : decode cX4_take 12 = .ok (.if_icmp .le 13, 3) := by decide +kernel
theorem dX4_take_15 : decode cX4_take 15 = .ok (.iload 4, 2) := by decide +kernel
theorem dX4_take_17 : decode cX4_take 17 = .ok (.iconst 1, 1) := by decide +kernel
theorem dX4_take_18 : decode cX4_take 18 = .ok (.isub, 1) := by decide +kernel
theorem dX4_take_19 : decode cX4_take 19 = .ok (.iload 5, 2) := by decide +kernel
theorem dX4_take_21 : decode cX4_take 21 = .ok (.isub, 1) := by decide +kernel
theorem dX4_take_22 : decode cX4_take 22 = .ok (.goto 5, 3) := by decide +kernel
theorem dX4_take_25 : decode cX4_take 25 = .ok (.iload 5, 2) := by decide +kernel
theorem dX4_take_27 : decode cX4_take 27 = .ok (.istore 6, 2) := by decide +kernel
theorem dX4_take_29 : decode cX4_take 29 = .ok (.aload_n 0, 1) := by decide +kernel
theorem dX4_take_30 : decode cX4_take 30 = .ok (.iload_n 3, 1) := by decide +kernel
theorem dX4_take_31 : decode cX4_take 31 = .ok (.iload 6, 2) := by decide +kernel
theorem dX4_take_33 : decode cX4_take 33 = .ok (.iadd, 1) := by decide +kernel
theorem dX4_take_34 : decode cX4_take 34 = .ok (.aload_n 1, 1) := by decide +kernel
theorem dX4_take_35 : decode cX4_take 35 = .ok (.iload_n 2, 1) := by decide +kernel
theorem dX4_take_36 : decode cX4_take 36 = .ok (.iload 6, 2) := by decide +kernel
theorem dX4_take_38 : decode cX4_take 38 = .ok (.iadd, 1) := by decide +kernel
theorem dX4_take_39 : decode cX4_take 39 = .ok (.invokevirtual 30, 3) := by decide +kernel
theorem dX4_take_42 : decode cX4_take 42 = .ok (.invokevirtual 33, 3) := by decide +kernel
theorem dX4_take_45 : decode cX4_take 45 = .ok (.iinc 5 1, 3) := by decide +kernel
theorem dX4_take_48 : decode cX4_take 48 = .ok (.goto (-45), 3) := by decide +kernel
theorem dX4_take_51 : decode cX4_take 51 = .ok (.return_, 1) := by decide +kernel
theorem dX5_init_0 : decode cX5_init 0 = .ok (.aload_n 0, 1) := by decide +kernel
theorem dX5_init_1 : decode cX5_init 1 = .ok (.invokespecial 3, 3) := by decide +kernel
theorem dX5_init_4 : decode cX5_init 4 = .ok (.aload_n 0, 1) := by decide +kernel
theorem dX5_init_5 : decode cX5_init 5 = .ok (.aload_n 1, 1) := by decide +kernel
theorem dX5_init_6 : decode cX5_init 6 = .ok (.putfield 9, 3) := by decide +kernel
theorem dX5_init_9 : decode cX5_init 9 = .ok (.return_, 1) := by decide +kernel
theorem dX5_renew_0 : decode cX5_renew 0 = .ok (.aload_n 0, 1) := by decide +kernel
theorem dX5_renew_1 : decode cX5_renew 1 = .ok (.aload_n 0, 1) := by decide +kernel
theorem dX5_renew_2 : decode cX5_renew 2 = .ok (.getfield 9, 3) := by decide +kernel
theorem dX5_renew_5 : decode cX5_renew 5 = .ok (.iconst 0, 1) := by decide +kernel
theorem dX5_renew_6 : decode cX5_renew 6 = .ok (.invokevirtual 15, 3) := by decide +kernel
theorem dX5_renew_9 : decode cX5_renew 9 = .ok (.putfield 21, 3) := by decide +kernel
theorem dX5_renew_12 : decode cX5_renew 12 = .ok (.aload_n 0, 1) := by decide +kernel
theorem dX5_renew_13 : decode cX5_renew 13 = .ok (.aload_n 0, 1) := by decide +kernel
theorem dX5_renew_14 : decode cX5_renew 14 = .ok (.getfield 9, 3) := by decide +kernel
theorem dX5_renew_17 : decode cX5_renew 17 = .ok (.iconst 0, 1) := by decide +kernel
theorem dX5_renew_18 : decode cX5_renew 18 = .ok (.invokevirtual 25, 3) := by decide +kernel
theorem dX5_renew_21 : decode cX5_renew 21 = .ok (.putfield 28, 3) := by decide +kernel
theorem dX5_renew_24 : decode cX5_renew 24 = .ok (.return_, 1) := by decide +kernel
theorem dX5_leanAt_0 : decode cX5_leanAt 0 = .ok (.aload_n 0, 1) := by decide +kernel
theorem dX5_leanAt_1 : decode cX5_leanAt 1 = .ok (.getfield 21, 3) := by decide +kernel
theorem dX5_leanAt_4 : decode cX5_leanAt 4 = .ok (.ifCond .eq 11, 3) := by decide +kernel
theorem dX5_leanAt_7 : decode cX5_leanAt 7 = .ok (.aload_n 0, 1) := by decide +kernel
theorem dX5_leanAt_8 : decode cX5_leanAt 8 = .ok (.getfield 28, 3) := by decide +kernel
theorem dX5_leanAt_11 : decode cX5_leanAt 11 = .ok (.iconst 2, 1) := by decide +kernel
theorem dX5_leanAt_12 : decode cX5_leanAt 12 = .ok (.if_icmp .ge 5, 3) := by decide +kernel
theorem dX5_leanAt_15 : decode cX5_leanAt 15 = .ok (.iconst 0, 1) := by decide +kernel
theorem dX5_leanAt_16 : decode cX5_leanAt 16 = .ok (.ireturn, 1) := by decide +kernel
theorem dX5_leanAt_17 : decode cX5_leanAt 17 = .ok (.iconst 4, 1) := by decide +kernel
theorem dX5_leanAt_18 : decode cX5_leanAt 18 = .ok (.iload_n 1, 1) := by decide +kernel
theorem dX5_leanAt_19 : decode cX5_leanAt 19 = .ok (.aload_n 0, 1) := by decide +kernel
theorem dX5_leanAt_20 : decode cX5_leanAt 20 = .ok (.getfield 28, 3) := by decide +kernel
theorem dX5_leanAt_23 : decode cX5_leanAt 23 = .ok (.irem, 1) := by decide +kernel
theorem dX5_leanAt_24 : decode cX5_leanAt 24 = .ok (.imul, 1) := by decide +kernel
theorem dX5_leanAt_25 : decode cX5_leanAt 25 = .ok (.istore_n 2, 1) := by decide +kernel
theorem dX5_leanAt_26 : decode cX5_leanAt 26 = .ok (.iload_n 2, 1) := by decide +kernel
theorem dX5_leanAt_27 : decode cX5_leanAt 27 = .ok (.aload_n 0, 1) := by decide +kernel
theorem dX5_leanAt_28 : decode cX5_leanAt 28 = .ok (.getfield 28, 3) := by decide +kernel
theorem dX5_leanAt_31 : decode cX5_leanAt 31 = .ok (.if_icmp .lt 13, 3) := by decide +kernel
theorem dX5_leanAt_34 : decode cX5_leanAt 34 = .ok (.iload_n 2, 1) := by decide +kernel
theorem dX5_leanAt_35 : decode cX5_leanAt 35 = .ok (.iconst 3, 1) := by decide +kernel
theorem dX5_leanAt_36 : decode cX5_leanAt 36 = .ok (.aload_n 0, 1) := by decide +kernel
theorem dX5_leanAt_37 : decode cX5_leanAt 37 = .ok (.getfield 28, 3) := by decide +kernel
theorem dX5_leanAt_40 : decode cX5_leanAt 40 = .ok (.imul, 1) := by decide +kernel
theorem dX5_leanAt_41 : decode cX5_leanAt 41 = .ok (.if_icmp .lt 7, 3) := by decide +kernel
theorem dX5_leanAt_44 : decode cX5_leanAt 44 = .ok (.iconst 1, 1) := by decide +kernel
theorem dX5_leanAt_45 : decode cX5_leanAt 45 = .ok (.goto 4, 3) := by decide +kernel
theorem dX5_leanAt_48 : decode cX5_leanAt 48 = .ok (.iconst 2, 1) := by decide +kernel
theorem dX5_leanAt_49 : decode cX5_leanAt 49 = .ok (.ireturn, 1) := by decide +kernel
theorem dX5_notOutFrom_0 : decode cX5_notOutFrom 0 = .ok (.iload_n 1, 1) := by decide +kernel
theorem dX5_notOutFrom_1 : decode cX5_notOutFrom 1 = .ok (.istore_n 2, 1) := by decide +kernel
theorem dX5_notOutFrom_2 : decode cX5_notOutFrom 2 = .ok (.iload_n 2, 1) := by decide +kernel
theorem dX5_notOutFrom_3 : decode cX5_notOutFrom 3 = .ok (.sipush 400, 3) := by decide +kernel
theorem dX5_notOutFrom_6 : decode cX5_notOutFrom 6 = .ok (.if_icmp .ge 20, 3) := by decide +kernel
theorem dX5_notOutFrom_9 : decode cX5_notOutFrom 9 = .ok (.aload_n 0, 1) := by decide +kernel
theorem dX5_notOutFrom_10 : decode cX5_notOutFrom 10 = .ok (.iload_n 2, 1) := by decide +kernel
theorem dX5_notOutFrom_11 : decode cX5_notOutFrom 11 = .ok (.invokevirtual 31, 3) := by decide +kernel
theorem dX5_notOutFrom_14 : decode cX5_notOutFrom 14 = .ok (.iconst 1, 1) := by decide +kernel
theorem dX5_notOutFrom_15 : decode cX5_notOutFrom 15 = .ok (.if_icmp .eq 5, 3) := by decide +kernel
theorem dX5_notOutFrom_18 : decode cX5_notOutFrom 18 = .ok (.iload_n 2, 1) := by decide +kernel
theorem dX5_notOutFrom_19 : decode cX5_notOutFrom 19 = .ok (.ireturn, 1) := by decide +kernel
theorem dX5_notOutFrom_20 : decode cX5_notOutFrom 20 = .ok (.iinc 2 1, 3) := by decide +kernel
theorem dX5_notOutFrom_23 : decode cX5_notOutFrom 23 = .ok (.goto (-21), 3) := by decide +kernel
theorem dX5_notOutFrom_26 : decode cX5_notOutFrom 26 = .ok (.sipush 400, 3) := by decide +kernel
theorem dX5_notOutFrom_29 : decode cX5_notOutFrom 29 = .ok (.ireturn, 1) := by decide +kernel
theorem dX6_init_0 : decode cX6_init 0 = .ok (.aload_n 0, 1) := by decide +kernel
theorem dX6_init_1 : decode cX6_init 1 = .ok (.invokespecial 3, 3) := by decide +kernel
theorem dX6_init_4 : decode cX6_init 4 = .ok (.aload_n 0, 1) := by decide +kernel
theorem dX6_init_5 : decode cX6_init 5 = .ok (.bipush 8, 2) := by decide +kernel
theorem dX6_init_7 : decode cX6_init 7 = .ok (.newarray .int, 2) := by decide +kernel
theorem dX6_init_9 : decode cX6_init 9 = .ok (.putfield 9, 3) := by decide +kernel
theorem dX6_init_12 : decode cX6_init 12 = .ok (.aload_n 0, 1) := by decide +kernel
theorem dX6_init_13 : decode cX6_init 13 = .ok (.bipush 8, 2) := by decide +kernel
theorem dX6_init_15 : decode cX6_init 15 = .ok (.newarray .int, 2) := by decide +kernel
theorem dX6_init_17 : decode cX6_init 17 = .ok (.putfield 15, 3) := by decide +kernel
theorem dX6_init_20 : decode cX6_init 20 = .ok (.return_, 1) := by decide +kernel
theorem dX6_append_0 : decode cX6_append 0 = .ok (.aload_n 0, 1) := by decide +kernel
theorem dX6_append_1 : decode cX6_append 1 = .ok (.getfield 18, 3) := by decide +kernel
theorem dX6_append_4 : decode cX6_append 4 = .ok (.ifCond .lt 57, 3) := by decide +kernel
theorem dX6_append_7 : decode cX6_append 7 = .ok (.aload_n 0, 1) := by decide +kernel
theorem dX6_append_8 : decode cX6_append 8 = .ok (.getfield 18, 3) := by decide +kernel
theorem dX6_append_11 : decode cX6_append 11 = .ok (.aload_n 0, 1) := by decide +kernel
theorem dX6_append_12 : decode cX6_append 12 = .ok (.getfield 9, 3) := by decide +kernel
theorem dX6_append_15 : decode cX6_append 15 = .ok (.arraylength, 1) := by decide +kernel
theorem dX6_append_16 : decode cX6_append 16 = .ok (.if_icmp .ge 45, 3) := by decide +kernel
theorem dX6_append_19 : decode cX6_append 19 = .ok (.aload_n 0, 1) := by decide +kernel
theorem dX6_append_20 : decode cX6_append 20 = .ok (.getfield 18, 3) := by decide +kernel
theorem dX6_append_23 : decode cX6_append 23 = .ok (.aload_n 0, 1) := by decide +kernel
theorem dX6_append_24 : decode cX6_append 24 = .ok (.getfield 15, 3) := by decide +kernel
theorem dX6_append_27 : decode cX6_append 27 = .ok (.arraylength, 1) := by decide +kernel
theorem dX6_append_28 : decode cX6_append 28 = .ok (.if_icmp .ge 33, 3) := by decide +kernel
theorem dX6_append_31 : decode cX6_append 31 = .ok (.aload_n 0, 1) := by decide +kernel
theorem dX6_append_32 : decode cX6_append 32 = .ok (.getfield 9, 3) := by decide +kernel
theorem dX6_append_35 : decode cX6_append 35 = .ok (.aload_n 0, 1) := by decide +kernel
theorem dX6_append_36 : decode cX6_append 36 = .ok (.getfield 18, 3) := by decide +kernel
theorem dX6_append_39 : decode cX6_append 39 = .ok (.iload_n 1, 1) := by decide +kernel
theorem dX6_append_40 : decode cX6_append 40 = .ok (.iastore, 1) := by decide +kernel
theorem dX6_append_41 : decode cX6_append 41 = .ok (.aload_n 0, 1) := by decide +kernel
theorem dX6_append_42 : decode cX6_append 42 = .ok (.getfield 15, 3) := by decide +kernel
theorem dX6_append_45 : decode cX6_append 45 = .ok (.aload_n 0, 1) := by decide +kernel
theorem dX6_append_46 : decode cX6_append 46 = .ok (.getfield 18, 3) := by decide +kernel
theorem dX6_append_49 : decode cX6_append 49 = .ok (.iload_n 2, 1) := by decide +kernel
theorem dX6_append_50 : decode cX6_append 50 = .ok (.iastore, 1) := by decide +kernel
theorem dX6_append_51 : decode cX6_append 51 = .ok (.aload_n 0, 1) := by decide +kernel
theorem dX6_append_52 : decode cX6_append 52 = .ok (.dup, 1) := by decide +kernel
theorem dX6_append_53 : decode cX6_append 53 = .ok (.getfield 18, 3) := by decide +kernel
theorem dX6_append_56 : decode cX6_append 56 = .ok (.iconst 1, 1) := by decide +kernel
theorem dX6_append_57 : decode cX6_append 57 = .ok (.iadd, 1) := by decide +kernel
theorem dX6_append_58 : decode cX6_append 58 = .ok (.putfield 18, 3) := by decide +kernel
theorem dX6_append_61 : decode cX6_append 61 = .ok (.return_, 1) := by decide +kernel
theorem dX6_tenthOf_0 : decode cX6_tenthOf 0 = .ok (.iload_n 1, 1) := by decide +kernel
theorem dX6_tenthOf_1 : decode cX6_tenthOf 1 = .ok (.ifCond .lt 21, 3) := by decide +kernel
theorem dX6_tenthOf_4 : decode cX6_tenthOf 4 = .ok (.iload_n 1, 1) := by decide +kernel
theorem dX6_tenthOf_5 : decode cX6_tenthOf 5 = .ok (.aload_n 0, 1) := by decide +kernel
theorem dX6_tenthOf_6 : decode cX6_tenthOf 6 = .ok (.getfield 9, 3) := by decide +kernel
theorem dX6_tenthOf_9 : decode cX6_tenthOf 9 = .ok (.arraylength, 1) := by decide +kernel
theorem dX6_tenthOf_10 : decode cX6_tenthOf 10 = .ok (.if_icmp .ge 12, 3) := by decide +kernel
theorem dX6_tenthOf_13 : decode cX6_tenthOf 13 = .ok (.aload_n 0, 1) := by decide +kernel
theorem dX6_tenthOf_14 : decode cX6_tenthOf 14 = .ok (.getfield 9, 3) := by decide +kernel
theorem dX6_tenthOf_17 : decode cX6_tenthOf 17 = .ok (.iload_n 1, 1) := by decide +kernel
theorem dX6_tenthOf_18 : decode cX6_tenthOf 18 = .ok (.iaload, 1) := by decide +kernel
theorem dX6_tenthOf_19 : decode cX6_tenthOf 19 = .ok (.goto 4, 3) := by decide +kernel
theorem dX6_tenthOf_22 : decode cX6_tenthOf 22 = .ok (.iconst 0, 1) := by decide +kernel
theorem dX6_tenthOf_23 : decode cX6_tenthOf 23 = .ok (.ireturn, 1) := by decide +kernel
theorem dX6_heightOf_0 : decode cX6_heightOf 0 = .ok (.iload_n 1, 1) := by decide +kernel
theorem dX6_heightOf_1 : decode cX6_heightOf 1 = .ok (.ifCond .lt 21, 3) := by decide +kernel
theorem dX6_heightOf_4 : decode cX6_heightOf 4 = .ok (.iload_n 1, 1) := by decide +kernel
theorem dX6_heightOf_5 : decode cX6_heightOf 5 = .ok (.aload_n 0, 1) := by decide +kernel
theorem dX6_heightOf_6 : decode cX6_heightOf 6 = .ok (.getfield 15, 3) := by decide +kernel
theorem dX6_heightOf_9 : decode cX6_heightOf 9 = .ok (.arraylength, 1) := by decide +kernel
theorem dX6_heightOf_10 : decode cX6_heightOf 10 = .ok (.if_icmp .ge 12, 3) := by decide +kernel
theorem dX6_heightOf_13 : decode cX6_heightOf 13 = .ok (.aload_n 0, 1) := by decide +kernel
theorem dX6_heightOf_14 : decode cX6_heightOf 14 = .ok (.getfield 15, 3) := by decide +kernel
theorem dX6_heightOf_17 : decode cX6_heightOf 17 = .ok (.iload_n 1, 1) := by decide +kernel
theorem dX6_heightOf_18 : decode cX6_heightOf 18 = .ok (.iaload, 1) := by decide +kernel
theorem dX6_heightOf_19 : decode cX6_heightOf 19 = .ok (.goto 4, 3) := by decide +kernel
theorem dX6_heightOf_22 : decode cX6_heightOf 22 = .ok (.iconst 0, 1) := by decide +kernel
theorem dX6_heightOf_23 : decode cX6_heightOf 23 = .ok (.ireturn, 1) := by decide +kernel
theorem dX7_init_0 : decode cX7_init 0 = .ok (.aload_n 0, 1) := by decide +kernel
theorem dX7_init_1 : decode cX7_init 1 = .ok (.invokespecial 3, 3) := by decide +kernel
theorem dX7_init_4 : decode cX7_init 4 = .ok (.aload_n 0, 1) := by decide +kernel
theorem dX7_init_5 : decode cX7_init 5 = .ok (.bipush 23, 2) := by decide +kernel
theorem dX7_init_7 : decode cX7_init 7 = .ok (.newarray .int, 2) := by decide +kernel
theorem dX7_init_9 : decode cX7_init 9 = .ok (.putfield 9, 3) := by decide +kernel
theorem dX7_init_12 : decode cX7_init 12 = .ok (.aload_n 0, 1) := by decide +kernel
theorem dX7_init_13 : decode cX7_init 13 = .ok (.bipush 6, 2) := by decide +kernel
theorem dX7_init_15 : decode cX7_init 15 = .ok (.newarray .int, 2) := by decide +kernel
theorem dX7_init_17 : decode cX7_init 17 = .ok (.putfield 15, 3) := by decide +kernel
theorem dX7_init_20 : decode cX7_init 20 = .ok (.aload_n 0, 1) := by decide +kernel
theorem dX7_init_21 : decode cX7_init 21 = .ok (.bipush 6, 2) := by decide +kernel
theorem dX7_init_23 : decode cX7_init 23 = .ok (.newarray .int, 2) := by decide +kernel
theorem dX7_init_25 : decode cX7_init 25 = .ok (.putfield 18, 3) := by decide +kernel
theorem dX7_init_28 : decode cX7_init 28 = .ok (.aload_n 0, 1) := by decide +kernel
theorem dX7_init_29 : decode cX7_init 29 = .ok (.iconst (-1), 1) := by decide +kernel
theorem dX7_init_30 : decode cX7_init 30 = .ok (.putfield 21, 3) := by decide +kernel
theorem dX7_init_33 : decode cX7_init 33 = .ok (.aload_n 0, 1) := by decide +kernel
theorem dX7_init_34 : decode cX7_init 34 = .ok (.iload_n 1, 1) := by decide +kernel
theorem dX7_init_35 : decode cX7_init 35 = .ok (.putfield 25, 3) := by decide +kernel
theorem dX7_init_38 : decode cX7_init 38 = .ok (.aload_n 0, 1) := by decide +kernel
theorem dX7_init_39 : decode cX7_init 39 = .ok (.iload_n 2, 1) := by decide +kernel
theorem dX7_init_40 : decode cX7_init 40 = .ok (.putfield 28, 3) := by decide +kernel
theorem dX7_init_43 : decode cX7_init 43 = .ok (.return_, 1) := by decide +kernel
theorem dX7_isFull_0 : decode cX7_isFull 0 = .ok (.aload_n 0, 1) := by decide +kernel
theorem dX7_isFull_1 : decode cX7_isFull 1 = .ok (.getfield 31, 3) := by decide +kernel
theorem dX7_isFull_4 : decode cX7_isFull 4 = .ok (.aload_n 0, 1) := by decide +kernel
theorem dX7_isFull_5 : decode cX7_isFull 5 = .ok (.getfield 25, 3) := by decide +kernel
theorem dX7_isFull_8 : decode cX7_isFull 8 = .ok (.if_icmp .lt 7, 3) := by decide +kernel
theorem dX7_isFull_11 : decode cX7_isFull 11 = .ok (.iconst 1, 1) := by decide +kernel
theorem dX7_isFull_12 : decode cX7_isFull 12 = .ok (.goto 4, 3) := by decide +kernel
theorem dX7_isFull_15 : decode cX7_isFull 15 = .ok (.iconst 0, 1) := by decide +kernel
theorem dX7_isFull_16 : decode cX7_isFull 16 = .ok (.ireturn, 1) := by decide +kernel
theorem dX7_append_0 : decode cX7_append 0 = .ok (.aload_n 0, 1) := by decide +kernel
theorem dX7_append_1 : decode cX7_append 1 = .ok (.getfield 31, 3) := by decide +kernel
theorem dX7_append_4 : decode cX7_append 4 = .ok (.ifCond .lt 39, 3) := by decide +kernel
theorem dX7_append_7 : decode cX7_append 7 = .ok (.aload_n 0, 1) := by decide +kernel
theorem dX7_append_8 : decode cX7_append 8 = .ok (.getfield 31, 3) := by decide +kernel
theorem dX7_append_11 : decode cX7_append 11 = .ok (.aload_n 0, 1) := by decide +kernel
theorem dX7_append_12 : decode cX7_append 12 = .ok (.getfield 9, 3) := by decide +kernel
theorem dX7_append_15 : decode cX7_append 15 = .ok (.arraylength, 1) := by decide +kernel
theorem dX7_append_16 : decode cX7_append 16 = .ok (.if_icmp .ge 27, 3) := by decide +kernel
theorem dX7_append_19 : decode cX7_append 19 = .ok (.aload_n 0, 1) := by decide +kernel
theorem dX7_append_20 : decode cX7_append 20 = .ok (.getfield 9, 3) := by decide +kernel
theorem dX7_append_23 : decode cX7_append 23 = .ok (.aload_n 0, 1) := by decide +kernel
theorem dX7_append_24 : decode cX7_append 24 = .ok (.getfield 31, 3) := by decide +kernel
theorem dX7_append_27 : decode cX7_append 27 = .ok (.iload_n 1, 1) := by decide +kernel
theorem dX7_append_28 : decode cX7_append 28 = .ok (.iastore, 1) := by decide +kernel
theorem dX7_append_29 : decode cX7_append 29 = .ok (.aload_n 0, 1) := by decide +kernel
theorem dX7_append_30 : decode cX7_append 30 = .ok (.dup, 1) := by decide +kernel
theorem dX7_append_31 : decode cX7_append 31 = .ok (.getfield 31, 3) := by decide +kernel
theorem dX7_append_34 : decode cX7_append 34 = .ok (.iconst 1, 1) := by decide +kernel
theorem dX7_append_35 : decode cX7_append 35 = .ok (.iadd, 1) := by decide +kernel
theorem dX7_append_36 : decode cX7_append 36 = .ok (.putfield 31, 3) := by decide +kernel
theorem dX7_append_39 : decode cX7_append 39 = .ok (.aload_n 0, 1) := by decide +kernel
theorem dX7_append_40 : decode cX7_append 40 = .ok (.invokevirtual 34, 3) := by decide +kernel
theorem dX7_append_43 : decode cX7_append 43 = .ok (.return_, 1) := by decide +kernel
theorem dX7_shorten_0 : decode cX7_shorten 0 = .ok (.aload_n 0, 1) := by decide +kernel
theorem dX7_shorten_1 : decode cX7_shorten 1 = .ok (.iload_n 1, 1) := by decide +kernel
theorem dX7_shorten_2 : decode cX7_shorten 2 = .ok (.putfield 31, 3) := by decide +kernel
theorem dX7_shorten_5 : decode cX7_shorten 5 = .ok (.aload_n 0, 1) := by decide +kernel
theorem dX7_shorten_6 : decode cX7_shorten 6 = .ok (.invokevirtual 34, 3) := by decide +kernel
theorem dX7_shorten_9 : decode cX7_shorten 9 = .ok (.return_, 1) := by decide +kernel
theorem dX7_heightOf_0 : decode cX7_heightOf 0 = .ok (.iload_n 1, 1) := by decide +kernel
theorem dX7_heightOf_1 : decode cX7_heightOf 1 = .ok (.ifCond .lt 21, 3) := by decide +kernel
theorem dX7_heightOf_4 : decode cX7_heightOf 4 = .ok (.iload_n 1, 1) := by decide +kernel
theorem dX7_heightOf_5 : decode cX7_heightOf 5 = .ok (.aload_n 0, 1) := by decide +kernel
theorem dX7_heightOf_6 : decode cX7_heightOf 6 = .ok (.getfield 15, 3) := by decide +kernel
theorem dX7_heightOf_9 : decode cX7_heightOf 9 = .ok (.arraylength, 1) := by decide +kernel
theorem dX7_heightOf_10 : decode cX7_heightOf 10 = .ok (.if_icmp .ge 12, 3) := by decide +kernel
theorem dX7_heightOf_13 : decode cX7_heightOf 13 = .ok (.aload_n 0, 1) := by decide +kernel
theorem dX7_heightOf_14 : decode cX7_heightOf 14 = .ok (.getfield 15, 3) := by decide +kernel
theorem dX7_heightOf_17 : decode cX7_heightOf 17 = .ok (.iload_n 1, 1) := by decide +kernel
theorem dX7_heightOf_18 : decode cX7_heightOf 18 = .ok (.iaload, 1) := by decide +kernel
theorem dX7_heightOf_19 : decode cX7_heightOf 19 = .ok (.goto 4, 3) := by decide +kernel
theorem dX7_heightOf_22 : decode cX7_heightOf 22 = .ok (.iconst 0, 1) := by decide +kernel
theorem dX7_heightOf_23 : decode cX7_heightOf 23 = .ok (.ireturn, 1) := by decide +kernel
theorem dX7_lengthOf_0 : decode cX7_lengthOf 0 = .ok (.iload_n 1, 1) := by decide +kernel
theorem dX7_lengthOf_1 : decode cX7_lengthOf 1 = .ok (.ifCond .lt 21, 3) := by decide +kernel
theorem dX7_lengthOf_4 : decode cX7_lengthOf 4 = .ok (.iload_n 1, 1) := by decide +kernel
theorem dX7_lengthOf_5 : decode cX7_lengthOf 5 = .ok (.aload_n 0, 1) := by decide +kernel
theorem dX7_lengthOf_6 : decode cX7_lengthOf 6 = .ok (.getfield 18, 3) := by decide +kernel
theorem dX7_lengthOf_9 : decode cX7_lengthOf 9 = .ok (.arraylength, 1) := by decide +kernel
theorem dX7_lengthOf_10 : decode cX7_lengthOf 10 = .ok (.if_icmp .ge 12, 3) := by decide +kernel
theorem dX7_lengthOf_13 : decode cX7_lengthOf 13 = .ok (.aload_n 0, 1) := by decide +kernel
theorem dX7_lengthOf_14 : decode cX7_lengthOf 14 = .ok (.getfield 18, 3) := by decide +kernel
theorem dX7_lengthOf_17 : decode cX7_lengthOf 17 = .ok (.iload_n 1, 1) := by decide +kernel
theorem dX7_lengthOf_18 : decode cX7_lengthOf 18 = .ok (.iaload, 1) := by decide +kernel
theorem dX7_lengthOf_19 : decode cX7_lengthOf 19 = .ok (.goto 4, 3) := by decide +kernel
theorem dX7_lengthOf_22 : decode cX7_lengthOf 22 = .ok (.iconst 0, 1) := by decide +kernel
theorem dX7_lengthOf_23 : decode cX7_lengthOf 23 = .ok (.ireturn, 1) := by decide +kernel
theorem dX7_heightsTogether_0 : decode cX7_heightsTogether 0 = .ok (.iconst 0, 1) := by decide +kernel
theorem dX7_heightsTogether_1 : decode cX7_heightsTogether 1 = .ok (.istore_n 1, 1) := by decide +kernel
theorem dX7_heightsTogether_2 : decode cX7_heightsTogether 2 = .ok (.iconst 0, 1) := by decide +kernel
theorem dX7_heightsTogether_3 : decode cX7_heightsTogether 3 = .ok (.istore_n 2, 1) := by decide +kernel
theorem dX7_heightsTogether_4 : decode cX7_heightsTogether 4 = .ok (.iload_n 2, 1) := by decide +kernel
theorem dX7_heightsTogether_5 : decode cX7_heightsTogether 5 = .ok (.aload_n 0, 1) := by decide +kernel
theorem dX7_heightsTogether_6 : decode cX7_heightsTogether 6 = .ok (.getfield 37, 3) := by decide +kernel
theorem dX7_heightsTogether_9 : decode cX7_heightsTogether 9 = .ok (.if_icmp .ge 17, 3) := by decide +kernel
theorem dX7_heightsTogether_12 : decode cX7_heightsTogether 12 = .ok (.iload_n 1, 1) := by decide +kernel
theorem dX7_heightsTogether_13 : decode cX7_heightsTogether 13 = .ok (.aload_n 0, 1) := by decide +kernel
theorem dX7_heightsTogether_14 : decode cX7_heightsTogether 14 = .ok (.iload_n 2, 1) := by decide +kernel
theorem dX7_heightsTogether_15 : decode cX7_heightsTogether 15 = .ok (.invokevirtual 40, 3) := by decide +kernel
theorem dX7_heightsTogether_18 : decode cX7_heightsTogether 18 = .ok (.iadd, 1) := by decide +kernel
theorem dX7_heightsTogether_19 : decode cX7_heightsTogether 19 = .ok (.istore_n 1, 1) := by decide +kernel
theorem dX7_heightsTogether_20 : decode cX7_heightsTogether 20 = .ok (.iinc 2 1, 3) := by decide +kernel
theorem dX7_heightsTogether_23 : decode cX7_heightsTogether 23 = .ok (.goto (-19), 3) := by decide +kernel
theorem dX7_heightsTogether_26 : decode cX7_heightsTogether 26 = .ok (.iload_n 1, 1) := by decide +kernel
theorem dX7_heightsTogether_27 : decode cX7_heightsTogether 27 = .ok (.ireturn, 1) := by decide +kernel
theorem dX7_understand_0 : decode cX7_understand 0 = .ok (.aload_n 0, 1) := by decide +kernel
theorem dX7_understand_1 : decode cX7_understand 1 = .ok (.aload_n 0, 1) := by decide +kernel
theorem dX7_understand_2 : decode cX7_understand 2 = .ok (.invokevirtual 44, 3) := by decide +kernel
theorem dX7_understand_5 : decode cX7_understand 5 = .ok (.putfield 21, 3) := by decide +kernel
theorem dX7_understand_8 : decode cX7_understand 8 = .ok (.aload_n 0, 1) := by decide +kernel
theorem dX7_understand_9 : decode cX7_understand 9 = .ok (.aload_n 0, 1) := by decide +kernel
theorem dX7_understand_10 : decode cX7_understand 10 = .ok (.getfield 21, 3) := by decide +kernel
theorem dX7_understand_13 : decode cX7_understand 13 = .ok (.iconst (-1), 1) := by decide +kernel
theorem dX7_understand_14 : decode cX7_understand 14 = .ok (.if_icmp .ne 14, 3) := by decide +kernel
theorem dX7_understand_17 : decode cX7_understand 17 = .ok (.aload_n 0, 1) := by decide +kernel
theorem dX7_understand_18 : decode cX7_understand 18 = .ok (.getfield 31, 3) := by decide +kernel
theorem dX7_understand_21 : decode cX7_understand 21 = .ok (.iconst 1, 1) := by decide +kernel
theorem dX7_understand_22 : decode cX7_understand 22 = .ok (.iadd, 1) := by decide +kernel
theorem dX7_understand_23 : decode cX7_understand 23 = .ok (.iconst 4, 1) := by decide +kernel
theorem dX7_understand_24 : decode cX7_understand 24 = .ok (.idiv, 1) := by decide +kernel
theorem dX7_understand_25 : decode cX7_understand 25 = .ok (.goto 4, 3) := by decide +kernel
theorem dX7_understand_28 : decode cX7_understand 28 = .ok (.iconst 0, 1) := by decide +kernel
theorem dX7_understand_29 : decode cX7_understand 29 = .ok (.putfield 37, 3) := by decide +kernel
theorem dX7_understand_32 : decode cX7_understand 32 = .ok (.iconst 0, 1) := by decide +kernel
theorem dX7_understand_33 : decode cX7_understand 33 = .ok (.istore_n 1, 1) := by decide +kernel
theorem dX7_understand_34 : decode cX7_understand 34 = .ok (.iload_n 1, 1) := by decide +kernel
theorem dX7_understand_35 : decode cX7_understand 35 = .ok (.aload_n 0, 1) := by decide +kernel
theorem dX7_understand_36 : decode cX7_understand 36 = .ok (.getfield 15, 3) := by decide +kernel
theorem dX7_understand_39 : decode cX7_understand 39 = .ok (.arraylength, 1) := by decide +kernel
theorem dX7_understand_40 : decode cX7_understand 40 = .ok (.if_icmp .ge 79, 3) := by decide +kernel
theorem dX7_understand_43 : decode cX7_understand 43 = .ok (.iload_n 1, 1) := by decide +kernel
theorem dX7_understand_44 : decode cX7_understand 44 = .ok (.aload_n 0, 1) := by decide +kernel
theorem dX7_understand_45 : decode cX7_understand 45 = .ok (.getfield 18, 3) := by decide +kernel
theorem dX7_understand_48 : decode cX7_understand 48 = .ok (.arraylength, 1) := by decide +kernel
theorem dX7_understand_49 : decode cX7_understand 49 = .ok (.if_icmp .ge 70, 3) := by decide +kernel
theorem dX7_understand_52 : decode cX7_understand 52 = .ok (.iload_n 1, 1) := by decide +kernel
theorem dX7_understand_53 : decode cX7_understand 53 = .ok (.aload_n 0, 1) := by decide +kernel
theorem dX7_understand_54 : decode cX7_understand 54 = .ok (.getfield 37, 3) := by decide +kernel
theorem dX7_understand_57 : decode cX7_understand 57 = .ok (.if_icmp .ge 7, 3) := by decide +kernel
theorem dX7_understand_60 : decode cX7_understand 60 = .ok (.iconst 1, 1) := by decide +kernel
theorem dX7_understand_61 : decode cX7_understand 61 = .ok (.goto 4, 3) := by decide +kernel
theorem dX7_understand_64 : decode cX7_understand 64 = .ok (.iconst 0, 1) := by decide +kernel
theorem dX7_understand_65 : decode cX7_understand 65 = .ok (.istore_n 2, 1) := by decide +kernel
theorem dX7_understand_66 : decode cX7_understand 66 = .ok (.aload_n 0, 1) := by decide +kernel
theorem dX7_understand_67 : decode cX7_understand 67 = .ok (.getfield 15, 3) := by decide +kernel
theorem dX7_understand_70 : decode cX7_understand 70 = .ok (.iload_n 1, 1) := by decide +kernel
theorem dX7_understand_71 : decode cX7_understand 71 = .ok (.iload_n 2, 1) := by decide +kernel
theorem dX7_understand_72 : decode cX7_understand 72 = .ok (.ifCond .eq 16, 3) := by decide +kernel
theorem dX7_understand_75 : decode cX7_understand 75 = .ok (.aload_n 0, 1) := by decide +kernel
theorem dX7_understand_76 : decode cX7_understand 76 = .ok (.iconst 4, 1) := by decide +kernel
theorem dX7_understand_77 : decode cX7_understand 77 = .ok (.iload_n 1, 1) := by decide +kernel
theorem dX7_understand_78 : decode cX7_understand 78 = .ok (.imul, 1) := by decide +kernel
theorem dX7_understand_79 : decode cX7_understand 79 = .ok (.invokevirtual 48, 3) := by decide +kernel
theorem dX7_understand_82 : decode cX7_understand 82 = .ok (.bipush 48, 2) := by decide +kernel
theorem dX7_understand_84 : decode cX7_understand 84 = .ok (.isub, 1) := by decide +kernel
theorem dX7_understand_85 : decode cX7_understand 85 = .ok (.goto 4, 3) := by decide +kernel
theorem dX7_understand_88 : decode cX7_understand 88 = .ok (.iconst 0, 1) := by decide +kernel
theorem dX7_understand_89 : decode cX7_understand 89 = .ok (.iastore, 1) := by decide +kernel
theorem dX7_understand_90 : decode cX7_understand 90 = .ok (.aload_n 0, 1) := by decide +kernel
theorem dX7_understand_91 : decode cX7_understand 91 = .ok (.getfield 18, 3) := by decide +kernel
theorem dX7_understand_94 : decode cX7_understand 94 = .ok (.iload_n 1, 1) := by decide +kernel
theorem dX7_understand_95 : decode cX7_understand 95 = .ok (.iload_n 2, 1) := by decide +kernel
theorem dX7_understand_96 : decode cX7_understand 96 = .ok (.ifCond .eq 15, 3) := by decide +kernel
theorem dX7_understand_99 : decode cX7_understand 99 = .ok (.aload_n 0, 1) := by decide +kernel
theorem dX7_understand_100 : decode cX7_understand 100 = .ok (.iconst 4, 1) := by decide +kernel
theorem dX7_understand_101 : decode cX7_understand 101 = .ok (.iload_n 1, 1) := by decide +kernel
theorem dX7_understand_102 : decode cX7_understand 102 = .ok (.imul, 1) := by decide +kernel
theorem dX7_understand_103 : decode cX7_understand 103 = .ok (.iconst 1, 1) := by decide +kernel
theorem dX7_understand_104 : decode cX7_understand 104 = .ok (.iadd, 1) := by decide +kernel
theorem dX7_understand_105 : decode cX7_understand 105 = .ok (.invokevirtual 51, 3) := by decide +kernel
theorem dX7_understand_108 : decode cX7_understand 108 = .ok (.goto 4, 3) := by decide +kernel
theorem dX7_understand_111 : decode cX7_understand 111 = .ok (.iconst 0, 1) := by decide +kernel
theorem dX7_understand_112 : decode cX7_understand 112 = .ok (.iastore, 1) := by decide +kernel
theorem dX7_understand_113 : decode cX7_understand 113 = .ok (.iinc 1 1, 3) := by decide +kernel
theorem dX7_understand_116 : decode cX7_understand 116 = .ok (.goto (-82), 3) := by decide +kernel
theorem dX7_understand_119 : decode cX7_understand 119 = .ok (.return_, 1) := by decide +kernel
theorem dX7_firstFault_0 : decode cX7_firstFault 0 = .ok (.iconst 0, 1) := by decide +kernel
theorem dX7_firstFault_1 : decode cX7_firstFault 1 = .ok (.istore_n 1, 1) := by decide +kernel
theorem dX7_firstFault_2 : decode cX7_firstFault 2 = .ok (.iload_n 1, 1) := by decide +kernel
theorem dX7_firstFault_3 : decode cX7_firstFault 3 = .ok (.aload_n 0, 1) := by decide +kernel
theorem dX7_firstFault_4 : decode cX7_firstFault 4 = .ok (.getfield 31, 3) := by decide +kernel
theorem dX7_firstFault_7 : decode cX7_firstFault 7 = .ok (.if_icmp .ge 19, 3) := by decide +kernel
theorem dX7_firstFault_10 : decode cX7_firstFault 10 = .ok (.aload_n 0, 1) := by decide +kernel
theorem dX7_firstFault_11 : decode cX7_firstFault 11 = .ok (.iload_n 1, 1) := by decide +kernel
theorem dX7_firstFault_12 : decode cX7_firstFault 12 = .ok (.invokevirtual 54, 3) := by decide +kernel
theorem dX7_firstFault_15 : decode cX7_firstFault 15 = .ok (.ifCond .ne 5, 3) := by decide +kernel
theorem dX7_firstFault_18 : decode cX7_firstFault 18 = .ok (.iload_n 1, 1) := by decide +kernel
theorem dX7_firstFault_19 : decode cX7_firstFault 19 = .ok (.ireturn, 1) := by decide +kernel
theorem dX7_firstFault_20 : decode cX7_firstFault 20 = .ok (.iinc 1 1, 3) := by decide +kernel
theorem dX7_firstFault_23 : decode cX7_firstFault 23 = .ok (.goto (-21), 3) := by decide +kernel
theorem dX7_firstFault_26 : decode cX7_firstFault 26 = .ok (.aload_n 0, 1) := by decide +kernel
theorem dX7_firstFault_27 : decode cX7_firstFault 27 = .ok (.getfield 31, 3) := by decide +kernel
theorem dX7_firstFault_30 : decode cX7_firstFault 30 = .ok (.ifCond .eq 13, 3) := by decide +kernel
theorem dX7_firstFault_33 : decode cX7_firstFault 33 = .ok (.aload_n 0, 1) := by decide +kernel
theorem dX7_firstFault_34 : decode cX7_firstFault 34 = .ok (.getfield 31, 3) := by decide +kernel
theorem dX7_firstFault_37 : decode cX7_firstFault 37 = .ok (.iconst 4, 1) := by decide +kernel
theorem dX7_firstFault_38 : decode cX7_firstFault 38 = .ok (.irem, 1) := by decide +kernel
theorem dX7_firstFault_39 : decode cX7_firstFault 39 = .ok (.iconst 3, 1) := by decide +kernel
theorem dX7_firstFault_40 : decode cX7_firstFault 40 = .ok (.if_icmp .ne 7, 3) := by decide +kernel
theorem dX7_firstFault_43 : decode cX7_firstFault 43 = .ok (.iconst (-1), 1) := by decide +kernel
theorem dX7_firstFault_44 : decode cX7_firstFault 44 = .ok (.goto 7, 3) := by decide +kernel
theorem dX7_firstFault_47 : decode cX7_firstFault 47 = .ok (.aload_n 0, 1) := by decide +kernel
theorem dX7_firstFault_48 : decode cX7_firstFault 48 = .ok (.getfield 31, 3) := by decide +kernel
theorem dX7_firstFault_51 : decode cX7_firstFault 51 = .ok (.ireturn, 1) := by decide +kernel
theorem dX7_goesOn_0 : decode cX7_goesOn 0 = .ok (.iload_n 1, 1) := by decide +kernel
theorem dX7_goesOn_1 : decode cX7_goesOn 1 = .ok (.iconst 4, 1) := by decide +kernel
theorem dX7_goesOn_2 : decode cX7_goesOn 2 = .ok (.irem, 1) := by decide +kernel
theorem dX7_goesOn_3 : decode cX7_goesOn 3 = .ok (.iconst 3, 1) := by decide +kernel
theorem dX7_goesOn_4 : decode cX7_goesOn 4 = .ok (.if_icmp .ne 19, 3) := by decide +kernel
theorem dX7_goesOn_7 : decode cX7_goesOn 7 = .ok (.aload_n 0, 1) := by decide +kernel
theorem dX7_goesOn_8 : decode cX7_goesOn 8 = .ok (.iload_n 1, 1) := by decide +kernel
theorem dX7_goesOn_9 : decode cX7_goesOn 9 = .ok (.invokevirtual 48, 3) := by decide +kernel
theorem dX7_goesOn_12 : decode cX7_goesOn 12 = .ok (.bipush 59, 2) := by decide +kernel
theorem dX7_goesOn_14 : decode cX7_goesOn 14 = .ok (.if_icmp .ne 7, 3) := by decide +kernel
theorem dX7_goesOn_17 : decode cX7_goesOn 17 = .ok (.iconst 1, 1) := by decide +kernel
theorem dX7_goesOn_18 : decode cX7_goesOn 18 = .ok (.goto 4, 3) := by decide +kernel
theorem dX7_goesOn_21 : decode cX7_goesOn 21 = .ok (.iconst 0, 1) := by decide +kernel
theorem dX7_goesOn_22 : decode cX7_goesOn 22 = .ok (.ireturn, 1) := by decide +kernel
theorem dX7_goesOn_23 : decode cX7_goesOn 23 = .ok (.aload_n 0, 1) := by decide +kernel
theorem dX7_goesOn_24 : decode cX7_goesOn 24 = .ok (.iload_n 1, 1) := by decide +kernel
theorem dX7_goesOn_25 : decode cX7_goesOn 25 = .ok (.invokevirtual 48, 3) := by decide +kernel
theorem dX7_goesOn_28 : decode cX7_goesOn 28 = .ok (.bipush 48, 2) := by decide +kernel
theorem dX7_goesOn_30 : decode cX7_goesOn 30 = .ok (.if_icmp .lt 13, 3) := by decide +kernel
theorem dX7_goesOn_33 : decode cX7_goesOn 33 = .ok (.aload_n 0, 1) := by decide +kernel
theorem dX7_goesOn_34 : decode cX7_goesOn 34 = .ok (.iload_n 1, 1) := by decide +kernel
theorem dX7_goesOn_35 : decode cX7_goesOn 35 = .ok (.invokevirtual 48, 3) := by decide +kernel
theorem dX7_goesOn_38 : decode cX7_goesOn 38 = .ok (.bipush 57, 2) := by decide +kernel
theorem dX7_goesOn_40 : decode cX7_goesOn 40 = .ok (.if_icmp .le 5, 3) := by decide +kernel
theorem dX7_goesOn_43 : decode cX7_goesOn 43 = .ok (.iconst 0, 1) := by decide +kernel
theorem dX7_goesOn_44 : decode cX7_goesOn 44 = .ok (.ireturn, 1) := by decide +kernel
theorem dX7_goesOn_45 : decode cX7_goesOn 45 = .ok (.iload_n 1, 1) := by decide +kernel
theorem dX7_goesOn_46 : decode cX7_goesOn 46 = .ok (.iconst 4, 1) := by decide +kernel
theorem dX7_goesOn_47 : decode cX7_goesOn 47 = .ok (.irem, 1) := by decide +kernel
theorem dX7_goesOn_48 : decode cX7_goesOn 48 = .ok (.ifCond .ne 19, 3) := by decide +kernel
theorem dX7_goesOn_51 : decode cX7_goesOn 51 = .ok (.iload_n 1, 1) := by decide +kernel
theorem dX7_goesOn_52 : decode cX7_goesOn 52 = .ok (.iconst 4, 1) := by decide +kernel
theorem dX7_goesOn_53 : decode cX7_goesOn 53 = .ok (.idiv, 1) := by decide +kernel
theorem dX7_goesOn_54 : decode cX7_goesOn 54 = .ok (.aload_n 0, 1) := by decide +kernel
theorem dX7_goesOn_55 : decode cX7_goesOn 55 = .ok (.getfield 28, 3) := by decide +kernel
theorem dX7_goesOn_58 : decode cX7_goesOn 58 = .ok (.if_icmp .ge 7, 3) := by decide +kernel
theorem dX7_goesOn_61 : decode cX7_goesOn 61 = .ok (.iconst 1, 1) := by decide +kernel
theorem dX7_goesOn_62 : decode cX7_goesOn 62 = .ok (.goto 4, 3) := by decide +kernel
theorem dX7_goesOn_65 : decode cX7_goesOn 65 = .ok (.iconst 0, 1) := by decide +kernel
theorem dX7_goesOn_66 : decode cX7_goesOn 66 = .ok (.ireturn, 1) := by decide +kernel
theorem dX7_goesOn_67 : decode cX7_goesOn 67 = .ok (.iload_n 1, 1) := by decide +kernel
theorem dX7_goesOn_68 : decode cX7_goesOn 68 = .ok (.iconst 4, 1) := by decide +kernel
theorem dX7_goesOn_69 : decode cX7_goesOn 69 = .ok (.irem, 1) := by decide +kernel
theorem dX7_goesOn_70 : decode cX7_goesOn 70 = .ok (.iconst 1, 1) := by decide +kernel
theorem dX7_goesOn_71 : decode cX7_goesOn 71 = .ok (.if_icmp .eq 14, 3) := by decide +kernel
theorem dX7_goesOn_74 : decode cX7_goesOn 74 = .ok (.aload_n 0, 1) := by decide +kernel
theorem dX7_goesOn_75 : decode cX7_goesOn 75 = .ok (.iload_n 1, 1) := by decide +kernel
theorem dX7_goesOn_76 : decode cX7_goesOn 76 = .ok (.iconst 1, 1) := by decide +kernel
theorem dX7_goesOn_77 : decode cX7_goesOn 77 = .ok (.isub, 1) := by decide +kernel
theorem dX7_goesOn_78 : decode cX7_goesOn 78 = .ok (.invokevirtual 51, 3) := by decide +kernel
theorem dX7_goesOn_81 : decode cX7_goesOn 81 = .ok (.iconst 2, 1) := by decide +kernel
theorem dX7_goesOn_82 : decode cX7_goesOn 82 = .ok (.if_icmp .lt 7, 3) := by decide +kernel
theorem dX7_goesOn_85 : decode cX7_goesOn 85 = .ok (.iconst 1, 1) := by decide +kernel
theorem dX7_goesOn_86 : decode cX7_goesOn 86 = .ok (.goto 4, 3) := by decide +kernel
theorem dX7_goesOn_89 : decode cX7_goesOn 89 = .ok (.iconst 0, 1) := by decide +kernel
theorem dX7_goesOn_90 : decode cX7_goesOn 90 = .ok (.ireturn, 1) := by decide +kernel
theorem dX7_byteAt_0 : decode cX7_byteAt 0 = .ok (.iload_n 1, 1) := by decide +kernel
theorem dX7_byteAt_1 : decode cX7_byteAt 1 = .ok (.ifCond .lt 21, 3) := by decide +kernel
theorem dX7_byteAt_4 : decode cX7_byteAt 4 = .ok (.iload_n 1, 1) := by decide +kernel
theorem dX7_byteAt_5 : decode cX7_byteAt 5 = .ok (.aload_n 0, 1) := by decide +kernel
theorem dX7_byteAt_6 : decode cX7_byteAt 6 = .ok (.getfield 9, 3) := by decide +kernel
theorem dX7_byteAt_9 : decode cX7_byteAt 9 = .ok (.arraylength, 1) := by decide +kernel
theorem dX7_byteAt_10 : decode cX7_byteAt 10 = .ok (.if_icmp .ge 12, 3) := by decide +kernel
theorem dX7_byteAt_13 : decode cX7_byteAt 13 = .ok (.aload_n 0, 1) := by decide +kernel
theorem dX7_byteAt_14 : decode cX7_byteAt 14 = .ok (.getfield 9, 3) := by decide +kernel
theorem dX7_byteAt_17 : decode cX7_byteAt 17 = .ok (.iload_n 1, 1) := by decide +kernel
theorem dX7_byteAt_18 : decode cX7_byteAt 18 = .ok (.iaload, 1) := by decide +kernel
theorem dX7_byteAt_19 : decode cX7_byteAt 19 = .ok (.goto 4, 3) := by decide +kernel
theorem dX7_byteAt_22 : decode cX7_byteAt 22 = .ok (.iconst 0, 1) := by decide +kernel
theorem dX7_byteAt_23 : decode cX7_byteAt 23 = .ok (.ireturn, 1) := by decide +kernel
theorem dX7_twoFiguresAt_0 : decode cX7_twoFiguresAt 0 = .ok (.bipush 10, 2) := by decide +kernel
theorem dX7_twoFiguresAt_2 : decode cX7_twoFiguresAt 2 = .ok (.aload_n 0, 1) := by decide +kernel
theorem dX7_twoFiguresAt_3 : decode cX7_twoFiguresAt 3 = .ok (.iload_n 1, 1) := by decide +kernel
theorem dX7_twoFiguresAt_4 : decode cX7_twoFiguresAt 4 = .ok (.invokevirtual 48, 3) := by decide +kernel
theorem dX7_twoFiguresAt_7 : decode cX7_twoFiguresAt 7 = .ok (.bipush 48, 2) := by decide +kernel
theorem dX7_twoFiguresAt_9 : decode cX7_twoFiguresAt 9 = .ok (.isub, 1) := by decide +kernel
theorem dX7_twoFiguresAt_10 : decode cX7_twoFiguresAt 10 = .ok (.imul, 1) := by decide +kernel
theorem dX7_twoFiguresAt_11 : decode cX7_twoFiguresAt 11 = .ok (.aload_n 0, 1) := by decide +kernel
theorem dX7_twoFiguresAt_12 : decode cX7_twoFiguresAt 12 = .ok (.iload_n 1, 1) := by decide +kernel
theorem dX7_twoFiguresAt_13 : decode cX7_twoFiguresAt 13 = .ok (.iconst 1, 1) := by decide +kernel
theorem dX7_twoFiguresAt_14 : decode cX7_twoFiguresAt 14 = .ok (.iadd, 1) := by decide +kernel
theorem dX7_twoFiguresAt_15 : decode cX7_twoFiguresAt 15 = .ok (.invokevirtual 48, 3) := by decide +kernel
theorem dX7_twoFiguresAt_18 : decode cX7_twoFiguresAt 18 = .ok (.bipush 48, 2) := by decide +kernel
theorem dX7_twoFiguresAt_20 : decode cX7_twoFiguresAt 20 = .ok (.isub, 1) := by decide +kernel
theorem dX7_twoFiguresAt_21 : decode cX7_twoFiguresAt 21 = .ok (.iadd, 1) := by decide +kernel
theorem dX7_twoFiguresAt_22 : decode cX7_twoFiguresAt 22 = .ok (.ireturn, 1) := by decide +kernel
end
section
theorem dX8_init_0 : decode cX8_init 0 = .ok (.aload_n 0, 1) := by decide +kernel
theorem dX8_init_1 : decode cX8_init 1 = .ok (.invokespecial 5, 3) := by decide +kernel
theorem dX8_init_4 : decode cX8_init 4 = .ok (.aload_n 0, 1) := by decide +kernel
theorem dX8_init_5 : decode cX8_init 5 = .ok (.new 11, 3) := by decide +kernel
theorem dX8_init_8 : decode cX8_init 8 = .ok (.dup, 1) := by decide +kernel
theorem dX8_init_9 : decode cX8_init 9 = .ok (.bipush 23, 2) := by decide +kernel
theorem dX8_init_11 : decode cX8_init 11 = .ok (.bipush 6, 2) := by decide +kernel
theorem dX8_init_13 : decode cX8_init 13 = .ok (.invokespecial 13, 3) := by decide +kernel
theorem dX8_init_16 : decode cX8_init 16 = .ok (.putfield 16, 3) := by decide +kernel
theorem dX8_init_19 : decode cX8_init 19 = .ok (.aload_n 0, 1) := by decide +kernel
theorem dX8_init_20 : decode cX8_init 20 = .ok (.new 11, 3) := by decide +kernel
theorem dX8_init_23 : decode cX8_init 23 = .ok (.dup, 1) := by decide +kernel
theorem dX8_init_24 : decode cX8_init 24 = .ok (.iconst 3, 1) := by decide +kernel
theorem dX8_init_25 : decode cX8_init 25 = .ok (.iconst 1, 1) := by decide +kernel
theorem dX8_init_26 : decode cX8_init 26 = .ok (.invokespecial 13, 3) := by decide +kernel
theorem dX8_init_29 : decode cX8_init 29 = .ok (.putfield 20, 3) := by decide +kernel
theorem dX8_init_32 : decode cX8_init 32 = .ok (.aload_n 0, 1) := by decide +kernel
theorem dX8_init_33 : decode cX8_init 33 = .ok (.new 23, 3) := by decide +kernel
theorem dX8_init_36 : decode cX8_init 36 = .ok (.dup, 1) := by decide +kernel
theorem dX8_init_37 : decode cX8_init 37 = .ok (.aload_n 0, 1) := by decide +kernel
theorem dX8_init_38 : decode cX8_init 38 = .ok (.getfield 16, 3) := by decide +kernel
theorem dX8_init_41 : decode cX8_init 41 = .ok (.invokespecial 25, 3) := by decide +kernel
theorem dX8_init_44 : decode cX8_init 44 = .ok (.putfield 28, 3) := by decide +kernel
theorem dX8_init_47 : decode cX8_init 47 = .ok (.aload_n 0, 1) := by decide +kernel
theorem dX8_init_48 : decode cX8_init 48 = .ok (.new 32, 3) := by decide +kernel
theorem dX8_init_51 : decode cX8_init 51 = .ok (.dup, 1) := by decide +kernel
theorem dX8_init_52 : decode cX8_init 52 = .ok (.aload_n 0, 1) := by decide +kernel
theorem dX8_init_53 : decode cX8_init 53 = .ok (.getfield 20, 3) := by decide +kernel
theorem dX8_init_56 : decode cX8_init 56 = .ok (.invokespecial 34, 3) := by decide +kernel
theorem dX8_init_59 : decode cX8_init 59 = .ok (.putfield 35, 3) := by decide +kernel
theorem dX8_init_62 : decode cX8_init 62 = .ok (.aload_n 0, 1) := by decide +kernel
theorem dX8_init_63 : decode cX8_init 63 = .ok (.new 39, 3) := by decide +kernel
theorem dX8_init_66 : decode cX8_init 66 = .ok (.dup, 1) := by decide +kernel
theorem dX8_init_67 : decode cX8_init 67 = .ok (.invokespecial 41, 3) := by decide +kernel
theorem dX8_init_70 : decode cX8_init 70 = .ok (.putfield 42, 3) := by decide +kernel
theorem dX8_init_73 : decode cX8_init 73 = .ok (.aload_n 0, 1) := by decide +kernel
theorem dX8_init_74 : decode cX8_init 74 = .ok (.new 46, 3) := by decide +kernel
theorem dX8_init_77 : decode cX8_init 77 = .ok (.dup, 1) := by decide +kernel
theorem dX8_init_78 : decode cX8_init 78 = .ok (.aload_n 0, 1) := by decide +kernel
theorem dX8_init_79 : decode cX8_init 79 = .ok (.getfield 28, 3) := by decide +kernel
theorem dX8_init_82 : decode cX8_init 82 = .ok (.aload_n 0, 1) := by decide +kernel
theorem dX8_init_83 : decode cX8_init 83 = .ok (.getfield 35, 3) := by decide +kernel
theorem dX8_init_86 : decode cX8_init 86 = .ok (.aload_n 0, 1) := by decide +kernel
theorem dX8_init_87 : decode cX8_init 87 = .ok (.getfield 42, 3) := by decide +kernel
theorem dX8_init_90 : decode cX8_init 90 = .ok (.invokespecial 48, 3) := by decide +kernel
theorem dX8_init_93 : decode cX8_init 93 = .ok (.putfield 51, 3) := by decide +kernel
theorem dX8_init_96 : decode cX8_init 96 = .ok (.aload_n 0, 1) := by decide +kernel
theorem dX8_init_97 : decode cX8_init 97 = .ok (.new 55, 3) := by decide +kernel
theorem dX8_init_100 : decode cX8_init 100 = .ok (.dup, 1) := by decide +kernel
theorem dX8_init_101 : decode cX8_init 101 = .ok (.invokespecial 57, 3) := by decide +kernel
theorem dX8_init_104 : decode cX8_init 104 = .ok (.putfield 58, 3) := by decide +kernel
theorem dX8_init_107 : decode cX8_init 107 = .ok (.aload_n 0, 1) := by decide +kernel
theorem dX8_init_108 : decode cX8_init 108 = .ok (.new 62, 3) := by decide +kernel
theorem dX8_init_111 : decode cX8_init 111 = .ok (.dup, 1) := by decide +kernel
theorem dX8_init_112 : decode cX8_init 112 = .ok (.invokespecial 64, 3) := by decide +kernel
theorem dX8_init_115 : decode cX8_init 115 = .ok (.putfield 65, 3) := by decide +kernel
theorem dX8_init_118 : decode cX8_init 118 = .ok (.aload_n 0, 1) := by decide +kernel
theorem dX8_init_119 : decode cX8_init 119 = .ok (.iconst 4, 1) := by decide +kernel
theorem dX8_init_120 : decode cX8_init 120 = .ok (.anewarray 69, 3) := by decide +kernel
theorem dX8_init_123 : decode cX8_init 123 = .ok (.putfield 71, 3) := by decide +kernel
theorem dX8_init_126 : decode cX8_init 126 = .ok (.iconst 0, 1) := by decide +kernel
theorem dX8_init_127 : decode cX8_init 127 = .ok (.istore_n 1, 1) := by decide +kernel
theorem dX8_init_128 : decode cX8_init 128 = .ok (.iload_n 1, 1) := by decide +kernel
theorem dX8_init_129 : decode cX8_init 129 = .ok (.aload_n 0, 1) := by decide +kernel
theorem dX8_init_130 : decode cX8_init 130 = .ok (.getfield 71, 3) := by decide +kernel
theorem dX8_init_133 : decode cX8_init 133 = .ok (.arraylength, 1) := by decide +kernel
theorem dX8_init_134 : decode cX8_init 134 = .ok (.if_icmp .ge 22, 3) := by decide +kernel
theorem dX8_init_137 : decode cX8_init 137 = .ok (.aload_n 0, 1) := by decide +kernel
theorem dX8_init_138 : decode cX8_init 138 = .ok (.getfield 71, 3) := by decide +kernel
theorem dX8_init_141 : decode cX8_init 141 = .ok (.iload_n 1, 1) := by decide +kernel
theorem dX8_init_142 : decode cX8_init 142 = .ok (.new 69, 3) := by decide +kernel
theorem dX8_init_145 : decode cX8_init 145 = .ok (.dup, 1) := by decide +kernel
theorem dX8_init_146 : decode cX8_init 146 = .ok (.invokespecial 75, 3) := by decide +kernel
theorem dX8_init_149 : decode cX8_init 149 = .ok (.aastore, 1) := by decide +kernel
theorem dX8_init_150 : decode cX8_init 150 = .ok (.iinc 1 1, 3) := by decide +kernel
theorem dX8_init_153 : decode cX8_init 153 = .ok (.goto (-25), 3) := by decide +kernel
theorem dX8_init_156 : decode cX8_init 156 = .ok (.return_, 1) := by decide +kernel
theorem dX8_type_0 : decode cX8_type 0 = .ok (.aload_n 0, 1) := by decide +kernel
theorem dX8_type_1 : decode cX8_type 1 = .ok (.iload_n 1, 1) := by decide +kernel
theorem dX8_type_2 : decode cX8_type 2 = .ok (.invokevirtual 76, 3) := by decide +kernel
theorem dX8_type_5 : decode cX8_type 5 = .ok (.astore_n 3, 1) := by decide +kernel
theorem dX8_type_6 : decode cX8_type 6 = .ok (.aload_n 3, 1) := by decide +kernel
theorem dX8_type_7 : decode cX8_type 7 = .ok (.ifnull 14, 3) := by decide +kernel
theorem dX8_type_10 : decode cX8_type 10 = .ok (.iload_n 2, 1) := by decide +kernel
theorem dX8_type_11 : decode cX8_type 11 = .ok (.ifCond .lt 10, 3) := by decide +kernel
theorem dX8_type_14 : decode cX8_type 14 = .ok (.iload_n 2, 1) := by decide +kernel
theorem dX8_type_15 : decode cX8_type 15 = .ok (.sipush 255, 3) := by decide +kernel
theorem dX8_type_18 : decode cX8_type 18 = .ok (.if_icmp .le 6, 3) := by decide +kernel
theorem dX8_type_21 : decode cX8_type 21 = .ok (.bipush (-2), 2) := by decide +kernel
theorem dX8_type_23 : decode cX8_type 23 = .ok (.ireturn, 1) := by decide +kernel
theorem dX8_type_24 : decode cX8_type 24 = .ok (.aload_n 3, 1) := by decide +kernel
theorem dX8_type_25 : decode cX8_type 25 = .ok (.invokevirtual 80, 3) := by decide +kernel
theorem dX8_type_28 : decode cX8_type 28 = .ok (.ifCond .eq 6, 3) := by decide +kernel
theorem dX8_type_31 : decode cX8_type 31 = .ok (.bipush (-4), 2) := by decide +kernel
theorem dX8_type_33 : decode cX8_type 33 = .ok (.ireturn, 1) := by decide +kernel
theorem dX8_type_34 : decode cX8_type 34 = .ok (.aload_n 3, 1) := by decide +kernel
theorem dX8_type_35 : decode cX8_type 35 = .ok (.iload_n 2, 1) := by decide +kernel
theorem dX8_type_36 : decode cX8_type 36 = .ok (.invokevirtual 84, 3) := by decide +kernel
theorem dX8_type_39 : decode cX8_type 39 = .ok (.aload_n 0, 1) := by decide +kernel
theorem dX8_type_40 : decode cX8_type 40 = .ok (.invokevirtual 88, 3) := by decide +kernel
theorem dX8_type_43 : decode cX8_type 43 = .ok (.aload_n 3, 1) := by decide +kernel
theorem dX8_type_44 : decode cX8_type 44 = .ok (.getfield 91, 3) := by decide +kernel
theorem dX8_type_47 : decode cX8_type 47 = .ok (.ireturn, 1) := by decide +kernel
theorem dX8_wipe_0 : decode cX8_wipe 0 = .ok (.aload_n 0, 1) := by decide +kernel
theorem dX8_wipe_1 : decode cX8_wipe 1 = .ok (.iload_n 1, 1) := by decide +kernel
theorem dX8_wipe_2 : decode cX8_wipe 2 = .ok (.invokevirtual 76, 3) := by decide +kernel
theorem dX8_wipe_5 : decode cX8_wipe 5 = .ok (.astore_n 2, 1) := by decide +kernel
theorem dX8_wipe_6 : decode cX8_wipe 6 = .ok (.aload_n 2, 1) := by decide +kernel
theorem dX8_wipe_7 : decode cX8_wipe 7 = .ok (.ifnonnull 6, 3) := by decide +kernel
theorem dX8_wipe_10 : decode cX8_wipe 10 = .ok (.bipush (-2), 2) := by decide +kernel
theorem dX8_wipe_12 : decode cX8_wipe 12 = .ok (.ireturn, 1) := by decide +kernel
theorem dX8_wipe_13 : decode cX8_wipe 13 = .ok (.aload_n 2, 1) := by decide +kernel
theorem dX8_wipe_14 : decode cX8_wipe 14 = .ok (.getfield 91, 3) := by decide +kernel
theorem dX8_wipe_17 : decode cX8_wipe 17 = .ok (.istore_n 3, 1) := by decide +kernel
theorem dX8_wipe_18 : decode cX8_wipe 18 = .ok (.aload_n 2, 1) := by decide +kernel
theorem dX8_wipe_19 : decode cX8_wipe 19 = .ok (.iconst 0, 1) := by decide +kernel
theorem dX8_wipe_20 : decode cX8_wipe 20 = .ok (.invokevirtual 95, 3) := by decide +kernel
theorem dX8_wipe_23 : decode cX8_wipe 23 = .ok (.aload_n 0, 1) := by decide +kernel
theorem dX8_wipe_24 : decode cX8_wipe 24 = .ok (.invokevirtual 88, 3) := by decide +kernel
theorem dX8_wipe_27 : decode cX8_wipe 27 = .ok (.iload_n 3, 1) := by decide +kernel
theorem dX8_wipe_28 : decode cX8_wipe 28 = .ok (.ireturn, 1) := by decide +kernel
theorem dX8_undo_0 : decode cX8_undo 0 = .ok (.aload_n 0, 1) := by decide +kernel
theorem dX8_undo_1 : decode cX8_undo 1 = .ok (.iload_n 1, 1) := by decide +kernel
theorem dX8_undo_2 : decode cX8_undo 2 = .ok (.invokevirtual 76, 3) := by decide +kernel
theorem dX8_undo_5 : decode cX8_undo 5 = .ok (.astore_n 2, 1) := by decide +kernel
theorem dX8_undo_6 : decode cX8_undo 6 = .ok (.aload_n 2, 1) := by decide +kernel
theorem dX8_undo_7 : decode cX8_undo 7 = .ok (.ifnonnull 6, 3) := by decide +kernel
theorem dX8_undo_10 : decode cX8_undo 10 = .ok (.bipush (-2), 2) := by decide +kernel
theorem dX8_undo_12 : decode cX8_undo 12 = .ok (.ireturn, 1) := by decide +kernel
theorem dX8_undo_13 : decode cX8_undo 13 = .ok (.aload_n 2, 1) := by decide +kernel
theorem dX8_undo_14 : decode cX8_undo 14 = .ok (.getfield 91, 3) := by decide +kernel
theorem dX8_undo_17 : decode cX8_undo 17 = .ok (.ifCond .ne 6, 3) := by decide +kernel
theorem dX8_undo_20 : decode cX8_undo 20 = .ok (.bipush (-3), 2) := by decide +kernel
theorem dX8_undo_22 : decode cX8_undo 22 = .ok (.ireturn, 1) := by decide +kernel
theorem dX8_undo_23 : decode cX8_undo 23 = .ok (.aload_n 2, 1) := by decide +kernel
theorem dX8_undo_24 : decode cX8_undo 24 = .ok (.aload_n 2, 1) := by decide +kernel
theorem dX8_undo_25 : decode cX8_undo 25 = .ok (.getfield 91, 3) := by decide +kernel
theorem dX8_undo_28 : decode cX8_undo 28 = .ok (.iconst 1, 1) := by decide +kernel
theorem dX8_undo_29 : decode cX8_undo 29 = .ok (.isub, 1) := by decide +kernel
theorem dX8_undo_30 : decode cX8_undo 30 = .ok (.invokevirtual 95, 3) := by decide +kernel
theorem dX8_undo_33 : decode cX8_undo 33 = .ok (.aload_n 0, 1) := by decide +kernel
theorem dX8_undo_34 : decode cX8_undo 34 = .ok (.invokevirtual 88, 3) := by decide +kernel
theorem dX8_undo_37 : decode cX8_undo 37 = .ok (.aload_n 2, 1) := by decide +kernel
theorem dX8_undo_38 : decode cX8_undo 38 = .ok (.getfield 91, 3) := by decide +kernel
theorem dX8_undo_41 : decode cX8_undo 41 = .ok (.ireturn, 1) := by decide +kernel
theorem dX8_fault_0 : decode cX8_fault 0 = .ok (.aload_n 0, 1) := by decide +kernel
theorem dX8_fault_1 : decode cX8_fault 1 = .ok (.iload_n 1, 1) := by decide +kernel
theorem dX8_fault_2 : decode cX8_fault 2 = .ok (.invokevirtual 76, 3) := by decide +kernel
theorem dX8_fault_5 : decode cX8_fault 5 = .ok (.astore_n 2, 1) := by decide +kernel
theorem dX8_fault_6 : decode cX8_fault 6 = .ok (.aload_n 2, 1) := by decide +kernel
theorem dX8_fault_7 : decode cX8_fault 7 = .ok (.ifnonnull 8, 3) := by decide +kernel
theorem dX8_fault_10 : decode cX8_fault 10 = .ok (.bipush (-2), 2) := by decide +kernel
theorem dX8_fault_12 : decode cX8_fault 12 = .ok (.goto 7, 3) := by decide +kernel
theorem dX8_fault_15 : decode cX8_fault 15 = .ok (.aload_n 2, 1) := by decide +kernel
theorem dX8_fault_16 : decode cX8_fault 16 = .ok (.getfield 98, 3) := by decide +kernel
theorem dX8_fault_19 : decode cX8_fault 19 = .ok (.ireturn, 1) := by decide +kernel
theorem dX8_swell_0 : decode cX8_swell 0 = .ok (.aload_n 0, 1) := by decide +kernel
theorem dX8_swell_1 : decode cX8_swell 1 = .ok (.iload_n 1, 1) := by decide +kernel
theorem dX8_swell_2 : decode cX8_swell 2 = .ok (.invokevirtual 101, 3) := by decide +kernel
theorem dX8_swell_5 : decode cX8_swell 5 = .ok (.ifCond .eq 10, 3) := by decide +kernel
theorem dX8_swell_8 : decode cX8_swell 8 = .ok (.iload_n 2, 1) := by decide +kernel
theorem dX8_swell_9 : decode cX8_swell 9 = .ok (.invokestatic 105, 3) := by decide +kernel
theorem dX8_swell_12 : decode cX8_swell 12 = .ok (.ifCond .ne 6, 3) := by decide +kernel
theorem dX8_swell_15 : decode cX8_swell 15 = .ok (.bipush (-2), 2) := by decide +kernel
theorem dX8_swell_17 : decode cX8_swell 17 = .ok (.ireturn, 1) := by decide +kernel
theorem dX8_swell_18 : decode cX8_swell 18 = .ok (.iload_n 2, 1) := by decide +kernel
theorem dX8_swell_19 : decode cX8_swell 19 = .ok (.ifCond .ne 14, 3) := by decide +kernel
theorem dX8_swell_22 : decode cX8_swell 22 = .ok (.aload_n 0, 1) := by decide +kernel
theorem dX8_swell_23 : decode cX8_swell 23 = .ok (.getfield 16, 3) := by decide +kernel
theorem dX8_swell_26 : decode cX8_swell 26 = .ok (.iload_n 1, 1) := by decide +kernel
theorem dX8_swell_27 : decode cX8_swell 27 = .ok (.invokevirtual 108, 3) := by decide +kernel
theorem dX8_swell_30 : decode cX8_swell 30 = .ok (.goto 11, 3) := by decide +kernel
theorem dX8_swell_33 : decode cX8_swell 33 = .ok (.aload_n 0, 1) := by decide +kernel
theorem dX8_swell_34 : decode cX8_swell 34 = .ok (.getfield 16, 3) := by decide +kernel
theorem dX8_swell_37 : decode cX8_swell 37 = .ok (.iload_n 1, 1) := by decide +kernel
theorem dX8_swell_38 : decode cX8_swell 38 = .ok (.invokevirtual 112, 3) := by decide +kernel
theorem dX8_swell_41 : decode cX8_swell 41 = .ok (.ireturn, 1) := by decide +kernel
theorem dX8_roll_0 : decode cX8_roll 0 = .ok (.iload_n 1, 1) := by decide +kernel
theorem dX8_roll_1 : decode cX8_roll 1 = .ok (.invokestatic 105, 3) := by decide +kernel
theorem dX8_roll_4 : decode cX8_roll 4 = .ok (.ifCond .ne 6, 3) := by decide +kernel
theorem dX8_roll_7 : decode cX8_roll 7 = .ok (.bipush (-2), 2) := by decide +kernel
theorem dX8_roll_9 : decode cX8_roll 9 = .ok (.ireturn, 1) := by decide +kernel
theorem dX8_roll_10 : decode cX8_roll 10 = .ok (.aload_n 0, 1) := by decide +kernel
theorem dX8_roll_11 : decode cX8_roll 11 = .ok (.getfield 20, 3) := by decide +kernel
theorem dX8_roll_14 : decode cX8_roll 14 = .ok (.getfield 115, 3) := by decide +kernel
theorem dX8_roll_17 : decode cX8_roll 17 = .ok (.ifCond .ne 5, 3) := by decide +kernel
theorem dX8_roll_20 : decode cX8_roll 20 = .ok (.iconst (-1), 1) := by decide +kernel
theorem dX8_roll_21 : decode cX8_roll 21 = .ok (.ireturn, 1) := by decide +kernel
theorem dX8_roll_22 : decode cX8_roll 22 = .ok (.iload_n 1, 1) := by decide +kernel
theorem dX8_roll_23 : decode cX8_roll 23 = .ok (.ifCond .ne 14, 3) := by decide +kernel
theorem dX8_roll_26 : decode cX8_roll 26 = .ok (.aload_n 0, 1) := by decide +kernel
theorem dX8_roll_27 : decode cX8_roll 27 = .ok (.getfield 20, 3) := by decide +kernel
theorem dX8_roll_30 : decode cX8_roll 30 = .ok (.iconst 0, 1) := by decide +kernel
theorem dX8_roll_31 : decode cX8_roll 31 = .ok (.invokevirtual 108, 3) := by decide +kernel
theorem dX8_roll_34 : decode cX8_roll 34 = .ok (.goto 11, 3) := by decide +kernel
theorem dX8_roll_37 : decode cX8_roll 37 = .ok (.aload_n 0, 1) := by decide +kernel
theorem dX8_roll_38 : decode cX8_roll 38 = .ok (.getfield 20, 3) := by decide +kernel
theorem dX8_roll_41 : decode cX8_roll 41 = .ok (.iconst 0, 1) := by decide +kernel
theorem dX8_roll_42 : decode cX8_roll 42 = .ok (.invokevirtual 112, 3) := by decide +kernel
theorem dX8_roll_45 : decode cX8_roll 45 = .ok (.ireturn, 1) := by decide +kernel
theorem dX8_begins_0 : decode cX8_begins 0 = .ok (.iload_n 1, 1) := by decide +kernel
theorem dX8_begins_1 : decode cX8_begins 1 = .ok (.ifCond .lt 19, 3) := by decide +kernel
theorem dX8_begins_4 : decode cX8_begins 4 = .ok (.iload_n 1, 1) := by decide +kernel
theorem dX8_begins_5 : decode cX8_begins 5 = .ok (.bipush 6, 2) := by decide +kernel
theorem dX8_begins_7 : decode cX8_begins 7 = .ok (.if_icmp .ge 13, 3) := by decide +kernel
theorem dX8_begins_10 : decode cX8_begins 10 = .ok (.iload_n 2, 1) := by decide +kernel
theorem dX8_begins_11 : decode cX8_begins 11 = .ok (.ifCond .lt 9, 3) := by decide +kernel
theorem dX8_begins_14 : decode cX8_begins 14 = .ok (.iload_n 2, 1) := by decide +kernel
theorem dX8_begins_15 : decode cX8_begins 15 = .ok (.bipush 98, 2) := by decide +kernel
theorem dX8_begins_17 : decode cX8_begins 17 = .ok (.if_icmp .le 6, 3) := by decide +kernel
theorem dX8_begins_20 : decode cX8_begins 20 = .ok (.bipush (-2), 2) := by decide +kernel
theorem dX8_begins_22 : decode cX8_begins 22 = .ok (.ireturn, 1) := by decide +kernel
theorem dX8_begins_23 : decode cX8_begins 23 = .ok (.aload_n 0, 1) := by decide +kernel
theorem dX8_begins_24 : decode cX8_begins 24 = .ok (.getfield 28, 3) := by decide +kernel
theorem dX8_begins_27 : decode cX8_begins 27 = .ok (.iload_n 1, 1) := by decide +kernel
theorem dX8_begins_28 : decode cX8_begins 28 = .ok (.invokevirtual 118, 3) := by decide +kernel
theorem dX8_begins_31 : decode cX8_begins 31 = .ok (.istore_n 3, 1) := by decide +kernel
theorem dX8_begins_32 : decode cX8_begins 32 = .ok (.aload_n 0, 1) := by decide +kernel
theorem dX8_begins_33 : decode cX8_begins 33 = .ok (.getfield 28, 3) := by decide +kernel
theorem dX8_begins_36 : decode cX8_begins 36 = .ok (.iload_n 1, 1) := by decide +kernel
theorem dX8_begins_37 : decode cX8_begins 37 = .ok (.iload_n 2, 1) := by decide +kernel
theorem dX8_begins_38 : decode cX8_begins 38 = .ok (.invokevirtual 121, 3) := by decide +kernel
theorem dX8_begins_41 : decode cX8_begins 41 = .ok (.iload_n 3, 1) := by decide +kernel
theorem dX8_begins_42 : decode cX8_begins 42 = .ok (.ireturn, 1) := by decide +kernel
theorem dX8_lee_0 : decode cX8_lee 0 = .ok (.iload_n 1, 1) := by decide +kernel
theorem dX8_lee_1 : decode cX8_lee 1 = .ok (.invokestatic 105, 3) := by decide +kernel
theorem dX8_lee_4 : decode cX8_lee 4 = .ok (.ifCond .eq 10, 3) := by decide +kernel
theorem dX8_lee_7 : decode cX8_lee 7 = .ok (.iload_n 2, 1) := by decide +kernel
theorem dX8_lee_8 : decode cX8_lee 8 = .ok (.invokestatic 124, 3) := by decide +kernel
theorem dX8_lee_11 : decode cX8_lee 11 = .ok (.ifCond .ne 6, 3) := by decide +kernel
theorem dX8_lee_14 : decode cX8_lee 14 = .ok (.bipush (-2), 2) := by decide +kernel
theorem dX8_lee_16 : decode cX8_lee 16 = .ok (.ireturn, 1) := by decide +kernel
theorem dX8_lee_17 : decode cX8_lee 17 = .ok (.iload_n 1, 1) := by decide +kernel
theorem dX8_lee_18 : decode cX8_lee 18 = .ok (.ifCond .ne 13, 3) := by decide +kernel
theorem dX8_lee_21 : decode cX8_lee 21 = .ok (.aload_n 0, 1) := by decide +kernel
theorem dX8_lee_22 : decode cX8_lee 22 = .ok (.getfield 28, 3) := by decide +kernel
theorem dX8_lee_25 : decode cX8_lee 25 = .ok (.getfield 127, 3) := by decide +kernel
theorem dX8_lee_28 : decode cX8_lee 28 = .ok (.goto 10, 3) := by decide +kernel
theorem dX8_lee_31 : decode cX8_lee 31 = .ok (.aload_n 0, 1) := by decide +kernel
theorem dX8_lee_32 : decode cX8_lee 32 = .ok (.getfield 28, 3) := by decide +kernel
theorem dX8_lee_35 : decode cX8_lee 35 = .ok (.getfield 130, 3) := by decide +kernel
theorem dX8_lee_38 : decode cX8_lee 38 = .ok (.istore_n 3, 1) := by decide +kernel
theorem dX8_lee_39 : decode cX8_lee 39 = .ok (.iload_n 1, 1) := by decide +kernel
theorem dX8_lee_40 : decode cX8_lee 40 = .ok (.ifCond .ne 21, 3) := by decide +kernel
theorem dX8_lee_43 : decode cX8_lee 43 = .ok (.aload_n 0, 1) := by decide +kernel
theorem dX8_lee_44 : decode cX8_lee 44 = .ok (.getfield 28, 3) := by decide +kernel
theorem dX8_lee_47 : decode cX8_lee 47 = .ok (.iload_n 2, 1) := by decide +kernel
theorem dX8_lee_48 : decode cX8_lee 48 = .ok (.aload_n 0, 1) := by decide +kernel
theorem dX8_lee_49 : decode cX8_lee 49 = .ok (.getfield 28, 3) := by decide +kernel
theorem dX8_lee_52 : decode cX8_lee 52 = .ok (.getfield 130, 3) := by decide +kernel
theorem dX8_lee_55 : decode cX8_lee 55 = .ok (.invokevirtual 133, 3) := by decide +kernel
theorem dX8_lee_58 : decode cX8_lee 58 = .ok (.goto 18, 3) := by decide +kernel
theorem dX8_lee_61 : decode cX8_lee 61 = .ok (.aload_n 0, 1) := by decide +kernel
theorem dX8_lee_62 : decode cX8_lee 62 = .ok (.getfield 28, 3) := by decide +kernel
theorem dX8_lee_65 : decode cX8_lee 65 = .ok (.aload_n 0, 1) := by decide +kernel
theorem dX8_lee_66 : decode cX8_lee 66 = .ok (.getfield 28, 3) := by decide +kernel
theorem dX8_lee_69 : decode cX8_lee 69 = .ok (.getfield 127, 3) := by decide +kernel
theorem dX8_lee_72 : decode cX8_lee 72 = .ok (.iload_n 2, 1) := by decide +kernel
theorem dX8_lee_73 : decode cX8_lee 73 = .ok (.invokevirtual 133, 3) := by decide +kernel
theorem dX8_lee_76 : decode cX8_lee 76 = .ok (.iload_n 3, 1) := by decide +kernel
theorem dX8_lee_77 : decode cX8_lee 77 = .ok (.ireturn, 1) := by decide +kernel
theorem dX8_set_0 : decode cX8_set 0 = .ok (.aload_n 0, 1) := by decide +kernel
theorem dX8_set_1 : decode cX8_set 1 = .ok (.getfield 42, 3) := by decide +kernel
theorem dX8_set_4 : decode cX8_set 4 = .ok (.iload_n 1, 1) := by decide +kernel
theorem dX8_set_5 : decode cX8_set 5 = .ok (.iload_n 2, 1) := by decide +kernel
theorem dX8_set_6 : decode cX8_set 6 = .ok (.invokevirtual 136, 3) := by decide +kernel
theorem dX8_set_9 : decode cX8_set 9 = .ok (.ifCond .ne 6, 3) := by decide +kernel
theorem dX8_set_12 : decode cX8_set 12 = .ok (.bipush (-2), 2) := by decide +kernel
theorem dX8_set_14 : decode cX8_set 14 = .ok (.ireturn, 1) := by decide +kernel
theorem dX8_set_15 : decode cX8_set 15 = .ok (.aload_n 0, 1) := by decide +kernel
theorem dX8_set_16 : decode cX8_set 16 = .ok (.getfield 42, 3) := by decide +kernel
theorem dX8_set_19 : decode cX8_set 19 = .ok (.iload_n 1, 1) := by decide +kernel
theorem dX8_set_20 : decode cX8_set 20 = .ok (.invokevirtual 140, 3) := by decide +kernel
theorem dX8_set_23 : decode cX8_set 23 = .ok (.istore_n 3, 1) := by decide +kernel
theorem dX8_set_24 : decode cX8_set 24 = .ok (.aload_n 0, 1) := by decide +kernel
theorem dX8_set_25 : decode cX8_set 25 = .ok (.getfield 42, 3) := by decide +kernel
theorem dX8_set_28 : decode cX8_set 28 = .ok (.iload_n 1, 1) := by decide +kernel
theorem dX8_set_29 : decode cX8_set 29 = .ok (.iload_n 2, 1) := by decide +kernel
theorem dX8_set_30 : decode cX8_set 30 = .ok (.invokevirtual 143, 3) := by decide +kernel
theorem dX8_set_33 : decode cX8_set 33 = .ok (.iload_n 3, 1) := by decide +kernel
theorem dX8_set_34 : decode cX8_set 34 = .ok (.ireturn, 1) := by decide +kernel
theorem dX8_high_0 : decode cX8_high 0 = .ok (.iload_n 1, 1) := by decide +kernel
theorem dX8_high_1 : decode cX8_high 1 = .ok (.invokestatic 124, 3) := by decide +kernel
theorem dX8_high_4 : decode cX8_high 4 = .ok (.ifCond .eq 14, 3) := by decide +kernel
theorem dX8_high_7 : decode cX8_high 7 = .ok (.aload_n 0, 1) := by decide +kernel
theorem dX8_high_8 : decode cX8_high 8 = .ok (.getfield 28, 3) := by decide +kernel
theorem dX8_high_11 : decode cX8_high 11 = .ok (.iload_n 1, 1) := by decide +kernel
theorem dX8_high_12 : decode cX8_high 12 = .ok (.invokevirtual 146, 3) := by decide +kernel
theorem dX8_high_15 : decode cX8_high 15 = .ok (.goto 5, 3) := by decide +kernel
theorem dX8_high_18 : decode cX8_high 18 = .ok (.bipush (-2), 2) := by decide +kernel
theorem dX8_high_20 : decode cX8_high 20 = .ok (.ireturn, 1) := by decide +kernel
theorem dX8_does_0 : decode cX8_does 0 = .ok (.iload_n 1, 1) := by decide +kernel
theorem dX8_does_1 : decode cX8_does 1 = .ok (.invokestatic 124, 3) := by decide +kernel
theorem dX8_does_4 : decode cX8_does 4 = .ok (.ifCond .eq 14, 3) := by decide +kernel
theorem dX8_does_7 : decode cX8_does 7 = .ok (.aload_n 0, 1) := by decide +kernel
theorem dX8_does_8 : decode cX8_does 8 = .ok (.getfield 28, 3) := by decide +kernel
theorem dX8_does_11 : decode cX8_does 11 = .ok (.iload_n 1, 1) := by decide +kernel
theorem dX8_does_12 : decode cX8_does 12 = .ok (.invokevirtual 149, 3) := by decide +kernel
theorem dX8_does_15 : decode cX8_does 15 = .ok (.goto 5, 3) := by decide +kernel
theorem dX8_does_18 : decode cX8_does 18 = .ok (.bipush (-2), 2) := by decide +kernel
theorem dX8_does_20 : decode cX8_does 20 = .ok (.ireturn, 1) := by decide +kernel
theorem dX8_leans_0 : decode cX8_leans 0 = .ok (.iload_n 1, 1) := by decide +kernel
theorem dX8_leans_1 : decode cX8_leans 1 = .ok (.invokestatic 124, 3) := by decide +kernel
theorem dX8_leans_4 : decode cX8_leans 4 = .ok (.ifCond .eq 14, 3) := by decide +kernel
theorem dX8_leans_7 : decode cX8_leans 7 = .ok (.aload_n 0, 1) := by decide +kernel
theorem dX8_leans_8 : decode cX8_leans 8 = .ok (.getfield 35, 3) := by decide +kernel
theorem dX8_leans_11 : decode cX8_leans 11 = .ok (.iload_n 1, 1) := by decide +kernel
theorem dX8_leans_12 : decode cX8_leans 12 = .ok (.invokevirtual 152, 3) := by decide +kernel
theorem dX8_leans_15 : decode cX8_leans 15 = .ok (.goto 5, 3) := by decide +kernel
theorem dX8_leans_18 : decode cX8_leans 18 = .ok (.bipush (-2), 2) := by decide +kernel
theorem dX8_leans_20 : decode cX8_leans 20 = .ok (.ireturn, 1) := by decide +kernel
theorem dX8_crest_0 : decode cX8_crest 0 = .ok (.iload_n 1, 1) := by decide +kernel
theorem dX8_crest_1 : decode cX8_crest 1 = .ok (.invokestatic 124, 3) := by decide +kernel
theorem dX8_crest_4 : decode cX8_crest 4 = .ok (.ifCond .eq 14, 3) := by decide +kernel
theorem dX8_crest_7 : decode cX8_crest 7 = .ok (.iload_n 2, 1) := by decide +kernel
theorem dX8_crest_8 : decode cX8_crest 8 = .ok (.iconst 1, 1) := by decide +kernel
theorem dX8_crest_9 : decode cX8_crest 9 = .ok (.if_icmp .lt 9, 3) := by decide +kernel
theorem dX8_crest_12 : decode cX8_crest 12 = .ok (.iload_n 2, 1) := by decide +kernel
theorem dX8_crest_13 : decode cX8_crest 13 = .ok (.bipush 99, 2) := by decide +kernel
theorem dX8_crest_15 : decode cX8_crest 15 = .ok (.if_icmp .le 6, 3) := by decide +kernel
theorem dX8_crest_18 : decode cX8_crest 18 = .ok (.bipush (-2), 2) := by decide +kernel
theorem dX8_crest_20 : decode cX8_crest 20 = .ok (.ireturn, 1) := by decide +kernel
theorem dX8_crest_21 : decode cX8_crest 21 = .ok (.aload_n 0, 1) := by decide +kernel
theorem dX8_crest_22 : decode cX8_crest 22 = .ok (.getfield 28, 3) := by decide +kernel
theorem dX8_crest_25 : decode cX8_crest 25 = .ok (.iload_n 1, 1) := by decide +kernel
theorem dX8_crest_26 : decode cX8_crest 26 = .ok (.iload_n 2, 1) := by decide +kernel
theorem dX8_crest_27 : decode cX8_crest 27 = .ok (.invokevirtual 155, 3) := by decide +kernel
theorem dX8_crest_30 : decode cX8_crest 30 = .ok (.ireturn, 1) := by decide +kernel
theorem dX8_seventh_0 : decode cX8_seventh 0 = .ok (.iload_n 1, 1) := by decide +kernel
theorem dX8_seventh_1 : decode cX8_seventh 1 = .ok (.invokestatic 124, 3) := by decide +kernel
theorem dX8_seventh_4 : decode cX8_seventh 4 = .ok (.ifCond .eq 14, 3) := by decide +kernel
theorem dX8_seventh_7 : decode cX8_seventh 7 = .ok (.aload_n 0, 1) := by decide +kernel
theorem dX8_seventh_8 : decode cX8_seventh 8 = .ok (.getfield 28, 3) := by decide +kernel
theorem dX8_seventh_11 : decode cX8_seventh 11 = .ok (.iload_n 1, 1) := by decide +kernel
theorem dX8_seventh_12 : decode cX8_seventh 12 = .ok (.invokevirtual 159, 3) := by decide +kernel
theorem dX8_seventh_15 : decode cX8_seventh 15 = .ok (.goto 5, 3) := by decide +kernel
theorem dX8_seventh_18 : decode cX8_seventh 18 = .ok (.bipush (-2), 2) := by decide +kernel
theorem dX8_seventh_20 : decode cX8_seventh 20 = .ok (.ireturn, 1) := by decide +kernel
theorem dX8_lull_0 : decode cX8_lull 0 = .ok (.iload_n 1, 1) := by decide +kernel
theorem dX8_lull_1 : decode cX8_lull 1 = .ok (.invokestatic 124, 3) := by decide +kernel
theorem dX8_lull_4 : decode cX8_lull 4 = .ok (.ifCond .eq 17, 3) := by decide +kernel
theorem dX8_lull_7 : decode cX8_lull 7 = .ok (.iload_n 2, 1) := by decide +kernel
theorem dX8_lull_8 : decode cX8_lull 8 = .ok (.invokestatic 162, 3) := by decide +kernel
theorem dX8_lull_11 : decode cX8_lull 11 = .ok (.ifCond .eq 10, 3) := by decide +kernel
theorem dX8_lull_14 : decode cX8_lull 14 = .ok (.iload_n 3, 1) := by decide +kernel
theorem dX8_lull_15 : decode cX8_lull 15 = .ok (.invokestatic 105, 3) := by decide +kernel
theorem dX8_lull_18 : decode cX8_lull 18 = .ok (.ifCond .ne 6, 3) := by decide +kernel
theorem dX8_lull_21 : decode cX8_lull 21 = .ok (.bipush (-2), 2) := by decide +kernel
theorem dX8_lull_23 : decode cX8_lull 23 = .ok (.ireturn, 1) := by decide +kernel
theorem dX8_lull_24 : decode cX8_lull 24 = .ok (.aload_n 0, 1) := by decide +kernel
theorem dX8_lull_25 : decode cX8_lull 25 = .ok (.getfield 28, 3) := by decide +kernel
theorem dX8_lull_28 : decode cX8_lull 28 = .ok (.iload_n 1, 1) := by decide +kernel
theorem dX8_lull_29 : decode cX8_lull 29 = .ok (.iload_n 2, 1) := by decide +kernel
theorem dX8_lull_30 : decode cX8_lull 30 = .ok (.invokevirtual 165, 3) := by decide +kernel
theorem dX8_lull_33 : decode cX8_lull 33 = .ok (.istore 4, 2) := by decide +kernel
theorem dX8_lull_35 : decode cX8_lull 35 = .ok (.iload 4, 2) := by decide +kernel
theorem dX8_lull_37 : decode cX8_lull 37 = .ok (.iconst (-1), 1) := by decide +kernel
theorem dX8_lull_38 : decode cX8_lull 38 = .ok (.if_icmp .eq 7, 3) := by decide +kernel
theorem dX8_lull_41 : decode cX8_lull 41 = .ok (.iload_n 3, 1) := by decide +kernel
theorem dX8_lull_42 : decode cX8_lull 42 = .ok (.ifCond .ne 6, 3) := by decide +kernel
theorem dX8_lull_45 : decode cX8_lull 45 = .ok (.iload 4, 2) := by decide +kernel
theorem dX8_lull_47 : decode cX8_lull 47 = .ok (.ireturn, 1) := by decide +kernel
theorem dX8_lull_48 : decode cX8_lull 48 = .ok (.aload_n 0, 1) := by decide +kernel
theorem dX8_lull_49 : decode cX8_lull 49 = .ok (.getfield 28, 3) := by decide +kernel
theorem dX8_lull_52 : decode cX8_lull 52 = .ok (.iload 4, 2) := by decide +kernel
theorem dX8_lull_54 : decode cX8_lull 54 = .ok (.iload_n 2, 1) := by decide +kernel
theorem dX8_lull_55 : decode cX8_lull 55 = .ok (.ldc 168, 2) := by decide +kernel
theorem dX8_lull_57 : decode cX8_lull 57 = .ok (.invokevirtual 169, 3) := by decide +kernel
theorem dX8_lull_60 : decode cX8_lull 60 = .ok (.ireturn, 1) := by decide +kernel
theorem dX8_step_0 : decode cX8_step 0 = .ok (.iload_n 1, 1) := by decide +kernel
theorem dX8_step_1 : decode cX8_step 1 = .ok (.invokestatic 124, 3) := by decide +kernel
theorem dX8_step_4 : decode cX8_step 4 = .ok (.ifCond .eq 11, 3) := by decide +kernel
theorem dX8_step_7 : decode cX8_step 7 = .ok (.aload_n 0, 1) := by decide +kernel
theorem dX8_step_8 : decode cX8_step 8 = .ok (.iload_n 1, 1) := by decide +kernel
theorem dX8_step_9 : decode cX8_step 9 = .ok (.invokevirtual 173, 3) := by decide +kernel
theorem dX8_step_12 : decode cX8_step 12 = .ok (.goto 5, 3) := by decide +kernel
theorem dX8_step_15 : decode cX8_step 15 = .ok (.bipush (-2), 2) := by decide +kernel
theorem dX8_step_17 : decode cX8_step 17 = .ok (.ireturn, 1) := by decide +kernel
theorem dX8_fall_0 : decode cX8_fall 0 = .ok (.iload_n 1, 1) := by decide +kernel
theorem dX8_fall_1 : decode cX8_fall 1 = .ok (.invokestatic 124, 3) := by decide +kernel
theorem dX8_fall_4 : decode cX8_fall 4 = .ok (.ifCond .eq 11, 3) := by decide +kernel
theorem dX8_fall_7 : decode cX8_fall 7 = .ok (.aload_n 0, 1) := by decide +kernel
theorem dX8_fall_8 : decode cX8_fall 8 = .ok (.iload_n 1, 1) := by decide +kernel
theorem dX8_fall_9 : decode cX8_fall 9 = .ok (.invokevirtual 176, 3) := by decide +kernel
theorem dX8_fall_12 : decode cX8_fall 12 = .ok (.goto 5, 3) := by decide +kernel
theorem dX8_fall_15 : decode cX8_fall 15 = .ok (.bipush (-2), 2) := by decide +kernel
theorem dX8_fall_17 : decode cX8_fall 17 = .ok (.ireturn, 1) := by decide +kernel
theorem dX8_climb_0 : decode cX8_climb 0 = .ok (.iload_n 1, 1) := by decide +kernel
theorem dX8_climb_1 : decode cX8_climb 1 = .ok (.invokestatic 124, 3) := by decide +kernel
theorem dX8_climb_4 : decode cX8_climb 4 = .ok (.ifCond .ne 6, 3) := by decide +kernel
theorem dX8_climb_7 : decode cX8_climb 7 = .ok (.bipush (-2), 2) := by decide +kernel
theorem dX8_climb_9 : decode cX8_climb 9 = .ok (.ireturn, 1) := by decide +kernel
theorem dX8_climb_10 : decode cX8_climb 10 = .ok (.aload_n 0, 1) := by decide +kernel
theorem dX8_climb_11 : decode cX8_climb 11 = .ok (.getfield 51, 3) := by decide +kernel
theorem dX8_climb_14 : decode cX8_climb 14 = .ok (.iload_n 1, 1) := by decide +kernel
theorem dX8_climb_15 : decode cX8_climb 15 = .ok (.invokevirtual 179, 3) := by decide +kernel
theorem dX8_climb_18 : decode cX8_climb 18 = .ok (.aload_n 0, 1) := by decide +kernel
theorem dX8_climb_19 : decode cX8_climb 19 = .ok (.getfield 51, 3) := by decide +kernel
theorem dX8_climb_22 : decode cX8_climb 22 = .ok (.getfield 182, 3) := by decide +kernel
theorem dX8_climb_25 : decode cX8_climb 25 = .ok (.ireturn, 1) := by decide +kernel
theorem dX8_bangs_0 : decode cX8_bangs 0 = .ok (.iload_n 1, 1) := by decide +kernel
theorem dX8_bangs_1 : decode cX8_bangs 1 = .ok (.invokestatic 124, 3) := by decide +kernel
theorem dX8_bangs_4 : decode cX8_bangs 4 = .ok (.ifCond .ne 6, 3) := by decide +kernel
theorem dX8_bangs_7 : decode cX8_bangs 7 = .ok (.bipush (-2), 2) := by decide +kernel
theorem dX8_bangs_9 : decode cX8_bangs 9 = .ok (.ireturn, 1) := by decide +kernel
theorem dX8_bangs_10 : decode cX8_bangs 10 = .ok (.aload_n 0, 1) := by decide +kernel
theorem dX8_bangs_11 : decode cX8_bangs 11 = .ok (.getfield 51, 3) := by decide +kernel
theorem dX8_bangs_14 : decode cX8_bangs 14 = .ok (.iload_n 1, 1) := by decide +kernel
theorem dX8_bangs_15 : decode cX8_bangs 15 = .ok (.invokevirtual 179, 3) := by decide +kernel
theorem dX8_bangs_18 : decode cX8_bangs 18 = .ok (.aload_n 0, 1) := by decide +kernel
theorem dX8_bangs_19 : decode cX8_bangs 19 = .ok (.getfield 51, 3) := by decide +kernel
theorem dX8_bangs_22 : decode cX8_bangs 22 = .ok (.getfield 185, 3) := by decide +kernel
theorem dX8_bangs_25 : decode cX8_bangs 25 = .ok (.ireturn, 1) := by decide +kernel
theorem dX8_safe_0 : decode cX8_safe 0 = .ok (.iload_n 1, 1) := by decide +kernel
theorem dX8_safe_1 : decode cX8_safe 1 = .ok (.invokestatic 124, 3) := by decide +kernel
theorem dX8_safe_4 : decode cX8_safe 4 = .ok (.ifCond .eq 10, 3) := by decide +kernel
theorem dX8_safe_7 : decode cX8_safe 7 = .ok (.iload_n 2, 1) := by decide +kernel
theorem dX8_safe_8 : decode cX8_safe 8 = .ok (.invokestatic 105, 3) := by decide +kernel
theorem dX8_safe_11 : decode cX8_safe 11 = .ok (.ifCond .ne 7, 3) := by decide +kernel
theorem dX8_safe_14 : decode cX8_safe 14 = .ok (.ldc2_w 190, 3) := by decide +kernel
theorem dX8_safe_17 : decode cX8_safe 17 = .ok (.lreturn, 1) := by decide +kernel
theorem dX8_safe_18 : decode cX8_safe 18 = .ok (.aload_n 0, 1) := by decide +kernel
theorem dX8_safe_19 : decode cX8_safe 19 = .ok (.iload_n 1, 1) := by decide +kernel
theorem dX8_safe_20 : decode cX8_safe 20 = .ok (.invokevirtual 192, 3) := by decide +kernel
theorem dX8_safe_23 : decode cX8_safe 23 = .ok (.lstore_n 3, 1) := by decide +kernel
theorem dX8_safe_24 : decode cX8_safe 24 = .ok (.ldc2_w 196, 3) := by decide +kernel
theorem dX8_safe_27 : decode cX8_safe 27 = .ok (.lstore 5, 2) := by decide +kernel
theorem dX8_safe_29 : decode cX8_safe 29 = .ok (.iconst 0, 1) := by decide +kernel
theorem dX8_safe_30 : decode cX8_safe 30 = .ok (.istore 7, 2) := by decide +kernel
theorem dX8_safe_32 : decode cX8_safe 32 = .ok (.iload 7, 2) := by decide +kernel
theorem dX8_safe_34 : decode cX8_safe 34 = .ok (.bipush 52, 2) := by decide +kernel
theorem dX8_safe_36 : decode cX8_safe 36 = .ok (.if_icmp .ge 33, 3) := by decide +kernel
theorem dX8_safe_39 : decode cX8_safe 39 = .ok (.lload_n 3, 1) := by decide +kernel
theorem dX8_safe_40 : decode cX8_safe 40 = .ok (.ldc2_w 198, 3) := by decide +kernel
theorem dX8_safe_43 : decode cX8_safe 43 = .ok (.lrem, 1) := by decide +kernel
theorem dX8_safe_44 : decode cX8_safe 44 = .ok (.lconst 0, 1) := by decide +kernel
theorem dX8_safe_45 : decode cX8_safe 45 = .ok (.lcmp, 1) := by decide +kernel
theorem dX8_safe_46 : decode cX8_safe 46 = .ok (.ifCond .ne 23, 3) := by decide +kernel
theorem dX8_safe_49 : decode cX8_safe 49 = .ok (.lload_n 3, 1) := by decide +kernel
theorem dX8_safe_50 : decode cX8_safe 50 = .ok (.ldc2_w 198, 3) := by decide +kernel
theorem dX8_safe_53 : decode cX8_safe 53 = .ok (.ldiv, 1) := by decide +kernel
theorem dX8_safe_54 : decode cX8_safe 54 = .ok (.lstore_n 3, 1) := by decide +kernel
theorem dX8_safe_55 : decode cX8_safe 55 = .ok (.lload 5, 2) := by decide +kernel
theorem dX8_safe_57 : decode cX8_safe 57 = .ok (.ldc2_w 198, 3) := by decide +kernel
theorem dX8_safe_60 : decode cX8_safe 60 = .ok (.ldiv, 1) := by decide +kernel
theorem dX8_safe_61 : decode cX8_safe 61 = .ok (.lstore 5, 2) := by decide +kernel
theorem dX8_safe_63 : decode cX8_safe 63 = .ok (.iinc 7 1, 3) := by decide +kernel
theorem dX8_safe_66 : decode cX8_safe 66 = .ok (.goto (-34), 3) := by decide +kernel
theorem dX8_safe_69 : decode cX8_safe 69 = .ok (.iload_n 2, 1) := by decide +kernel
theorem dX8_safe_70 : decode cX8_safe 70 = .ok (.ifCond .ne 7, 3) := by decide +kernel
theorem dX8_safe_73 : decode cX8_safe 73 = .ok (.lload_n 3, 1) := by decide +kernel
theorem dX8_safe_74 : decode cX8_safe 74 = .ok (.goto 5, 3) := by decide +kernel
theorem dX8_safe_77 : decode cX8_safe 77 = .ok (.lload 5, 2) := by decide +kernel
theorem dX8_safe_79 : decode cX8_safe 79 = .ok (.lreturn, 1) := by decide +kernel
theorem dX8_best_0 : decode cX8_best 0 = .ok (.iload_n 1, 1) := by decide +kernel
theorem dX8_best_1 : decode cX8_best 1 = .ok (.invokestatic 124, 3) := by decide +kernel
theorem dX8_best_4 : decode cX8_best 4 = .ok (.ifCond .eq 10, 3) := by decide +kernel
theorem dX8_best_7 : decode cX8_best 7 = .ok (.iload_n 2, 1) := by decide +kernel
theorem dX8_best_8 : decode cX8_best 8 = .ok (.invokestatic 162, 3) := by decide +kernel
theorem dX8_best_11 : decode cX8_best 11 = .ok (.ifCond .ne 6, 3) := by decide +kernel
theorem dX8_best_14 : decode cX8_best 14 = .ok (.bipush (-2), 2) := by decide +kernel
theorem dX8_best_16 : decode cX8_best 16 = .ok (.ireturn, 1) := by decide +kernel
theorem dX8_best_17 : decode cX8_best 17 = .ok (.iload_n 1, 1) := by decide +kernel
theorem dX8_best_18 : decode cX8_best 18 = .ok (.istore_n 3, 1) := by decide +kernel
theorem dX8_best_19 : decode cX8_best 19 = .ok (.aload_n 0, 1) := by decide +kernel
theorem dX8_best_20 : decode cX8_best 20 = .ok (.iload_n 1, 1) := by decide +kernel
theorem dX8_best_21 : decode cX8_best 21 = .ok (.invokevirtual 192, 3) := by decide +kernel
theorem dX8_best_24 : decode cX8_best 24 = .ok (.lstore 4, 2) := by decide +kernel
theorem dX8_best_26 : decode cX8_best 26 = .ok (.iload_n 1, 1) := by decide +kernel
theorem dX8_best_27 : decode cX8_best 27 = .ok (.iload_n 2, 1) := by decide +kernel
theorem dX8_best_28 : decode cX8_best 28 = .ok (.invokestatic 200, 3) := by decide +kernel
theorem dX8_best_31 : decode cX8_best 31 = .ok (.istore 6, 2) := by decide +kernel
theorem dX8_best_33 : decode cX8_best 33 = .ok (.iload_n 1, 1) := by decide +kernel
theorem dX8_best_34 : decode cX8_best 34 = .ok (.iconst 1, 1) := by decide +kernel
theorem dX8_best_35 : decode cX8_best 35 = .ok (.iadd, 1) := by decide +kernel
theorem dX8_best_36 : decode cX8_best 36 = .ok (.istore 7, 2) := by decide +kernel
theorem dX8_best_38 : decode cX8_best 38 = .ok (.iload 7, 2) := by decide +kernel
theorem dX8_best_40 : decode cX8_best 40 = .ok (.iload 6, 2) := by decide +kernel
theorem dX8_best_42 : decode cX8_best 42 = .ok (.if_icmp .ge 32, 3) := by decide +kernel
theorem dX8_best_45 : decode cX8_best 45 = .ok (.aload_n 0, 1) := by decide +kernel
theorem dX8_best_46 : decode cX8_best 46 = .ok (.iload 7, 2) := by decide +kernel
theorem dX8_best_48 : decode cX8_best 48 = .ok (.invokevirtual 192, 3) := by decide +kernel
theorem dX8_best_51 : decode cX8_best 51 = .ok (.lstore 8, 2) := by decide +kernel
theorem dX8_best_53 : decode cX8_best 53 = .ok (.lload 8, 2) := by decide +kernel
theorem dX8_best_55 : decode cX8_best 55 = .ok (.lload 4, 2) := by decide +kernel
theorem dX8_best_57 : decode cX8_best 57 = .ok (.lcmp, 1) := by decide +kernel
theorem dX8_best_58 : decode cX8_best 58 = .ok (.ifCond .le 10, 3) := by decide +kernel
theorem dX8_best_61 : decode cX8_best 61 = .ok (.iload 7, 2) := by decide +kernel
theorem dX8_best_63 : decode cX8_best 63 = .ok (.istore_n 3, 1) := by decide +kernel
theorem dX8_best_64 : decode cX8_best 64 = .ok (.lload 8, 2) := by decide +kernel
theorem dX8_best_66 : decode cX8_best 66 = .ok (.lstore 4, 2) := by decide +kernel
theorem dX8_best_68 : decode cX8_best 68 = .ok (.iinc 7 1, 3) := by decide +kernel
theorem dX8_best_71 : decode cX8_best 71 = .ok (.goto (-33), 3) := by decide +kernel
theorem dX8_best_74 : decode cX8_best 74 = .ok (.iload_n 3, 1) := by decide +kernel
theorem dX8_best_75 : decode cX8_best 75 = .ok (.ireturn, 1) := by decide +kernel
theorem dX8_call_0 : decode cX8_call 0 = .ok (.aload_n 0, 1) := by decide +kernel
theorem dX8_call_1 : decode cX8_call 1 = .ok (.iload_n 1, 1) := by decide +kernel
theorem dX8_call_2 : decode cX8_call 2 = .ok (.iload_n 2, 1) := by decide +kernel
theorem dX8_call_3 : decode cX8_call 3 = .ok (.invokevirtual 203, 3) := by decide +kernel
theorem dX8_call_6 : decode cX8_call 6 = .ok (.istore_n 3, 1) := by decide +kernel
theorem dX8_call_7 : decode cX8_call 7 = .ok (.iload_n 3, 1) := by decide +kernel
theorem dX8_call_8 : decode cX8_call 8 = .ok (.ifCond .ge 5, 3) := by decide +kernel
theorem dX8_call_11 : decode cX8_call 11 = .ok (.iload_n 3, 1) := by decide +kernel
theorem dX8_call_12 : decode cX8_call 12 = .ok (.ireturn, 1) := by decide +kernel
theorem dX8_call_13 : decode cX8_call 13 = .ok (.iload_n 3, 1) := by decide +kernel
theorem dX8_call_14 : decode cX8_call 14 = .ok (.aload_n 0, 1) := by decide +kernel
theorem dX8_call_15 : decode cX8_call 15 = .ok (.getfield 42, 3) := by decide +kernel
theorem dX8_call_18 : decode cX8_call 18 = .ok (.bipush 11, 2) := by decide +kernel
theorem dX8_call_20 : decode cX8_call 20 = .ok (.invokevirtual 140, 3) := by decide +kernel
theorem dX8_call_23 : decode cX8_call 23 = .ok (.isub, 1) := by decide +kernel
theorem dX8_call_24 : decode cX8_call 24 = .ok (.istore 4, 2) := by decide +kernel
theorem dX8_call_26 : decode cX8_call 26 = .ok (.iload 4, 2) := by decide +kernel
theorem dX8_call_28 : decode cX8_call 28 = .ok (.ifCond .ge 7, 3) := by decide +kernel
theorem dX8_call_31 : decode cX8_call 31 = .ok (.iconst (-1), 1) := by decide +kernel
theorem dX8_call_32 : decode cX8_call 32 = .ok (.goto 5, 3) := by decide +kernel
theorem dX8_call_35 : decode cX8_call 35 = .ok (.iload 4, 2) := by decide +kernel
theorem dX8_call_37 : decode cX8_call 37 = .ok (.ireturn, 1) := by decide +kernel
theorem dX8_down_0 : decode cX8_down 0 = .ok (.iload_n 1, 1) := by decide +kernel
theorem dX8_down_1 : decode cX8_down 1 = .ok (.invokestatic 124, 3) := by decide +kernel
theorem dX8_down_4 : decode cX8_down 4 = .ok (.ifCond .eq 17, 3) := by decide +kernel
theorem dX8_down_7 : decode cX8_down 7 = .ok (.iload_n 2, 1) := by decide +kernel
theorem dX8_down_8 : decode cX8_down 8 = .ok (.invokestatic 162, 3) := by decide +kernel
theorem dX8_down_11 : decode cX8_down 11 = .ok (.ifCond .eq 10, 3) := by decide +kernel
theorem dX8_down_14 : decode cX8_down 14 = .ok (.iload_n 3, 1) := by decide +kernel
theorem dX8_down_15 : decode cX8_down 15 = .ok (.invokestatic 105, 3) := by decide +kernel
theorem dX8_down_18 : decode cX8_down 18 = .ok (.ifCond .ne 6, 3) := by decide +kernel
theorem dX8_down_21 : decode cX8_down 21 = .ok (.bipush (-2), 2) := by decide +kernel
theorem dX8_down_23 : decode cX8_down 23 = .ok (.ireturn, 1) := by decide +kernel
theorem dX8_down_24 : decode cX8_down 24 = .ok (.iload_n 1, 1) := by decide +kernel
theorem dX8_down_25 : decode cX8_down 25 = .ok (.istore 4, 2) := by decide +kernel
theorem dX8_down_27 : decode cX8_down 27 = .ok (.iload_n 1, 1) := by decide +kernel
theorem dX8_down_28 : decode cX8_down 28 = .ok (.iload_n 2, 1) := by decide +kernel
theorem dX8_down_29 : decode cX8_down 29 = .ok (.invokestatic 200, 3) := by decide +kernel
theorem dX8_down_32 : decode cX8_down 32 = .ok (.istore 5, 2) := by decide +kernel
theorem dX8_down_34 : decode cX8_down 34 = .ok (.iload_n 1, 1) := by decide +kernel
theorem dX8_down_35 : decode cX8_down 35 = .ok (.iconst 1, 1) := by decide +kernel
theorem dX8_down_36 : decode cX8_down 36 = .ok (.iadd, 1) := by decide +kernel
theorem dX8_down_37 : decode cX8_down 37 = .ok (.istore 6, 2) := by decide +kernel
theorem dX8_down_39 : decode cX8_down 39 = .ok (.iload 6, 2) := by decide +kernel
theorem dX8_down_41 : decode cX8_down 41 = .ok (.iload 5, 2) := by decide +kernel
theorem dX8_down_43 : decode cX8_down 43 = .ok (.if_icmp .ge 28, 3) := by decide +kernel
theorem dX8_down_46 : decode cX8_down 46 = .ok (.aload_n 0, 1) := by decide +kernel
theorem dX8_down_47 : decode cX8_down 47 = .ok (.iload 6, 2) := by decide +kernel
theorem dX8_down_49 : decode cX8_down 49 = .ok (.invokevirtual 206, 3) := by decide +kernel
theorem dX8_down_52 : decode cX8_down 52 = .ok (.aload_n 0, 1) := by decide +kernel
theorem dX8_down_53 : decode cX8_down 53 = .ok (.iload 4, 2) := by decide +kernel
theorem dX8_down_55 : decode cX8_down 55 = .ok (.invokevirtual 206, 3) := by decide +kernel
theorem dX8_down_58 : decode cX8_down 58 = .ok (.if_icmp .ge 7, 3) := by decide +kernel
theorem dX8_down_61 : decode cX8_down 61 = .ok (.iload 6, 2) := by decide +kernel
theorem dX8_down_63 : decode cX8_down 63 = .ok (.istore 4, 2) := by decide +kernel
theorem dX8_down_65 : decode cX8_down 65 = .ok (.iinc 6 1, 3) := by decide +kernel
theorem dX8_down_68 : decode cX8_down 68 = .ok (.goto (-29), 3) := by decide +kernel
theorem dX8_down_71 : decode cX8_down 71 = .ok (.iload_n 3, 1) := by decide +kernel
theorem dX8_down_72 : decode cX8_down 72 = .ok (.ifCond .ne 8, 3) := by decide +kernel
theorem dX8_down_75 : decode cX8_down 75 = .ok (.iload 4, 2) := by decide +kernel
theorem dX8_down_77 : decode cX8_down 77 = .ok (.goto 9, 3) := by decide +kernel
theorem dX8_down_80 : decode cX8_down 80 = .ok (.aload_n 0, 1) := by decide +kernel
theorem dX8_down_81 : decode cX8_down 81 = .ok (.iload 4, 2) := by decide +kernel
theorem dX8_down_83 : decode cX8_down 83 = .ok (.invokevirtual 206, 3) := by decide +kernel
theorem dX8_down_86 : decode cX8_down 86 = .ok (.ireturn, 1) := by decide +kernel
theorem dX8_saves_0 : decode cX8_saves 0 = .ok (.aload_n 0, 1) := by decide +kernel
theorem dX8_saves_1 : decode cX8_saves 1 = .ok (.getfield 28, 3) := by decide +kernel
theorem dX8_saves_4 : decode cX8_saves 4 = .ok (.invokevirtual 209, 3) := by decide +kernel
theorem dX8_saves_7 : decode cX8_saves 7 = .ok (.ireturn, 1) := by decide +kernel
theorem dX8_ladder_0 : decode cX8_ladder 0 = .ok (.iload_n 1, 1) := by decide +kernel
theorem dX8_ladder_1 : decode cX8_ladder 1 = .ok (.invokestatic 124, 3) := by decide +kernel
theorem dX8_ladder_4 : decode cX8_ladder 4 = .ok (.ifCond .eq 10, 3) := by decide +kernel
theorem dX8_ladder_7 : decode cX8_ladder 7 = .ok (.iload_n 2, 1) := by decide +kernel
theorem dX8_ladder_8 : decode cX8_ladder 8 = .ok (.invokestatic 162, 3) := by decide +kernel
theorem dX8_ladder_11 : decode cX8_ladder 11 = .ok (.ifCond .ne 6, 3) := by decide +kernel
theorem dX8_ladder_14 : decode cX8_ladder 14 = .ok (.bipush (-2), 2) := by decide +kernel
theorem dX8_ladder_16 : decode cX8_ladder 16 = .ok (.ireturn, 1) := by decide +kernel
theorem dX8_ladder_17 : decode cX8_ladder 17 = .ok (.iload_n 1, 1) := by decide +kernel
theorem dX8_ladder_18 : decode cX8_ladder 18 = .ok (.iload_n 2, 1) := by decide +kernel
theorem dX8_ladder_19 : decode cX8_ladder 19 = .ok (.invokestatic 200, 3) := by decide +kernel
theorem dX8_ladder_22 : decode cX8_ladder 22 = .ok (.istore_n 3, 1) := by decide +kernel
theorem dX8_ladder_23 : decode cX8_ladder 23 = .ok (.sipush 999, 3) := by decide +kernel
theorem dX8_ladder_26 : decode cX8_ladder 26 = .ok (.aload_n 0, 1) := by decide +kernel
theorem dX8_ladder_27 : decode cX8_ladder 27 = .ok (.getfield 28, 3) := by decide +kernel
theorem dX8_ladder_30 : decode cX8_ladder 30 = .ok (.iload_n 1, 1) := by decide +kernel
theorem dX8_ladder_31 : decode cX8_ladder 31 = .ok (.iload_n 3, 1) := by decide +kernel
theorem dX8_ladder_32 : decode cX8_ladder 32 = .ok (.invokevirtual 213, 3) := by decide +kernel
theorem dX8_ladder_35 : decode cX8_ladder 35 = .ok (.aload_n 0, 1) := by decide +kernel
theorem dX8_ladder_36 : decode cX8_ladder 36 = .ok (.getfield 42, 3) := by decide +kernel
theorem dX8_ladder_39 : decode cX8_ladder 39 = .ok (.iconst 3, 1) := by decide +kernel
theorem dX8_ladder_40 : decode cX8_ladder 40 = .ok (.invokevirtual 140, 3) := by decide +kernel
theorem dX8_ladder_43 : decode cX8_ladder 43 = .ok (.iadd, 1) := by decide +kernel
theorem dX8_ladder_44 : decode cX8_ladder 44 = .ok (.invokestatic 216, 3) := by decide +kernel
theorem dX8_ladder_47 : decode cX8_ladder 47 = .ok (.istore 4, 2) := by decide +kernel
theorem dX8_ladder_49 : decode cX8_ladder 49 = .ok (.aload_n 0, 1) := by decide +kernel
theorem dX8_ladder_50 : decode cX8_ladder 50 = .ok (.getfield 28, 3) := by decide +kernel
theorem dX8_ladder_53 : decode cX8_ladder 53 = .ok (.iload 4, 2) := by decide +kernel
theorem dX8_ladder_55 : decode cX8_ladder 55 = .ok (.iload_n 1, 1) := by decide +kernel
theorem dX8_ladder_56 : decode cX8_ladder 56 = .ok (.iload_n 3, 1) := by decide +kernel
theorem dX8_ladder_57 : decode cX8_ladder 57 = .ok (.invokevirtual 221, 3) := by decide +kernel
theorem dX8_ladder_60 : decode cX8_ladder 60 = .ok (.ireturn, 1) := by decide +kernel
theorem dX8_seen_0 : decode cX8_seen 0 = .ok (.iload_n 1, 1) := by decide +kernel
theorem dX8_seen_1 : decode cX8_seen 1 = .ok (.invokestatic 124, 3) := by decide +kernel
theorem dX8_seen_4 : decode cX8_seen 4 = .ok (.ifCond .eq 14, 3) := by decide +kernel
theorem dX8_seen_7 : decode cX8_seen 7 = .ok (.iload_n 2, 1) := by decide +kernel
theorem dX8_seen_8 : decode cX8_seen 8 = .ok (.ifCond .lt 10, 3) := by decide +kernel
theorem dX8_seen_11 : decode cX8_seen 11 = .ok (.iload_n 2, 1) := by decide +kernel
theorem dX8_seen_12 : decode cX8_seen 12 = .ok (.sipush 3000, 3) := by decide +kernel
theorem dX8_seen_15 : decode cX8_seen 15 = .ok (.if_icmp .le 6, 3) := by decide +kernel
theorem dX8_seen_18 : decode cX8_seen 18 = .ok (.bipush (-2), 2) := by decide +kernel
theorem dX8_seen_20 : decode cX8_seen 20 = .ok (.ireturn, 1) := by decide +kernel
theorem dX8_seen_21 : decode cX8_seen 21 = .ok (.aload_n 0, 1) := by decide +kernel
theorem dX8_seen_22 : decode cX8_seen 22 = .ok (.getfield 58, 3) := by decide +kernel
theorem dX8_seen_25 : decode cX8_seen 25 = .ok (.getfield 224, 3) := by decide +kernel
theorem dX8_seen_28 : decode cX8_seen 28 = .ok (.bipush 8, 2) := by decide +kernel
theorem dX8_seen_30 : decode cX8_seen 30 = .ok (.if_icmp .lt 6, 3) := by decide +kernel
theorem dX8_seen_33 : decode cX8_seen 33 = .ok (.bipush (-4), 2) := by decide +kernel
theorem dX8_seen_35 : decode cX8_seen 35 = .ok (.ireturn, 1) := by decide +kernel
theorem dX8_seen_36 : decode cX8_seen 36 = .ok (.aload_n 0, 1) := by decide +kernel
theorem dX8_seen_37 : decode cX8_seen 37 = .ok (.getfield 58, 3) := by decide +kernel
theorem dX8_seen_40 : decode cX8_seen 40 = .ok (.iload_n 1, 1) := by decide +kernel
theorem dX8_seen_41 : decode cX8_seen 41 = .ok (.iload_n 2, 1) := by decide +kernel
theorem dX8_seen_42 : decode cX8_seen 42 = .ok (.invokevirtual 225, 3) := by decide +kernel
theorem dX8_seen_45 : decode cX8_seen 45 = .ok (.aload_n 0, 1) := by decide +kernel
theorem dX8_seen_46 : decode cX8_seen 46 = .ok (.getfield 58, 3) := by decide +kernel
theorem dX8_seen_49 : decode cX8_seen 49 = .ok (.getfield 224, 3) := by decide +kernel
theorem dX8_seen_52 : decode cX8_seen 52 = .ok (.ireturn, 1) := by decide +kernel
theorem dX8_forget_0 : decode cX8_forget 0 = .ok (.aload_n 0, 1) := by decide +kernel
theorem dX8_forget_1 : decode cX8_forget 1 = .ok (.getfield 58, 3) := by decide +kernel
theorem dX8_forget_4 : decode cX8_forget 4 = .ok (.getfield 224, 3) := by decide +kernel
theorem dX8_forget_7 : decode cX8_forget 7 = .ok (.istore_n 1, 1) := by decide +kernel
theorem dX8_forget_8 : decode cX8_forget 8 = .ok (.aload_n 0, 1) := by decide +kernel
theorem dX8_forget_9 : decode cX8_forget 9 = .ok (.getfield 58, 3) := by decide +kernel
theorem dX8_forget_12 : decode cX8_forget 12 = .ok (.iconst 0, 1) := by decide +kernel
theorem dX8_forget_13 : decode cX8_forget 13 = .ok (.putfield 224, 3) := by decide +kernel
theorem dX8_forget_16 : decode cX8_forget 16 = .ok (.iload_n 1, 1) := by decide +kernel
theorem dX8_forget_17 : decode cX8_forget 17 = .ok (.ireturn, 1) := by decide +kernel
theorem dX8_read_0 : decode cX8_read 0 = .ok (.aload_n 0, 1) := by decide +kernel
theorem dX8_read_1 : decode cX8_read 1 = .ok (.iload_n 1, 1) := by decide +kernel
theorem dX8_read_2 : decode cX8_read 2 = .ok (.invokevirtual 227, 3) := by decide +kernel
theorem dX8_read_5 : decode cX8_read 5 = .ok (.astore_n 2, 1) := by decide +kernel
theorem dX8_read_6 : decode cX8_read 6 = .ok (.aload_n 2, 1) := by decide +kernel
theorem dX8_read_7 : decode cX8_read 7 = .ok (.ifnonnull 6, 3) := by decide +kernel
theorem dX8_read_10 : decode cX8_read 10 = .ok (.bipush (-2), 2) := by decide +kernel
theorem dX8_read_12 : decode cX8_read 12 = .ok (.ireturn, 1) := by decide +kernel
theorem dX8_read_13 : decode cX8_read 13 = .ok (.aload_n 2, 1) := by decide +kernel
theorem dX8_read_14 : decode cX8_read 14 = .ok (.getfield 231, 3) := by decide +kernel
theorem dX8_read_17 : decode cX8_read 17 = .ok (.ifCond .eq 9, 3) := by decide +kernel
theorem dX8_read_20 : decode cX8_read 20 = .ok (.aload_n 0, 1) := by decide +kernel
theorem dX8_read_21 : decode cX8_read 21 = .ok (.iconst 1, 1) := by decide +kernel
theorem dX8_read_22 : decode cX8_read 22 = .ok (.invokevirtual 235, 3) := by decide +kernel
theorem dX8_read_25 : decode cX8_read 25 = .ok (.ireturn, 1) := by decide +kernel
theorem dX8_read_26 : decode cX8_read 26 = .ok (.iconst 0, 1) := by decide +kernel
theorem dX8_read_27 : decode cX8_read 27 = .ok (.istore_n 3, 1) := by decide +kernel
theorem dX8_read_28 : decode cX8_read 28 = .ok (.iconst 0, 1) := by decide +kernel
theorem dX8_read_29 : decode cX8_read 29 = .ok (.istore 4, 2) := by decide +kernel
theorem dX8_read_31 : decode cX8_read 31 = .ok (.iload 4, 2) := by decide +kernel
theorem dX8_read_33 : decode cX8_read 33 = .ok (.iconst 1, 1) := by decide +kernel
theorem dX8_read_34 : decode cX8_read 34 = .ok (.iadd, 1) := by decide +kernel
theorem dX8_read_35 : decode cX8_read 35 = .ok (.aload_n 2, 1) := by decide +kernel
theorem dX8_read_36 : decode cX8_read 36 = .ok (.getfield 238, 3) := by decide +kernel
theorem dX8_read_39 : decode cX8_read 39 = .ok (.if_icmp .ge 35, 3) := by decide +kernel
theorem dX8_read_42 : decode cX8_read 42 = .ok (.aload_n 0, 1) := by decide +kernel
theorem dX8_read_43 : decode cX8_read 43 = .ok (.aload_n 2, 1) := by decide +kernel
theorem dX8_read_44 : decode cX8_read 44 = .ok (.iload 4, 2) := by decide +kernel
theorem dX8_read_46 : decode cX8_read 46 = .ok (.invokevirtual 239, 3) := by decide +kernel
theorem dX8_read_49 : decode cX8_read 49 = .ok (.aload_n 2, 1) := by decide +kernel
theorem dX8_read_50 : decode cX8_read 50 = .ok (.iload 4, 2) := by decide +kernel
theorem dX8_read_52 : decode cX8_read 52 = .ok (.iconst 1, 1) := by decide +kernel
theorem dX8_read_53 : decode cX8_read 53 = .ok (.iadd, 1) := by decide +kernel
theorem dX8_read_54 : decode cX8_read 54 = .ok (.invokevirtual 239, 3) := by decide +kernel
theorem dX8_read_57 : decode cX8_read 57 = .ok (.invokevirtual 242, 3) := by decide +kernel
theorem dX8_read_60 : decode cX8_read 60 = .ok (.ifCond .ge 5, 3) := by decide +kernel
theorem dX8_read_63 : decode cX8_read 63 = .ok (.iload_n 3, 1) := by decide +kernel
theorem dX8_read_64 : decode cX8_read 64 = .ok (.ireturn, 1) := by decide +kernel
theorem dX8_read_65 : decode cX8_read 65 = .ok (.iinc 3 1, 3) := by decide +kernel
theorem dX8_read_68 : decode cX8_read 68 = .ok (.iinc 4 2, 3) := by decide +kernel
theorem dX8_read_71 : decode cX8_read 71 = .ok (.goto (-40), 3) := by decide +kernel
theorem dX8_read_74 : decode cX8_read 74 = .ok (.iload_n 3, 1) := by decide +kernel
theorem dX8_read_75 : decode cX8_read 75 = .ok (.ireturn, 1) := by decide +kernel
theorem dX8_learn_0 : decode cX8_learn 0 = .ok (.aload_n 0, 1) := by decide +kernel
theorem dX8_learn_1 : decode cX8_learn 1 = .ok (.iload_n 1, 1) := by decide +kernel
theorem dX8_learn_2 : decode cX8_learn 2 = .ok (.invokevirtual 101, 3) := by decide +kernel
theorem dX8_learn_5 : decode cX8_learn 5 = .ok (.ifCond .eq 14, 3) := by decide +kernel
theorem dX8_learn_8 : decode cX8_learn 8 = .ok (.iload_n 2, 1) := by decide +kernel
theorem dX8_learn_9 : decode cX8_learn 9 = .ok (.iconst (-1), 1) := by decide +kernel
theorem dX8_learn_10 : decode cX8_learn 10 = .ok (.if_icmp .lt 9, 3) := by decide +kernel
theorem dX8_learn_13 : decode cX8_learn 13 = .ok (.iload_n 2, 1) := by decide +kernel
theorem dX8_learn_14 : decode cX8_learn 14 = .ok (.bipush 97, 2) := by decide +kernel
theorem dX8_learn_16 : decode cX8_learn 16 = .ok (.if_icmp .le 6, 3) := by decide +kernel
theorem dX8_learn_19 : decode cX8_learn 19 = .ok (.bipush (-2), 2) := by decide +kernel
theorem dX8_learn_21 : decode cX8_learn 21 = .ok (.ireturn, 1) := by decide +kernel
theorem dX8_learn_22 : decode cX8_learn 22 = .ok (.iconst 0, 1) := by decide +kernel
theorem dX8_learn_23 : decode cX8_learn 23 = .ok (.istore_n 3, 1) := by decide +kernel
theorem dX8_learn_24 : decode cX8_learn 24 = .ok (.iconst 2, 1) := by decide +kernel
theorem dX8_learn_25 : decode cX8_learn 25 = .ok (.istore 4, 2) := by decide +kernel
theorem dX8_learn_27 : decode cX8_learn 27 = .ok (.iload 4, 2) := by decide +kernel
theorem dX8_learn_29 : decode cX8_learn 29 = .ok (.bipush 99, 2) := by decide +kernel
theorem dX8_learn_31 : decode cX8_learn 31 = .ok (.if_icmp .gt 30, 3) := by decide +kernel
theorem dX8_learn_34 : decode cX8_learn 34 = .ok (.aload_n 0, 1) := by decide +kernel
theorem dX8_learn_35 : decode cX8_learn 35 = .ok (.iload_n 1, 1) := by decide +kernel
theorem dX8_learn_36 : decode cX8_learn 36 = .ok (.iload 4, 2) := by decide +kernel
theorem dX8_learn_38 : decode cX8_learn 38 = .ok (.invokevirtual 245, 3) := by decide +kernel
theorem dX8_learn_41 : decode cX8_learn 41 = .ok (.ifCond .eq 14, 3) := by decide +kernel
theorem dX8_learn_44 : decode cX8_learn 44 = .ok (.iload_n 3, 1) := by decide +kernel
theorem dX8_learn_45 : decode cX8_learn 45 = .ok (.iload_n 2, 1) := by decide +kernel
theorem dX8_learn_46 : decode cX8_learn 46 = .ok (.if_icmp .ne 6, 3) := by decide +kernel
theorem dX8_learn_49 : decode cX8_learn 49 = .ok (.iload 4, 2) := by decide +kernel
theorem dX8_learn_51 : decode cX8_learn 51 = .ok (.ireturn, 1) := by decide +kernel
theorem dX8_learn_52 : decode cX8_learn 52 = .ok (.iinc 3 1, 3) := by decide +kernel
theorem dX8_learn_55 : decode cX8_learn 55 = .ok (.iinc 4 1, 3) := by decide +kernel
theorem dX8_learn_58 : decode cX8_learn 58 = .ok (.goto (-31), 3) := by decide +kernel
theorem dX8_learn_61 : decode cX8_learn 61 = .ok (.iload_n 2, 1) := by decide +kernel
theorem dX8_learn_62 : decode cX8_learn 62 = .ok (.iconst (-1), 1) := by decide +kernel
theorem dX8_learn_63 : decode cX8_learn 63 = .ok (.if_icmp .ne 7, 3) := by decide +kernel
theorem dX8_learn_66 : decode cX8_learn 66 = .ok (.iload_n 3, 1) := by decide +kernel
theorem dX8_learn_67 : decode cX8_learn 67 = .ok (.goto 4, 3) := by decide +kernel
theorem dX8_learn_70 : decode cX8_learn 70 = .ok (.iconst (-1), 1) := by decide +kernel
theorem dX8_learn_71 : decode cX8_learn 71 = .ok (.ireturn, 1) := by decide +kernel
theorem dX8_night_0 : decode cX8_night 0 = .ok (.iload_n 2, 1) := by decide +kernel
theorem dX8_night_1 : decode cX8_night 1 = .ok (.iconst 1, 1) := by decide +kernel
theorem dX8_night_2 : decode cX8_night 2 = .ok (.if_icmp .lt 9, 3) := by decide +kernel
theorem dX8_night_5 : decode cX8_night 5 = .ok (.iload_n 2, 1) := by decide +kernel
theorem dX8_night_6 : decode cX8_night 6 = .ok (.bipush 20, 2) := by decide +kernel
theorem dX8_night_8 : decode cX8_night 8 = .ok (.if_icmp .le 6, 3) := by decide +kernel
theorem dX8_night_11 : decode cX8_night 11 = .ok (.bipush (-2), 2) := by decide +kernel
theorem dX8_night_13 : decode cX8_night 13 = .ok (.ireturn, 1) := by decide +kernel
theorem dX8_night_14 : decode cX8_night 14 = .ok (.aload_n 0, 1) := by decide +kernel
theorem dX8_night_15 : decode cX8_night 15 = .ok (.getfield 65, 3) := by decide +kernel
theorem dX8_night_18 : decode cX8_night 18 = .ok (.iload_n 1, 1) := by decide +kernel
theorem dX8_night_19 : decode cX8_night 19 = .ok (.putfield 248, 3) := by decide +kernel
theorem dX8_night_22 : decode cX8_night 22 = .ok (.iconst 0, 1) := by decide +kernel
theorem dX8_night_23 : decode cX8_night 23 = .ok (.istore_n 3, 1) := by decide +kernel
theorem dX8_night_24 : decode cX8_night 24 = .ok (.iconst 0, 1) := by decide +kernel
theorem dX8_night_25 : decode cX8_night 25 = .ok (.istore 4, 2) := by decide +kernel
theorem dX8_night_27 : decode cX8_night 27 = .ok (.iconst 0, 1) := by decide +kernel
theorem dX8_night_28 : decode cX8_night 28 = .ok (.istore 5, 2) := by decide +kernel
theorem dX8_night_30 : decode cX8_night 30 = .ok (.iload 5, 2) := by decide +kernel
theorem dX8_night_32 : decode cX8_night 32 = .ok (.iload_n 2, 1) := by decide +kernel
theorem dX8_night_33 : decode cX8_night 33 = .ok (.if_icmp .ge 53, 3) := by decide +kernel
theorem dX8_night_36 : decode cX8_night 36 = .ok (.aload_n 0, 1) := by decide +kernel
theorem dX8_night_37 : decode cX8_night 37 = .ok (.iload 4, 2) := by decide +kernel
theorem dX8_night_39 : decode cX8_night 39 = .ok (.invokevirtual 251, 3) := by decide +kernel
theorem dX8_night_42 : decode cX8_night 42 = .ok (.istore 6, 2) := by decide +kernel
theorem dX8_night_44 : decode cX8_night 44 = .ok (.iload 6, 2) := by decide +kernel
theorem dX8_night_46 : decode cX8_night 46 = .ok (.iconst (-1), 1) := by decide +kernel
theorem dX8_night_47 : decode cX8_night 47 = .ok (.if_icmp .ne 5, 3) := by decide +kernel
theorem dX8_night_50 : decode cX8_night 50 = .ok (.iload_n 3, 1) := by decide +kernel
theorem dX8_night_51 : decode cX8_night 51 = .ok (.ireturn, 1) := by decide +kernel
theorem dX8_night_52 : decode cX8_night 52 = .ok (.aload_n 0, 1) := by decide +kernel
theorem dX8_night_53 : decode cX8_night 53 = .ok (.iload 6, 2) := by decide +kernel
theorem dX8_night_55 : decode cX8_night 55 = .ok (.invokevirtual 254, 3) := by decide +kernel
theorem dX8_night_58 : decode cX8_night 58 = .ok (.ifCond .eq 18, 3) := by decide +kernel
theorem dX8_night_61 : decode cX8_night 61 = .ok (.iinc 3 1, 3) := by decide +kernel
theorem dX8_night_64 : decode cX8_night 64 = .ok (.aload_n 0, 1) := by decide +kernel
theorem dX8_night_65 : decode cX8_night 65 = .ok (.getfield 51, 3) := by decide +kernel
theorem dX8_night_68 : decode cX8_night 68 = .ok (.getfield 182, 3) := by decide +kernel
theorem dX8_night_71 : decode cX8_night 71 = .ok (.istore 4, 2) := by decide +kernel
theorem dX8_night_73 : decode cX8_night 73 = .ok (.goto 7, 3) := by decide +kernel
theorem dX8_night_76 : decode cX8_night 76 = .ok (.iload 6, 2) := by decide +kernel
theorem dX8_night_78 : decode cX8_night 78 = .ok (.istore 4, 2) := by decide +kernel
theorem dX8_night_80 : decode cX8_night 80 = .ok (.iinc 5 1, 3) := by decide +kernel
theorem dX8_night_83 : decode cX8_night 83 = .ok (.goto (-53), 3) := by decide +kernel
theorem dX8_night_86 : decode cX8_night 86 = .ok (.iload_n 3, 1) := by decide +kernel
theorem dX8_night_87 : decode cX8_night 87 = .ok (.ireturn, 1) := by decide +kernel
theorem dX8_sheet_0 : decode cX8_sheet 0 = .ok (.aload_n 0, 1) := by decide +kernel
theorem dX8_sheet_1 : decode cX8_sheet 1 = .ok (.iload_n 1, 1) := by decide +kernel
theorem dX8_sheet_2 : decode cX8_sheet 2 = .ok (.invokevirtual 227, 3) := by decide +kernel
theorem dX8_sheet_5 : decode cX8_sheet 5 = .ok (.astore 4, 2) := by decide +kernel
theorem dX8_sheet_7 : decode cX8_sheet 7 = .ok (.aload 4, 2) := by decide +kernel
theorem dX8_sheet_9 : decode cX8_sheet 9 = .ok (.ifnull 16, 3) := by decide +kernel
theorem dX8_sheet_12 : decode cX8_sheet 12 = .ok (.iload_n 2, 1) := by decide +kernel
theorem dX8_sheet_13 : decode cX8_sheet 13 = .ok (.invokestatic 257, 3) := by decide +kernel
theorem dX8_sheet_16 : decode cX8_sheet 16 = .ok (.ifCond .eq 9, 3) := by decide +kernel
theorem dX8_sheet_19 : decode cX8_sheet 19 = .ok (.iload_n 3, 1) := by decide +kernel
theorem dX8_sheet_20 : decode cX8_sheet 20 = .ok (.bipush 48, 2) := by decide +kernel
theorem dX8_sheet_22 : decode cX8_sheet 22 = .ok (.if_icmp .le 6, 3) := by decide +kernel
theorem dX8_sheet_25 : decode cX8_sheet 25 = .ok (.bipush (-2), 2) := by decide +kernel
theorem dX8_sheet_27 : decode cX8_sheet 27 = .ok (.ireturn, 1) := by decide +kernel
theorem dX8_sheet_28 : decode cX8_sheet 28 = .ok (.iload_n 3, 1) := by decide +kernel
theorem dX8_sheet_29 : decode cX8_sheet 29 = .ok (.ifCond .ge 9, 3) := by decide +kernel
theorem dX8_sheet_32 : decode cX8_sheet 32 = .ok (.aload_n 0, 1) := by decide +kernel
theorem dX8_sheet_33 : decode cX8_sheet 33 = .ok (.iconst 5, 1) := by decide +kernel
theorem dX8_sheet_34 : decode cX8_sheet 34 = .ok (.invokevirtual 235, 3) := by decide +kernel
theorem dX8_sheet_37 : decode cX8_sheet 37 = .ok (.ireturn, 1) := by decide +kernel
theorem dX8_sheet_38 : decode cX8_sheet 38 = .ok (.aload 4, 2) := by decide +kernel
theorem dX8_sheet_40 : decode cX8_sheet 40 = .ok (.iload_n 2, 1) := by decide +kernel
theorem dX8_sheet_41 : decode cX8_sheet 41 = .ok (.iload_n 3, 1) := by decide +kernel
theorem dX8_sheet_42 : decode cX8_sheet 42 = .ok (.invokevirtual 260, 3) := by decide +kernel
theorem dX8_sheet_45 : decode cX8_sheet 45 = .ok (.iload_n 3, 1) := by decide +kernel
theorem dX8_sheet_46 : decode cX8_sheet 46 = .ok (.ireturn, 1) := by decide +kernel
theorem dX8_lose_0 : decode cX8_lose 0 = .ok (.aload_n 0, 1) := by decide +kernel
theorem dX8_lose_1 : decode cX8_lose 1 = .ok (.iload_n 1, 1) := by decide +kernel
theorem dX8_lose_2 : decode cX8_lose 2 = .ok (.invokevirtual 227, 3) := by decide +kernel
theorem dX8_lose_5 : decode cX8_lose 5 = .ok (.astore_n 2, 1) := by decide +kernel
theorem dX8_lose_6 : decode cX8_lose 6 = .ok (.aload_n 2, 1) := by decide +kernel
theorem dX8_lose_7 : decode cX8_lose 7 = .ok (.ifnonnull 6, 3) := by decide +kernel
theorem dX8_lose_10 : decode cX8_lose 10 = .ok (.bipush (-2), 2) := by decide +kernel
theorem dX8_lose_12 : decode cX8_lose 12 = .ok (.ireturn, 1) := by decide +kernel
theorem dX8_lose_13 : decode cX8_lose 13 = .ok (.aload_n 2, 1) := by decide +kernel
theorem dX8_lose_14 : decode cX8_lose 14 = .ok (.getfield 231, 3) := by decide +kernel
theorem dX8_lose_17 : decode cX8_lose 17 = .ok (.ifCond .eq 9, 3) := by decide +kernel
theorem dX8_lose_20 : decode cX8_lose 20 = .ok (.aload_n 0, 1) := by decide +kernel
theorem dX8_lose_21 : decode cX8_lose 21 = .ok (.iconst 1, 1) := by decide +kernel
theorem dX8_lose_22 : decode cX8_lose 22 = .ok (.invokevirtual 235, 3) := by decide +kernel
theorem dX8_lose_25 : decode cX8_lose 25 = .ok (.ireturn, 1) := by decide +kernel
theorem dX8_lose_26 : decode cX8_lose 26 = .ok (.aload_n 2, 1) := by decide +kernel
theorem dX8_lose_27 : decode cX8_lose 27 = .ok (.iconst 1, 1) := by decide +kernel
theorem dX8_lose_28 : decode cX8_lose 28 = .ok (.putfield 231, 3) := by decide +kernel
theorem dX8_lose_31 : decode cX8_lose 31 = .ok (.aload_n 2, 1) := by decide +kernel
theorem dX8_lose_32 : decode cX8_lose 32 = .ok (.getfield 238, 3) := by decide +kernel
theorem dX8_lose_35 : decode cX8_lose 35 = .ok (.ireturn, 1) := by decide +kernel
theorem dX8_put_0 : decode cX8_put 0 = .ok (.aload_n 0, 1) := by decide +kernel
theorem dX8_put_1 : decode cX8_put 1 = .ok (.iload_n 1, 1) := by decide +kernel
theorem dX8_put_2 : decode cX8_put 2 = .ok (.invokevirtual 227, 3) := by decide +kernel
theorem dX8_put_5 : decode cX8_put 5 = .ok (.astore 5, 2) := by decide +kernel
theorem dX8_put_7 : decode cX8_put 7 = .ok (.aload 5, 2) := by decide +kernel
theorem dX8_put_9 : decode cX8_put 9 = .ok (.ifnull 10, 3) := by decide +kernel
theorem dX8_put_12 : decode cX8_put 12 = .ok (.iload_n 2, 1) := by decide +kernel
theorem dX8_put_13 : decode cX8_put 13 = .ok (.invokestatic 257, 3) := by decide +kernel
theorem dX8_put_16 : decode cX8_put 16 = .ok (.ifCond .ne 6, 3) := by decide +kernel
theorem dX8_put_19 : decode cX8_put 19 = .ok (.bipush (-2), 2) := by decide +kernel
theorem dX8_put_21 : decode cX8_put 21 = .ok (.ireturn, 1) := by decide +kernel
theorem dX8_put_22 : decode cX8_put 22 = .ok (.aload 5, 2) := by decide +kernel
theorem dX8_put_24 : decode cX8_put 24 = .ok (.iload_n 2, 1) := by decide +kernel
theorem dX8_put_25 : decode cX8_put 25 = .ok (.iload_n 3, 1) := by decide +kernel
theorem dX8_put_26 : decode cX8_put 26 = .ok (.invokevirtual 263, 3) := by decide +kernel
theorem dX8_put_29 : decode cX8_put 29 = .ok (.istore 6, 2) := by decide +kernel
theorem dX8_put_31 : decode cX8_put 31 = .ok (.iload 6, 2) := by decide +kernel
theorem dX8_put_33 : decode cX8_put 33 = .ok (.ifCond .eq 10, 3) := by decide +kernel
theorem dX8_put_36 : decode cX8_put 36 = .ok (.aload_n 0, 1) := by decide +kernel
theorem dX8_put_37 : decode cX8_put 37 = .ok (.iload 6, 2) := by decide +kernel
theorem dX8_put_39 : decode cX8_put 39 = .ok (.invokevirtual 235, 3) := by decide +kernel
theorem dX8_put_42 : decode cX8_put 42 = .ok (.ireturn, 1) := by decide +kernel
theorem dX8_put_43 : decode cX8_put 43 = .ok (.aload 5, 2) := by decide +kernel
theorem dX8_put_45 : decode cX8_put 45 = .ok (.iload_n 3, 1) := by decide +kernel
theorem dX8_put_46 : decode cX8_put 46 = .ok (.iload 4, 2) := by decide +kernel
theorem dX8_put_48 : decode cX8_put 48 = .ok (.invokevirtual 266, 3) := by decide +kernel
theorem dX8_put_51 : decode cX8_put 51 = .ok (.iconst 1, 1) := by decide +kernel
theorem dX8_put_52 : decode cX8_put 52 = .ok (.ireturn, 1) := by decide +kernel
theorem dX8_get_0 : decode cX8_get 0 = .ok (.aload_n 0, 1) := by decide +kernel
theorem dX8_get_1 : decode cX8_get 1 = .ok (.iload_n 1, 1) := by decide +kernel
theorem dX8_get_2 : decode cX8_get 2 = .ok (.invokevirtual 227, 3) := by decide +kernel
theorem dX8_get_5 : decode cX8_get 5 = .ok (.astore 4, 2) := by decide +kernel
theorem dX8_get_7 : decode cX8_get 7 = .ok (.aload 4, 2) := by decide +kernel
theorem dX8_get_9 : decode cX8_get 9 = .ok (.ifnull 10, 3) := by decide +kernel
theorem dX8_get_12 : decode cX8_get 12 = .ok (.iload_n 2, 1) := by decide +kernel
theorem dX8_get_13 : decode cX8_get 13 = .ok (.invokestatic 257, 3) := by decide +kernel
theorem dX8_get_16 : decode cX8_get 16 = .ok (.ifCond .ne 7, 3) := by decide +kernel
theorem dX8_get_19 : decode cX8_get 19 = .ok (.ldc_w 269, 3) := by decide +kernel
theorem dX8_get_22 : decode cX8_get 22 = .ok (.ireturn, 1) := by decide +kernel
theorem dX8_get_23 : decode cX8_get 23 = .ok (.aload 4, 2) := by decide +kernel
theorem dX8_get_25 : decode cX8_get 25 = .ok (.iload_n 2, 1) := by decide +kernel
theorem dX8_get_26 : decode cX8_get 26 = .ok (.iload_n 3, 1) := by decide +kernel
theorem dX8_get_27 : decode cX8_get 27 = .ok (.invokevirtual 263, 3) := by decide +kernel
theorem dX8_get_30 : decode cX8_get 30 = .ok (.istore 5, 2) := by decide +kernel
theorem dX8_get_32 : decode cX8_get 32 = .ok (.iload 5, 2) := by decide +kernel
theorem dX8_get_34 : decode cX8_get 34 = .ok (.ifCond .eq 14, 3) := by decide +kernel
theorem dX8_get_37 : decode cX8_get 37 = .ok (.aload_n 0, 1) := by decide +kernel
theorem dX8_get_38 : decode cX8_get 38 = .ok (.iload 5, 2) := by decide +kernel
theorem dX8_get_40 : decode cX8_get 40 = .ok (.invokevirtual 235, 3) := by decide +kernel
theorem dX8_get_43 : decode cX8_get 43 = .ok (.pop, 1) := by decide +kernel
theorem dX8_get_44 : decode cX8_get 44 = .ok (.ldc_w 269, 3) := by decide +kernel
theorem dX8_get_47 : decode cX8_get 47 = .ok (.ireturn, 1) := by decide +kernel
theorem dX8_get_48 : decode cX8_get 48 = .ok (.aload 4, 2) := by decide +kernel
theorem dX8_get_50 : decode cX8_get 50 = .ok (.iload_n 3, 1) := by decide +kernel
theorem dX8_get_51 : decode cX8_get 51 = .ok (.invokevirtual 239, 3) := by decide +kernel
theorem dX8_get_54 : decode cX8_get 54 = .ok (.ireturn, 1) := by decide +kernel
theorem dX8_copy_0 : decode cX8_copy 0 = .ok (.aload_n 0, 1) := by decide +kernel
theorem dX8_copy_1 : decode cX8_copy 1 = .ok (.iload_n 1, 1) := by decide +kernel
theorem dX8_copy_2 : decode cX8_copy 2 = .ok (.invokevirtual 227, 3) := by decide +kernel
theorem dX8_copy_5 : decode cX8_copy 5 = .ok (.astore 6, 2) := by decide +kernel
theorem dX8_copy_7 : decode cX8_copy 7 = .ok (.aload_n 0, 1) := by decide +kernel
theorem dX8_copy_8 : decode cX8_copy 8 = .ok (.iload_n 3, 1) := by decide +kernel
theorem dX8_copy_9 : decode cX8_copy 9 = .ok (.invokevirtual 227, 3) := by decide +kernel
theorem dX8_copy_12 : decode cX8_copy 12 = .ok (.astore 7, 2) := by decide +kernel
theorem dX8_copy_14 : decode cX8_copy 14 = .ok (.aload 6, 2) := by decide +kernel
theorem dX8_copy_16 : decode cX8_copy 16 = .ok (.ifnull 8, 3) := by decide +kernel
theorem dX8_copy_19 : decode cX8_copy 19 = .ok (.aload 7, 2) := by decide +kernel
theorem dX8_copy_21 : decode cX8_copy 21 = .ok (.ifnonnull 6, 3) := by decide +kernel
theorem dX8_copy_24 : decode cX8_copy 24 = .ok (.bipush (-2), 2) := by decide +kernel
theorem dX8_copy_26 : decode cX8_copy 26 = .ok (.ireturn, 1) := by decide +kernel
theorem dX8_copy_27 : decode cX8_copy 27 = .ok (.aload 6, 2) := by decide +kernel
theorem dX8_copy_29 : decode cX8_copy 29 = .ok (.getfield 231, 3) := by decide +kernel
theorem dX8_copy_32 : decode cX8_copy 32 = .ok (.ifCond .ne 11, 3) := by decide +kernel
theorem dX8_copy_35 : decode cX8_copy 35 = .ok (.aload 7, 2) := by decide +kernel
theorem dX8_copy_37 : decode cX8_copy 37 = .ok (.getfield 231, 3) := by decide +kernel
theorem dX8_copy_40 : decode cX8_copy 40 = .ok (.ifCond .eq 9, 3) := by decide +kernel
theorem dX8_copy_43 : decode cX8_copy 43 = .ok (.aload_n 0, 1) := by decide +kernel
theorem dX8_copy_44 : decode cX8_copy 44 = .ok (.iconst 1, 1) := by decide +kernel
theorem dX8_copy_45 : decode cX8_copy 45 = .ok (.invokevirtual 235, 3) := by decide +kernel
theorem dX8_copy_48 : decode cX8_copy 48 = .ok (.ireturn, 1) := by decide +kernel
theorem dX8_copy_49 : decode cX8_copy 49 = .ok (.aload 6, 2) := by decide +kernel
theorem dX8_copy_51 : decode cX8_copy 51 = .ok (.getfield 270, 3) := by decide +kernel
theorem dX8_copy_54 : decode cX8_copy 54 = .ok (.aload 7, 2) := by decide +kernel
theorem dX8_copy_56 : decode cX8_copy 56 = .ok (.getfield 270, 3) := by decide +kernel
theorem dX8_copy_59 : decode cX8_copy 59 = .ok (.if_icmp .eq 9, 3) := by decide +kernel
theorem dX8_copy_62 : decode cX8_copy 62 = .ok (.aload_n 0, 1) := by decide +kernel
theorem dX8_copy_63 : decode cX8_copy 63 = .ok (.iconst 4, 1) := by decide +kernel
theorem dX8_copy_64 : decode cX8_copy 64 = .ok (.invokevirtual 235, 3) := by decide +kernel
theorem dX8_copy_67 : decode cX8_copy 67 = .ok (.ireturn, 1) := by decide +kernel
theorem dX8_copy_68 : decode cX8_copy 68 = .ok (.aload 6, 2) := by decide +kernel
theorem dX8_copy_70 : decode cX8_copy 70 = .ok (.iload_n 2, 1) := by decide +kernel
theorem dX8_copy_71 : decode cX8_copy 71 = .ok (.iload 5, 2) := by decide +kernel
theorem dX8_copy_73 : decode cX8_copy 73 = .ok (.invokevirtual 273, 3) := by decide +kernel
theorem dX8_copy_76 : decode cX8_copy 76 = .ok (.ifCond .eq 15, 3) := by decide +kernel
theorem dX8_copy_79 : decode cX8_copy 79 = .ok (.aload 7, 2) := by decide +kernel
theorem dX8_copy_81 : decode cX8_copy 81 = .ok (.iload 4, 2) := by decide +kernel
theorem dX8_copy_83 : decode cX8_copy 83 = .ok (.iload 5, 2) := by decide +kernel
theorem dX8_copy_85 : decode cX8_copy 85 = .ok (.invokevirtual 273, 3) := by decide +kernel
theorem dX8_copy_88 : decode cX8_copy 88 = .ok (.ifCond .ne 9, 3) := by decide +kernel
theorem dX8_copy_91 : decode cX8_copy 91 = .ok (.aload_n 0, 1) := by decide +kernel
theorem dX8_copy_92 : decode cX8_copy 92 = .ok (.iconst 2, 1) := by decide +kernel
theorem dX8_copy_93 : decode cX8_copy 93 = .ok (.invokevirtual 235, 3) := by decide +kernel
theorem dX8_copy_96 : decode cX8_copy 96 = .ok (.ireturn, 1) := by decide +kernel
theorem dX8_copy_97 : decode cX8_copy 97 = .ok (.aload 7, 2) := by decide +kernel
theorem dX8_copy_99 : decode cX8_copy 99 = .ok (.aload 6, 2) := by decide +kernel
theorem dX8_copy_101 : decode cX8_copy 101 = .ok (.iload_n 2, 1) := by decide +kernel
theorem dX8_copy_102 : decode cX8_copy 102 = .ok (.iload 4, 2) := by decide +kernel
theorem dX8_copy_104 : decode cX8_copy 104 = .ok (.iload 5, 2) := by decide +kernel
theorem dX8_copy_106 : decode cX8_copy 106 = .ok (.invokevirtual 276, 3) := by decide +kernel
theorem dX8_copy_109 : decode cX8_copy 109 = .ok (.iconst 1, 1) := by decide +kernel
theorem dX8_copy_110 : decode cX8_copy 110 = .ok (.ireturn, 1) := by decide +kernel
theorem dX8_write_0 : decode cX8_write 0 = .ok (.aload_n 0, 1) := by decide +kernel
theorem dX8_write_1 : decode cX8_write 1 = .ok (.iload_n 2, 1) := by decide +kernel
theorem dX8_write_2 : decode cX8_write 2 = .ok (.invokevirtual 227, 3) := by decide +kernel
theorem dX8_write_5 : decode cX8_write 5 = .ok (.astore_n 3, 1) := by decide +kernel
theorem dX8_write_6 : decode cX8_write 6 = .ok (.iload_n 1, 1) := by decide +kernel
theorem dX8_write_7 : decode cX8_write 7 = .ok (.invokestatic 124, 3) := by decide +kernel
theorem dX8_write_10 : decode cX8_write 10 = .ok (.ifCond .eq 7, 3) := by decide +kernel
theorem dX8_write_13 : decode cX8_write 13 = .ok (.aload_n 3, 1) := by decide +kernel
theorem dX8_write_14 : decode cX8_write 14 = .ok (.ifnonnull 6, 3) := by decide +kernel
theorem dX8_write_17 : decode cX8_write 17 = .ok (.bipush (-2), 2) := by decide +kernel
theorem dX8_write_19 : decode cX8_write 19 = .ok (.ireturn, 1) := by decide +kernel
theorem dX8_write_20 : decode cX8_write 20 = .ok (.aload_n 3, 1) := by decide +kernel
theorem dX8_write_21 : decode cX8_write 21 = .ok (.getfield 231, 3) := by decide +kernel
theorem dX8_write_24 : decode cX8_write 24 = .ok (.ifCond .eq 9, 3) := by decide +kernel
theorem dX8_write_27 : decode cX8_write 27 = .ok (.aload_n 0, 1) := by decide +kernel
theorem dX8_write_28 : decode cX8_write 28 = .ok (.iconst 1, 1) := by decide +kernel
theorem dX8_write_29 : decode cX8_write 29 = .ok (.invokevirtual 235, 3) := by decide +kernel
theorem dX8_write_32 : decode cX8_write 32 = .ok (.ireturn, 1) := by decide +kernel
theorem dX8_write_33 : decode cX8_write 33 = .ok (.aload_n 3, 1) := by decide +kernel
theorem dX8_write_34 : decode cX8_write 34 = .ok (.getfield 238, 3) := by decide +kernel
theorem dX8_write_37 : decode cX8_write 37 = .ok (.sipush 400, 3) := by decide +kernel
theorem dX8_write_40 : decode cX8_write 40 = .ok (.iload_n 1, 1) := by decide +kernel
theorem dX8_write_41 : decode cX8_write 41 = .ok (.isub, 1) := by decide +kernel
theorem dX8_write_42 : decode cX8_write 42 = .ok (.invokestatic 216, 3) := by decide +kernel
theorem dX8_write_45 : decode cX8_write 45 = .ok (.istore 4, 2) := by decide +kernel
theorem dX8_write_47 : decode cX8_write 47 = .ok (.iconst 0, 1) := by decide +kernel
theorem dX8_write_48 : decode cX8_write 48 = .ok (.istore 5, 2) := by decide +kernel
theorem dX8_write_50 : decode cX8_write 50 = .ok (.iload 5, 2) := by decide +kernel
theorem dX8_write_52 : decode cX8_write 52 = .ok (.iload 4, 2) := by decide +kernel
theorem dX8_write_54 : decode cX8_write 54 = .ok (.if_icmp .ge 26, 3) := by decide +kernel
theorem dX8_write_57 : decode cX8_write 57 = .ok (.aload_n 3, 1) := by decide +kernel
theorem dX8_write_58 : decode cX8_write 58 = .ok (.iload 5, 2) := by decide +kernel
theorem dX8_write_60 : decode cX8_write 60 = .ok (.aload_n 0, 1) := by decide +kernel
theorem dX8_write_61 : decode cX8_write 61 = .ok (.getfield 28, 3) := by decide +kernel
theorem dX8_write_64 : decode cX8_write 64 = .ok (.iload_n 1, 1) := by decide +kernel
theorem dX8_write_65 : decode cX8_write 65 = .ok (.iload 5, 2) := by decide +kernel
theorem dX8_write_67 : decode cX8_write 67 = .ok (.iadd, 1) := by decide +kernel
theorem dX8_write_68 : decode cX8_write 68 = .ok (.invokevirtual 146, 3) := by decide +kernel
theorem dX8_write_71 : decode cX8_write 71 = .ok (.invokevirtual 266, 3) := by decide +kernel
theorem dX8_write_74 : decode cX8_write 74 = .ok (.iinc 5 1, 3) := by decide +kernel
theorem dX8_write_77 : decode cX8_write 77 = .ok (.goto (-27), 3) := by decide +kernel
theorem dX8_write_80 : decode cX8_write 80 = .ok (.iload 4, 2) := by decide +kernel
theorem dX8_write_82 : decode cX8_write 82 = .ok (.ireturn, 1) := by decide +kernel
theorem dX8_count_0 : decode cX8_count 0 = .ok (.iload_n 1, 1) := by decide +kernel
theorem dX8_count_1 : decode cX8_count 1 = .ok (.tableswitch 121 0 8 #[51, 59, 67, 75, 83, 91, 99, 108, 116], 51) := by decide +kernel
theorem dX8_count_52 : decode cX8_count 52 = .ok (.aload_n 0, 1) := by decide +kernel
theorem dX8_count_53 : decode cX8_count 53 = .ok (.getfield 16, 3) := by decide +kernel
theorem dX8_count_56 : decode cX8_count 56 = .ok (.getfield 115, 3) := by decide +kernel
theorem dX8_count_59 : decode cX8_count 59 = .ok (.ireturn, 1) := by decide +kernel
theorem dX8_count_60 : decode cX8_count 60 = .ok (.aload_n 0, 1) := by decide +kernel
theorem dX8_count_61 : decode cX8_count 61 = .ok (.getfield 16, 3) := by decide +kernel
theorem dX8_count_64 : decode cX8_count 64 = .ok (.getfield 91, 3) := by decide +kernel
theorem dX8_count_67 : decode cX8_count 67 = .ok (.ireturn, 1) := by decide +kernel
theorem dX8_count_68 : decode cX8_count 68 = .ok (.aload_n 0, 1) := by decide +kernel
theorem dX8_count_69 : decode cX8_count 69 = .ok (.getfield 20, 3) := by decide +kernel
theorem dX8_count_72 : decode cX8_count 72 = .ok (.getfield 91, 3) := by decide +kernel
theorem dX8_count_75 : decode cX8_count 75 = .ok (.ireturn, 1) := by decide +kernel
theorem dX8_count_76 : decode cX8_count 76 = .ok (.aload_n 0, 1) := by decide +kernel
theorem dX8_count_77 : decode cX8_count 77 = .ok (.getfield 16, 3) := by decide +kernel
theorem dX8_count_80 : decode cX8_count 80 = .ok (.invokevirtual 280, 3) := by decide +kernel
theorem dX8_count_83 : decode cX8_count 83 = .ok (.ireturn, 1) := by decide +kernel
theorem dX8_count_84 : decode cX8_count 84 = .ok (.aload_n 0, 1) := by decide +kernel
theorem dX8_count_85 : decode cX8_count 85 = .ok (.getfield 28, 3) := by decide +kernel
theorem dX8_count_88 : decode cX8_count 88 = .ok (.invokevirtual 283, 3) := by decide +kernel
theorem dX8_count_91 : decode cX8_count 91 = .ok (.ireturn, 1) := by decide +kernel
theorem dX8_count_92 : decode cX8_count 92 = .ok (.aload_n 0, 1) := by decide +kernel
theorem dX8_count_93 : decode cX8_count 93 = .ok (.getfield 58, 3) := by decide +kernel
theorem dX8_count_96 : decode cX8_count 96 = .ok (.getfield 224, 3) := by decide +kernel
theorem dX8_count_99 : decode cX8_count 99 = .ok (.ireturn, 1) := by decide +kernel
theorem dX8_count_100 : decode cX8_count 100 = .ok (.aload_n 0, 1) := by decide +kernel
theorem dX8_count_101 : decode cX8_count 101 = .ok (.getfield 42, 3) := by decide +kernel
theorem dX8_count_104 : decode cX8_count 104 = .ok (.iconst 0, 1) := by decide +kernel
theorem dX8_count_105 : decode cX8_count 105 = .ok (.invokevirtual 140, 3) := by decide +kernel
theorem dX8_count_108 : decode cX8_count 108 = .ok (.ireturn, 1) := by decide +kernel
theorem dX8_count_109 : decode cX8_count 109 = .ok (.aload_n 0, 1) := by decide +kernel
theorem dX8_count_110 : decode cX8_count 110 = .ok (.getfield 28, 3) := by decide +kernel
theorem dX8_count_113 : decode cX8_count 113 = .ok (.invokevirtual 286, 3) := by decide +kernel
theorem dX8_count_116 : decode cX8_count 116 = .ok (.ireturn, 1) := by decide +kernel
theorem dX8_count_117 : decode cX8_count 117 = .ok (.aload_n 0, 1) := by decide +kernel
theorem dX8_count_118 : decode cX8_count 118 = .ok (.getfield 289, 3) := by decide +kernel
theorem dX8_count_121 : decode cX8_count 121 = .ok (.ireturn, 1) := by decide +kernel
theorem dX8_count_122 : decode cX8_count 122 = .ok (.bipush (-2), 2) := by decide +kernel
theorem dX8_count_124 : decode cX8_count 124 = .ok (.ireturn, 1) := by decide +kernel
theorem dX8_digest_0 : decode cX8_digest 0 = .ok (.ldc2_w 292, 3) := by decide +kernel
theorem dX8_digest_3 : decode cX8_digest 3 = .ok (.lstore_n 1, 1) := by decide +kernel
theorem dX8_digest_4 : decode cX8_digest 4 = .ok (.iconst 0, 1) := by decide +kernel
theorem dX8_digest_5 : decode cX8_digest 5 = .ok (.istore_n 3, 1) := by decide +kernel
theorem dX8_digest_6 : decode cX8_digest 6 = .ok (.iload_n 3, 1) := by decide +kernel
theorem dX8_digest_7 : decode cX8_digest 7 = .ok (.bipush 7, 2) := by decide +kernel
theorem dX8_digest_9 : decode cX8_digest 9 = .ok (.if_icmp .gt 22, 3) := by decide +kernel
theorem dX8_digest_12 : decode cX8_digest 12 = .ok (.ldc2_w 294, 3) := by decide +kernel
theorem dX8_digest_15 : decode cX8_digest 15 = .ok (.lload_n 1, 1) := by decide +kernel
theorem dX8_digest_16 : decode cX8_digest 16 = .ok (.lmul, 1) := by decide +kernel
theorem dX8_digest_17 : decode cX8_digest 17 = .ok (.aload_n 0, 1) := by decide +kernel
theorem dX8_digest_18 : decode cX8_digest 18 = .ok (.iload_n 3, 1) := by decide +kernel
theorem dX8_digest_19 : decode cX8_digest 19 = .ok (.invokevirtual 296, 3) := by decide +kernel
theorem dX8_digest_22 : decode cX8_digest 22 = .ok (.i2l, 1) := by decide +kernel
theorem dX8_digest_23 : decode cX8_digest 23 = .ok (.ladd, 1) := by decide +kernel
theorem dX8_digest_24 : decode cX8_digest 24 = .ok (.lstore_n 1, 1) := by decide +kernel
theorem dX8_digest_25 : decode cX8_digest 25 = .ok (.iinc 3 1, 3) := by decide +kernel
theorem dX8_digest_28 : decode cX8_digest 28 = .ok (.goto (-22), 3) := by decide +kernel
theorem dX8_digest_31 : decode cX8_digest 31 = .ok (.ldc2_w 294, 3) := by decide +kernel
theorem dX8_digest_34 : decode cX8_digest 34 = .ok (.lload_n 1, 1) := by decide +kernel
theorem dX8_digest_35 : decode cX8_digest 35 = .ok (.lmul, 1) := by decide +kernel
theorem dX8_digest_36 : decode cX8_digest 36 = .ok (.aload_n 0, 1) := by decide +kernel
theorem dX8_digest_37 : decode cX8_digest 37 = .ok (.iconst 0, 1) := by decide +kernel
theorem dX8_digest_38 : decode cX8_digest 38 = .ok (.invokevirtual 299, 3) := by decide +kernel
theorem dX8_digest_41 : decode cX8_digest 41 = .ok (.i2l, 1) := by decide +kernel
theorem dX8_digest_42 : decode cX8_digest 42 = .ok (.ladd, 1) := by decide +kernel
theorem dX8_digest_43 : decode cX8_digest 43 = .ok (.lstore_n 1, 1) := by decide +kernel
theorem dX8_digest_44 : decode cX8_digest 44 = .ok (.ldc2_w 294, 3) := by decide +kernel
theorem dX8_digest_47 : decode cX8_digest 47 = .ok (.lload_n 1, 1) := by decide +kernel
theorem dX8_digest_48 : decode cX8_digest 48 = .ok (.lmul, 1) := by decide +kernel
theorem dX8_digest_49 : decode cX8_digest 49 = .ok (.aload_n 0, 1) := by decide +kernel
theorem dX8_digest_50 : decode cX8_digest 50 = .ok (.iconst 1, 1) := by decide +kernel
theorem dX8_digest_51 : decode cX8_digest 51 = .ok (.invokevirtual 299, 3) := by decide +kernel
theorem dX8_digest_54 : decode cX8_digest 54 = .ok (.i2l, 1) := by decide +kernel
theorem dX8_digest_55 : decode cX8_digest 55 = .ok (.ladd, 1) := by decide +kernel
theorem dX8_digest_56 : decode cX8_digest 56 = .ok (.lstore_n 1, 1) := by decide +kernel
theorem dX8_digest_57 : decode cX8_digest 57 = .ok (.iconst 0, 1) := by decide +kernel
theorem dX8_digest_58 : decode cX8_digest 58 = .ok (.istore_n 3, 1) := by decide +kernel
theorem dX8_digest_59 : decode cX8_digest 59 = .ok (.iload_n 3, 1) := by decide +kernel
theorem dX8_digest_60 : decode cX8_digest 60 = .ok (.aload_n 0, 1) := by decide +kernel
theorem dX8_digest_61 : decode cX8_digest 61 = .ok (.getfield 16, 3) := by decide +kernel
theorem dX8_digest_64 : decode cX8_digest 64 = .ok (.getfield 115, 3) := by decide +kernel
theorem dX8_digest_67 : decode cX8_digest 67 = .ok (.if_icmp .ge 65, 3) := by decide +kernel
theorem dX8_digest_70 : decode cX8_digest 70 = .ok (.ldc2_w 294, 3) := by decide +kernel
theorem dX8_digest_73 : decode cX8_digest 73 = .ok (.lload_n 1, 1) := by decide +kernel
theorem dX8_digest_74 : decode cX8_digest 74 = .ok (.lmul, 1) := by decide +kernel
theorem dX8_digest_75 : decode cX8_digest 75 = .ok (.aload_n 0, 1) := by decide +kernel
theorem dX8_digest_76 : decode cX8_digest 76 = .ok (.iload_n 3, 1) := by decide +kernel
theorem dX8_digest_77 : decode cX8_digest 77 = .ok (.iconst 0, 1) := by decide +kernel
theorem dX8_digest_78 : decode cX8_digest 78 = .ok (.invokevirtual 302, 3) := by decide +kernel
theorem dX8_digest_81 : decode cX8_digest 81 = .ok (.i2l, 1) := by decide +kernel
theorem dX8_digest_82 : decode cX8_digest 82 = .ok (.ladd, 1) := by decide +kernel
theorem dX8_digest_83 : decode cX8_digest 83 = .ok (.lstore_n 1, 1) := by decide +kernel
theorem dX8_digest_84 : decode cX8_digest 84 = .ok (.ldc2_w 294, 3) := by decide +kernel
theorem dX8_digest_87 : decode cX8_digest 87 = .ok (.lload_n 1, 1) := by decide +kernel
theorem dX8_digest_88 : decode cX8_digest 88 = .ok (.lmul, 1) := by decide +kernel
theorem dX8_digest_89 : decode cX8_digest 89 = .ok (.aload_n 0, 1) := by decide +kernel
theorem dX8_digest_90 : decode cX8_digest 90 = .ok (.iload_n 3, 1) := by decide +kernel
theorem dX8_digest_91 : decode cX8_digest 91 = .ok (.iconst 1, 1) := by decide +kernel
theorem dX8_digest_92 : decode cX8_digest 92 = .ok (.invokevirtual 302, 3) := by decide +kernel
theorem dX8_digest_95 : decode cX8_digest 95 = .ok (.i2l, 1) := by decide +kernel
theorem dX8_digest_96 : decode cX8_digest 96 = .ok (.ladd, 1) := by decide +kernel
theorem dX8_digest_97 : decode cX8_digest 97 = .ok (.lstore_n 1, 1) := by decide +kernel
theorem dX8_digest_98 : decode cX8_digest 98 = .ok (.ldc2_w 294, 3) := by decide +kernel
theorem dX8_digest_101 : decode cX8_digest 101 = .ok (.lload_n 1, 1) := by decide +kernel
theorem dX8_digest_102 : decode cX8_digest 102 = .ok (.lmul, 1) := by decide +kernel
theorem dX8_digest_103 : decode cX8_digest 103 = .ok (.aload_n 0, 1) := by decide +kernel
theorem dX8_digest_104 : decode cX8_digest 104 = .ok (.iload_n 3, 1) := by decide +kernel
theorem dX8_digest_105 : decode cX8_digest 105 = .ok (.iconst (-1), 1) := by decide +kernel
theorem dX8_digest_106 : decode cX8_digest 106 = .ok (.invokevirtual 305, 3) := by decide +kernel
theorem dX8_digest_109 : decode cX8_digest 109 = .ok (.i2l, 1) := by decide +kernel
theorem dX8_digest_110 : decode cX8_digest 110 = .ok (.ladd, 1) := by decide +kernel
theorem dX8_digest_111 : decode cX8_digest 111 = .ok (.lstore_n 1, 1) := by decide +kernel
theorem dX8_digest_112 : decode cX8_digest 112 = .ok (.ldc2_w 294, 3) := by decide +kernel
theorem dX8_digest_115 : decode cX8_digest 115 = .ok (.lload_n 1, 1) := by decide +kernel
theorem dX8_digest_116 : decode cX8_digest 116 = .ok (.lmul, 1) := by decide +kernel
theorem dX8_digest_117 : decode cX8_digest 117 = .ok (.aload_n 0, 1) := by decide +kernel
theorem dX8_digest_118 : decode cX8_digest 118 = .ok (.iload_n 3, 1) := by decide +kernel
theorem dX8_digest_119 : decode cX8_digest 119 = .ok (.iconst 0, 1) := by decide +kernel
theorem dX8_digest_120 : decode cX8_digest 120 = .ok (.invokevirtual 305, 3) := by decide +kernel
theorem dX8_digest_123 : decode cX8_digest 123 = .ok (.i2l, 1) := by decide +kernel
theorem dX8_digest_124 : decode cX8_digest 124 = .ok (.ladd, 1) := by decide +kernel
theorem dX8_digest_125 : decode cX8_digest 125 = .ok (.lstore_n 1, 1) := by decide +kernel
theorem dX8_digest_126 : decode cX8_digest 126 = .ok (.iinc 3 1, 3) := by decide +kernel
theorem dX8_digest_129 : decode cX8_digest 129 = .ok (.goto (-70), 3) := by decide +kernel
theorem dX8_digest_132 : decode cX8_digest 132 = .ok (.ldc2_w 294, 3) := by decide +kernel
theorem dX8_digest_135 : decode cX8_digest 135 = .ok (.lload_n 1, 1) := by decide +kernel
theorem dX8_digest_136 : decode cX8_digest 136 = .ok (.lmul, 1) := by decide +kernel
theorem dX8_digest_137 : decode cX8_digest 137 = .ok (.aload_n 0, 1) := by decide +kernel
theorem dX8_digest_138 : decode cX8_digest 138 = .ok (.iconst 0, 1) := by decide +kernel
theorem dX8_digest_139 : decode cX8_digest 139 = .ok (.invokevirtual 308, 3) := by decide +kernel
theorem dX8_digest_142 : decode cX8_digest 142 = .ok (.i2l, 1) := by decide +kernel
theorem dX8_digest_143 : decode cX8_digest 143 = .ok (.ladd, 1) := by decide +kernel
theorem dX8_digest_144 : decode cX8_digest 144 = .ok (.lstore_n 1, 1) := by decide +kernel
theorem dX8_digest_145 : decode cX8_digest 145 = .ok (.ldc2_w 294, 3) := by decide +kernel
theorem dX8_digest_148 : decode cX8_digest 148 = .ok (.lload_n 1, 1) := by decide +kernel
theorem dX8_digest_149 : decode cX8_digest 149 = .ok (.lmul, 1) := by decide +kernel
theorem dX8_digest_150 : decode cX8_digest 150 = .ok (.aload_n 0, 1) := by decide +kernel
theorem dX8_digest_151 : decode cX8_digest 151 = .ok (.iconst 1, 1) := by decide +kernel
theorem dX8_digest_152 : decode cX8_digest 152 = .ok (.invokevirtual 308, 3) := by decide +kernel
theorem dX8_digest_155 : decode cX8_digest 155 = .ok (.i2l, 1) := by decide +kernel
theorem dX8_digest_156 : decode cX8_digest 156 = .ok (.ladd, 1) := by decide +kernel
theorem dX8_digest_157 : decode cX8_digest 157 = .ok (.lstore_n 1, 1) := by decide +kernel
theorem dX8_digest_158 : decode cX8_digest 158 = .ok (.iconst 0, 1) := by decide +kernel
theorem dX8_digest_159 : decode cX8_digest 159 = .ok (.istore_n 3, 1) := by decide +kernel
theorem dX8_digest_160 : decode cX8_digest 160 = .ok (.iload_n 3, 1) := by decide +kernel
theorem dX8_digest_161 : decode cX8_digest 161 = .ok (.getstatic 311, 3) := by decide +kernel
theorem dX8_digest_164 : decode cX8_digest 164 = .ok (.arraylength, 1) := by decide +kernel
theorem dX8_digest_165 : decode cX8_digest 165 = .ok (.if_icmp .ge 287, 3) := by decide +kernel
theorem dX8_digest_168 : decode cX8_digest 168 = .ok (.getstatic 311, 3) := by decide +kernel
theorem dX8_digest_171 : decode cX8_digest 171 = .ok (.iload_n 3, 1) := by decide +kernel
theorem dX8_digest_172 : decode cX8_digest 172 = .ok (.iaload, 1) := by decide +kernel
theorem dX8_digest_173 : decode cX8_digest 173 = .ok (.istore 4, 2) := by decide +kernel
theorem dX8_digest_175 : decode cX8_digest 175 = .ok (.ldc2_w 294, 3) := by decide +kernel
theorem dX8_digest_178 : decode cX8_digest 178 = .ok (.lload_n 1, 1) := by decide +kernel
theorem dX8_digest_179 : decode cX8_digest 179 = .ok (.lmul, 1) := by decide +kernel
theorem dX8_digest_180 : decode cX8_digest 180 = .ok (.aload_n 0, 1) := by decide +kernel
theorem dX8_digest_181 : decode cX8_digest 181 = .ok (.iload 4, 2) := by decide +kernel
theorem dX8_digest_183 : decode cX8_digest 183 = .ok (.invokevirtual 315, 3) := by decide +kernel
theorem dX8_digest_186 : decode cX8_digest 186 = .ok (.i2l, 1) := by decide +kernel
theorem dX8_digest_187 : decode cX8_digest 187 = .ok (.ladd, 1) := by decide +kernel
theorem dX8_digest_188 : decode cX8_digest 188 = .ok (.lstore_n 1, 1) := by decide +kernel
theorem dX8_digest_189 : decode cX8_digest 189 = .ok (.ldc2_w 294, 3) := by decide +kernel
theorem dX8_digest_192 : decode cX8_digest 192 = .ok (.lload_n 1, 1) := by decide +kernel
theorem dX8_digest_193 : decode cX8_digest 193 = .ok (.lmul, 1) := by decide +kernel
theorem dX8_digest_194 : decode cX8_digest 194 = .ok (.aload_n 0, 1) := by decide +kernel
theorem dX8_digest_195 : decode cX8_digest 195 = .ok (.iload 4, 2) := by decide +kernel
theorem dX8_digest_197 : decode cX8_digest 197 = .ok (.invokevirtual 318, 3) := by decide +kernel
theorem dX8_digest_200 : decode cX8_digest 200 = .ok (.i2l, 1) := by decide +kernel
theorem dX8_digest_201 : decode cX8_digest 201 = .ok (.ladd, 1) := by decide +kernel
theorem dX8_digest_202 : decode cX8_digest 202 = .ok (.lstore_n 1, 1) := by decide +kernel
theorem dX8_digest_203 : decode cX8_digest 203 = .ok (.ldc2_w 294, 3) := by decide +kernel
theorem dX8_digest_206 : decode cX8_digest 206 = .ok (.lload_n 1, 1) := by decide +kernel
theorem dX8_digest_207 : decode cX8_digest 207 = .ok (.lmul, 1) := by decide +kernel
theorem dX8_digest_208 : decode cX8_digest 208 = .ok (.aload_n 0, 1) := by decide +kernel
theorem dX8_digest_209 : decode cX8_digest 209 = .ok (.iload 4, 2) := by decide +kernel
theorem dX8_digest_211 : decode cX8_digest 211 = .ok (.invokevirtual 321, 3) := by decide +kernel
theorem dX8_digest_214 : decode cX8_digest 214 = .ok (.i2l, 1) := by decide +kernel
theorem dX8_digest_215 : decode cX8_digest 215 = .ok (.ladd, 1) := by decide +kernel
theorem dX8_digest_216 : decode cX8_digest 216 = .ok (.lstore_n 1, 1) := by decide +kernel
theorem dX8_digest_217 : decode cX8_digest 217 = .ok (.ldc2_w 294, 3) := by decide +kernel
theorem dX8_digest_220 : decode cX8_digest 220 = .ok (.lload_n 1, 1) := by decide +kernel
theorem dX8_digest_221 : decode cX8_digest 221 = .ok (.lmul, 1) := by decide +kernel
theorem dX8_digest_222 : decode cX8_digest 222 = .ok (.aload_n 0, 1) := by decide +kernel
theorem dX8_digest_223 : decode cX8_digest 223 = .ok (.iload 4, 2) := by decide +kernel
theorem dX8_digest_225 : decode cX8_digest 225 = .ok (.iconst 2, 1) := by decide +kernel
theorem dX8_digest_226 : decode cX8_digest 226 = .ok (.invokevirtual 324, 3) := by decide +kernel
theorem dX8_digest_229 : decode cX8_digest 229 = .ok (.i2l, 1) := by decide +kernel
theorem dX8_digest_230 : decode cX8_digest 230 = .ok (.ladd, 1) := by decide +kernel
theorem dX8_digest_231 : decode cX8_digest 231 = .ok (.lstore_n 1, 1) := by decide +kernel
theorem dX8_digest_232 : decode cX8_digest 232 = .ok (.ldc2_w 294, 3) := by decide +kernel
theorem dX8_digest_235 : decode cX8_digest 235 = .ok (.lload_n 1, 1) := by decide +kernel
theorem dX8_digest_236 : decode cX8_digest 236 = .ok (.lmul, 1) := by decide +kernel
theorem dX8_digest_237 : decode cX8_digest 237 = .ok (.aload_n 0, 1) := by decide +kernel
theorem dX8_digest_238 : decode cX8_digest 238 = .ok (.iload 4, 2) := by decide +kernel
theorem dX8_digest_240 : decode cX8_digest 240 = .ok (.invokevirtual 327, 3) := by decide +kernel
theorem dX8_digest_243 : decode cX8_digest 243 = .ok (.i2l, 1) := by decide +kernel
theorem dX8_digest_244 : decode cX8_digest 244 = .ok (.ladd, 1) := by decide +kernel
theorem dX8_digest_245 : decode cX8_digest 245 = .ok (.lstore_n 1, 1) := by decide +kernel
theorem dX8_digest_246 : decode cX8_digest 246 = .ok (.ldc2_w 294, 3) := by decide +kernel
theorem dX8_digest_249 : decode cX8_digest 249 = .ok (.lload_n 1, 1) := by decide +kernel
theorem dX8_digest_250 : decode cX8_digest 250 = .ok (.lmul, 1) := by decide +kernel
theorem dX8_digest_251 : decode cX8_digest 251 = .ok (.aload_n 0, 1) := by decide +kernel
theorem dX8_digest_252 : decode cX8_digest 252 = .ok (.iload 4, 2) := by decide +kernel
theorem dX8_digest_254 : decode cX8_digest 254 = .ok (.bipush 20, 2) := by decide +kernel
theorem dX8_digest_256 : decode cX8_digest 256 = .ok (.iconst 0, 1) := by decide +kernel
theorem dX8_digest_257 : decode cX8_digest 257 = .ok (.invokevirtual 330, 3) := by decide +kernel
theorem dX8_digest_260 : decode cX8_digest 260 = .ok (.i2l, 1) := by decide +kernel
theorem dX8_digest_261 : decode cX8_digest 261 = .ok (.ladd, 1) := by decide +kernel
theorem dX8_digest_262 : decode cX8_digest 262 = .ok (.lstore_n 1, 1) := by decide +kernel
theorem dX8_digest_263 : decode cX8_digest 263 = .ok (.ldc2_w 294, 3) := by decide +kernel
theorem dX8_digest_266 : decode cX8_digest 266 = .ok (.lload_n 1, 1) := by decide +kernel
theorem dX8_digest_267 : decode cX8_digest 267 = .ok (.lmul, 1) := by decide +kernel
theorem dX8_digest_268 : decode cX8_digest 268 = .ok (.aload_n 0, 1) := by decide +kernel
theorem dX8_digest_269 : decode cX8_digest 269 = .ok (.iload 4, 2) := by decide +kernel
theorem dX8_digest_271 : decode cX8_digest 271 = .ok (.bipush 20, 2) := by decide +kernel
theorem dX8_digest_273 : decode cX8_digest 273 = .ok (.iconst 1, 1) := by decide +kernel
theorem dX8_digest_274 : decode cX8_digest 274 = .ok (.invokevirtual 330, 3) := by decide +kernel
theorem dX8_digest_277 : decode cX8_digest 277 = .ok (.i2l, 1) := by decide +kernel
theorem dX8_digest_278 : decode cX8_digest 278 = .ok (.ladd, 1) := by decide +kernel
theorem dX8_digest_279 : decode cX8_digest 279 = .ok (.lstore_n 1, 1) := by decide +kernel
theorem dX8_digest_280 : decode cX8_digest 280 = .ok (.ldc2_w 294, 3) := by decide +kernel
theorem dX8_digest_283 : decode cX8_digest 283 = .ok (.lload_n 1, 1) := by decide +kernel
theorem dX8_digest_284 : decode cX8_digest 284 = .ok (.lmul, 1) := by decide +kernel
theorem dX8_digest_285 : decode cX8_digest 285 = .ok (.aload_n 0, 1) := by decide +kernel
theorem dX8_digest_286 : decode cX8_digest 286 = .ok (.iload 4, 2) := by decide +kernel
theorem dX8_digest_288 : decode cX8_digest 288 = .ok (.invokevirtual 333, 3) := by decide +kernel
theorem dX8_digest_291 : decode cX8_digest 291 = .ok (.i2l, 1) := by decide +kernel
theorem dX8_digest_292 : decode cX8_digest 292 = .ok (.ladd, 1) := by decide +kernel
theorem dX8_digest_293 : decode cX8_digest 293 = .ok (.lstore_n 1, 1) := by decide +kernel
theorem dX8_digest_294 : decode cX8_digest 294 = .ok (.ldc2_w 294, 3) := by decide +kernel
theorem dX8_digest_297 : decode cX8_digest 297 = .ok (.lload_n 1, 1) := by decide +kernel
theorem dX8_digest_298 : decode cX8_digest 298 = .ok (.lmul, 1) := by decide +kernel
theorem dX8_digest_299 : decode cX8_digest 299 = .ok (.aload_n 0, 1) := by decide +kernel
theorem dX8_digest_300 : decode cX8_digest 300 = .ok (.iload 4, 2) := by decide +kernel
theorem dX8_digest_302 : decode cX8_digest 302 = .ok (.invokevirtual 336, 3) := by decide +kernel
theorem dX8_digest_305 : decode cX8_digest 305 = .ok (.i2l, 1) := by decide +kernel
theorem dX8_digest_306 : decode cX8_digest 306 = .ok (.ladd, 1) := by decide +kernel
theorem dX8_digest_307 : decode cX8_digest 307 = .ok (.lstore_n 1, 1) := by decide +kernel
theorem dX8_digest_308 : decode cX8_digest 308 = .ok (.ldc2_w 294, 3) := by decide +kernel
theorem dX8_digest_311 : decode cX8_digest 311 = .ok (.lload_n 1, 1) := by decide +kernel
theorem dX8_digest_312 : decode cX8_digest 312 = .ok (.lmul, 1) := by decide +kernel
theorem dX8_digest_313 : decode cX8_digest 313 = .ok (.aload_n 0, 1) := by decide +kernel
theorem dX8_digest_314 : decode cX8_digest 314 = .ok (.iload 4, 2) := by decide +kernel
theorem dX8_digest_316 : decode cX8_digest 316 = .ok (.invokevirtual 339, 3) := by decide +kernel
theorem dX8_digest_319 : decode cX8_digest 319 = .ok (.i2l, 1) := by decide +kernel
theorem dX8_digest_320 : decode cX8_digest 320 = .ok (.ladd, 1) := by decide +kernel
theorem dX8_digest_321 : decode cX8_digest 321 = .ok (.lstore_n 1, 1) := by decide +kernel
theorem dX8_digest_322 : decode cX8_digest 322 = .ok (.ldc2_w 294, 3) := by decide +kernel
theorem dX8_digest_325 : decode cX8_digest 325 = .ok (.lload_n 1, 1) := by decide +kernel
theorem dX8_digest_326 : decode cX8_digest 326 = .ok (.lmul, 1) := by decide +kernel
theorem dX8_digest_327 : decode cX8_digest 327 = .ok (.aload_n 0, 1) := by decide +kernel
theorem dX8_digest_328 : decode cX8_digest 328 = .ok (.iload 4, 2) := by decide +kernel
theorem dX8_digest_330 : decode cX8_digest 330 = .ok (.invokevirtual 342, 3) := by decide +kernel
theorem dX8_digest_333 : decode cX8_digest 333 = .ok (.i2l, 1) := by decide +kernel
theorem dX8_digest_334 : decode cX8_digest 334 = .ok (.ladd, 1) := by decide +kernel
theorem dX8_digest_335 : decode cX8_digest 335 = .ok (.lstore_n 1, 1) := by decide +kernel
theorem dX8_digest_336 : decode cX8_digest 336 = .ok (.ldc2_w 294, 3) := by decide +kernel
theorem dX8_digest_339 : decode cX8_digest 339 = .ok (.lload_n 1, 1) := by decide +kernel
theorem dX8_digest_340 : decode cX8_digest 340 = .ok (.lmul, 1) := by decide +kernel
theorem dX8_digest_341 : decode cX8_digest 341 = .ok (.aload_n 0, 1) := by decide +kernel
theorem dX8_digest_342 : decode cX8_digest 342 = .ok (.iload 4, 2) := by decide +kernel
theorem dX8_digest_344 : decode cX8_digest 344 = .ok (.iconst 0, 1) := by decide +kernel
theorem dX8_digest_345 : decode cX8_digest 345 = .ok (.invokevirtual 345, 3) := by decide +kernel
theorem dX8_digest_348 : decode cX8_digest 348 = .ok (.ladd, 1) := by decide +kernel
theorem dX8_digest_349 : decode cX8_digest 349 = .ok (.lstore_n 1, 1) := by decide +kernel
theorem dX8_digest_350 : decode cX8_digest 350 = .ok (.ldc2_w 294, 3) := by decide +kernel
theorem dX8_digest_353 : decode cX8_digest 353 = .ok (.lload_n 1, 1) := by decide +kernel
theorem dX8_digest_354 : decode cX8_digest 354 = .ok (.lmul, 1) := by decide +kernel
theorem dX8_digest_355 : decode cX8_digest 355 = .ok (.aload_n 0, 1) := by decide +kernel
theorem dX8_digest_356 : decode cX8_digest 356 = .ok (.iload 4, 2) := by decide +kernel
theorem dX8_digest_358 : decode cX8_digest 358 = .ok (.iconst 1, 1) := by decide +kernel
theorem dX8_digest_359 : decode cX8_digest 359 = .ok (.invokevirtual 345, 3) := by decide +kernel
theorem dX8_digest_362 : decode cX8_digest 362 = .ok (.ladd, 1) := by decide +kernel
theorem dX8_digest_363 : decode cX8_digest 363 = .ok (.lstore_n 1, 1) := by decide +kernel
theorem dX8_digest_364 : decode cX8_digest 364 = .ok (.ldc2_w 294, 3) := by decide +kernel
theorem dX8_digest_367 : decode cX8_digest 367 = .ok (.lload_n 1, 1) := by decide +kernel
theorem dX8_digest_368 : decode cX8_digest 368 = .ok (.lmul, 1) := by decide +kernel
theorem dX8_digest_369 : decode cX8_digest 369 = .ok (.aload_n 0, 1) := by decide +kernel
theorem dX8_digest_370 : decode cX8_digest 370 = .ok (.iload 4, 2) := by decide +kernel
theorem dX8_digest_372 : decode cX8_digest 372 = .ok (.bipush 30, 2) := by decide +kernel
theorem dX8_digest_374 : decode cX8_digest 374 = .ok (.invokevirtual 203, 3) := by decide +kernel
theorem dX8_digest_377 : decode cX8_digest 377 = .ok (.i2l, 1) := by decide +kernel
theorem dX8_digest_378 : decode cX8_digest 378 = .ok (.ladd, 1) := by decide +kernel
theorem dX8_digest_379 : decode cX8_digest 379 = .ok (.lstore_n 1, 1) := by decide +kernel
theorem dX8_digest_380 : decode cX8_digest 380 = .ok (.ldc2_w 294, 3) := by decide +kernel
theorem dX8_digest_383 : decode cX8_digest 383 = .ok (.lload_n 1, 1) := by decide +kernel
theorem dX8_digest_384 : decode cX8_digest 384 = .ok (.lmul, 1) := by decide +kernel
theorem dX8_digest_385 : decode cX8_digest 385 = .ok (.aload_n 0, 1) := by decide +kernel
theorem dX8_digest_386 : decode cX8_digest 386 = .ok (.iload 4, 2) := by decide +kernel
theorem dX8_digest_388 : decode cX8_digest 388 = .ok (.bipush 30, 2) := by decide +kernel
theorem dX8_digest_390 : decode cX8_digest 390 = .ok (.invokevirtual 349, 3) := by decide +kernel
theorem dX8_digest_393 : decode cX8_digest 393 = .ok (.i2l, 1) := by decide +kernel
theorem dX8_digest_394 : decode cX8_digest 394 = .ok (.ladd, 1) := by decide +kernel
theorem dX8_digest_395 : decode cX8_digest 395 = .ok (.lstore_n 1, 1) := by decide +kernel
theorem dX8_digest_396 : decode cX8_digest 396 = .ok (.ldc2_w 294, 3) := by decide +kernel
theorem dX8_digest_399 : decode cX8_digest 399 = .ok (.lload_n 1, 1) := by decide +kernel
theorem dX8_digest_400 : decode cX8_digest 400 = .ok (.lmul, 1) := by decide +kernel
theorem dX8_digest_401 : decode cX8_digest 401 = .ok (.aload_n 0, 1) := by decide +kernel
theorem dX8_digest_402 : decode cX8_digest 402 = .ok (.iload 4, 2) := by decide +kernel
theorem dX8_digest_404 : decode cX8_digest 404 = .ok (.bipush 30, 2) := by decide +kernel
theorem dX8_digest_406 : decode cX8_digest 406 = .ok (.iconst 0, 1) := by decide +kernel
theorem dX8_digest_407 : decode cX8_digest 407 = .ok (.invokevirtual 352, 3) := by decide +kernel
theorem dX8_digest_410 : decode cX8_digest 410 = .ok (.i2l, 1) := by decide +kernel
theorem dX8_digest_411 : decode cX8_digest 411 = .ok (.ladd, 1) := by decide +kernel
theorem dX8_digest_412 : decode cX8_digest 412 = .ok (.lstore_n 1, 1) := by decide +kernel
theorem dX8_digest_413 : decode cX8_digest 413 = .ok (.ldc2_w 294, 3) := by decide +kernel
theorem dX8_digest_416 : decode cX8_digest 416 = .ok (.lload_n 1, 1) := by decide +kernel
theorem dX8_digest_417 : decode cX8_digest 417 = .ok (.lmul, 1) := by decide +kernel
theorem dX8_digest_418 : decode cX8_digest 418 = .ok (.aload_n 0, 1) := by decide +kernel
theorem dX8_digest_419 : decode cX8_digest 419 = .ok (.iload 4, 2) := by decide +kernel
theorem dX8_digest_421 : decode cX8_digest 421 = .ok (.bipush 30, 2) := by decide +kernel
theorem dX8_digest_423 : decode cX8_digest 423 = .ok (.iconst 1, 1) := by decide +kernel
theorem dX8_digest_424 : decode cX8_digest 424 = .ok (.invokevirtual 352, 3) := by decide +kernel
theorem dX8_digest_427 : decode cX8_digest 427 = .ok (.i2l, 1) := by decide +kernel
theorem dX8_digest_428 : decode cX8_digest 428 = .ok (.ladd, 1) := by decide +kernel
theorem dX8_digest_429 : decode cX8_digest 429 = .ok (.lstore_n 1, 1) := by decide +kernel
theorem dX8_digest_430 : decode cX8_digest 430 = .ok (.ldc2_w 294, 3) := by decide +kernel
theorem dX8_digest_433 : decode cX8_digest 433 = .ok (.lload_n 1, 1) := by decide +kernel
theorem dX8_digest_434 : decode cX8_digest 434 = .ok (.lmul, 1) := by decide +kernel
theorem dX8_digest_435 : decode cX8_digest 435 = .ok (.aload_n 0, 1) := by decide +kernel
theorem dX8_digest_436 : decode cX8_digest 436 = .ok (.iload 4, 2) := by decide +kernel
theorem dX8_digest_438 : decode cX8_digest 438 = .ok (.bipush 30, 2) := by decide +kernel
theorem dX8_digest_440 : decode cX8_digest 440 = .ok (.invokevirtual 355, 3) := by decide +kernel
theorem dX8_digest_443 : decode cX8_digest 443 = .ok (.i2l, 1) := by decide +kernel
theorem dX8_digest_444 : decode cX8_digest 444 = .ok (.ladd, 1) := by decide +kernel
theorem dX8_digest_445 : decode cX8_digest 445 = .ok (.lstore_n 1, 1) := by decide +kernel
theorem dX8_digest_446 : decode cX8_digest 446 = .ok (.iinc 3 1, 3) := by decide +kernel
theorem dX8_digest_449 : decode cX8_digest 449 = .ok (.goto (-289), 3) := by decide +kernel
theorem dX8_digest_452 : decode cX8_digest 452 = .ok (.ldc2_w 294, 3) := by decide +kernel
theorem dX8_digest_455 : decode cX8_digest 455 = .ok (.lload_n 1, 1) := by decide +kernel
theorem dX8_digest_456 : decode cX8_digest 456 = .ok (.lmul, 1) := by decide +kernel
theorem dX8_digest_457 : decode cX8_digest 457 = .ok (.aload_n 0, 1) := by decide +kernel
theorem dX8_digest_458 : decode cX8_digest 458 = .ok (.invokevirtual 358, 3) := by decide +kernel
theorem dX8_digest_461 : decode cX8_digest 461 = .ok (.i2l, 1) := by decide +kernel
theorem dX8_digest_462 : decode cX8_digest 462 = .ok (.ladd, 1) := by decide +kernel
theorem dX8_digest_463 : decode cX8_digest 463 = .ok (.lstore_n 1, 1) := by decide +kernel
theorem dX8_digest_464 : decode cX8_digest 464 = .ok (.ldc2_w 294, 3) := by decide +kernel
theorem dX8_digest_467 : decode cX8_digest 467 = .ok (.lload_n 1, 1) := by decide +kernel
theorem dX8_digest_468 : decode cX8_digest 468 = .ok (.lmul, 1) := by decide +kernel
theorem dX8_digest_469 : decode cX8_digest 469 = .ok (.aload_n 0, 1) := by decide +kernel
theorem dX8_digest_470 : decode cX8_digest 470 = .ok (.bipush 7, 2) := by decide +kernel
theorem dX8_digest_472 : decode cX8_digest 472 = .ok (.iconst 5, 1) := by decide +kernel
theorem dX8_digest_473 : decode cX8_digest 473 = .ok (.invokevirtual 361, 3) := by decide +kernel
theorem dX8_digest_476 : decode cX8_digest 476 = .ok (.i2l, 1) := by decide +kernel
theorem dX8_digest_477 : decode cX8_digest 477 = .ok (.ladd, 1) := by decide +kernel
theorem dX8_digest_478 : decode cX8_digest 478 = .ok (.lreturn, 1) := by decide +kernel
theorem dX8_textOf_0 : decode cX8_textOf 0 = .ok (.iload_n 1, 1) := by decide +kernel
theorem dX8_textOf_1 : decode cX8_textOf 1 = .ok (.ifCond .ne 8, 3) := by decide +kernel
theorem dX8_textOf_4 : decode cX8_textOf 4 = .ok (.aload_n 0, 1) := by decide +kernel
theorem dX8_textOf_5 : decode cX8_textOf 5 = .ok (.getfield 16, 3) := by decide +kernel
theorem dX8_textOf_8 : decode cX8_textOf 8 = .ok (.areturn, 1) := by decide +kernel
theorem dX8_textOf_9 : decode cX8_textOf 9 = .ok (.iload_n 1, 1) := by decide +kernel
theorem dX8_textOf_10 : decode cX8_textOf 10 = .ok (.iconst 1, 1) := by decide +kernel
theorem dX8_textOf_11 : decode cX8_textOf 11 = .ok (.if_icmp .ne 10, 3) := by decide +kernel
theorem dX8_textOf_14 : decode cX8_textOf 14 = .ok (.aload_n 0, 1) := by decide +kernel
theorem dX8_textOf_15 : decode cX8_textOf 15 = .ok (.getfield 20, 3) := by decide +kernel
theorem dX8_textOf_18 : decode cX8_textOf 18 = .ok (.goto 4, 3) := by decide +kernel
theorem dX8_textOf_21 : decode cX8_textOf 21 = .ok (.aconst_null, 1) := by decide +kernel
theorem dX8_textOf_22 : decode cX8_textOf 22 = .ok (.areturn, 1) := by decide +kernel
theorem dX8_takeUpTexts_0 : decode cX8_takeUpTexts 0 = .ok (.aload_n 0, 1) := by decide +kernel
theorem dX8_takeUpTexts_1 : decode cX8_takeUpTexts 1 = .ok (.getfield 28, 3) := by decide +kernel
theorem dX8_takeUpTexts_4 : decode cX8_takeUpTexts 4 = .ok (.invokevirtual 364, 3) := by decide +kernel
theorem dX8_takeUpTexts_7 : decode cX8_takeUpTexts 7 = .ok (.aload_n 0, 1) := by decide +kernel
theorem dX8_takeUpTexts_8 : decode cX8_takeUpTexts 8 = .ok (.getfield 35, 3) := by decide +kernel
theorem dX8_takeUpTexts_11 : decode cX8_takeUpTexts 11 = .ok (.invokevirtual 367, 3) := by decide +kernel
theorem dX8_takeUpTexts_14 : decode cX8_takeUpTexts 14 = .ok (.return_, 1) := by decide +kernel
theorem dX8_sheetOf_0 : decode cX8_sheetOf 0 = .ok (.iload_n 1, 1) := by decide +kernel
theorem dX8_sheetOf_1 : decode cX8_sheetOf 1 = .ok (.ifCond .lt 21, 3) := by decide +kernel
theorem dX8_sheetOf_4 : decode cX8_sheetOf 4 = .ok (.iload_n 1, 1) := by decide +kernel
theorem dX8_sheetOf_5 : decode cX8_sheetOf 5 = .ok (.aload_n 0, 1) := by decide +kernel
theorem dX8_sheetOf_6 : decode cX8_sheetOf 6 = .ok (.getfield 71, 3) := by decide +kernel
theorem dX8_sheetOf_9 : decode cX8_sheetOf 9 = .ok (.arraylength, 1) := by decide +kernel
theorem dX8_sheetOf_10 : decode cX8_sheetOf 10 = .ok (.if_icmp .ge 12, 3) := by decide +kernel
theorem dX8_sheetOf_13 : decode cX8_sheetOf 13 = .ok (.aload_n 0, 1) := by decide +kernel
theorem dX8_sheetOf_14 : decode cX8_sheetOf 14 = .ok (.getfield 71, 3) := by decide +kernel
theorem dX8_sheetOf_17 : decode cX8_sheetOf 17 = .ok (.iload_n 1, 1) := by decide +kernel
theorem dX8_sheetOf_18 : decode cX8_sheetOf 18 = .ok (.aaload, 1) := by decide +kernel
theorem dX8_sheetOf_19 : decode cX8_sheetOf 19 = .ok (.goto 4, 3) := by decide +kernel
theorem dX8_sheetOf_22 : decode cX8_sheetOf 22 = .ok (.aconst_null, 1) := by decide +kernel
theorem dX8_sheetOf_23 : decode cX8_sheetOf 23 = .ok (.areturn, 1) := by decide +kernel
theorem dX8_isSwell_0 : decode cX8_isSwell 0 = .ok (.iload_n 1, 1) := by decide +kernel
theorem dX8_isSwell_1 : decode cX8_isSwell 1 = .ok (.ifCond .lt 18, 3) := by decide +kernel
theorem dX8_isSwell_4 : decode cX8_isSwell 4 = .ok (.iload_n 1, 1) := by decide +kernel
theorem dX8_isSwell_5 : decode cX8_isSwell 5 = .ok (.aload_n 0, 1) := by decide +kernel
theorem dX8_isSwell_6 : decode cX8_isSwell 6 = .ok (.getfield 16, 3) := by decide +kernel
theorem dX8_isSwell_9 : decode cX8_isSwell 9 = .ok (.getfield 115, 3) := by decide +kernel
theorem dX8_isSwell_12 : decode cX8_isSwell 12 = .ok (.if_icmp .ge 7, 3) := by decide +kernel
theorem dX8_isSwell_15 : decode cX8_isSwell 15 = .ok (.iconst 1, 1) := by decide +kernel
theorem dX8_isSwell_16 : decode cX8_isSwell 16 = .ok (.goto 4, 3) := by decide +kernel
theorem dX8_isSwell_19 : decode cX8_isSwell 19 = .ok (.iconst 0, 1) := by decide +kernel
theorem dX8_isSwell_20 : decode cX8_isSwell 20 = .ok (.ireturn, 1) := by decide +kernel
theorem dX8_isEither_0 : decode cX8_isEither 0 = .ok (.iload_n 0, 1) := by decide +kernel
theorem dX8_isEither_1 : decode cX8_isEither 1 = .ok (.ifCond .eq 8, 3) := by decide +kernel
theorem dX8_isEither_4 : decode cX8_isEither 4 = .ok (.iload_n 0, 1) := by decide +kernel
theorem dX8_isEither_5 : decode cX8_isEither 5 = .ok (.iconst 1, 1) := by decide +kernel
theorem dX8_isEither_6 : decode cX8_isEither 6 = .ok (.if_icmp .ne 7, 3) := by decide +kernel
theorem dX8_isEither_9 : decode cX8_isEither 9 = .ok (.iconst 1, 1) := by decide +kernel
theorem dX8_isEither_10 : decode cX8_isEither 10 = .ok (.goto 4, 3) := by decide +kernel
theorem dX8_isEither_13 : decode cX8_isEither 13 = .ok (.iconst 0, 1) := by decide +kernel
theorem dX8_isEither_14 : decode cX8_isEither 14 = .ok (.ireturn, 1) := by decide +kernel
theorem dX8_isTenth_0 : decode cX8_isTenth 0 = .ok (.iload_n 0, 1) := by decide +kernel
theorem dX8_isTenth_1 : decode cX8_isTenth 1 = .ok (.ifCond .lt 14, 3) := by decide +kernel
theorem dX8_isTenth_4 : decode cX8_isTenth 4 = .ok (.iload_n 0, 1) := by decide +kernel
theorem dX8_isTenth_5 : decode cX8_isTenth 5 = .ok (.sipush 399, 3) := by decide +kernel
theorem dX8_isTenth_8 : decode cX8_isTenth 8 = .ok (.if_icmp .gt 7, 3) := by decide +kernel
theorem dX8_isTenth_11 : decode cX8_isTenth 11 = .ok (.iconst 1, 1) := by decide +kernel
theorem dX8_isTenth_12 : decode cX8_isTenth 12 = .ok (.goto 4, 3) := by decide +kernel
theorem dX8_isTenth_15 : decode cX8_isTenth 15 = .ok (.iconst 0, 1) := by decide +kernel
theorem dX8_isTenth_16 : decode cX8_isTenth 16 = .ok (.ireturn, 1) := by decide +kernel
theorem dX8_isSpan_0 : decode cX8_isSpan 0 = .ok (.iload_n 0, 1) := by decide +kernel
theorem dX8_isSpan_1 : decode cX8_isSpan 1 = .ok (.iconst 1, 1) := by decide +kernel
theorem dX8_isSpan_2 : decode cX8_isSpan 2 = .ok (.if_icmp .lt 13, 3) := by decide +kernel
theorem dX8_isSpan_5 : decode cX8_isSpan 5 = .ok (.iload_n 0, 1) := by decide +kernel
theorem dX8_isSpan_6 : decode cX8_isSpan 6 = .ok (.bipush 100, 2) := by decide +kernel
theorem dX8_isSpan_8 : decode cX8_isSpan 8 = .ok (.if_icmp .gt 7, 3) := by decide +kernel
theorem dX8_isSpan_11 : decode cX8_isSpan 11 = .ok (.iconst 1, 1) := by decide +kernel
theorem dX8_isSpan_12 : decode cX8_isSpan 12 = .ok (.goto 4, 3) := by decide +kernel
theorem dX8_isSpan_15 : decode cX8_isSpan 15 = .ok (.iconst 0, 1) := by decide +kernel
theorem dX8_isSpan_16 : decode cX8_isSpan 16 = .ok (.ireturn, 1) := by decide +kernel
theorem dX8_isForm_0 : decode cX8_isForm 0 = .ok (.iload_n 0, 1) := by decide +kernel
theorem dX8_isForm_1 : decode cX8_isForm 1 = .ok (.ifCond .eq 13, 3) := by decide +kernel
theorem dX8_isForm_4 : decode cX8_isForm 4 = .ok (.iload_n 0, 1) := by decide +kernel
theorem dX8_isForm_5 : decode cX8_isForm 5 = .ok (.iconst 1, 1) := by decide +kernel
theorem dX8_isForm_6 : decode cX8_isForm 6 = .ok (.if_icmp .eq 8, 3) := by decide +kernel
theorem dX8_isForm_9 : decode cX8_isForm 9 = .ok (.iload_n 0, 1) := by decide +kernel
theorem dX8_isForm_10 : decode cX8_isForm 10 = .ok (.iconst 2, 1) := by decide +kernel
theorem dX8_isForm_11 : decode cX8_isForm 11 = .ok (.if_icmp .ne 7, 3) := by decide +kernel
theorem dX8_isForm_14 : decode cX8_isForm 14 = .ok (.iconst 1, 1) := by decide +kernel
theorem dX8_isForm_15 : decode cX8_isForm 15 = .ok (.goto 4, 3) := by decide +kernel
theorem dX8_isForm_18 : decode cX8_isForm 18 = .ok (.iconst 0, 1) := by decide +kernel
theorem dX8_isForm_19 : decode cX8_isForm 19 = .ok (.ireturn, 1) := by decide +kernel
theorem dX8_spanEnd_0 : decode cX8_spanEnd 0 = .ok (.sipush 400, 3) := by decide +kernel
theorem dX8_spanEnd_3 : decode cX8_spanEnd 3 = .ok (.iload_n 0, 1) := by decide +kernel
theorem dX8_spanEnd_4 : decode cX8_spanEnd 4 = .ok (.iload_n 1, 1) := by decide +kernel
theorem dX8_spanEnd_5 : decode cX8_spanEnd 5 = .ok (.iadd, 1) := by decide +kernel
theorem dX8_spanEnd_6 : decode cX8_spanEnd 6 = .ok (.invokestatic 216, 3) := by decide +kernel
theorem dX8_spanEnd_9 : decode cX8_spanEnd 9 = .ok (.ireturn, 1) := by decide +kernel
theorem dX8_find_0 : decode cX8_find 0 = .ok (.aload_n 0, 1) := by decide +kernel
theorem dX8_find_1 : decode cX8_find 1 = .ok (.iload_n 1, 1) := by decide +kernel
theorem dX8_find_2 : decode cX8_find 2 = .ok (.putfield 289, 3) := by decide +kernel
theorem dX8_find_5 : decode cX8_find 5 = .ok (.bipush (-10), 2) := by decide +kernel
theorem dX8_find_7 : decode cX8_find 7 = .ok (.iload_n 1, 1) := by decide +kernel
theorem dX8_find_8 : decode cX8_find 8 = .ok (.isub, 1) := by decide +kernel
theorem dX8_find_9 : decode cX8_find 9 = .ok (.ireturn, 1) := by decide +kernel
theorem dX8_stepAt_0 : decode cX8_stepAt 0 = .ok (.aload_n 0, 1) := by decide +kernel
theorem dX8_stepAt_1 : decode cX8_stepAt 1 = .ok (.getfield 42, 3) := by decide +kernel
theorem dX8_stepAt_4 : decode cX8_stepAt 4 = .ok (.iconst 0, 1) := by decide +kernel
theorem dX8_stepAt_5 : decode cX8_stepAt 5 = .ok (.invokevirtual 140, 3) := by decide +kernel
theorem dX8_stepAt_8 : decode cX8_stepAt 8 = .ok (.aload_n 0, 1) := by decide +kernel
theorem dX8_stepAt_9 : decode cX8_stepAt 9 = .ok (.getfield 28, 3) := by decide +kernel
theorem dX8_stepAt_12 : decode cX8_stepAt 12 = .ok (.iload_n 1, 1) := by decide +kernel
theorem dX8_stepAt_13 : decode cX8_stepAt 13 = .ok (.invokevirtual 146, 3) := by decide +kernel
theorem dX8_stepAt_16 : decode cX8_stepAt 16 = .ok (.isub, 1) := by decide +kernel
theorem dX8_stepAt_17 : decode cX8_stepAt 17 = .ok (.aload_n 0, 1) := by decide +kernel
theorem dX8_stepAt_18 : decode cX8_stepAt 18 = .ok (.getfield 42, 3) := by decide +kernel
theorem dX8_stepAt_21 : decode cX8_stepAt 21 = .ok (.iconst 3, 1) := by decide +kernel
theorem dX8_stepAt_22 : decode cX8_stepAt 22 = .ok (.invokevirtual 140, 3) := by decide +kernel
theorem dX8_stepAt_25 : decode cX8_stepAt 25 = .ok (.if_icmp .le 5, 3) := by decide +kernel
theorem dX8_stepAt_28 : decode cX8_stepAt 28 = .ok (.iconst 4, 1) := by decide +kernel
theorem dX8_stepAt_29 : decode cX8_stepAt 29 = .ok (.ireturn, 1) := by decide +kernel
theorem dX8_stepAt_30 : decode cX8_stepAt 30 = .ok (.aload_n 0, 1) := by decide +kernel
theorem dX8_stepAt_31 : decode cX8_stepAt 31 = .ok (.getfield 28, 3) := by decide +kernel
theorem dX8_stepAt_34 : decode cX8_stepAt 34 = .ok (.iload_n 1, 1) := by decide +kernel
theorem dX8_stepAt_35 : decode cX8_stepAt 35 = .ok (.invokevirtual 149, 3) := by decide +kernel
theorem dX8_stepAt_38 : decode cX8_stepAt 38 = .ok (.tableswitch 32 1 3 #[26, 28, 30], 26) := by decide +kernel
theorem dX8_stepAt_64 : decode cX8_stepAt 64 = .ok (.iconst 1, 1) := by decide +kernel
theorem dX8_stepAt_65 : decode cX8_stepAt 65 = .ok (.ireturn, 1) := by decide +kernel
theorem dX8_stepAt_66 : decode cX8_stepAt 66 = .ok (.iconst 2, 1) := by decide +kernel
theorem dX8_stepAt_67 : decode cX8_stepAt 67 = .ok (.ireturn, 1) := by decide +kernel
theorem dX8_stepAt_68 : decode cX8_stepAt 68 = .ok (.iconst 3, 1) := by decide +kernel
theorem dX8_stepAt_69 : decode cX8_stepAt 69 = .ok (.ireturn, 1) := by decide +kernel
theorem dX8_stepAt_70 : decode cX8_stepAt 70 = .ok (.iconst 0, 1) := by decide +kernel
theorem dX8_stepAt_71 : decode cX8_stepAt 71 = .ok (.ireturn, 1) := by decide +kernel
theorem dX8_oddsToFall_0 : decode cX8_oddsToFall 0 = .ok (.aload_n 0, 1) := by decide +kernel
theorem dX8_oddsToFall_1 : decode cX8_oddsToFall 1 = .ok (.iload_n 1, 1) := by decide +kernel
theorem dX8_oddsToFall_2 : decode cX8_oddsToFall 2 = .ok (.invokevirtual 173, 3) := by decide +kernel
theorem dX8_oddsToFall_5 : decode cX8_oddsToFall 5 = .ok (.tableswitch 71 1 4 #[34, 46, 58, 31], 31) := by decide +kernel
theorem dX8_oddsToFall_36 : decode cX8_oddsToFall 36 = .ok (.bipush 16, 2) := by decide +kernel
theorem dX8_oddsToFall_38 : decode cX8_oddsToFall 38 = .ok (.ireturn, 1) := by decide +kernel
theorem dX8_oddsToFall_39 : decode cX8_oddsToFall 39 = .ok (.aload_n 0, 1) := by decide +kernel
theorem dX8_oddsToFall_40 : decode cX8_oddsToFall 40 = .ok (.getfield 42, 3) := by decide +kernel
theorem dX8_oddsToFall_43 : decode cX8_oddsToFall 43 = .ok (.iconst 4, 1) := by decide +kernel
theorem dX8_oddsToFall_44 : decode cX8_oddsToFall 44 = .ok (.invokevirtual 140, 3) := by decide +kernel
theorem dX8_oddsToFall_47 : decode cX8_oddsToFall 47 = .ok (.istore_n 2, 1) := by decide +kernel
theorem dX8_oddsToFall_48 : decode cX8_oddsToFall 48 = .ok (.goto 38, 3) := by decide +kernel
theorem dX8_oddsToFall_51 : decode cX8_oddsToFall 51 = .ok (.aload_n 0, 1) := by decide +kernel
theorem dX8_oddsToFall_52 : decode cX8_oddsToFall 52 = .ok (.getfield 42, 3) := by decide +kernel
theorem dX8_oddsToFall_55 : decode cX8_oddsToFall 55 = .ok (.iconst 5, 1) := by decide +kernel
theorem dX8_oddsToFall_56 : decode cX8_oddsToFall 56 = .ok (.invokevirtual 140, 3) := by decide +kernel
theorem dX8_oddsToFall_59 : decode cX8_oddsToFall 59 = .ok (.istore_n 2, 1) := by decide +kernel
theorem dX8_oddsToFall_60 : decode cX8_oddsToFall 60 = .ok (.goto 26, 3) := by decide +kernel
theorem dX8_oddsToFall_63 : decode cX8_oddsToFall 63 = .ok (.aload_n 0, 1) := by decide +kernel
theorem dX8_oddsToFall_64 : decode cX8_oddsToFall 64 = .ok (.getfield 42, 3) := by decide +kernel
theorem dX8_oddsToFall_67 : decode cX8_oddsToFall 67 = .ok (.bipush 6, 2) := by decide +kernel
theorem dX8_oddsToFall_69 : decode cX8_oddsToFall 69 = .ok (.invokevirtual 140, 3) := by decide +kernel
theorem dX8_oddsToFall_72 : decode cX8_oddsToFall 72 = .ok (.istore_n 2, 1) := by decide +kernel
theorem dX8_oddsToFall_73 : decode cX8_oddsToFall 73 = .ok (.goto 13, 3) := by decide +kernel
theorem dX8_oddsToFall_76 : decode cX8_oddsToFall 76 = .ok (.aload_n 0, 1) := by decide +kernel
theorem dX8_oddsToFall_77 : decode cX8_oddsToFall 77 = .ok (.getfield 42, 3) := by decide +kernel
theorem dX8_oddsToFall_80 : decode cX8_oddsToFall 80 = .ok (.bipush 7, 2) := by decide +kernel
theorem dX8_oddsToFall_82 : decode cX8_oddsToFall 82 = .ok (.invokevirtual 140, 3) := by decide +kernel
theorem dX8_oddsToFall_85 : decode cX8_oddsToFall 85 = .ok (.istore_n 2, 1) := by decide +kernel
theorem dX8_oddsToFall_86 : decode cX8_oddsToFall 86 = .ok (.bipush 16, 2) := by decide +kernel
theorem dX8_oddsToFall_88 : decode cX8_oddsToFall 88 = .ok (.iload_n 2, 1) := by decide +kernel
theorem dX8_oddsToFall_89 : decode cX8_oddsToFall 89 = .ok (.aload_n 0, 1) := by decide +kernel
theorem dX8_oddsToFall_90 : decode cX8_oddsToFall 90 = .ok (.getfield 42, 3) := by decide +kernel
theorem dX8_oddsToFall_93 : decode cX8_oddsToFall 93 = .ok (.bipush 9, 2) := by decide +kernel
theorem dX8_oddsToFall_95 : decode cX8_oddsToFall 95 = .ok (.invokevirtual 140, 3) := by decide +kernel
theorem dX8_oddsToFall_98 : decode cX8_oddsToFall 98 = .ok (.iadd, 1) := by decide +kernel
theorem dX8_oddsToFall_99 : decode cX8_oddsToFall 99 = .ok (.invokestatic 216, 3) := by decide +kernel
theorem dX8_oddsToFall_102 : decode cX8_oddsToFall 102 = .ok (.ireturn, 1) := by decide +kernel
theorem dX8_chance_0 : decode cX8_chance 0 = .ok (.aload_n 0, 1) := by decide +kernel
theorem dX8_chance_1 : decode cX8_chance 1 = .ok (.getfield 51, 3) := by decide +kernel
theorem dX8_chance_4 : decode cX8_chance 4 = .ok (.iload_n 1, 1) := by decide +kernel
theorem dX8_chance_5 : decode cX8_chance 5 = .ok (.invokevirtual 179, 3) := by decide +kernel
theorem dX8_chance_8 : decode cX8_chance 8 = .ok (.aload_n 0, 1) := by decide +kernel
theorem dX8_chance_9 : decode cX8_chance 9 = .ok (.getfield 51, 3) := by decide +kernel
theorem dX8_chance_12 : decode cX8_chance 12 = .ok (.getfield 182, 3) := by decide +kernel
theorem dX8_chance_15 : decode cX8_chance 15 = .ok (.iconst (-1), 1) := by decide +kernel
theorem dX8_chance_16 : decode cX8_chance 16 = .ok (.if_icmp .ne 5, 3) := by decide +kernel
theorem dX8_chance_19 : decode cX8_chance 19 = .ok (.lconst 0, 1) := by decide +kernel
theorem dX8_chance_20 : decode cX8_chance 20 = .ok (.lreturn, 1) := by decide +kernel
theorem dX8_chance_21 : decode cX8_chance 21 = .ok (.bipush 16, 2) := by decide +kernel
theorem dX8_chance_23 : decode cX8_chance 23 = .ok (.aload_n 0, 1) := by decide +kernel
theorem dX8_chance_24 : decode cX8_chance 24 = .ok (.iload_n 1, 1) := by decide +kernel
theorem dX8_chance_25 : decode cX8_chance 25 = .ok (.invokevirtual 176, 3) := by decide +kernel
theorem dX8_chance_28 : decode cX8_chance 28 = .ok (.isub, 1) := by decide +kernel
theorem dX8_chance_29 : decode cX8_chance 29 = .ok (.i2l, 1) := by decide +kernel
theorem dX8_chance_30 : decode cX8_chance 30 = .ok (.lstore_n 2, 1) := by decide +kernel
theorem dX8_chance_31 : decode cX8_chance 31 = .ok (.bipush 16, 2) := by decide +kernel
theorem dX8_chance_33 : decode cX8_chance 33 = .ok (.aload_n 0, 1) := by decide +kernel
theorem dX8_chance_34 : decode cX8_chance 34 = .ok (.getfield 42, 3) := by decide +kernel
theorem dX8_chance_37 : decode cX8_chance 37 = .ok (.bipush 8, 2) := by decide +kernel
theorem dX8_chance_39 : decode cX8_chance 39 = .ok (.invokevirtual 140, 3) := by decide +kernel
theorem dX8_chance_42 : decode cX8_chance 42 = .ok (.isub, 1) := by decide +kernel
theorem dX8_chance_43 : decode cX8_chance 43 = .ok (.istore 4, 2) := by decide +kernel
theorem dX8_chance_45 : decode cX8_chance 45 = .ok (.iconst 0, 1) := by decide +kernel
theorem dX8_chance_46 : decode cX8_chance 46 = .ok (.istore 5, 2) := by decide +kernel
theorem dX8_chance_48 : decode cX8_chance 48 = .ok (.iload 5, 2) := by decide +kernel
theorem dX8_chance_50 : decode cX8_chance 50 = .ok (.bipush 12, 2) := by decide +kernel
theorem dX8_chance_52 : decode cX8_chance 52 = .ok (.if_icmp .ge 33, 3) := by decide +kernel
theorem dX8_chance_55 : decode cX8_chance 55 = .ok (.lload_n 2, 1) := by decide +kernel
theorem dX8_chance_56 : decode cX8_chance 56 = .ok (.iload 5, 2) := by decide +kernel
theorem dX8_chance_58 : decode cX8_chance 58 = .ok (.aload_n 0, 1) := by decide +kernel
theorem dX8_chance_59 : decode cX8_chance 59 = .ok (.getfield 51, 3) := by decide +kernel
theorem dX8_chance_62 : decode cX8_chance 62 = .ok (.getfield 185, 3) := by decide +kernel
theorem dX8_chance_65 : decode cX8_chance 65 = .ok (.if_icmp .ge 9, 3) := by decide +kernel
theorem dX8_chance_68 : decode cX8_chance 68 = .ok (.iload 4, 2) := by decide +kernel
theorem dX8_chance_70 : decode cX8_chance 70 = .ok (.i2l, 1) := by decide +kernel
theorem dX8_chance_71 : decode cX8_chance 71 = .ok (.goto 6, 3) := by decide +kernel
theorem dX8_chance_74 : decode cX8_chance 74 = .ok (.ldc2_w 368, 3) := by decide +kernel
theorem dX8_chance_77 : decode cX8_chance 77 = .ok (.lmul, 1) := by decide +kernel
theorem dX8_chance_78 : decode cX8_chance 78 = .ok (.lstore_n 2, 1) := by decide +kernel
theorem dX8_chance_79 : decode cX8_chance 79 = .ok (.iinc 5 1, 3) := by decide +kernel
theorem dX8_chance_82 : decode cX8_chance 82 = .ok (.goto (-34), 3) := by decide +kernel
theorem dX8_chance_85 : decode cX8_chance 85 = .ok (.lload_n 2, 1) := by decide +kernel
theorem dX8_chance_86 : decode cX8_chance 86 = .ok (.lreturn, 1) := by decide +kernel
theorem dX8_distanceToFoot_0 : decode cX8_distanceToFoot 0 = .ok (.aload_n 0, 1) := by decide +kernel
theorem dX8_distanceToFoot_1 : decode cX8_distanceToFoot 1 = .ok (.getfield 28, 3) := by decide +kernel
theorem dX8_distanceToFoot_4 : decode cX8_distanceToFoot 4 = .ok (.iload_n 1, 1) := by decide +kernel
theorem dX8_distanceToFoot_5 : decode cX8_distanceToFoot 5 = .ok (.invokevirtual 146, 3) := by decide +kernel
theorem dX8_distanceToFoot_8 : decode cX8_distanceToFoot 8 = .ok (.aload_n 0, 1) := by decide +kernel
theorem dX8_distanceToFoot_9 : decode cX8_distanceToFoot 9 = .ok (.getfield 42, 3) := by decide +kernel
theorem dX8_distanceToFoot_12 : decode cX8_distanceToFoot 12 = .ok (.iconst 0, 1) := by decide +kernel
theorem dX8_distanceToFoot_13 : decode cX8_distanceToFoot 13 = .ok (.invokevirtual 140, 3) := by decide +kernel
theorem dX8_distanceToFoot_16 : decode cX8_distanceToFoot 16 = .ok (.isub, 1) := by decide +kernel
theorem dX8_distanceToFoot_17 : decode cX8_distanceToFoot 17 = .ok (.invokestatic 370, 3) := by decide +kernel
theorem dX8_distanceToFoot_20 : decode cX8_distanceToFoot 20 = .ok (.ireturn, 1) := by decide +kernel
theorem dX8_allSeenComesOut_0 : decode cX8_allSeenComesOut 0 = .ok (.iconst 0, 1) := by decide +kernel
theorem dX8_allSeenComesOut_1 : decode cX8_allSeenComesOut 1 = .ok (.istore_n 3, 1) := by decide +kernel
theorem dX8_allSeenComesOut_2 : decode cX8_allSeenComesOut 2 = .ok (.iload_n 3, 1) := by decide +kernel
theorem dX8_allSeenComesOut_3 : decode cX8_allSeenComesOut 3 = .ok (.aload_n 0, 1) := by decide +kernel
theorem dX8_allSeenComesOut_4 : decode cX8_allSeenComesOut 4 = .ok (.getfield 58, 3) := by decide +kernel
theorem dX8_allSeenComesOut_7 : decode cX8_allSeenComesOut 7 = .ok (.getfield 224, 3) := by decide +kernel
theorem dX8_allSeenComesOut_10 : decode cX8_allSeenComesOut 10 = .ok (.if_icmp .ge 39, 3) := by decide +kernel
theorem dX8_allSeenComesOut_13 : decode cX8_allSeenComesOut 13 = .ok (.aload_n 0, 1) := by decide +kernel
theorem dX8_allSeenComesOut_14 : decode cX8_allSeenComesOut 14 = .ok (.getfield 28, 3) := by decide +kernel
theorem dX8_allSeenComesOut_17 : decode cX8_allSeenComesOut 17 = .ok (.iload_n 1, 1) := by decide +kernel
theorem dX8_allSeenComesOut_18 : decode cX8_allSeenComesOut 18 = .ok (.iload_n 2, 1) := by decide +kernel
theorem dX8_allSeenComesOut_19 : decode cX8_allSeenComesOut 19 = .ok (.aload_n 0, 1) := by decide +kernel
theorem dX8_allSeenComesOut_20 : decode cX8_allSeenComesOut 20 = .ok (.getfield 58, 3) := by decide +kernel
theorem dX8_allSeenComesOut_23 : decode cX8_allSeenComesOut 23 = .ok (.iload_n 3, 1) := by decide +kernel
theorem dX8_allSeenComesOut_24 : decode cX8_allSeenComesOut 24 = .ok (.invokevirtual 373, 3) := by decide +kernel
theorem dX8_allSeenComesOut_27 : decode cX8_allSeenComesOut 27 = .ok (.invokevirtual 376, 3) := by decide +kernel
theorem dX8_allSeenComesOut_30 : decode cX8_allSeenComesOut 30 = .ok (.aload_n 0, 1) := by decide +kernel
theorem dX8_allSeenComesOut_31 : decode cX8_allSeenComesOut 31 = .ok (.getfield 58, 3) := by decide +kernel
theorem dX8_allSeenComesOut_34 : decode cX8_allSeenComesOut 34 = .ok (.iload_n 3, 1) := by decide +kernel
theorem dX8_allSeenComesOut_35 : decode cX8_allSeenComesOut 35 = .ok (.invokevirtual 379, 3) := by decide +kernel
theorem dX8_allSeenComesOut_38 : decode cX8_allSeenComesOut 38 = .ok (.if_icmp .eq 5, 3) := by decide +kernel
theorem dX8_allSeenComesOut_41 : decode cX8_allSeenComesOut 41 = .ok (.iconst 0, 1) := by decide +kernel
theorem dX8_allSeenComesOut_42 : decode cX8_allSeenComesOut 42 = .ok (.ireturn, 1) := by decide +kernel
theorem dX8_allSeenComesOut_43 : decode cX8_allSeenComesOut 43 = .ok (.iinc 3 1, 3) := by decide +kernel
theorem dX8_allSeenComesOut_46 : decode cX8_allSeenComesOut 46 = .ok (.goto (-44), 3) := by decide +kernel
theorem dX8_allSeenComesOut_49 : decode cX8_allSeenComesOut 49 = .ok (.iconst 1, 1) := by decide +kernel
theorem dX8_allSeenComesOut_50 : decode cX8_allSeenComesOut 50 = .ok (.ireturn, 1) := by decide +kernel
theorem dX8_nextStep_0 : decode cX8_nextStep 0 = .ok (.aload_n 0, 1) := by decide +kernel
theorem dX8_nextStep_1 : decode cX8_nextStep 1 = .ok (.getfield 28, 3) := by decide +kernel
theorem dX8_nextStep_4 : decode cX8_nextStep 4 = .ok (.iload_n 1, 1) := by decide +kernel
theorem dX8_nextStep_5 : decode cX8_nextStep 5 = .ok (.iconst 1, 1) := by decide +kernel
theorem dX8_nextStep_6 : decode cX8_nextStep 6 = .ok (.invokevirtual 155, 3) := by decide +kernel
theorem dX8_nextStep_9 : decode cX8_nextStep 9 = .ok (.istore_n 2, 1) := by decide +kernel
theorem dX8_nextStep_10 : decode cX8_nextStep 10 = .ok (.iload_n 2, 1) := by decide +kernel
theorem dX8_nextStep_11 : decode cX8_nextStep 11 = .ok (.iconst (-1), 1) := by decide +kernel
theorem dX8_nextStep_12 : decode cX8_nextStep 12 = .ok (.if_icmp .ne 5, 3) := by decide +kernel
theorem dX8_nextStep_15 : decode cX8_nextStep 15 = .ok (.iconst (-1), 1) := by decide +kernel
theorem dX8_nextStep_16 : decode cX8_nextStep 16 = .ok (.ireturn, 1) := by decide +kernel
theorem dX8_nextStep_17 : decode cX8_nextStep 17 = .ok (.iload_n 2, 1) := by decide +kernel
theorem dX8_nextStep_18 : decode cX8_nextStep 18 = .ok (.aload_n 0, 1) := by decide +kernel
theorem dX8_nextStep_19 : decode cX8_nextStep 19 = .ok (.getfield 65, 3) := by decide +kernel
theorem dX8_nextStep_22 : decode cX8_nextStep 22 = .ok (.iconst 3, 1) := by decide +kernel
theorem dX8_nextStep_23 : decode cX8_nextStep 23 = .ok (.invokevirtual 380, 3) := by decide +kernel
theorem dX8_nextStep_26 : decode cX8_nextStep 26 = .ok (.iadd, 1) := by decide +kernel
theorem dX8_nextStep_27 : decode cX8_nextStep 27 = .ok (.istore_n 3, 1) := by decide +kernel
theorem dX8_nextStep_28 : decode cX8_nextStep 28 = .ok (.iload_n 3, 1) := by decide +kernel
theorem dX8_nextStep_29 : decode cX8_nextStep 29 = .ok (.sipush 399, 3) := by decide +kernel
theorem dX8_nextStep_32 : decode cX8_nextStep 32 = .ok (.if_icmp .le 7, 3) := by decide +kernel
theorem dX8_nextStep_35 : decode cX8_nextStep 35 = .ok (.iconst (-1), 1) := by decide +kernel
theorem dX8_nextStep_36 : decode cX8_nextStep 36 = .ok (.goto 4, 3) := by decide +kernel
theorem dX8_nextStep_39 : decode cX8_nextStep 39 = .ok (.iload_n 3, 1) := by decide +kernel
theorem dX8_nextStep_40 : decode cX8_nextStep 40 = .ok (.ireturn, 1) := by decide +kernel
theorem dX8_getsUp_0 : decode cX8_getsUp 0 = .ok (.aload_n 0, 1) := by decide +kernel
theorem dX8_getsUp_1 : decode cX8_getsUp 1 = .ok (.getfield 65, 3) := by decide +kernel
theorem dX8_getsUp_4 : decode cX8_getsUp 4 = .ok (.bipush 16, 2) := by decide +kernel
theorem dX8_getsUp_6 : decode cX8_getsUp 6 = .ok (.invokevirtual 380, 3) := by decide +kernel
theorem dX8_getsUp_9 : decode cX8_getsUp 9 = .ok (.aload_n 0, 1) := by decide +kernel
theorem dX8_getsUp_10 : decode cX8_getsUp 10 = .ok (.iload_n 1, 1) := by decide +kernel
theorem dX8_getsUp_11 : decode cX8_getsUp 11 = .ok (.invokevirtual 176, 3) := by decide +kernel
theorem dX8_getsUp_14 : decode cX8_getsUp 14 = .ok (.if_icmp .ge 5, 3) := by decide +kernel
theorem dX8_getsUp_17 : decode cX8_getsUp 17 = .ok (.iconst 0, 1) := by decide +kernel
theorem dX8_getsUp_18 : decode cX8_getsUp 18 = .ok (.ireturn, 1) := by decide +kernel
theorem dX8_getsUp_19 : decode cX8_getsUp 19 = .ok (.aload_n 0, 1) := by decide +kernel
theorem dX8_getsUp_20 : decode cX8_getsUp 20 = .ok (.getfield 51, 3) := by decide +kernel
theorem dX8_getsUp_23 : decode cX8_getsUp 23 = .ok (.iload_n 1, 1) := by decide +kernel
theorem dX8_getsUp_24 : decode cX8_getsUp 24 = .ok (.invokevirtual 179, 3) := by decide +kernel
theorem dX8_getsUp_27 : decode cX8_getsUp 27 = .ok (.iconst 0, 1) := by decide +kernel
theorem dX8_getsUp_28 : decode cX8_getsUp 28 = .ok (.istore_n 2, 1) := by decide +kernel
theorem dX8_getsUp_29 : decode cX8_getsUp 29 = .ok (.iload_n 2, 1) := by decide +kernel
theorem dX8_getsUp_30 : decode cX8_getsUp 30 = .ok (.aload_n 0, 1) := by decide +kernel
theorem dX8_getsUp_31 : decode cX8_getsUp 31 = .ok (.getfield 51, 3) := by decide +kernel
theorem dX8_getsUp_34 : decode cX8_getsUp 34 = .ok (.getfield 185, 3) := by decide +kernel
theorem dX8_getsUp_37 : decode cX8_getsUp 37 = .ok (.if_icmp .ge 32, 3) := by decide +kernel
theorem dX8_getsUp_40 : decode cX8_getsUp 40 = .ok (.aload_n 0, 1) := by decide +kernel
theorem dX8_getsUp_41 : decode cX8_getsUp 41 = .ok (.getfield 65, 3) := by decide +kernel
theorem dX8_getsUp_44 : decode cX8_getsUp 44 = .ok (.bipush 16, 2) := by decide +kernel
theorem dX8_getsUp_46 : decode cX8_getsUp 46 = .ok (.invokevirtual 380, 3) := by decide +kernel
theorem dX8_getsUp_49 : decode cX8_getsUp 49 = .ok (.aload_n 0, 1) := by decide +kernel
theorem dX8_getsUp_50 : decode cX8_getsUp 50 = .ok (.getfield 42, 3) := by decide +kernel
theorem dX8_getsUp_53 : decode cX8_getsUp 53 = .ok (.bipush 8, 2) := by decide +kernel
theorem dX8_getsUp_55 : decode cX8_getsUp 55 = .ok (.invokevirtual 140, 3) := by decide +kernel
theorem dX8_getsUp_58 : decode cX8_getsUp 58 = .ok (.if_icmp .ge 5, 3) := by decide +kernel
theorem dX8_getsUp_61 : decode cX8_getsUp 61 = .ok (.iconst 0, 1) := by decide +kernel
theorem dX8_getsUp_62 : decode cX8_getsUp 62 = .ok (.ireturn, 1) := by decide +kernel
theorem dX8_getsUp_63 : decode cX8_getsUp 63 = .ok (.iinc 2 1, 3) := by decide +kernel
theorem dX8_getsUp_66 : decode cX8_getsUp 66 = .ok (.goto (-37), 3) := by decide +kernel
theorem dX8_getsUp_69 : decode cX8_getsUp 69 = .ok (.aload_n 0, 1) := by decide +kernel
theorem dX8_getsUp_70 : decode cX8_getsUp 70 = .ok (.getfield 51, 3) := by decide +kernel
theorem dX8_getsUp_73 : decode cX8_getsUp 73 = .ok (.getfield 182, 3) := by decide +kernel
theorem dX8_getsUp_76 : decode cX8_getsUp 76 = .ok (.iconst (-1), 1) := by decide +kernel
theorem dX8_getsUp_77 : decode cX8_getsUp 77 = .ok (.if_icmp .eq 7, 3) := by decide +kernel
theorem dX8_getsUp_80 : decode cX8_getsUp 80 = .ok (.iconst 1, 1) := by decide +kernel
theorem dX8_getsUp_81 : decode cX8_getsUp 81 = .ok (.goto 4, 3) := by decide +kernel
theorem dX8_getsUp_84 : decode cX8_getsUp 84 = .ok (.iconst 0, 1) := by decide +kernel
theorem dX8_getsUp_85 : decode cX8_getsUp 85 = .ok (.ireturn, 1) := by decide +kernel
end
section
theorem dX9_init_0 : decode cX9_init 0 = .ok (.aload_n 0, 1) := by decide +kernel
theorem dX9_init_1 : decode cX9_init 1 = .ok (.invokespecial 1, 3) := by decide +kernel
theorem dX9_init_4 : decode cX9_init 4 = .ok (.aload_n 0, 1) := by decide +kernel
theorem dX9_init_5 : decode cX9_init 5 = .ok (.iconst 2, 1) := by decide +kernel
theorem dX9_init_6 : decode cX9_init 6 = .ok (.newarray .int, 2) := by decide +kernel
theorem dX9_init_8 : decode cX9_init 8 = .ok (.putfield 7, 3) := by decide +kernel
theorem dX9_init_11 : decode cX9_init 11 = .ok (.aload_n 0, 1) := by decide +kernel
theorem dX9_init_12 : decode cX9_init 12 = .ok (.bipush 46, 2) := by decide +kernel
theorem dX9_init_14 : decode cX9_init 14 = .ok (.newarray .int, 2) := by decide +kernel
theorem dX9_init_16 : decode cX9_init 16 = .ok (.putfield 13, 3) := by decide +kernel
theorem dX9_init_19 : decode cX9_init 19 = .ok (.aload_n 0, 1) := by decide +kernel
theorem dX9_init_20 : decode cX9_init 20 = .ok (.bipush 8, 2) := by decide +kernel
theorem dX9_init_22 : decode cX9_init 22 = .ok (.newarray .int, 2) := by decide +kernel
theorem dX9_init_24 : decode cX9_init 24 = .ok (.putfield 16, 3) := by decide +kernel
theorem dX9_init_27 : decode cX9_init 27 = .ok (.aload_n 0, 1) := by decide +kernel
theorem dX9_init_28 : decode cX9_init 28 = .ok (.bipush 8, 2) := by decide +kernel
theorem dX9_init_30 : decode cX9_init 30 = .ok (.newarray .int, 2) := by decide +kernel
theorem dX9_init_32 : decode cX9_init 32 = .ok (.putfield 19, 3) := by decide +kernel
theorem dX9_init_35 : decode cX9_init 35 = .ok (.aload_n 0, 1) := by decide +kernel
theorem dX9_init_36 : decode cX9_init 36 = .ok (.bipush 6, 2) := by decide +kernel
theorem dX9_init_38 : decode cX9_init 38 = .ok (.newarray .int, 2) := by decide +kernel
theorem dX9_init_40 : decode cX9_init 40 = .ok (.putfield 22, 3) := by decide +kernel
theorem dX9_init_43 : decode cX9_init 43 = .ok (.aload_n 0, 1) := by decide +kernel
theorem dX9_init_44 : decode cX9_init 44 = .ok (.bipush 12, 2) := by decide +kernel
theorem dX9_init_46 : decode cX9_init 46 = .ok (.newarray .int, 2) := by decide +kernel
theorem dX9_init_48 : decode cX9_init 48 = .ok (.putfield 25, 3) := by decide +kernel
theorem dX9_init_51 : decode cX9_init 51 = .ok (.aload_n 0, 1) := by decide +kernel
theorem dX9_init_52 : decode cX9_init 52 = .ok (.sipush 400, 3) := by decide +kernel
theorem dX9_init_55 : decode cX9_init 55 = .ok (.newarray .int, 2) := by decide +kernel
theorem dX9_init_57 : decode cX9_init 57 = .ok (.putfield 28, 3) := by decide +kernel
theorem dX9_init_60 : decode cX9_init 60 = .ok (.aload_n 0, 1) := by decide +kernel
theorem dX9_init_61 : decode cX9_init 61 = .ok (.bipush 8, 2) := by decide +kernel
theorem dX9_init_63 : decode cX9_init 63 = .ok (.newarray .int, 2) := by decide +kernel
theorem dX9_init_65 : decode cX9_init 65 = .ok (.putfield 31, 3) := by decide +kernel
theorem dX9_init_68 : decode cX9_init 68 = .ok (.aload_n 0, 1) := by decide +kernel
theorem dX9_init_69 : decode cX9_init 69 = .ok (.bipush 8, 2) := by decide +kernel
theorem dX9_init_71 : decode cX9_init 71 = .ok (.newarray .int, 2) := by decide +kernel
theorem dX9_init_73 : decode cX9_init 73 = .ok (.putfield 34, 3) := by decide +kernel
theorem dX9_init_76 : decode cX9_init 76 = .ok (.aload_n 0, 1) := by decide +kernel
theorem dX9_init_77 : decode cX9_init 77 = .ok (.iconst 4, 1) := by decide +kernel
theorem dX9_init_78 : decode cX9_init 78 = .ok (.newarray .boolean, 2) := by decide +kernel
theorem dX9_init_80 : decode cX9_init 80 = .ok (.putfield 37, 3) := by decide +kernel
theorem dX9_init_83 : decode cX9_init 83 = .ok (.aload_n 0, 1) := by decide +kernel
theorem dX9_init_84 : decode cX9_init 84 = .ok (.iconst 4, 1) := by decide +kernel
theorem dX9_init_85 : decode cX9_init 85 = .ok (.newarray .int, 2) := by decide +kernel
theorem dX9_init_87 : decode cX9_init 87 = .ok (.putfield 41, 3) := by decide +kernel
theorem dX9_init_90 : decode cX9_init 90 = .ok (.aload_n 0, 1) := by decide +kernel
theorem dX9_init_91 : decode cX9_init 91 = .ok (.iconst 4, 1) := by decide +kernel
theorem dX9_init_92 : decode cX9_init 92 = .ok (.newarray .int, 2) := by decide +kernel
theorem dX9_init_94 : decode cX9_init 94 = .ok (.putfield 44, 3) := by decide +kernel
theorem dX9_init_97 : decode cX9_init 97 = .ok (.aload_n 0, 1) := by decide +kernel
theorem dX9_init_98 : decode cX9_init 98 = .ok (.sipush 192, 3) := by decide +kernel
theorem dX9_init_101 : decode cX9_init 101 = .ok (.newarray .int, 2) := by decide +kernel
theorem dX9_init_103 : decode cX9_init 103 = .ok (.putfield 47, 3) := by decide +kernel
theorem dX9_init_106 : decode cX9_init 106 = .ok (.aload_n 0, 1) := by decide +kernel
theorem dX9_init_107 : decode cX9_init 107 = .ok (.bipush 48, 2) := by decide +kernel
theorem dX9_init_109 : decode cX9_init 109 = .ok (.newarray .int, 2) := by decide +kernel
theorem dX9_init_111 : decode cX9_init 111 = .ok (.putfield 50, 3) := by decide +kernel
theorem dX9_init_114 : decode cX9_init 114 = .ok (.aload_n 0, 1) := by decide +kernel
theorem dX9_init_115 : decode cX9_init 115 = .ok (.getfield 25, 3) := by decide +kernel
theorem dX9_init_118 : decode cX9_init 118 = .ok (.iconst 0, 1) := by decide +kernel
theorem dX9_init_119 : decode cX9_init 119 = .ok (.bipush 20, 2) := by decide +kernel
theorem dX9_init_121 : decode cX9_init 121 = .ok (.iastore, 1) := by decide +kernel
theorem dX9_init_122 : decode cX9_init 122 = .ok (.aload_n 0, 1) := by decide +kernel
theorem dX9_init_123 : decode cX9_init 123 = .ok (.getfield 25, 3) := by decide +kernel
theorem dX9_init_126 : decode cX9_init 126 = .ok (.iconst 1, 1) := by decide +kernel
theorem dX9_init_127 : decode cX9_init 127 = .ok (.bipush 9, 2) := by decide +kernel
theorem dX9_init_129 : decode cX9_init 129 = .ok (.iastore, 1) := by decide +kernel
theorem dX9_init_130 : decode cX9_init 130 = .ok (.aload_n 0, 1) := by decide +kernel
theorem dX9_init_131 : decode cX9_init 131 = .ok (.getfield 25, 3) := by decide +kernel
theorem dX9_init_134 : decode cX9_init 134 = .ok (.iconst 2, 1) := by decide +kernel
theorem dX9_init_135 : decode cX9_init 135 = .ok (.iconst 3, 1) := by decide +kernel
theorem dX9_init_136 : decode cX9_init 136 = .ok (.iastore, 1) := by decide +kernel
theorem dX9_init_137 : decode cX9_init 137 = .ok (.aload_n 0, 1) := by decide +kernel
theorem dX9_init_138 : decode cX9_init 138 = .ok (.getfield 25, 3) := by decide +kernel
theorem dX9_init_141 : decode cX9_init 141 = .ok (.iconst 3, 1) := by decide +kernel
theorem dX9_init_142 : decode cX9_init 142 = .ok (.iconst 5, 1) := by decide +kernel
theorem dX9_init_143 : decode cX9_init 143 = .ok (.iastore, 1) := by decide +kernel
theorem dX9_init_144 : decode cX9_init 144 = .ok (.aload_n 0, 1) := by decide +kernel
theorem dX9_init_145 : decode cX9_init 145 = .ok (.getfield 25, 3) := by decide +kernel
theorem dX9_init_148 : decode cX9_init 148 = .ok (.iconst 5, 1) := by decide +kernel
theorem dX9_init_149 : decode cX9_init 149 = .ok (.iconst 2, 1) := by decide +kernel
theorem dX9_init_150 : decode cX9_init 150 = .ok (.iastore, 1) := by decide +kernel
theorem dX9_init_151 : decode cX9_init 151 = .ok (.aload_n 0, 1) := by decide +kernel
theorem dX9_init_152 : decode cX9_init 152 = .ok (.getfield 25, 3) := by decide +kernel
theorem dX9_init_155 : decode cX9_init 155 = .ok (.bipush 6, 2) := by decide +kernel
theorem dX9_init_157 : decode cX9_init 157 = .ok (.iconst 3, 1) := by decide +kernel
theorem dX9_init_158 : decode cX9_init 158 = .ok (.iastore, 1) := by decide +kernel
theorem dX9_init_159 : decode cX9_init 159 = .ok (.aload_n 0, 1) := by decide +kernel
theorem dX9_init_160 : decode cX9_init 160 = .ok (.getfield 25, 3) := by decide +kernel
theorem dX9_init_163 : decode cX9_init 163 = .ok (.bipush 7, 2) := by decide +kernel
theorem dX9_init_165 : decode cX9_init 165 = .ok (.iconst 1, 1) := by decide +kernel
theorem dX9_init_166 : decode cX9_init 166 = .ok (.iastore, 1) := by decide +kernel
theorem dX9_init_167 : decode cX9_init 167 = .ok (.aload_n 0, 1) := by decide +kernel
theorem dX9_init_168 : decode cX9_init 168 = .ok (.getfield 25, 3) := by decide +kernel
theorem dX9_init_171 : decode cX9_init 171 = .ok (.bipush 8, 2) := by decide +kernel
theorem dX9_init_173 : decode cX9_init 173 = .ok (.iconst 1, 1) := by decide +kernel
theorem dX9_init_174 : decode cX9_init 174 = .ok (.iastore, 1) := by decide +kernel
theorem dX9_init_175 : decode cX9_init 175 = .ok (.aload_n 0, 1) := by decide +kernel
theorem dX9_init_176 : decode cX9_init 176 = .ok (.getfield 25, 3) := by decide +kernel
theorem dX9_init_179 : decode cX9_init 179 = .ok (.bipush 9, 2) := by decide +kernel
theorem dX9_init_181 : decode cX9_init 181 = .ok (.iconst 1, 1) := by decide +kernel
theorem dX9_init_182 : decode cX9_init 182 = .ok (.iastore, 1) := by decide +kernel
theorem dX9_init_183 : decode cX9_init 183 = .ok (.aload_n 0, 1) := by decide +kernel
theorem dX9_init_184 : decode cX9_init 184 = .ok (.getfield 25, 3) := by decide +kernel
theorem dX9_init_187 : decode cX9_init 187 = .ok (.bipush 10, 2) := by decide +kernel
theorem dX9_init_189 : decode cX9_init 189 = .ok (.iconst 2, 1) := by decide +kernel
theorem dX9_init_190 : decode cX9_init 190 = .ok (.iastore, 1) := by decide +kernel
theorem dX9_init_191 : decode cX9_init 191 = .ok (.aload_n 0, 1) := by decide +kernel
theorem dX9_init_192 : decode cX9_init 192 = .ok (.getfield 25, 3) := by decide +kernel
theorem dX9_init_195 : decode cX9_init 195 = .ok (.bipush 11, 2) := by decide +kernel
theorem dX9_init_197 : decode cX9_init 197 = .ok (.iconst 1, 1) := by decide +kernel
theorem dX9_init_198 : decode cX9_init 198 = .ok (.iastore, 1) := by decide +kernel
theorem dX9_init_199 : decode cX9_init 199 = .ok (.return_, 1) := by decide +kernel
theorem dX9_in_0 : decode cX9_in 0 = .ok (.iload_n 0, 1) := by decide +kernel
theorem dX9_in_1 : decode cX9_in 1 = .ok (.iload_n 1, 1) := by decide +kernel
theorem dX9_in_2 : decode cX9_in 2 = .ok (.if_icmp .lt 12, 3) := by decide +kernel
theorem dX9_in_5 : decode cX9_in 5 = .ok (.iload_n 0, 1) := by decide +kernel
theorem dX9_in_6 : decode cX9_in 6 = .ok (.iload_n 2, 1) := by decide +kernel
theorem dX9_in_7 : decode cX9_in 7 = .ok (.if_icmp .gt 7, 3) := by decide +kernel
theorem dX9_in_10 : decode cX9_in 10 = .ok (.iconst 1, 1) := by decide +kernel
theorem dX9_in_11 : decode cX9_in 11 = .ok (.goto 4, 3) := by decide +kernel
theorem dX9_in_14 : decode cX9_in 14 = .ok (.iconst 0, 1) := by decide +kernel
theorem dX9_in_15 : decode cX9_in 15 = .ok (.ireturn, 1) := by decide +kernel
theorem dX9_no_0 : decode cX9_no 0 = .ok (.ldc2_w 53, 3) := by decide +kernel
theorem dX9_no_3 : decode cX9_no 3 = .ok (.iload_n 0, 1) := by decide +kernel
theorem dX9_no_4 : decode cX9_no 4 = .ok (.i2l, 1) := by decide +kernel
theorem dX9_no_5 : decode cX9_no 5 = .ok (.lsub, 1) := by decide +kernel
theorem dX9_no_6 : decode cX9_no 6 = .ok (.lreturn, 1) := by decide +kernel
theorem dX9_lowest_0 : decode cX9_lowest 0 = .ok (.lload_n 0, 1) := by decide +kernel
theorem dX9_lowest_1 : decode cX9_lowest 1 = .ok (.lstore 5, 2) := by decide +kernel
theorem dX9_lowest_3 : decode cX9_lowest 3 = .ok (.lload_n 2, 1) := by decide +kernel
theorem dX9_lowest_4 : decode cX9_lowest 4 = .ok (.lstore 7, 2) := by decide +kernel
theorem dX9_lowest_6 : decode cX9_lowest 6 = .ok (.lload 7, 2) := by decide +kernel
theorem dX9_lowest_8 : decode cX9_lowest 8 = .ok (.lconst 0, 1) := by decide +kernel
theorem dX9_lowest_9 : decode cX9_lowest 9 = .ok (.lcmp, 1) := by decide +kernel
theorem dX9_lowest_10 : decode cX9_lowest 10 = .ok (.ifCond .eq 21, 3) := by decide +kernel
theorem dX9_lowest_13 : decode cX9_lowest 13 = .ok (.lload 5, 2) := by decide +kernel
theorem dX9_lowest_15 : decode cX9_lowest 15 = .ok (.lload 7, 2) := by decide +kernel
theorem dX9_lowest_17 : decode cX9_lowest 17 = .ok (.lrem, 1) := by decide +kernel
theorem dX9_lowest_18 : decode cX9_lowest 18 = .ok (.lstore 9, 2) := by decide +kernel
theorem dX9_lowest_20 : decode cX9_lowest 20 = .ok (.lload 7, 2) := by decide +kernel
theorem dX9_lowest_22 : decode cX9_lowest 22 = .ok (.lstore 5, 2) := by decide +kernel
theorem dX9_lowest_24 : decode cX9_lowest 24 = .ok (.lload 9, 2) := by decide +kernel
theorem dX9_lowest_26 : decode cX9_lowest 26 = .ok (.lstore 7, 2) := by decide +kernel
theorem dX9_lowest_28 : decode cX9_lowest 28 = .ok (.goto (-22), 3) := by decide +kernel
theorem dX9_lowest_31 : decode cX9_lowest 31 = .ok (.iload 4, 2) := by decide +kernel
theorem dX9_lowest_33 : decode cX9_lowest 33 = .ok (.ifCond .ne 10, 3) := by decide +kernel
theorem dX9_lowest_36 : decode cX9_lowest 36 = .ok (.lload_n 0, 1) := by decide +kernel
theorem dX9_lowest_37 : decode cX9_lowest 37 = .ok (.lload 5, 2) := by decide +kernel
theorem dX9_lowest_39 : decode cX9_lowest 39 = .ok (.ldiv, 1) := by decide +kernel
theorem dX9_lowest_40 : decode cX9_lowest 40 = .ok (.goto 7, 3) := by decide +kernel
theorem dX9_lowest_43 : decode cX9_lowest 43 = .ok (.lload_n 2, 1) := by decide +kernel
theorem dX9_lowest_44 : decode cX9_lowest 44 = .ok (.lload 5, 2) := by decide +kernel
theorem dX9_lowest_46 : decode cX9_lowest 46 = .ok (.ldiv, 1) := by decide +kernel
theorem dX9_lowest_47 : decode cX9_lowest 47 = .ok (.lreturn, 1) := by decide +kernel
theorem dX9_isText_0 : decode cX9_isText 0 = .ok (.iload_n 0, 1) := by decide +kernel
theorem dX9_isText_1 : decode cX9_isText 1 = .ok (.iconst 0, 1) := by decide +kernel
theorem dX9_isText_2 : decode cX9_isText 2 = .ok (.iconst 1, 1) := by decide +kernel
theorem dX9_isText_3 : decode cX9_isText 3 = .ok (.invokestatic 55, 3) := by decide +kernel
theorem dX9_isText_6 : decode cX9_isText 6 = .ok (.ireturn, 1) := by decide +kernel
theorem dX9_isTenth_0 : decode cX9_isTenth 0 = .ok (.iload_n 0, 1) := by decide +kernel
theorem dX9_isTenth_1 : decode cX9_isTenth 1 = .ok (.iconst 0, 1) := by decide +kernel
theorem dX9_isTenth_2 : decode cX9_isTenth 2 = .ok (.sipush 399, 3) := by decide +kernel
theorem dX9_isTenth_5 : decode cX9_isTenth 5 = .ok (.invokestatic 55, 3) := by decide +kernel
theorem dX9_isTenth_8 : decode cX9_isTenth 8 = .ok (.ireturn, 1) := by decide +kernel
theorem dX9_type_0 : decode cX9_type 0 = .ok (.iload_n 1, 1) := by decide +kernel
theorem dX9_type_1 : decode cX9_type 1 = .ok (.invokestatic 59, 3) := by decide +kernel
theorem dX9_type_4 : decode cX9_type 4 = .ok (.ifCond .eq 14, 3) := by decide +kernel
theorem dX9_type_7 : decode cX9_type 7 = .ok (.iload_n 2, 1) := by decide +kernel
theorem dX9_type_8 : decode cX9_type 8 = .ok (.iconst 0, 1) := by decide +kernel
theorem dX9_type_9 : decode cX9_type 9 = .ok (.sipush 255, 3) := by decide +kernel
theorem dX9_type_12 : decode cX9_type 12 = .ok (.invokestatic 55, 3) := by decide +kernel
theorem dX9_type_15 : decode cX9_type 15 = .ok (.ifCond .ne 6, 3) := by decide +kernel
theorem dX9_type_18 : decode cX9_type 18 = .ok (.bipush (-2), 2) := by decide +kernel
theorem dX9_type_20 : decode cX9_type 20 = .ok (.ireturn, 1) := by decide +kernel
theorem dX9_type_21 : decode cX9_type 21 = .ok (.aload_n 0, 1) := by decide +kernel
theorem dX9_type_22 : decode cX9_type 22 = .ok (.getfield 7, 3) := by decide +kernel
theorem dX9_type_25 : decode cX9_type 25 = .ok (.iload_n 1, 1) := by decide +kernel
theorem dX9_type_26 : decode cX9_type 26 = .ok (.iaload, 1) := by decide +kernel
theorem dX9_type_27 : decode cX9_type 27 = .ok (.iload_n 1, 1) := by decide +kernel
theorem dX9_type_28 : decode cX9_type 28 = .ok (.ifCond .ne 8, 3) := by decide +kernel
theorem dX9_type_31 : decode cX9_type 31 = .ok (.bipush 23, 2) := by decide +kernel
theorem dX9_type_33 : decode cX9_type 33 = .ok (.goto 4, 3) := by decide +kernel
theorem dX9_type_36 : decode cX9_type 36 = .ok (.iconst 3, 1) := by decide +kernel
theorem dX9_type_37 : decode cX9_type 37 = .ok (.if_icmp .ne 6, 3) := by decide +kernel
theorem dX9_type_40 : decode cX9_type 40 = .ok (.bipush (-4), 2) := by decide +kernel
theorem dX9_type_42 : decode cX9_type 42 = .ok (.ireturn, 1) := by decide +kernel
theorem dX9_type_43 : decode cX9_type 43 = .ok (.aload_n 0, 1) := by decide +kernel
theorem dX9_type_44 : decode cX9_type 44 = .ok (.getfield 13, 3) := by decide +kernel
theorem dX9_type_47 : decode cX9_type 47 = .ok (.bipush 23, 2) := by decide +kernel
theorem dX9_type_49 : decode cX9_type 49 = .ok (.iload_n 1, 1) := by decide +kernel
theorem dX9_type_50 : decode cX9_type 50 = .ok (.imul, 1) := by decide +kernel
theorem dX9_type_51 : decode cX9_type 51 = .ok (.aload_n 0, 1) := by decide +kernel
theorem dX9_type_52 : decode cX9_type 52 = .ok (.getfield 7, 3) := by decide +kernel
theorem dX9_type_55 : decode cX9_type 55 = .ok (.iload_n 1, 1) := by decide +kernel
theorem dX9_type_56 : decode cX9_type 56 = .ok (.iaload, 1) := by decide +kernel
theorem dX9_type_57 : decode cX9_type 57 = .ok (.iadd, 1) := by decide +kernel
theorem dX9_type_58 : decode cX9_type 58 = .ok (.iload_n 2, 1) := by decide +kernel
theorem dX9_type_59 : decode cX9_type 59 = .ok (.iastore, 1) := by decide +kernel
theorem dX9_type_60 : decode cX9_type 60 = .ok (.aload_n 0, 1) := by decide +kernel
theorem dX9_type_61 : decode cX9_type 61 = .ok (.getfield 7, 3) := by decide +kernel
theorem dX9_type_64 : decode cX9_type 64 = .ok (.iload_n 1, 1) := by decide +kernel
theorem dX9_type_65 : decode cX9_type 65 = .ok (.dup2, 1) := by decide +kernel
theorem dX9_type_66 : decode cX9_type 66 = .ok (.iaload, 1) := by decide +kernel
theorem dX9_type_67 : decode cX9_type 67 = .ok (.iconst 1, 1) := by decide +kernel
theorem dX9_type_68 : decode cX9_type 68 = .ok (.iadd, 1) := by decide +kernel
theorem dX9_type_69 : decode cX9_type 69 = .ok (.iastore, 1) := by decide +kernel
theorem dX9_type_70 : decode cX9_type 70 = .ok (.aload_n 0, 1) := by decide +kernel
theorem dX9_type_71 : decode cX9_type 71 = .ok (.getfield 7, 3) := by decide +kernel
theorem dX9_type_74 : decode cX9_type 74 = .ok (.iload_n 1, 1) := by decide +kernel
theorem dX9_type_75 : decode cX9_type 75 = .ok (.iaload, 1) := by decide +kernel
theorem dX9_type_76 : decode cX9_type 76 = .ok (.ireturn, 1) := by decide +kernel
theorem dX9_wipe_0 : decode cX9_wipe 0 = .ok (.iload_n 1, 1) := by decide +kernel
theorem dX9_wipe_1 : decode cX9_wipe 1 = .ok (.invokestatic 59, 3) := by decide +kernel
theorem dX9_wipe_4 : decode cX9_wipe 4 = .ok (.ifCond .ne 6, 3) := by decide +kernel
theorem dX9_wipe_7 : decode cX9_wipe 7 = .ok (.bipush (-2), 2) := by decide +kernel
theorem dX9_wipe_9 : decode cX9_wipe 9 = .ok (.ireturn, 1) := by decide +kernel
theorem dX9_wipe_10 : decode cX9_wipe 10 = .ok (.aload_n 0, 1) := by decide +kernel
theorem dX9_wipe_11 : decode cX9_wipe 11 = .ok (.getfield 7, 3) := by decide +kernel
theorem dX9_wipe_14 : decode cX9_wipe 14 = .ok (.iload_n 1, 1) := by decide +kernel
theorem dX9_wipe_15 : decode cX9_wipe 15 = .ok (.iaload, 1) := by decide +kernel
theorem dX9_wipe_16 : decode cX9_wipe 16 = .ok (.istore_n 2, 1) := by decide +kernel
theorem dX9_wipe_17 : decode cX9_wipe 17 = .ok (.aload_n 0, 1) := by decide +kernel
theorem dX9_wipe_18 : decode cX9_wipe 18 = .ok (.getfield 7, 3) := by decide +kernel
theorem dX9_wipe_21 : decode cX9_wipe 21 = .ok (.iload_n 1, 1) := by decide +kernel
theorem dX9_wipe_22 : decode cX9_wipe 22 = .ok (.iconst 0, 1) := by decide +kernel
theorem dX9_wipe_23 : decode cX9_wipe 23 = .ok (.iastore, 1) := by decide +kernel
theorem dX9_wipe_24 : decode cX9_wipe 24 = .ok (.iload_n 2, 1) := by decide +kernel
theorem dX9_wipe_25 : decode cX9_wipe 25 = .ok (.ireturn, 1) := by decide +kernel
theorem dX9_undo_0 : decode cX9_undo 0 = .ok (.iload_n 1, 1) := by decide +kernel
theorem dX9_undo_1 : decode cX9_undo 1 = .ok (.invokestatic 59, 3) := by decide +kernel
theorem dX9_undo_4 : decode cX9_undo 4 = .ok (.ifCond .ne 6, 3) := by decide +kernel
theorem dX9_undo_7 : decode cX9_undo 7 = .ok (.bipush (-2), 2) := by decide +kernel
theorem dX9_undo_9 : decode cX9_undo 9 = .ok (.ireturn, 1) := by decide +kernel
theorem dX9_undo_10 : decode cX9_undo 10 = .ok (.aload_n 0, 1) := by decide +kernel
theorem dX9_undo_11 : decode cX9_undo 11 = .ok (.getfield 7, 3) := by decide +kernel
theorem dX9_undo_14 : decode cX9_undo 14 = .ok (.iload_n 1, 1) := by decide +kernel
theorem dX9_undo_15 : decode cX9_undo 15 = .ok (.iaload, 1) := by decide +kernel
theorem dX9_undo_16 : decode cX9_undo 16 = .ok (.ifCond .ne 6, 3) := by decide +kernel
theorem dX9_undo_19 : decode cX9_undo 19 = .ok (.bipush (-3), 2) := by decide +kernel
theorem dX9_undo_21 : decode cX9_undo 21 = .ok (.ireturn, 1) := by decide +kernel
theorem dX9_undo_22 : decode cX9_undo 22 = .ok (.aload_n 0, 1) := by decide +kernel
theorem dX9_undo_23 : decode cX9_undo 23 = .ok (.getfield 7, 3) := by decide +kernel
theorem dX9_undo_26 : decode cX9_undo 26 = .ok (.iload_n 1, 1) := by decide +kernel
theorem dX9_undo_27 : decode cX9_undo 27 = .ok (.dup2, 1) := by decide +kernel
theorem dX9_undo_28 : decode cX9_undo 28 = .ok (.iaload, 1) := by decide +kernel
theorem dX9_undo_29 : decode cX9_undo 29 = .ok (.iconst 1, 1) := by decide +kernel
theorem dX9_undo_30 : decode cX9_undo 30 = .ok (.isub, 1) := by decide +kernel
theorem dX9_undo_31 : decode cX9_undo 31 = .ok (.iastore, 1) := by decide +kernel
theorem dX9_undo_32 : decode cX9_undo 32 = .ok (.aload_n 0, 1) := by decide +kernel
theorem dX9_undo_33 : decode cX9_undo 33 = .ok (.getfield 7, 3) := by decide +kernel
theorem dX9_undo_36 : decode cX9_undo 36 = .ok (.iload_n 1, 1) := by decide +kernel
theorem dX9_undo_37 : decode cX9_undo 37 = .ok (.iaload, 1) := by decide +kernel
theorem dX9_undo_38 : decode cX9_undo 38 = .ok (.ireturn, 1) := by decide +kernel
theorem dX9_figureAt_0 : decode cX9_figureAt 0 = .ok (.iload_n 2, 1) := by decide +kernel
theorem dX9_figureAt_1 : decode cX9_figureAt 1 = .ok (.aload_n 0, 1) := by decide +kernel
theorem dX9_figureAt_2 : decode cX9_figureAt 2 = .ok (.getfield 7, 3) := by decide +kernel
theorem dX9_figureAt_5 : decode cX9_figureAt 5 = .ok (.iload_n 1, 1) := by decide +kernel
theorem dX9_figureAt_6 : decode cX9_figureAt 6 = .ok (.iaload, 1) := by decide +kernel
theorem dX9_figureAt_7 : decode cX9_figureAt 7 = .ok (.if_icmp .ge 20, 3) := by decide +kernel
theorem dX9_figureAt_10 : decode cX9_figureAt 10 = .ok (.aload_n 0, 1) := by decide +kernel
theorem dX9_figureAt_11 : decode cX9_figureAt 11 = .ok (.getfield 13, 3) := by decide +kernel
theorem dX9_figureAt_14 : decode cX9_figureAt 14 = .ok (.bipush 23, 2) := by decide +kernel
theorem dX9_figureAt_16 : decode cX9_figureAt 16 = .ok (.iload_n 1, 1) := by decide +kernel
theorem dX9_figureAt_17 : decode cX9_figureAt 17 = .ok (.imul, 1) := by decide +kernel
theorem dX9_figureAt_18 : decode cX9_figureAt 18 = .ok (.iload_n 2, 1) := by decide +kernel
theorem dX9_figureAt_19 : decode cX9_figureAt 19 = .ok (.iadd, 1) := by decide +kernel
theorem dX9_figureAt_20 : decode cX9_figureAt 20 = .ok (.iaload, 1) := by decide +kernel
theorem dX9_figureAt_21 : decode cX9_figureAt 21 = .ok (.bipush 48, 2) := by decide +kernel
theorem dX9_figureAt_23 : decode cX9_figureAt 23 = .ok (.isub, 1) := by decide +kernel
theorem dX9_figureAt_24 : decode cX9_figureAt 24 = .ok (.goto 4, 3) := by decide +kernel
theorem dX9_figureAt_27 : decode cX9_figureAt 27 = .ok (.iconst (-1), 1) := by decide +kernel
theorem dX9_figureAt_28 : decode cX9_figureAt 28 = .ok (.istore_n 3, 1) := by decide +kernel
theorem dX9_figureAt_29 : decode cX9_figureAt 29 = .ok (.iload_n 3, 1) := by decide +kernel
theorem dX9_figureAt_30 : decode cX9_figureAt 30 = .ok (.iconst 0, 1) := by decide +kernel
theorem dX9_figureAt_31 : decode cX9_figureAt 31 = .ok (.bipush 9, 2) := by decide +kernel
theorem dX9_figureAt_33 : decode cX9_figureAt 33 = .ok (.invokestatic 55, 3) := by decide +kernel
theorem dX9_figureAt_36 : decode cX9_figureAt 36 = .ok (.ifCond .eq 7, 3) := by decide +kernel
theorem dX9_figureAt_39 : decode cX9_figureAt 39 = .ok (.iload_n 3, 1) := by decide +kernel
theorem dX9_figureAt_40 : decode cX9_figureAt 40 = .ok (.goto 4, 3) := by decide +kernel
theorem dX9_figureAt_43 : decode cX9_figureAt 43 = .ok (.iconst (-1), 1) := by decide +kernel
theorem dX9_figureAt_44 : decode cX9_figureAt 44 = .ok (.ireturn, 1) := by decide +kernel
theorem dX9_readsText_0 : decode cX9_readsText 0 = .ok (.iload_n 1, 1) := by decide +kernel
theorem dX9_readsText_1 : decode cX9_readsText 1 = .ok (.ifCond .ne 8, 3) := by decide +kernel
theorem dX9_readsText_4 : decode cX9_readsText 4 = .ok (.bipush 6, 2) := by decide +kernel
theorem dX9_readsText_6 : decode cX9_readsText 6 = .ok (.goto 4, 3) := by decide +kernel
theorem dX9_readsText_9 : decode cX9_readsText 9 = .ok (.iconst 1, 1) := by decide +kernel
theorem dX9_readsText_10 : decode cX9_readsText 10 = .ok (.istore_n 2, 1) := by decide +kernel
theorem dX9_readsText_11 : decode cX9_readsText 11 = .ok (.iconst 0, 1) := by decide +kernel
theorem dX9_readsText_12 : decode cX9_readsText 12 = .ok (.istore_n 3, 1) := by decide +kernel
theorem dX9_readsText_13 : decode cX9_readsText 13 = .ok (.iconst 0, 1) := by decide +kernel
theorem dX9_readsText_14 : decode cX9_readsText 14 = .ok (.istore 4, 2) := by decide +kernel
theorem dX9_readsText_16 : decode cX9_readsText 16 = .ok (.aload_n 0, 1) := by decide +kernel
theorem dX9_readsText_17 : decode cX9_readsText 17 = .ok (.iload_n 1, 1) := by decide +kernel
theorem dX9_readsText_18 : decode cX9_readsText 18 = .ok (.ifCond .ne 7, 3) := by decide +kernel
theorem dX9_readsText_21 : decode cX9_readsText 21 = .ok (.iconst 0, 1) := by decide +kernel
theorem dX9_readsText_22 : decode cX9_readsText 22 = .ok (.goto 7, 3) := by decide +kernel
theorem dX9_readsText_25 : decode cX9_readsText 25 = .ok (.aload_n 0, 1) := by decide +kernel
theorem dX9_readsText_26 : decode cX9_readsText 26 = .ok (.getfield 63, 3) := by decide +kernel
theorem dX9_readsText_29 : decode cX9_readsText 29 = .ok (.putfield 63, 3) := by decide +kernel
theorem dX9_readsText_32 : decode cX9_readsText 32 = .ok (.aload_n 0, 1) := by decide +kernel
theorem dX9_readsText_33 : decode cX9_readsText 33 = .ok (.iload_n 1, 1) := by decide +kernel
theorem dX9_readsText_34 : decode cX9_readsText 34 = .ok (.iconst 1, 1) := by decide +kernel
theorem dX9_readsText_35 : decode cX9_readsText 35 = .ok (.if_icmp .ne 7, 3) := by decide +kernel
theorem dX9_readsText_38 : decode cX9_readsText 38 = .ok (.iconst 0, 1) := by decide +kernel
theorem dX9_readsText_39 : decode cX9_readsText 39 = .ok (.goto 7, 3) := by decide +kernel
theorem dX9_readsText_42 : decode cX9_readsText 42 = .ok (.aload_n 0, 1) := by decide +kernel
theorem dX9_readsText_43 : decode cX9_readsText 43 = .ok (.getfield 67, 3) := by decide +kernel
theorem dX9_readsText_46 : decode cX9_readsText 46 = .ok (.putfield 67, 3) := by decide +kernel
theorem dX9_readsText_49 : decode cX9_readsText 49 = .ok (.iload 4, 2) := by decide +kernel
theorem dX9_readsText_51 : decode cX9_readsText 51 = .ok (.aload_n 0, 1) := by decide +kernel
theorem dX9_readsText_52 : decode cX9_readsText 52 = .ok (.getfield 7, 3) := by decide +kernel
theorem dX9_readsText_55 : decode cX9_readsText 55 = .ok (.iload_n 1, 1) := by decide +kernel
theorem dX9_readsText_56 : decode cX9_readsText 56 = .ok (.iaload, 1) := by decide +kernel
theorem dX9_readsText_57 : decode cX9_readsText 57 = .ok (.if_icmp .lt 8, 3) := by decide +kernel
theorem dX9_readsText_60 : decode cX9_readsText 60 = .ok (.iload 4, 2) := by decide +kernel
theorem dX9_readsText_62 : decode cX9_readsText 62 = .ok (.ifCond .le 216, 3) := by decide +kernel
theorem dX9_readsText_65 : decode cX9_readsText 65 = .ok (.iconst 0, 1) := by decide +kernel
theorem dX9_readsText_66 : decode cX9_readsText 66 = .ok (.istore 5, 2) := by decide +kernel
theorem dX9_readsText_68 : decode cX9_readsText 68 = .ok (.iload_n 3, 1) := by decide +kernel
theorem dX9_readsText_69 : decode cX9_readsText 69 = .ok (.iload_n 2, 1) := by decide +kernel
theorem dX9_readsText_70 : decode cX9_readsText 70 = .ok (.if_icmp .ge 29, 3) := by decide +kernel
theorem dX9_readsText_73 : decode cX9_readsText 73 = .ok (.iload 5, 2) := by decide +kernel
theorem dX9_readsText_75 : decode cX9_readsText 75 = .ok (.iconst 3, 1) := by decide +kernel
theorem dX9_readsText_76 : decode cX9_readsText 76 = .ok (.if_icmp .ge 23, 3) := by decide +kernel
theorem dX9_readsText_79 : decode cX9_readsText 79 = .ok (.aload_n 0, 1) := by decide +kernel
theorem dX9_readsText_80 : decode cX9_readsText 80 = .ok (.iload_n 1, 1) := by decide +kernel
theorem dX9_readsText_81 : decode cX9_readsText 81 = .ok (.iload 4, 2) := by decide +kernel
theorem dX9_readsText_83 : decode cX9_readsText 83 = .ok (.iload 5, 2) := by decide +kernel
theorem dX9_readsText_85 : decode cX9_readsText 85 = .ok (.iadd, 1) := by decide +kernel
theorem dX9_readsText_86 : decode cX9_readsText 86 = .ok (.invokevirtual 70, 3) := by decide +kernel
theorem dX9_readsText_89 : decode cX9_readsText 89 = .ok (.iconst (-1), 1) := by decide +kernel
theorem dX9_readsText_90 : decode cX9_readsText 90 = .ok (.if_icmp .eq 9, 3) := by decide +kernel
theorem dX9_readsText_93 : decode cX9_readsText 93 = .ok (.iinc 5 1, 3) := by decide +kernel
theorem dX9_readsText_96 : decode cX9_readsText 96 = .ok (.goto (-28), 3) := by decide +kernel
theorem dX9_readsText_99 : decode cX9_readsText 99 = .ok (.iload 5, 2) := by decide +kernel
theorem dX9_readsText_101 : decode cX9_readsText 101 = .ok (.iconst 3, 1) := by decide +kernel
theorem dX9_readsText_102 : decode cX9_readsText 102 = .ok (.if_icmp .ne 28, 3) := by decide +kernel
theorem dX9_readsText_105 : decode cX9_readsText 105 = .ok (.bipush 10, 2) := by decide +kernel
theorem dX9_readsText_107 : decode cX9_readsText 107 = .ok (.aload_n 0, 1) := by decide +kernel
theorem dX9_readsText_108 : decode cX9_readsText 108 = .ok (.iload_n 1, 1) := by decide +kernel
theorem dX9_readsText_109 : decode cX9_readsText 109 = .ok (.iload 4, 2) := by decide +kernel
theorem dX9_readsText_111 : decode cX9_readsText 111 = .ok (.iconst 1, 1) := by decide +kernel
theorem dX9_readsText_112 : decode cX9_readsText 112 = .ok (.iadd, 1) := by decide +kernel
theorem dX9_readsText_113 : decode cX9_readsText 113 = .ok (.invokevirtual 70, 3) := by decide +kernel
theorem dX9_readsText_116 : decode cX9_readsText 116 = .ok (.imul, 1) := by decide +kernel
theorem dX9_readsText_117 : decode cX9_readsText 117 = .ok (.aload_n 0, 1) := by decide +kernel
theorem dX9_readsText_118 : decode cX9_readsText 118 = .ok (.iload_n 1, 1) := by decide +kernel
theorem dX9_readsText_119 : decode cX9_readsText 119 = .ok (.iload 4, 2) := by decide +kernel
theorem dX9_readsText_121 : decode cX9_readsText 121 = .ok (.iconst 2, 1) := by decide +kernel
theorem dX9_readsText_122 : decode cX9_readsText 122 = .ok (.iadd, 1) := by decide +kernel
theorem dX9_readsText_123 : decode cX9_readsText 123 = .ok (.invokevirtual 70, 3) := by decide +kernel
theorem dX9_readsText_126 : decode cX9_readsText 126 = .ok (.iadd, 1) := by decide +kernel
theorem dX9_readsText_127 : decode cX9_readsText 127 = .ok (.goto 4, 3) := by decide +kernel
theorem dX9_readsText_130 : decode cX9_readsText 130 = .ok (.iconst 0, 1) := by decide +kernel
theorem dX9_readsText_131 : decode cX9_readsText 131 = .ok (.istore 6, 2) := by decide +kernel
theorem dX9_readsText_133 : decode cX9_readsText 133 = .ok (.iload 5, 2) := by decide +kernel
theorem dX9_readsText_135 : decode cX9_readsText 135 = .ok (.iconst 3, 1) := by decide +kernel
theorem dX9_readsText_136 : decode cX9_readsText 136 = .ok (.if_icmp .lt 9, 3) := by decide +kernel
theorem dX9_readsText_139 : decode cX9_readsText 139 = .ok (.iload 6, 2) := by decide +kernel
theorem dX9_readsText_141 : decode cX9_readsText 141 = .ok (.iconst 2, 1) := by decide +kernel
theorem dX9_readsText_142 : decode cX9_readsText 142 = .ok (.if_icmp .ge 19, 3) := by decide +kernel
theorem dX9_readsText_145 : decode cX9_readsText 145 = .ok (.iload 4, 2) := by decide +kernel
theorem dX9_readsText_147 : decode cX9_readsText 147 = .ok (.iload 5, 2) := by decide +kernel
theorem dX9_readsText_149 : decode cX9_readsText 149 = .ok (.iconst 3, 1) := by decide +kernel
theorem dX9_readsText_150 : decode cX9_readsText 150 = .ok (.if_icmp .ge 8, 3) := by decide +kernel
theorem dX9_readsText_153 : decode cX9_readsText 153 = .ok (.iload 5, 2) := by decide +kernel
theorem dX9_readsText_155 : decode cX9_readsText 155 = .ok (.goto 4, 3) := by decide +kernel
theorem dX9_readsText_158 : decode cX9_readsText 158 = .ok (.iconst 2, 1) := by decide +kernel
theorem dX9_readsText_159 : decode cX9_readsText 159 = .ok (.iadd, 1) := by decide +kernel
theorem dX9_readsText_160 : decode cX9_readsText 160 = .ok (.ireturn, 1) := by decide +kernel
theorem dX9_readsText_161 : decode cX9_readsText 161 = .ok (.aload_n 0, 1) := by decide +kernel
theorem dX9_readsText_162 : decode cX9_readsText 162 = .ok (.getfield 16, 3) := by decide +kernel
theorem dX9_readsText_165 : decode cX9_readsText 165 = .ok (.iload_n 1, 1) := by decide +kernel
theorem dX9_readsText_166 : decode cX9_readsText 166 = .ok (.ifCond .ne 7, 3) := by decide +kernel
theorem dX9_readsText_169 : decode cX9_readsText 169 = .ok (.iload_n 3, 1) := by decide +kernel
theorem dX9_readsText_170 : decode cX9_readsText 170 = .ok (.goto 5, 3) := by decide +kernel
theorem dX9_readsText_173 : decode cX9_readsText 173 = .ok (.bipush 6, 2) := by decide +kernel
theorem dX9_readsText_175 : decode cX9_readsText 175 = .ok (.aload_n 0, 1) := by decide +kernel
theorem dX9_readsText_176 : decode cX9_readsText 176 = .ok (.iload_n 1, 1) := by decide +kernel
theorem dX9_readsText_177 : decode cX9_readsText 177 = .ok (.iload 4, 2) := by decide +kernel
theorem dX9_readsText_179 : decode cX9_readsText 179 = .ok (.invokevirtual 70, 3) := by decide +kernel
theorem dX9_readsText_182 : decode cX9_readsText 182 = .ok (.iastore, 1) := by decide +kernel
theorem dX9_readsText_183 : decode cX9_readsText 183 = .ok (.aload_n 0, 1) := by decide +kernel
theorem dX9_readsText_184 : decode cX9_readsText 184 = .ok (.getfield 19, 3) := by decide +kernel
theorem dX9_readsText_187 : decode cX9_readsText 187 = .ok (.iload_n 1, 1) := by decide +kernel
theorem dX9_readsText_188 : decode cX9_readsText 188 = .ok (.ifCond .ne 7, 3) := by decide +kernel
theorem dX9_readsText_191 : decode cX9_readsText 191 = .ok (.iload_n 3, 1) := by decide +kernel
theorem dX9_readsText_192 : decode cX9_readsText 192 = .ok (.goto 5, 3) := by decide +kernel
theorem dX9_readsText_195 : decode cX9_readsText 195 = .ok (.bipush 6, 2) := by decide +kernel
theorem dX9_readsText_197 : decode cX9_readsText 197 = .ok (.iload 6, 2) := by decide +kernel
theorem dX9_readsText_199 : decode cX9_readsText 199 = .ok (.iastore, 1) := by decide +kernel
theorem dX9_readsText_200 : decode cX9_readsText 200 = .ok (.iinc 3 1, 3) := by decide +kernel
theorem dX9_readsText_203 : decode cX9_readsText 203 = .ok (.iinc 4 3, 3) := by decide +kernel
theorem dX9_readsText_206 : decode cX9_readsText 206 = .ok (.iload 4, 2) := by decide +kernel
theorem dX9_readsText_208 : decode cX9_readsText 208 = .ok (.aload_n 0, 1) := by decide +kernel
theorem dX9_readsText_209 : decode cX9_readsText 209 = .ok (.getfield 7, 3) := by decide +kernel
theorem dX9_readsText_212 : decode cX9_readsText 212 = .ok (.iload_n 1, 1) := by decide +kernel
theorem dX9_readsText_213 : decode cX9_readsText 213 = .ok (.iaload, 1) := by decide +kernel
theorem dX9_readsText_214 : decode cX9_readsText 214 = .ok (.if_icmp .ne 38, 3) := by decide +kernel
theorem dX9_readsText_217 : decode cX9_readsText 217 = .ok (.aload_n 0, 1) := by decide +kernel
theorem dX9_readsText_218 : decode cX9_readsText 218 = .ok (.iload_n 1, 1) := by decide +kernel
theorem dX9_readsText_219 : decode cX9_readsText 219 = .ok (.ifCond .ne 7, 3) := by decide +kernel
theorem dX9_readsText_222 : decode cX9_readsText 222 = .ok (.iload_n 3, 1) := by decide +kernel
theorem dX9_readsText_223 : decode cX9_readsText 223 = .ok (.goto 7, 3) := by decide +kernel
theorem dX9_readsText_226 : decode cX9_readsText 226 = .ok (.aload_n 0, 1) := by decide +kernel
theorem dX9_readsText_227 : decode cX9_readsText 227 = .ok (.getfield 63, 3) := by decide +kernel
theorem dX9_readsText_230 : decode cX9_readsText 230 = .ok (.putfield 63, 3) := by decide +kernel
theorem dX9_readsText_233 : decode cX9_readsText 233 = .ok (.aload_n 0, 1) := by decide +kernel
theorem dX9_readsText_234 : decode cX9_readsText 234 = .ok (.iload_n 1, 1) := by decide +kernel
theorem dX9_readsText_235 : decode cX9_readsText 235 = .ok (.iconst 1, 1) := by decide +kernel
theorem dX9_readsText_236 : decode cX9_readsText 236 = .ok (.if_icmp .ne 7, 3) := by decide +kernel
theorem dX9_readsText_239 : decode cX9_readsText 239 = .ok (.iload_n 3, 1) := by decide +kernel
theorem dX9_readsText_240 : decode cX9_readsText 240 = .ok (.goto 7, 3) := by decide +kernel
theorem dX9_readsText_243 : decode cX9_readsText 243 = .ok (.aload_n 0, 1) := by decide +kernel
theorem dX9_readsText_244 : decode cX9_readsText 244 = .ok (.getfield 67, 3) := by decide +kernel
theorem dX9_readsText_247 : decode cX9_readsText 247 = .ok (.putfield 67, 3) := by decide +kernel
theorem dX9_readsText_250 : decode cX9_readsText 250 = .ok (.iconst (-1), 1) := by decide +kernel
theorem dX9_readsText_251 : decode cX9_readsText 251 = .ok (.ireturn, 1) := by decide +kernel
theorem dX9_readsText_252 : decode cX9_readsText 252 = .ok (.aload_n 0, 1) := by decide +kernel
theorem dX9_readsText_253 : decode cX9_readsText 253 = .ok (.getfield 13, 3) := by decide +kernel
theorem dX9_readsText_256 : decode cX9_readsText 256 = .ok (.bipush 23, 2) := by decide +kernel
theorem dX9_readsText_258 : decode cX9_readsText 258 = .ok (.iload_n 1, 1) := by decide +kernel
theorem dX9_readsText_259 : decode cX9_readsText 259 = .ok (.imul, 1) := by decide +kernel
theorem dX9_readsText_260 : decode cX9_readsText 260 = .ok (.iload 4, 2) := by decide +kernel
theorem dX9_readsText_262 : decode cX9_readsText 262 = .ok (.iadd, 1) := by decide +kernel
theorem dX9_readsText_263 : decode cX9_readsText 263 = .ok (.iaload, 1) := by decide +kernel
theorem dX9_readsText_264 : decode cX9_readsText 264 = .ok (.bipush 59, 2) := by decide +kernel
theorem dX9_readsText_266 : decode cX9_readsText 266 = .ok (.if_icmp .eq 6, 3) := by decide +kernel
theorem dX9_readsText_269 : decode cX9_readsText 269 = .ok (.iload 4, 2) := by decide +kernel
theorem dX9_readsText_271 : decode cX9_readsText 271 = .ok (.ireturn, 1) := by decide +kernel
theorem dX9_readsText_272 : decode cX9_readsText 272 = .ok (.iinc 4 1, 3) := by decide +kernel
theorem dX9_readsText_275 : decode cX9_readsText 275 = .ok (.goto (-226), 3) := by decide +kernel
theorem dX9_readsText_278 : decode cX9_readsText 278 = .ok (.iconst (-1), 1) := by decide +kernel
theorem dX9_readsText_279 : decode cX9_readsText 279 = .ok (.ireturn, 1) := by decide +kernel
theorem dX9_faultOf_0 : decode cX9_faultOf 0 = .ok (.aload_n 0, 1) := by decide +kernel
theorem dX9_faultOf_1 : decode cX9_faultOf 1 = .ok (.iconst 0, 1) := by decide +kernel
theorem dX9_faultOf_2 : decode cX9_faultOf 2 = .ok (.invokevirtual 74, 3) := by decide +kernel
theorem dX9_faultOf_5 : decode cX9_faultOf 5 = .ok (.istore_n 2, 1) := by decide +kernel
theorem dX9_faultOf_6 : decode cX9_faultOf 6 = .ok (.aload_n 0, 1) := by decide +kernel
theorem dX9_faultOf_7 : decode cX9_faultOf 7 = .ok (.iconst 1, 1) := by decide +kernel
theorem dX9_faultOf_8 : decode cX9_faultOf 8 = .ok (.invokevirtual 74, 3) := by decide +kernel
theorem dX9_faultOf_11 : decode cX9_faultOf 11 = .ok (.istore_n 3, 1) := by decide +kernel
theorem dX9_faultOf_12 : decode cX9_faultOf 12 = .ok (.iload_n 1, 1) := by decide +kernel
theorem dX9_faultOf_13 : decode cX9_faultOf 13 = .ok (.ifCond .ne 7, 3) := by decide +kernel
theorem dX9_faultOf_16 : decode cX9_faultOf 16 = .ok (.iload_n 2, 1) := by decide +kernel
theorem dX9_faultOf_17 : decode cX9_faultOf 17 = .ok (.goto 4, 3) := by decide +kernel
theorem dX9_faultOf_20 : decode cX9_faultOf 20 = .ok (.iload_n 3, 1) := by decide +kernel
theorem dX9_faultOf_21 : decode cX9_faultOf 21 = .ok (.ireturn, 1) := by decide +kernel
theorem dX9_reads_0 : decode cX9_reads 0 = .ok (.aload_n 0, 1) := by decide +kernel
theorem dX9_reads_1 : decode cX9_reads 1 = .ok (.iconst 0, 1) := by decide +kernel
theorem dX9_reads_2 : decode cX9_reads 2 = .ok (.invokevirtual 78, 3) := by decide +kernel
theorem dX9_reads_5 : decode cX9_reads 5 = .ok (.istore_n 1, 1) := by decide +kernel
theorem dX9_reads_6 : decode cX9_reads 6 = .ok (.return_, 1) := by decide +kernel
theorem dX9_fault_0 : decode cX9_fault 0 = .ok (.iload_n 1, 1) := by decide +kernel
theorem dX9_fault_1 : decode cX9_fault 1 = .ok (.invokestatic 59, 3) := by decide +kernel
theorem dX9_fault_4 : decode cX9_fault 4 = .ok (.ifCond .eq 11, 3) := by decide +kernel
theorem dX9_fault_7 : decode cX9_fault 7 = .ok (.aload_n 0, 1) := by decide +kernel
theorem dX9_fault_8 : decode cX9_fault 8 = .ok (.iload_n 1, 1) := by decide +kernel
theorem dX9_fault_9 : decode cX9_fault 9 = .ok (.invokevirtual 78, 3) := by decide +kernel
theorem dX9_fault_12 : decode cX9_fault 12 = .ok (.goto 5, 3) := by decide +kernel
theorem dX9_fault_15 : decode cX9_fault 15 = .ok (.bipush (-2), 2) := by decide +kernel
theorem dX9_fault_17 : decode cX9_fault 17 = .ok (.ireturn, 1) := by decide +kernel
theorem dX9_isSwell_0 : decode cX9_isSwell 0 = .ok (.aload_n 0, 1) := by decide +kernel
theorem dX9_isSwell_1 : decode cX9_isSwell 1 = .ok (.invokevirtual 81, 3) := by decide +kernel
theorem dX9_isSwell_4 : decode cX9_isSwell 4 = .ok (.iload_n 1, 1) := by decide +kernel
theorem dX9_isSwell_5 : decode cX9_isSwell 5 = .ok (.iconst 0, 1) := by decide +kernel
theorem dX9_isSwell_6 : decode cX9_isSwell 6 = .ok (.aload_n 0, 1) := by decide +kernel
theorem dX9_isSwell_7 : decode cX9_isSwell 7 = .ok (.getfield 63, 3) := by decide +kernel
theorem dX9_isSwell_10 : decode cX9_isSwell 10 = .ok (.iconst 1, 1) := by decide +kernel
theorem dX9_isSwell_11 : decode cX9_isSwell 11 = .ok (.isub, 1) := by decide +kernel
theorem dX9_isSwell_12 : decode cX9_isSwell 12 = .ok (.invokestatic 55, 3) := by decide +kernel
theorem dX9_isSwell_15 : decode cX9_isSwell 15 = .ok (.ireturn, 1) := by decide +kernel
theorem dX9_swell_0 : decode cX9_swell 0 = .ok (.aload_n 0, 1) := by decide +kernel
theorem dX9_swell_1 : decode cX9_swell 1 = .ok (.iload_n 1, 1) := by decide +kernel
theorem dX9_swell_2 : decode cX9_swell 2 = .ok (.invokevirtual 84, 3) := by decide +kernel
theorem dX9_swell_5 : decode cX9_swell 5 = .ok (.ifCond .eq 34, 3) := by decide +kernel
theorem dX9_swell_8 : decode cX9_swell 8 = .ok (.iload_n 2, 1) := by decide +kernel
theorem dX9_swell_9 : decode cX9_swell 9 = .ok (.iconst 0, 1) := by decide +kernel
theorem dX9_swell_10 : decode cX9_swell 10 = .ok (.iconst 1, 1) := by decide +kernel
theorem dX9_swell_11 : decode cX9_swell 11 = .ok (.invokestatic 55, 3) := by decide +kernel
theorem dX9_swell_14 : decode cX9_swell 14 = .ok (.ifCond .eq 25, 3) := by decide +kernel
theorem dX9_swell_17 : decode cX9_swell 17 = .ok (.iload_n 2, 1) := by decide +kernel
theorem dX9_swell_18 : decode cX9_swell 18 = .ok (.ifCond .ne 12, 3) := by decide +kernel
theorem dX9_swell_21 : decode cX9_swell 21 = .ok (.aload_n 0, 1) := by decide +kernel
theorem dX9_swell_22 : decode cX9_swell 22 = .ok (.getfield 16, 3) := by decide +kernel
theorem dX9_swell_25 : decode cX9_swell 25 = .ok (.iload_n 1, 1) := by decide +kernel
theorem dX9_swell_26 : decode cX9_swell 26 = .ok (.iaload, 1) := by decide +kernel
theorem dX9_swell_27 : decode cX9_swell 27 = .ok (.goto 14, 3) := by decide +kernel
theorem dX9_swell_30 : decode cX9_swell 30 = .ok (.aload_n 0, 1) := by decide +kernel
theorem dX9_swell_31 : decode cX9_swell 31 = .ok (.getfield 19, 3) := by decide +kernel
theorem dX9_swell_34 : decode cX9_swell 34 = .ok (.iload_n 1, 1) := by decide +kernel
theorem dX9_swell_35 : decode cX9_swell 35 = .ok (.iaload, 1) := by decide +kernel
theorem dX9_swell_36 : decode cX9_swell 36 = .ok (.goto 5, 3) := by decide +kernel
theorem dX9_swell_39 : decode cX9_swell 39 = .ok (.bipush (-2), 2) := by decide +kernel
theorem dX9_swell_41 : decode cX9_swell 41 = .ok (.ireturn, 1) := by decide +kernel
theorem dX9_rollOf_0 : decode cX9_rollOf 0 = .ok (.aload_n 0, 1) := by decide +kernel
theorem dX9_rollOf_1 : decode cX9_rollOf 1 = .ok (.invokevirtual 81, 3) := by decide +kernel
theorem dX9_rollOf_4 : decode cX9_rollOf 4 = .ok (.aload_n 0, 1) := by decide +kernel
theorem dX9_rollOf_5 : decode cX9_rollOf 5 = .ok (.getfield 67, 3) := by decide +kernel
theorem dX9_rollOf_8 : decode cX9_rollOf 8 = .ok (.ifCond .ne 7, 3) := by decide +kernel
theorem dX9_rollOf_11 : decode cX9_rollOf 11 = .ok (.iconst (-1), 1) := by decide +kernel
theorem dX9_rollOf_12 : decode cX9_rollOf 12 = .ok (.goto 24, 3) := by decide +kernel
theorem dX9_rollOf_15 : decode cX9_rollOf 15 = .ok (.iload_n 1, 1) := by decide +kernel
theorem dX9_rollOf_16 : decode cX9_rollOf 16 = .ok (.ifCond .ne 13, 3) := by decide +kernel
theorem dX9_rollOf_19 : decode cX9_rollOf 19 = .ok (.aload_n 0, 1) := by decide +kernel
theorem dX9_rollOf_20 : decode cX9_rollOf 20 = .ok (.getfield 16, 3) := by decide +kernel
theorem dX9_rollOf_23 : decode cX9_rollOf 23 = .ok (.bipush 6, 2) := by decide +kernel
theorem dX9_rollOf_25 : decode cX9_rollOf 25 = .ok (.iaload, 1) := by decide +kernel
theorem dX9_rollOf_26 : decode cX9_rollOf 26 = .ok (.goto 10, 3) := by decide +kernel
theorem dX9_rollOf_29 : decode cX9_rollOf 29 = .ok (.aload_n 0, 1) := by decide +kernel
theorem dX9_rollOf_30 : decode cX9_rollOf 30 = .ok (.getfield 19, 3) := by decide +kernel
theorem dX9_rollOf_33 : decode cX9_rollOf 33 = .ok (.bipush 6, 2) := by decide +kernel
theorem dX9_rollOf_35 : decode cX9_rollOf 35 = .ok (.iaload, 1) := by decide +kernel
theorem dX9_rollOf_36 : decode cX9_rollOf 36 = .ok (.ireturn, 1) := by decide +kernel
theorem dX9_roll_0 : decode cX9_roll 0 = .ok (.iload_n 1, 1) := by decide +kernel
theorem dX9_roll_1 : decode cX9_roll 1 = .ok (.iconst 0, 1) := by decide +kernel
theorem dX9_roll_2 : decode cX9_roll 2 = .ok (.iconst 1, 1) := by decide +kernel
theorem dX9_roll_3 : decode cX9_roll 3 = .ok (.invokestatic 55, 3) := by decide +kernel
theorem dX9_roll_6 : decode cX9_roll 6 = .ok (.ifCond .eq 11, 3) := by decide +kernel
theorem dX9_roll_9 : decode cX9_roll 9 = .ok (.aload_n 0, 1) := by decide +kernel
theorem dX9_roll_10 : decode cX9_roll 10 = .ok (.iload_n 1, 1) := by decide +kernel
theorem dX9_roll_11 : decode cX9_roll 11 = .ok (.invokevirtual 87, 3) := by decide +kernel
theorem dX9_roll_14 : decode cX9_roll 14 = .ok (.goto 5, 3) := by decide +kernel
theorem dX9_roll_17 : decode cX9_roll 17 = .ok (.bipush (-2), 2) := by decide +kernel
theorem dX9_roll_19 : decode cX9_roll 19 = .ok (.ireturn, 1) := by decide +kernel
theorem dX9_begins_0 : decode cX9_begins 0 = .ok (.iload_n 1, 1) := by decide +kernel
theorem dX9_begins_1 : decode cX9_begins 1 = .ok (.iconst 0, 1) := by decide +kernel
theorem dX9_begins_2 : decode cX9_begins 2 = .ok (.iconst 5, 1) := by decide +kernel
theorem dX9_begins_3 : decode cX9_begins 3 = .ok (.invokestatic 55, 3) := by decide +kernel
theorem dX9_begins_6 : decode cX9_begins 6 = .ok (.ifCond .eq 13, 3) := by decide +kernel
theorem dX9_begins_9 : decode cX9_begins 9 = .ok (.iload_n 2, 1) := by decide +kernel
theorem dX9_begins_10 : decode cX9_begins 10 = .ok (.iconst 0, 1) := by decide +kernel
theorem dX9_begins_11 : decode cX9_begins 11 = .ok (.bipush 98, 2) := by decide +kernel
theorem dX9_begins_13 : decode cX9_begins 13 = .ok (.invokestatic 55, 3) := by decide +kernel
theorem dX9_begins_16 : decode cX9_begins 16 = .ok (.ifCond .ne 6, 3) := by decide +kernel
theorem dX9_begins_19 : decode cX9_begins 19 = .ok (.bipush (-2), 2) := by decide +kernel
theorem dX9_begins_21 : decode cX9_begins 21 = .ok (.ireturn, 1) := by decide +kernel
theorem dX9_begins_22 : decode cX9_begins 22 = .ok (.aload_n 0, 1) := by decide +kernel
theorem dX9_begins_23 : decode cX9_begins 23 = .ok (.getfield 22, 3) := by decide +kernel
theorem dX9_begins_26 : decode cX9_begins 26 = .ok (.iload_n 1, 1) := by decide +kernel
theorem dX9_begins_27 : decode cX9_begins 27 = .ok (.iaload, 1) := by decide +kernel
theorem dX9_begins_28 : decode cX9_begins 28 = .ok (.istore_n 3, 1) := by decide +kernel
theorem dX9_begins_29 : decode cX9_begins 29 = .ok (.aload_n 0, 1) := by decide +kernel
theorem dX9_begins_30 : decode cX9_begins 30 = .ok (.getfield 22, 3) := by decide +kernel
theorem dX9_begins_33 : decode cX9_begins 33 = .ok (.iload_n 1, 1) := by decide +kernel
theorem dX9_begins_34 : decode cX9_begins 34 = .ok (.iload_n 2, 1) := by decide +kernel
theorem dX9_begins_35 : decode cX9_begins 35 = .ok (.iastore, 1) := by decide +kernel
theorem dX9_begins_36 : decode cX9_begins 36 = .ok (.iload_n 3, 1) := by decide +kernel
theorem dX9_begins_37 : decode cX9_begins 37 = .ok (.ireturn, 1) := by decide +kernel
theorem dX9_lee_0 : decode cX9_lee 0 = .ok (.iload_n 1, 1) := by decide +kernel
theorem dX9_lee_1 : decode cX9_lee 1 = .ok (.iconst 0, 1) := by decide +kernel
theorem dX9_lee_2 : decode cX9_lee 2 = .ok (.iconst 1, 1) := by decide +kernel
theorem dX9_lee_3 : decode cX9_lee 3 = .ok (.invokestatic 55, 3) := by decide +kernel
theorem dX9_lee_6 : decode cX9_lee 6 = .ok (.ifCond .eq 10, 3) := by decide +kernel
theorem dX9_lee_9 : decode cX9_lee 9 = .ok (.iload_n 2, 1) := by decide +kernel
theorem dX9_lee_10 : decode cX9_lee 10 = .ok (.invokestatic 90, 3) := by decide +kernel
theorem dX9_lee_13 : decode cX9_lee 13 = .ok (.ifCond .ne 6, 3) := by decide +kernel
theorem dX9_lee_16 : decode cX9_lee 16 = .ok (.bipush (-2), 2) := by decide +kernel
theorem dX9_lee_18 : decode cX9_lee 18 = .ok (.ireturn, 1) := by decide +kernel
theorem dX9_lee_19 : decode cX9_lee 19 = .ok (.iload_n 1, 1) := by decide +kernel
theorem dX9_lee_20 : decode cX9_lee 20 = .ok (.ifCond .ne 10, 3) := by decide +kernel
theorem dX9_lee_23 : decode cX9_lee 23 = .ok (.aload_n 0, 1) := by decide +kernel
theorem dX9_lee_24 : decode cX9_lee 24 = .ok (.getfield 93, 3) := by decide +kernel
theorem dX9_lee_27 : decode cX9_lee 27 = .ok (.goto 7, 3) := by decide +kernel
theorem dX9_lee_30 : decode cX9_lee 30 = .ok (.aload_n 0, 1) := by decide +kernel
theorem dX9_lee_31 : decode cX9_lee 31 = .ok (.getfield 96, 3) := by decide +kernel
theorem dX9_lee_34 : decode cX9_lee 34 = .ok (.istore_n 3, 1) := by decide +kernel
theorem dX9_lee_35 : decode cX9_lee 35 = .ok (.aload_n 0, 1) := by decide +kernel
theorem dX9_lee_36 : decode cX9_lee 36 = .ok (.iload_n 1, 1) := by decide +kernel
theorem dX9_lee_37 : decode cX9_lee 37 = .ok (.ifCond .ne 7, 3) := by decide +kernel
theorem dX9_lee_40 : decode cX9_lee 40 = .ok (.iload_n 2, 1) := by decide +kernel
theorem dX9_lee_41 : decode cX9_lee 41 = .ok (.goto 7, 3) := by decide +kernel
theorem dX9_lee_44 : decode cX9_lee 44 = .ok (.aload_n 0, 1) := by decide +kernel
theorem dX9_lee_45 : decode cX9_lee 45 = .ok (.getfield 93, 3) := by decide +kernel
theorem dX9_lee_48 : decode cX9_lee 48 = .ok (.putfield 93, 3) := by decide +kernel
theorem dX9_lee_51 : decode cX9_lee 51 = .ok (.aload_n 0, 1) := by decide +kernel
theorem dX9_lee_52 : decode cX9_lee 52 = .ok (.iload_n 1, 1) := by decide +kernel
theorem dX9_lee_53 : decode cX9_lee 53 = .ok (.iconst 1, 1) := by decide +kernel
theorem dX9_lee_54 : decode cX9_lee 54 = .ok (.if_icmp .ne 7, 3) := by decide +kernel
theorem dX9_lee_57 : decode cX9_lee 57 = .ok (.iload_n 2, 1) := by decide +kernel
theorem dX9_lee_58 : decode cX9_lee 58 = .ok (.goto 7, 3) := by decide +kernel
theorem dX9_lee_61 : decode cX9_lee 61 = .ok (.aload_n 0, 1) := by decide +kernel
theorem dX9_lee_62 : decode cX9_lee 62 = .ok (.getfield 96, 3) := by decide +kernel
theorem dX9_lee_65 : decode cX9_lee 65 = .ok (.putfield 96, 3) := by decide +kernel
theorem dX9_lee_68 : decode cX9_lee 68 = .ok (.iload_n 3, 1) := by decide +kernel
theorem dX9_lee_69 : decode cX9_lee 69 = .ok (.ireturn, 1) := by decide +kernel
theorem dX9_lowOf_0 : decode cX9_lowOf 0 = .ok (.iload_n 0, 1) := by decide +kernel
theorem dX9_lowOf_1 : decode cX9_lowOf 1 = .ok (.iconst 1, 1) := by decide +kernel
theorem dX9_lowOf_2 : decode cX9_lowOf 2 = .ok (.if_icmp .eq 14, 3) := by decide +kernel
theorem dX9_lowOf_5 : decode cX9_lowOf 5 = .ok (.iload_n 0, 1) := by decide +kernel
theorem dX9_lowOf_6 : decode cX9_lowOf 6 = .ok (.iconst 2, 1) := by decide +kernel
theorem dX9_lowOf_7 : decode cX9_lowOf 7 = .ok (.if_icmp .eq 9, 3) := by decide +kernel
theorem dX9_lowOf_10 : decode cX9_lowOf 10 = .ok (.iload_n 0, 1) := by decide +kernel
theorem dX9_lowOf_11 : decode cX9_lowOf 11 = .ok (.bipush 10, 2) := by decide +kernel
theorem dX9_lowOf_13 : decode cX9_lowOf 13 = .ok (.if_icmp .ne 7, 3) := by decide +kernel
theorem dX9_lowOf_16 : decode cX9_lowOf 16 = .ok (.iconst 1, 1) := by decide +kernel
theorem dX9_lowOf_17 : decode cX9_lowOf 17 = .ok (.goto 4, 3) := by decide +kernel
theorem dX9_lowOf_20 : decode cX9_lowOf 20 = .ok (.iconst 0, 1) := by decide +kernel
theorem dX9_lowOf_21 : decode cX9_lowOf 21 = .ok (.ireturn, 1) := by decide +kernel
theorem dX9_highOf_0 : decode cX9_highOf 0 = .ok (.iload_n 0, 1) := by decide +kernel
theorem dX9_highOf_1 : decode cX9_highOf 1 = .ok (.ifCond .ne 9, 3) := by decide +kernel
theorem dX9_highOf_4 : decode cX9_highOf 4 = .ok (.sipush 999, 3) := by decide +kernel
theorem dX9_highOf_7 : decode cX9_highOf 7 = .ok (.goto 46, 3) := by decide +kernel
theorem dX9_highOf_10 : decode cX9_highOf 10 = .ok (.iload_n 0, 1) := by decide +kernel
theorem dX9_highOf_11 : decode cX9_highOf 11 = .ok (.iconst 1, 1) := by decide +kernel
theorem dX9_highOf_12 : decode cX9_highOf 12 = .ok (.if_icmp .ne 8, 3) := by decide +kernel
theorem dX9_highOf_15 : decode cX9_highOf 15 = .ok (.bipush 12, 2) := by decide +kernel
theorem dX9_highOf_17 : decode cX9_highOf 17 = .ok (.goto 36, 3) := by decide +kernel
theorem dX9_highOf_20 : decode cX9_highOf 20 = .ok (.iload_n 0, 1) := by decide +kernel
theorem dX9_highOf_21 : decode cX9_highOf 21 = .ok (.iconst 2, 1) := by decide +kernel
theorem dX9_highOf_22 : decode cX9_highOf 22 = .ok (.if_icmp .ne 8, 3) := by decide +kernel
theorem dX9_highOf_25 : decode cX9_highOf 25 = .ok (.bipush 30, 2) := by decide +kernel
theorem dX9_highOf_27 : decode cX9_highOf 27 = .ok (.goto 26, 3) := by decide +kernel
theorem dX9_highOf_30 : decode cX9_highOf 30 = .ok (.iload_n 0, 1) := by decide +kernel
theorem dX9_highOf_31 : decode cX9_highOf 31 = .ok (.iconst 3, 1) := by decide +kernel
theorem dX9_highOf_32 : decode cX9_highOf 32 = .ok (.if_icmp .ne 8, 3) := by decide +kernel
theorem dX9_highOf_35 : decode cX9_highOf 35 = .ok (.bipush 99, 2) := by decide +kernel
theorem dX9_highOf_37 : decode cX9_highOf 37 = .ok (.goto 16, 3) := by decide +kernel
theorem dX9_highOf_40 : decode cX9_highOf 40 = .ok (.iload_n 0, 1) := by decide +kernel
theorem dX9_highOf_41 : decode cX9_highOf 41 = .ok (.bipush 10, 2) := by decide +kernel
theorem dX9_highOf_43 : decode cX9_highOf 43 = .ok (.if_icmp .ge 8, 3) := by decide +kernel
theorem dX9_highOf_46 : decode cX9_highOf 46 = .ok (.bipush 16, 2) := by decide +kernel
theorem dX9_highOf_48 : decode cX9_highOf 48 = .ok (.goto 5, 3) := by decide +kernel
theorem dX9_highOf_51 : decode cX9_highOf 51 = .ok (.bipush 9, 2) := by decide +kernel
theorem dX9_highOf_53 : decode cX9_highOf 53 = .ok (.ireturn, 1) := by decide +kernel
theorem dX9_set_0 : decode cX9_set 0 = .ok (.iload_n 1, 1) := by decide +kernel
theorem dX9_set_1 : decode cX9_set 1 = .ok (.iconst 0, 1) := by decide +kernel
theorem dX9_set_2 : decode cX9_set 2 = .ok (.bipush 11, 2) := by decide +kernel
theorem dX9_set_4 : decode cX9_set 4 = .ok (.invokestatic 55, 3) := by decide +kernel
theorem dX9_set_7 : decode cX9_set 7 = .ok (.ifCond .eq 18, 3) := by decide +kernel
theorem dX9_set_10 : decode cX9_set 10 = .ok (.iload_n 2, 1) := by decide +kernel
theorem dX9_set_11 : decode cX9_set 11 = .ok (.iload_n 1, 1) := by decide +kernel
theorem dX9_set_12 : decode cX9_set 12 = .ok (.invokestatic 99, 3) := by decide +kernel
theorem dX9_set_15 : decode cX9_set 15 = .ok (.iload_n 1, 1) := by decide +kernel
theorem dX9_set_16 : decode cX9_set 16 = .ok (.invokestatic 102, 3) := by decide +kernel
theorem dX9_set_19 : decode cX9_set 19 = .ok (.invokestatic 55, 3) := by decide +kernel
theorem dX9_set_22 : decode cX9_set 22 = .ok (.ifCond .ne 6, 3) := by decide +kernel
theorem dX9_set_25 : decode cX9_set 25 = .ok (.bipush (-2), 2) := by decide +kernel
theorem dX9_set_27 : decode cX9_set 27 = .ok (.ireturn, 1) := by decide +kernel
theorem dX9_set_28 : decode cX9_set 28 = .ok (.aload_n 0, 1) := by decide +kernel
theorem dX9_set_29 : decode cX9_set 29 = .ok (.getfield 25, 3) := by decide +kernel
theorem dX9_set_32 : decode cX9_set 32 = .ok (.iload_n 1, 1) := by decide +kernel
theorem dX9_set_33 : decode cX9_set 33 = .ok (.iaload, 1) := by decide +kernel
theorem dX9_set_34 : decode cX9_set 34 = .ok (.istore_n 3, 1) := by decide +kernel
theorem dX9_set_35 : decode cX9_set 35 = .ok (.aload_n 0, 1) := by decide +kernel
theorem dX9_set_36 : decode cX9_set 36 = .ok (.getfield 25, 3) := by decide +kernel
theorem dX9_set_39 : decode cX9_set 39 = .ok (.iload_n 1, 1) := by decide +kernel
theorem dX9_set_40 : decode cX9_set 40 = .ok (.iload_n 2, 1) := by decide +kernel
theorem dX9_set_41 : decode cX9_set 41 = .ok (.iastore, 1) := by decide +kernel
theorem dX9_set_42 : decode cX9_set 42 = .ok (.iload_n 3, 1) := by decide +kernel
theorem dX9_set_43 : decode cX9_set 43 = .ok (.ireturn, 1) := by decide +kernel
theorem dX9_isLee_0 : decode cX9_isLee 0 = .ok (.iload_n 1, 1) := by decide +kernel
theorem dX9_isLee_1 : decode cX9_isLee 1 = .ok (.aload_n 0, 1) := by decide +kernel
theorem dX9_isLee_2 : decode cX9_isLee 2 = .ok (.getfield 93, 3) := by decide +kernel
theorem dX9_isLee_5 : decode cX9_isLee 5 = .ok (.if_icmp .lt 20, 3) := by decide +kernel
theorem dX9_isLee_8 : decode cX9_isLee 8 = .ok (.iload_n 1, 1) := by decide +kernel
theorem dX9_isLee_9 : decode cX9_isLee 9 = .ok (.aload_n 0, 1) := by decide +kernel
theorem dX9_isLee_10 : decode cX9_isLee 10 = .ok (.getfield 93, 3) := by decide +kernel
theorem dX9_isLee_13 : decode cX9_isLee 13 = .ok (.aload_n 0, 1) := by decide +kernel
theorem dX9_isLee_14 : decode cX9_isLee 14 = .ok (.getfield 96, 3) := by decide +kernel
theorem dX9_isLee_17 : decode cX9_isLee 17 = .ok (.iadd, 1) := by decide +kernel
theorem dX9_isLee_18 : decode cX9_isLee 18 = .ok (.if_icmp .ge 7, 3) := by decide +kernel
theorem dX9_isLee_21 : decode cX9_isLee 21 = .ok (.iconst 1, 1) := by decide +kernel
theorem dX9_isLee_22 : decode cX9_isLee 22 = .ok (.goto 4, 3) := by decide +kernel
theorem dX9_isLee_25 : decode cX9_isLee 25 = .ok (.iconst 0, 1) := by decide +kernel
theorem dX9_isLee_26 : decode cX9_isLee 26 = .ok (.ireturn, 1) := by decide +kernel
theorem dX9_rawHigh_0 : decode cX9_rawHigh 0 = .ok (.iconst 0, 1) := by decide +kernel
theorem dX9_rawHigh_1 : decode cX9_rawHigh 1 = .ok (.istore_n 2, 1) := by decide +kernel
theorem dX9_rawHigh_2 : decode cX9_rawHigh 2 = .ok (.iconst 0, 1) := by decide +kernel
theorem dX9_rawHigh_3 : decode cX9_rawHigh 3 = .ok (.istore_n 3, 1) := by decide +kernel
theorem dX9_rawHigh_4 : decode cX9_rawHigh 4 = .ok (.iload_n 3, 1) := by decide +kernel
theorem dX9_rawHigh_5 : decode cX9_rawHigh 5 = .ok (.aload_n 0, 1) := by decide +kernel
theorem dX9_rawHigh_6 : decode cX9_rawHigh 6 = .ok (.getfield 63, 3) := by decide +kernel
theorem dX9_rawHigh_9 : decode cX9_rawHigh 9 = .ok (.if_icmp .ge 63, 3) := by decide +kernel
theorem dX9_rawHigh_12 : decode cX9_rawHigh 12 = .ok (.iload_n 1, 1) := by decide +kernel
theorem dX9_rawHigh_13 : decode cX9_rawHigh 13 = .ok (.aload_n 0, 1) := by decide +kernel
theorem dX9_rawHigh_14 : decode cX9_rawHigh 14 = .ok (.getfield 22, 3) := by decide +kernel
theorem dX9_rawHigh_17 : decode cX9_rawHigh 17 = .ok (.iload_n 3, 1) := by decide +kernel
theorem dX9_rawHigh_18 : decode cX9_rawHigh 18 = .ok (.iaload, 1) := by decide +kernel
theorem dX9_rawHigh_19 : decode cX9_rawHigh 19 = .ok (.iadd, 1) := by decide +kernel
theorem dX9_rawHigh_20 : decode cX9_rawHigh 20 = .ok (.aload_n 0, 1) := by decide +kernel
theorem dX9_rawHigh_21 : decode cX9_rawHigh 21 = .ok (.getfield 19, 3) := by decide +kernel
theorem dX9_rawHigh_24 : decode cX9_rawHigh 24 = .ok (.iload_n 3, 1) := by decide +kernel
theorem dX9_rawHigh_25 : decode cX9_rawHigh 25 = .ok (.iaload, 1) := by decide +kernel
theorem dX9_rawHigh_26 : decode cX9_rawHigh 26 = .ok (.irem, 1) := by decide +kernel
theorem dX9_rawHigh_27 : decode cX9_rawHigh 27 = .ok (.istore 4, 2) := by decide +kernel
theorem dX9_rawHigh_29 : decode cX9_rawHigh 29 = .ok (.iload_n 2, 1) := by decide +kernel
theorem dX9_rawHigh_30 : decode cX9_rawHigh 30 = .ok (.aload_n 0, 1) := by decide +kernel
theorem dX9_rawHigh_31 : decode cX9_rawHigh 31 = .ok (.getfield 16, 3) := by decide +kernel
theorem dX9_rawHigh_34 : decode cX9_rawHigh 34 = .ok (.iload_n 3, 1) := by decide +kernel
theorem dX9_rawHigh_35 : decode cX9_rawHigh 35 = .ok (.iaload, 1) := by decide +kernel
theorem dX9_rawHigh_36 : decode cX9_rawHigh 36 = .ok (.iconst 2, 1) := by decide +kernel
theorem dX9_rawHigh_37 : decode cX9_rawHigh 37 = .ok (.iload 4, 2) := by decide +kernel
theorem dX9_rawHigh_39 : decode cX9_rawHigh 39 = .ok (.imul, 1) := by decide +kernel
theorem dX9_rawHigh_40 : decode cX9_rawHigh 40 = .ok (.aload_n 0, 1) := by decide +kernel
theorem dX9_rawHigh_41 : decode cX9_rawHigh 41 = .ok (.getfield 19, 3) := by decide +kernel
theorem dX9_rawHigh_44 : decode cX9_rawHigh 44 = .ok (.iload_n 3, 1) := by decide +kernel
theorem dX9_rawHigh_45 : decode cX9_rawHigh 45 = .ok (.iaload, 1) := by decide +kernel
theorem dX9_rawHigh_46 : decode cX9_rawHigh 46 = .ok (.if_icmp .ge 8, 3) := by decide +kernel
theorem dX9_rawHigh_49 : decode cX9_rawHigh 49 = .ok (.iload 4, 2) := by decide +kernel
theorem dX9_rawHigh_51 : decode cX9_rawHigh 51 = .ok (.goto 12, 3) := by decide +kernel
theorem dX9_rawHigh_54 : decode cX9_rawHigh 54 = .ok (.aload_n 0, 1) := by decide +kernel
theorem dX9_rawHigh_55 : decode cX9_rawHigh 55 = .ok (.getfield 19, 3) := by decide +kernel
theorem dX9_rawHigh_58 : decode cX9_rawHigh 58 = .ok (.iload_n 3, 1) := by decide +kernel
theorem dX9_rawHigh_59 : decode cX9_rawHigh 59 = .ok (.iaload, 1) := by decide +kernel
theorem dX9_rawHigh_60 : decode cX9_rawHigh 60 = .ok (.iload 4, 2) := by decide +kernel
theorem dX9_rawHigh_62 : decode cX9_rawHigh 62 = .ok (.isub, 1) := by decide +kernel
theorem dX9_rawHigh_63 : decode cX9_rawHigh 63 = .ok (.imul, 1) := by decide +kernel
theorem dX9_rawHigh_64 : decode cX9_rawHigh 64 = .ok (.iadd, 1) := by decide +kernel
theorem dX9_rawHigh_65 : decode cX9_rawHigh 65 = .ok (.istore_n 2, 1) := by decide +kernel
theorem dX9_rawHigh_66 : decode cX9_rawHigh 66 = .ok (.iinc 3 1, 3) := by decide +kernel
theorem dX9_rawHigh_69 : decode cX9_rawHigh 69 = .ok (.goto (-65), 3) := by decide +kernel
theorem dX9_rawHigh_72 : decode cX9_rawHigh 72 = .ok (.iload_n 2, 1) := by decide +kernel
theorem dX9_rawHigh_73 : decode cX9_rawHigh 73 = .ok (.ireturn, 1) := by decide +kernel
theorem dX9_highBy_0 : decode cX9_highBy 0 = .ok (.aload_n 0, 1) := by decide +kernel
theorem dX9_highBy_1 : decode cX9_highBy 1 = .ok (.iload_n 1, 1) := by decide +kernel
theorem dX9_highBy_2 : decode cX9_highBy 2 = .ok (.invokevirtual 105, 3) := by decide +kernel
theorem dX9_highBy_5 : decode cX9_highBy 5 = .ok (.ifCond .eq 13, 3) := by decide +kernel
theorem dX9_highBy_8 : decode cX9_highBy 8 = .ok (.aload_n 0, 1) := by decide +kernel
theorem dX9_highBy_9 : decode cX9_highBy 9 = .ok (.iload_n 1, 1) := by decide +kernel
theorem dX9_highBy_10 : decode cX9_highBy 10 = .ok (.invokevirtual 108, 3) := by decide +kernel
theorem dX9_highBy_13 : decode cX9_highBy 13 = .ok (.iconst 2, 1) := by decide +kernel
theorem dX9_highBy_14 : decode cX9_highBy 14 = .ok (.idiv, 1) := by decide +kernel
theorem dX9_highBy_15 : decode cX9_highBy 15 = .ok (.goto 8, 3) := by decide +kernel
theorem dX9_highBy_18 : decode cX9_highBy 18 = .ok (.aload_n 0, 1) := by decide +kernel
theorem dX9_highBy_19 : decode cX9_highBy 19 = .ok (.iload_n 1, 1) := by decide +kernel
theorem dX9_highBy_20 : decode cX9_highBy 20 = .ok (.invokevirtual 108, 3) := by decide +kernel
theorem dX9_highBy_23 : decode cX9_highBy 23 = .ok (.ireturn, 1) := by decide +kernel
theorem dX9_lays_0 : decode cX9_lays 0 = .ok (.aload_n 0, 1) := by decide +kernel
theorem dX9_lays_1 : decode cX9_lays 1 = .ok (.invokevirtual 81, 3) := by decide +kernel
theorem dX9_lays_4 : decode cX9_lays 4 = .ok (.iconst 0, 1) := by decide +kernel
theorem dX9_lays_5 : decode cX9_lays 5 = .ok (.istore_n 1, 1) := by decide +kernel
theorem dX9_lays_6 : decode cX9_lays 6 = .ok (.iload_n 1, 1) := by decide +kernel
theorem dX9_lays_7 : decode cX9_lays 7 = .ok (.sipush 400, 3) := by decide +kernel
theorem dX9_lays_10 : decode cX9_lays 10 = .ok (.if_icmp .ge 20, 3) := by decide +kernel
theorem dX9_lays_13 : decode cX9_lays 13 = .ok (.aload_n 0, 1) := by decide +kernel
theorem dX9_lays_14 : decode cX9_lays 14 = .ok (.getfield 28, 3) := by decide +kernel
theorem dX9_lays_17 : decode cX9_lays 17 = .ok (.iload_n 1, 1) := by decide +kernel
theorem dX9_lays_18 : decode cX9_lays 18 = .ok (.aload_n 0, 1) := by decide +kernel
theorem dX9_lays_19 : decode cX9_lays 19 = .ok (.iload_n 1, 1) := by decide +kernel
theorem dX9_lays_20 : decode cX9_lays 20 = .ok (.invokevirtual 111, 3) := by decide +kernel
theorem dX9_lays_23 : decode cX9_lays 23 = .ok (.iastore, 1) := by decide +kernel
theorem dX9_lays_24 : decode cX9_lays 24 = .ok (.iinc 1 1, 3) := by decide +kernel
theorem dX9_lays_27 : decode cX9_lays 27 = .ok (.goto (-21), 3) := by decide +kernel
theorem dX9_lays_30 : decode cX9_lays 30 = .ok (.return_, 1) := by decide +kernel
theorem dX9_highOfTenth_0 : decode cX9_highOfTenth 0 = .ok (.aload_n 0, 1) := by decide +kernel
theorem dX9_highOfTenth_1 : decode cX9_highOfTenth 1 = .ok (.invokevirtual 81, 3) := by decide +kernel
theorem dX9_highOfTenth_4 : decode cX9_highOfTenth 4 = .ok (.aload_n 0, 1) := by decide +kernel
theorem dX9_highOfTenth_5 : decode cX9_highOfTenth 5 = .ok (.iload_n 1, 1) := by decide +kernel
theorem dX9_highOfTenth_6 : decode cX9_highOfTenth 6 = .ok (.invokevirtual 111, 3) := by decide +kernel
theorem dX9_highOfTenth_9 : decode cX9_highOfTenth 9 = .ok (.ireturn, 1) := by decide +kernel
theorem dX9_high_0 : decode cX9_high 0 = .ok (.iload_n 1, 1) := by decide +kernel
theorem dX9_high_1 : decode cX9_high 1 = .ok (.invokestatic 90, 3) := by decide +kernel
theorem dX9_high_4 : decode cX9_high 4 = .ok (.ifCond .eq 11, 3) := by decide +kernel
theorem dX9_high_7 : decode cX9_high 7 = .ok (.aload_n 0, 1) := by decide +kernel
theorem dX9_high_8 : decode cX9_high 8 = .ok (.iload_n 1, 1) := by decide +kernel
theorem dX9_high_9 : decode cX9_high 9 = .ok (.invokevirtual 114, 3) := by decide +kernel
theorem dX9_high_12 : decode cX9_high 12 = .ok (.goto 5, 3) := by decide +kernel
theorem dX9_high_15 : decode cX9_high 15 = .ok (.bipush (-2), 2) := by decide +kernel
theorem dX9_high_17 : decode cX9_high 17 = .ok (.ireturn, 1) := by decide +kernel
theorem dX9_doesNow_0 : decode cX9_doesNow 0 = .ok (.iload_n 1, 1) := by decide +kernel
theorem dX9_doesNow_1 : decode cX9_doesNow 1 = .ok (.ifCond .eq 10, 3) := by decide +kernel
theorem dX9_doesNow_4 : decode cX9_doesNow 4 = .ok (.iload_n 1, 1) := by decide +kernel
theorem dX9_doesNow_5 : decode cX9_doesNow 5 = .ok (.sipush 399, 3) := by decide +kernel
theorem dX9_doesNow_8 : decode cX9_doesNow 8 = .ok (.if_icmp .ne 5, 3) := by decide +kernel
theorem dX9_doesNow_11 : decode cX9_doesNow 11 = .ok (.iconst 0, 1) := by decide +kernel
theorem dX9_doesNow_12 : decode cX9_doesNow 12 = .ok (.ireturn, 1) := by decide +kernel
theorem dX9_doesNow_13 : decode cX9_doesNow 13 = .ok (.aload_n 0, 1) := by decide +kernel
theorem dX9_doesNow_14 : decode cX9_doesNow 14 = .ok (.getfield 28, 3) := by decide +kernel
theorem dX9_doesNow_17 : decode cX9_doesNow 17 = .ok (.iload_n 1, 1) := by decide +kernel
theorem dX9_doesNow_18 : decode cX9_doesNow 18 = .ok (.iconst 1, 1) := by decide +kernel
theorem dX9_doesNow_19 : decode cX9_doesNow 19 = .ok (.isub, 1) := by decide +kernel
theorem dX9_doesNow_20 : decode cX9_doesNow 20 = .ok (.iaload, 1) := by decide +kernel
theorem dX9_doesNow_21 : decode cX9_doesNow 21 = .ok (.aload_n 0, 1) := by decide +kernel
theorem dX9_doesNow_22 : decode cX9_doesNow 22 = .ok (.getfield 28, 3) := by decide +kernel
theorem dX9_doesNow_25 : decode cX9_doesNow 25 = .ok (.iload_n 1, 1) := by decide +kernel
theorem dX9_doesNow_26 : decode cX9_doesNow 26 = .ok (.iaload, 1) := by decide +kernel
theorem dX9_doesNow_27 : decode cX9_doesNow 27 = .ok (.if_icmp .gt 22, 3) := by decide +kernel
theorem dX9_doesNow_30 : decode cX9_doesNow 30 = .ok (.aload_n 0, 1) := by decide +kernel
theorem dX9_doesNow_31 : decode cX9_doesNow 31 = .ok (.getfield 28, 3) := by decide +kernel
theorem dX9_doesNow_34 : decode cX9_doesNow 34 = .ok (.iload_n 1, 1) := by decide +kernel
theorem dX9_doesNow_35 : decode cX9_doesNow 35 = .ok (.iconst 1, 1) := by decide +kernel
theorem dX9_doesNow_36 : decode cX9_doesNow 36 = .ok (.iadd, 1) := by decide +kernel
theorem dX9_doesNow_37 : decode cX9_doesNow 37 = .ok (.iaload, 1) := by decide +kernel
theorem dX9_doesNow_38 : decode cX9_doesNow 38 = .ok (.aload_n 0, 1) := by decide +kernel
theorem dX9_doesNow_39 : decode cX9_doesNow 39 = .ok (.getfield 28, 3) := by decide +kernel
theorem dX9_doesNow_42 : decode cX9_doesNow 42 = .ok (.iload_n 1, 1) := by decide +kernel
theorem dX9_doesNow_43 : decode cX9_doesNow 43 = .ok (.iaload, 1) := by decide +kernel
theorem dX9_doesNow_44 : decode cX9_doesNow 44 = .ok (.if_icmp .ge 5, 3) := by decide +kernel
theorem dX9_doesNow_47 : decode cX9_doesNow 47 = .ok (.iconst 1, 1) := by decide +kernel
theorem dX9_doesNow_48 : decode cX9_doesNow 48 = .ok (.ireturn, 1) := by decide +kernel
theorem dX9_doesNow_49 : decode cX9_doesNow 49 = .ok (.aload_n 0, 1) := by decide +kernel
theorem dX9_doesNow_50 : decode cX9_doesNow 50 = .ok (.getfield 28, 3) := by decide +kernel
theorem dX9_doesNow_53 : decode cX9_doesNow 53 = .ok (.iload_n 1, 1) := by decide +kernel
theorem dX9_doesNow_54 : decode cX9_doesNow 54 = .ok (.iconst 1, 1) := by decide +kernel
theorem dX9_doesNow_55 : decode cX9_doesNow 55 = .ok (.iadd, 1) := by decide +kernel
theorem dX9_doesNow_56 : decode cX9_doesNow 56 = .ok (.iaload, 1) := by decide +kernel
theorem dX9_doesNow_57 : decode cX9_doesNow 57 = .ok (.aload_n 0, 1) := by decide +kernel
theorem dX9_doesNow_58 : decode cX9_doesNow 58 = .ok (.getfield 28, 3) := by decide +kernel
theorem dX9_doesNow_61 : decode cX9_doesNow 61 = .ok (.iload_n 1, 1) := by decide +kernel
theorem dX9_doesNow_62 : decode cX9_doesNow 62 = .ok (.iaload, 1) := by decide +kernel
theorem dX9_doesNow_63 : decode cX9_doesNow 63 = .ok (.if_icmp .le 7, 3) := by decide +kernel
theorem dX9_doesNow_66 : decode cX9_doesNow 66 = .ok (.iconst 2, 1) := by decide +kernel
theorem dX9_doesNow_67 : decode cX9_doesNow 67 = .ok (.goto 25, 3) := by decide +kernel
theorem dX9_doesNow_70 : decode cX9_doesNow 70 = .ok (.aload_n 0, 1) := by decide +kernel
theorem dX9_doesNow_71 : decode cX9_doesNow 71 = .ok (.getfield 28, 3) := by decide +kernel
theorem dX9_doesNow_74 : decode cX9_doesNow 74 = .ok (.iload_n 1, 1) := by decide +kernel
theorem dX9_doesNow_75 : decode cX9_doesNow 75 = .ok (.iconst 1, 1) := by decide +kernel
theorem dX9_doesNow_76 : decode cX9_doesNow 76 = .ok (.iadd, 1) := by decide +kernel
theorem dX9_doesNow_77 : decode cX9_doesNow 77 = .ok (.iaload, 1) := by decide +kernel
theorem dX9_doesNow_78 : decode cX9_doesNow 78 = .ok (.aload_n 0, 1) := by decide +kernel
theorem dX9_doesNow_79 : decode cX9_doesNow 79 = .ok (.getfield 28, 3) := by decide +kernel
theorem dX9_doesNow_82 : decode cX9_doesNow 82 = .ok (.iload_n 1, 1) := by decide +kernel
theorem dX9_doesNow_83 : decode cX9_doesNow 83 = .ok (.iaload, 1) := by decide +kernel
theorem dX9_doesNow_84 : decode cX9_doesNow 84 = .ok (.if_icmp .ge 7, 3) := by decide +kernel
theorem dX9_doesNow_87 : decode cX9_doesNow 87 = .ok (.iconst 3, 1) := by decide +kernel
theorem dX9_doesNow_88 : decode cX9_doesNow 88 = .ok (.goto 4, 3) := by decide +kernel
theorem dX9_doesNow_91 : decode cX9_doesNow 91 = .ok (.iconst 0, 1) := by decide +kernel
theorem dX9_doesNow_92 : decode cX9_doesNow 92 = .ok (.ireturn, 1) := by decide +kernel
theorem dX9_doesOf_0 : decode cX9_doesOf 0 = .ok (.aload_n 0, 1) := by decide +kernel
theorem dX9_doesOf_1 : decode cX9_doesOf 1 = .ok (.invokevirtual 117, 3) := by decide +kernel
theorem dX9_doesOf_4 : decode cX9_doesOf 4 = .ok (.aload_n 0, 1) := by decide +kernel
theorem dX9_doesOf_5 : decode cX9_doesOf 5 = .ok (.iload_n 1, 1) := by decide +kernel
theorem dX9_doesOf_6 : decode cX9_doesOf 6 = .ok (.invokevirtual 120, 3) := by decide +kernel
theorem dX9_doesOf_9 : decode cX9_doesOf 9 = .ok (.ireturn, 1) := by decide +kernel
theorem dX9_does_0 : decode cX9_does 0 = .ok (.iload_n 1, 1) := by decide +kernel
theorem dX9_does_1 : decode cX9_does 1 = .ok (.invokestatic 90, 3) := by decide +kernel
theorem dX9_does_4 : decode cX9_does 4 = .ok (.ifCond .eq 11, 3) := by decide +kernel
theorem dX9_does_7 : decode cX9_does 7 = .ok (.aload_n 0, 1) := by decide +kernel
theorem dX9_does_8 : decode cX9_does 8 = .ok (.iload_n 1, 1) := by decide +kernel
theorem dX9_does_9 : decode cX9_does 9 = .ok (.invokevirtual 123, 3) := by decide +kernel
theorem dX9_does_12 : decode cX9_does 12 = .ok (.goto 5, 3) := by decide +kernel
theorem dX9_does_15 : decode cX9_does 15 = .ok (.bipush (-2), 2) := by decide +kernel
theorem dX9_does_17 : decode cX9_does 17 = .ok (.ireturn, 1) := by decide +kernel
theorem dX9_leansNow_0 : decode cX9_leansNow 0 = .ok (.aload_n 0, 1) := by decide +kernel
theorem dX9_leansNow_1 : decode cX9_leansNow 1 = .ok (.getfield 67, 3) := by decide +kernel
theorem dX9_leansNow_4 : decode cX9_leansNow 4 = .ok (.ifCond .eq 13, 3) := by decide +kernel
theorem dX9_leansNow_7 : decode cX9_leansNow 7 = .ok (.aload_n 0, 1) := by decide +kernel
theorem dX9_leansNow_8 : decode cX9_leansNow 8 = .ok (.getfield 16, 3) := by decide +kernel
theorem dX9_leansNow_11 : decode cX9_leansNow 11 = .ok (.bipush 6, 2) := by decide +kernel
theorem dX9_leansNow_13 : decode cX9_leansNow 13 = .ok (.iaload, 1) := by decide +kernel
theorem dX9_leansNow_14 : decode cX9_leansNow 14 = .ok (.ifCond .ne 5, 3) := by decide +kernel
theorem dX9_leansNow_17 : decode cX9_leansNow 17 = .ok (.iconst 0, 1) := by decide +kernel
theorem dX9_leansNow_18 : decode cX9_leansNow 18 = .ok (.ireturn, 1) := by decide +kernel
theorem dX9_leansNow_19 : decode cX9_leansNow 19 = .ok (.iconst 4, 1) := by decide +kernel
theorem dX9_leansNow_20 : decode cX9_leansNow 20 = .ok (.iload_n 1, 1) := by decide +kernel
theorem dX9_leansNow_21 : decode cX9_leansNow 21 = .ok (.aload_n 0, 1) := by decide +kernel
theorem dX9_leansNow_22 : decode cX9_leansNow 22 = .ok (.getfield 19, 3) := by decide +kernel
theorem dX9_leansNow_25 : decode cX9_leansNow 25 = .ok (.bipush 6, 2) := by decide +kernel
theorem dX9_leansNow_27 : decode cX9_leansNow 27 = .ok (.iaload, 1) := by decide +kernel
theorem dX9_leansNow_28 : decode cX9_leansNow 28 = .ok (.irem, 1) := by decide +kernel
theorem dX9_leansNow_29 : decode cX9_leansNow 29 = .ok (.imul, 1) := by decide +kernel
theorem dX9_leansNow_30 : decode cX9_leansNow 30 = .ok (.istore_n 2, 1) := by decide +kernel
theorem dX9_leansNow_31 : decode cX9_leansNow 31 = .ok (.iload_n 2, 1) := by decide +kernel
theorem dX9_leansNow_32 : decode cX9_leansNow 32 = .ok (.aload_n 0, 1) := by decide +kernel
theorem dX9_leansNow_33 : decode cX9_leansNow 33 = .ok (.getfield 19, 3) := by decide +kernel
theorem dX9_leansNow_36 : decode cX9_leansNow 36 = .ok (.bipush 6, 2) := by decide +kernel
theorem dX9_leansNow_38 : decode cX9_leansNow 38 = .ok (.iaload, 1) := by decide +kernel
theorem dX9_leansNow_39 : decode cX9_leansNow 39 = .ok (.if_icmp .lt 16, 3) := by decide +kernel
theorem dX9_leansNow_42 : decode cX9_leansNow 42 = .ok (.iload_n 2, 1) := by decide +kernel
theorem dX9_leansNow_43 : decode cX9_leansNow 43 = .ok (.iconst 3, 1) := by decide +kernel
theorem dX9_leansNow_44 : decode cX9_leansNow 44 = .ok (.aload_n 0, 1) := by decide +kernel
theorem dX9_leansNow_45 : decode cX9_leansNow 45 = .ok (.getfield 19, 3) := by decide +kernel
theorem dX9_leansNow_48 : decode cX9_leansNow 48 = .ok (.bipush 6, 2) := by decide +kernel
theorem dX9_leansNow_50 : decode cX9_leansNow 50 = .ok (.iaload, 1) := by decide +kernel
theorem dX9_leansNow_51 : decode cX9_leansNow 51 = .ok (.imul, 1) := by decide +kernel
theorem dX9_leansNow_52 : decode cX9_leansNow 52 = .ok (.if_icmp .lt 7, 3) := by decide +kernel
theorem dX9_leansNow_55 : decode cX9_leansNow 55 = .ok (.iconst 1, 1) := by decide +kernel
theorem dX9_leansNow_56 : decode cX9_leansNow 56 = .ok (.goto 4, 3) := by decide +kernel
theorem dX9_leansNow_59 : decode cX9_leansNow 59 = .ok (.iconst 2, 1) := by decide +kernel
theorem dX9_leansNow_60 : decode cX9_leansNow 60 = .ok (.ireturn, 1) := by decide +kernel
theorem dX9_leansOf_0 : decode cX9_leansOf 0 = .ok (.aload_n 0, 1) := by decide +kernel
theorem dX9_leansOf_1 : decode cX9_leansOf 1 = .ok (.invokevirtual 81, 3) := by decide +kernel
theorem dX9_leansOf_4 : decode cX9_leansOf 4 = .ok (.aload_n 0, 1) := by decide +kernel
theorem dX9_leansOf_5 : decode cX9_leansOf 5 = .ok (.iload_n 1, 1) := by decide +kernel
theorem dX9_leansOf_6 : decode cX9_leansOf 6 = .ok (.invokevirtual 126, 3) := by decide +kernel
theorem dX9_leansOf_9 : decode cX9_leansOf 9 = .ok (.ireturn, 1) := by decide +kernel
theorem dX9_leans_0 : decode cX9_leans 0 = .ok (.iload_n 1, 1) := by decide +kernel
theorem dX9_leans_1 : decode cX9_leans 1 = .ok (.invokestatic 90, 3) := by decide +kernel
theorem dX9_leans_4 : decode cX9_leans 4 = .ok (.ifCond .eq 11, 3) := by decide +kernel
theorem dX9_leans_7 : decode cX9_leans 7 = .ok (.aload_n 0, 1) := by decide +kernel
theorem dX9_leans_8 : decode cX9_leans 8 = .ok (.iload_n 1, 1) := by decide +kernel
theorem dX9_leans_9 : decode cX9_leans 9 = .ok (.invokevirtual 129, 3) := by decide +kernel
theorem dX9_leans_12 : decode cX9_leans 12 = .ok (.goto 5, 3) := by decide +kernel
theorem dX9_leans_15 : decode cX9_leans 15 = .ok (.bipush (-2), 2) := by decide +kernel
theorem dX9_leans_17 : decode cX9_leans 17 = .ok (.ireturn, 1) := by decide +kernel
theorem dX9_nextCrest_0 : decode cX9_nextCrest 0 = .ok (.iload_n 1, 1) := by decide +kernel
theorem dX9_nextCrest_1 : decode cX9_nextCrest 1 = .ok (.istore_n 2, 1) := by decide +kernel
theorem dX9_nextCrest_2 : decode cX9_nextCrest 2 = .ok (.iload_n 2, 1) := by decide +kernel
theorem dX9_nextCrest_3 : decode cX9_nextCrest 3 = .ok (.sipush 400, 3) := by decide +kernel
theorem dX9_nextCrest_6 : decode cX9_nextCrest 6 = .ok (.if_icmp .ge 20, 3) := by decide +kernel
theorem dX9_nextCrest_9 : decode cX9_nextCrest 9 = .ok (.aload_n 0, 1) := by decide +kernel
theorem dX9_nextCrest_10 : decode cX9_nextCrest 10 = .ok (.iload_n 2, 1) := by decide +kernel
theorem dX9_nextCrest_11 : decode cX9_nextCrest 11 = .ok (.invokevirtual 120, 3) := by decide +kernel
theorem dX9_nextCrest_14 : decode cX9_nextCrest 14 = .ok (.iconst 1, 1) := by decide +kernel
theorem dX9_nextCrest_15 : decode cX9_nextCrest 15 = .ok (.if_icmp .ne 5, 3) := by decide +kernel
theorem dX9_nextCrest_18 : decode cX9_nextCrest 18 = .ok (.iload_n 2, 1) := by decide +kernel
theorem dX9_nextCrest_19 : decode cX9_nextCrest 19 = .ok (.ireturn, 1) := by decide +kernel
theorem dX9_nextCrest_20 : decode cX9_nextCrest 20 = .ok (.iinc 2 1, 3) := by decide +kernel
theorem dX9_nextCrest_23 : decode cX9_nextCrest 23 = .ok (.goto (-21), 3) := by decide +kernel
theorem dX9_nextCrest_26 : decode cX9_nextCrest 26 = .ok (.iconst (-1), 1) := by decide +kernel
theorem dX9_nextCrest_27 : decode cX9_nextCrest 27 = .ok (.ireturn, 1) := by decide +kernel
theorem dX9_crestOf_0 : decode cX9_crestOf 0 = .ok (.aload_n 0, 1) := by decide +kernel
theorem dX9_crestOf_1 : decode cX9_crestOf 1 = .ok (.invokevirtual 117, 3) := by decide +kernel
theorem dX9_crestOf_4 : decode cX9_crestOf 4 = .ok (.aload_n 0, 1) := by decide +kernel
theorem dX9_crestOf_5 : decode cX9_crestOf 5 = .ok (.iload_n 1, 1) := by decide +kernel
theorem dX9_crestOf_6 : decode cX9_crestOf 6 = .ok (.invokevirtual 132, 3) := by decide +kernel
theorem dX9_crestOf_9 : decode cX9_crestOf 9 = .ok (.istore_n 3, 1) := by decide +kernel
theorem dX9_crestOf_10 : decode cX9_crestOf 10 = .ok (.iconst 1, 1) := by decide +kernel
theorem dX9_crestOf_11 : decode cX9_crestOf 11 = .ok (.istore 4, 2) := by decide +kernel
theorem dX9_crestOf_13 : decode cX9_crestOf 13 = .ok (.iload 4, 2) := by decide +kernel
theorem dX9_crestOf_15 : decode cX9_crestOf 15 = .ok (.iload_n 2, 1) := by decide +kernel
theorem dX9_crestOf_16 : decode cX9_crestOf 16 = .ok (.if_icmp .ge 22, 3) := by decide +kernel
theorem dX9_crestOf_19 : decode cX9_crestOf 19 = .ok (.iload_n 3, 1) := by decide +kernel
theorem dX9_crestOf_20 : decode cX9_crestOf 20 = .ok (.iconst (-1), 1) := by decide +kernel
theorem dX9_crestOf_21 : decode cX9_crestOf 21 = .ok (.if_icmp .eq 17, 3) := by decide +kernel
theorem dX9_crestOf_24 : decode cX9_crestOf 24 = .ok (.aload_n 0, 1) := by decide +kernel
theorem dX9_crestOf_25 : decode cX9_crestOf 25 = .ok (.iload_n 3, 1) := by decide +kernel
theorem dX9_crestOf_26 : decode cX9_crestOf 26 = .ok (.iconst 1, 1) := by decide +kernel
theorem dX9_crestOf_27 : decode cX9_crestOf 27 = .ok (.iadd, 1) := by decide +kernel
theorem dX9_crestOf_28 : decode cX9_crestOf 28 = .ok (.invokevirtual 132, 3) := by decide +kernel
theorem dX9_crestOf_31 : decode cX9_crestOf 31 = .ok (.istore_n 3, 1) := by decide +kernel
theorem dX9_crestOf_32 : decode cX9_crestOf 32 = .ok (.iinc 4 1, 3) := by decide +kernel
theorem dX9_crestOf_35 : decode cX9_crestOf 35 = .ok (.goto (-22), 3) := by decide +kernel
theorem dX9_crestOf_38 : decode cX9_crestOf 38 = .ok (.iload_n 3, 1) := by decide +kernel
theorem dX9_crestOf_39 : decode cX9_crestOf 39 = .ok (.ireturn, 1) := by decide +kernel
theorem dX9_crest_0 : decode cX9_crest 0 = .ok (.iload_n 1, 1) := by decide +kernel
theorem dX9_crest_1 : decode cX9_crest 1 = .ok (.invokestatic 90, 3) := by decide +kernel
theorem dX9_crest_4 : decode cX9_crest 4 = .ok (.ifCond .eq 22, 3) := by decide +kernel
theorem dX9_crest_7 : decode cX9_crest 7 = .ok (.iload_n 2, 1) := by decide +kernel
theorem dX9_crest_8 : decode cX9_crest 8 = .ok (.iconst 1, 1) := by decide +kernel
theorem dX9_crest_9 : decode cX9_crest 9 = .ok (.bipush 99, 2) := by decide +kernel
theorem dX9_crest_11 : decode cX9_crest 11 = .ok (.invokestatic 55, 3) := by decide +kernel
theorem dX9_crest_14 : decode cX9_crest 14 = .ok (.ifCond .eq 12, 3) := by decide +kernel
theorem dX9_crest_17 : decode cX9_crest 17 = .ok (.aload_n 0, 1) := by decide +kernel
theorem dX9_crest_18 : decode cX9_crest 18 = .ok (.iload_n 1, 1) := by decide +kernel
theorem dX9_crest_19 : decode cX9_crest 19 = .ok (.iload_n 2, 1) := by decide +kernel
theorem dX9_crest_20 : decode cX9_crest 20 = .ok (.invokevirtual 135, 3) := by decide +kernel
theorem dX9_crest_23 : decode cX9_crest 23 = .ok (.goto 5, 3) := by decide +kernel
theorem dX9_crest_26 : decode cX9_crest 26 = .ok (.bipush (-2), 2) := by decide +kernel
theorem dX9_crest_28 : decode cX9_crest 28 = .ok (.ireturn, 1) := by decide +kernel
theorem dX9_seventhOf_0 : decode cX9_seventhOf 0 = .ok (.aload_n 0, 1) := by decide +kernel
theorem dX9_seventhOf_1 : decode cX9_seventhOf 1 = .ok (.invokevirtual 117, 3) := by decide +kernel
theorem dX9_seventhOf_4 : decode cX9_seventhOf 4 = .ok (.iconst (-1), 1) := by decide +kernel
theorem dX9_seventhOf_5 : decode cX9_seventhOf 5 = .ok (.istore_n 2, 1) := by decide +kernel
theorem dX9_seventhOf_6 : decode cX9_seventhOf 6 = .ok (.iconst 0, 1) := by decide +kernel
theorem dX9_seventhOf_7 : decode cX9_seventhOf 7 = .ok (.istore_n 3, 1) := by decide +kernel
theorem dX9_seventhOf_8 : decode cX9_seventhOf 8 = .ok (.aload_n 0, 1) := by decide +kernel
theorem dX9_seventhOf_9 : decode cX9_seventhOf 9 = .ok (.iload_n 1, 1) := by decide +kernel
theorem dX9_seventhOf_10 : decode cX9_seventhOf 10 = .ok (.invokevirtual 132, 3) := by decide +kernel
theorem dX9_seventhOf_13 : decode cX9_seventhOf 13 = .ok (.istore 4, 2) := by decide +kernel
theorem dX9_seventhOf_15 : decode cX9_seventhOf 15 = .ok (.iconst 1, 1) := by decide +kernel
theorem dX9_seventhOf_16 : decode cX9_seventhOf 16 = .ok (.istore 5, 2) := by decide +kernel
theorem dX9_seventhOf_18 : decode cX9_seventhOf 18 = .ok (.iload 5, 2) := by decide +kernel
theorem dX9_seventhOf_20 : decode cX9_seventhOf 20 = .ok (.bipush 8, 2) := by decide +kernel
theorem dX9_seventhOf_22 : decode cX9_seventhOf 22 = .ok (.if_icmp .ge 77, 3) := by decide +kernel
theorem dX9_seventhOf_25 : decode cX9_seventhOf 25 = .ok (.iload 4, 2) := by decide +kernel
theorem dX9_seventhOf_27 : decode cX9_seventhOf 27 = .ok (.iconst (-1), 1) := by decide +kernel
theorem dX9_seventhOf_28 : decode cX9_seventhOf 28 = .ok (.if_icmp .eq 71, 3) := by decide +kernel
theorem dX9_seventhOf_31 : decode cX9_seventhOf 31 = .ok (.iload_n 2, 1) := by decide +kernel
theorem dX9_seventhOf_32 : decode cX9_seventhOf 32 = .ok (.iconst (-1), 1) := by decide +kernel
theorem dX9_seventhOf_33 : decode cX9_seventhOf 33 = .ok (.if_icmp .eq 14, 3) := by decide +kernel
theorem dX9_seventhOf_36 : decode cX9_seventhOf 36 = .ok (.aload_n 0, 1) := by decide +kernel
theorem dX9_seventhOf_37 : decode cX9_seventhOf 37 = .ok (.getfield 28, 3) := by decide +kernel
theorem dX9_seventhOf_40 : decode cX9_seventhOf 40 = .ok (.iload 4, 2) := by decide +kernel
theorem dX9_seventhOf_42 : decode cX9_seventhOf 42 = .ok (.iaload, 1) := by decide +kernel
theorem dX9_seventhOf_43 : decode cX9_seventhOf 43 = .ok (.iload_n 3, 1) := by decide +kernel
theorem dX9_seventhOf_44 : decode cX9_seventhOf 44 = .ok (.if_icmp .le 7, 3) := by decide +kernel
theorem dX9_seventhOf_47 : decode cX9_seventhOf 47 = .ok (.iconst 1, 1) := by decide +kernel
theorem dX9_seventhOf_48 : decode cX9_seventhOf 48 = .ok (.goto 4, 3) := by decide +kernel
theorem dX9_seventhOf_51 : decode cX9_seventhOf 51 = .ok (.iconst 0, 1) := by decide +kernel
theorem dX9_seventhOf_52 : decode cX9_seventhOf 52 = .ok (.istore 6, 2) := by decide +kernel
theorem dX9_seventhOf_54 : decode cX9_seventhOf 54 = .ok (.iload 6, 2) := by decide +kernel
theorem dX9_seventhOf_56 : decode cX9_seventhOf 56 = .ok (.ifCond .eq 8, 3) := by decide +kernel
theorem dX9_seventhOf_59 : decode cX9_seventhOf 59 = .ok (.iload 5, 2) := by decide +kernel
theorem dX9_seventhOf_61 : decode cX9_seventhOf 61 = .ok (.goto 4, 3) := by decide +kernel
theorem dX9_seventhOf_64 : decode cX9_seventhOf 64 = .ok (.iload_n 2, 1) := by decide +kernel
theorem dX9_seventhOf_65 : decode cX9_seventhOf 65 = .ok (.istore_n 2, 1) := by decide +kernel
theorem dX9_seventhOf_66 : decode cX9_seventhOf 66 = .ok (.iload 6, 2) := by decide +kernel
theorem dX9_seventhOf_68 : decode cX9_seventhOf 68 = .ok (.ifCond .eq 13, 3) := by decide +kernel
theorem dX9_seventhOf_71 : decode cX9_seventhOf 71 = .ok (.aload_n 0, 1) := by decide +kernel
theorem dX9_seventhOf_72 : decode cX9_seventhOf 72 = .ok (.getfield 28, 3) := by decide +kernel
theorem dX9_seventhOf_75 : decode cX9_seventhOf 75 = .ok (.iload 4, 2) := by decide +kernel
theorem dX9_seventhOf_77 : decode cX9_seventhOf 77 = .ok (.iaload, 1) := by decide +kernel
theorem dX9_seventhOf_78 : decode cX9_seventhOf 78 = .ok (.goto 4, 3) := by decide +kernel
theorem dX9_seventhOf_81 : decode cX9_seventhOf 81 = .ok (.iload_n 3, 1) := by decide +kernel
theorem dX9_seventhOf_82 : decode cX9_seventhOf 82 = .ok (.istore_n 3, 1) := by decide +kernel
theorem dX9_seventhOf_83 : decode cX9_seventhOf 83 = .ok (.aload_n 0, 1) := by decide +kernel
theorem dX9_seventhOf_84 : decode cX9_seventhOf 84 = .ok (.iload 4, 2) := by decide +kernel
theorem dX9_seventhOf_86 : decode cX9_seventhOf 86 = .ok (.iconst 1, 1) := by decide +kernel
theorem dX9_seventhOf_87 : decode cX9_seventhOf 87 = .ok (.iadd, 1) := by decide +kernel
theorem dX9_seventhOf_88 : decode cX9_seventhOf 88 = .ok (.invokevirtual 132, 3) := by decide +kernel
theorem dX9_seventhOf_91 : decode cX9_seventhOf 91 = .ok (.istore 4, 2) := by decide +kernel
theorem dX9_seventhOf_93 : decode cX9_seventhOf 93 = .ok (.iinc 5 1, 3) := by decide +kernel
theorem dX9_seventhOf_96 : decode cX9_seventhOf 96 = .ok (.goto (-78), 3) := by decide +kernel
theorem dX9_seventhOf_99 : decode cX9_seventhOf 99 = .ok (.iload_n 2, 1) := by decide +kernel
theorem dX9_seventhOf_100 : decode cX9_seventhOf 100 = .ok (.ireturn, 1) := by decide +kernel
theorem dX9_seventh_0 : decode cX9_seventh 0 = .ok (.iload_n 1, 1) := by decide +kernel
theorem dX9_seventh_1 : decode cX9_seventh 1 = .ok (.invokestatic 90, 3) := by decide +kernel
theorem dX9_seventh_4 : decode cX9_seventh 4 = .ok (.ifCond .eq 11, 3) := by decide +kernel
theorem dX9_seventh_7 : decode cX9_seventh 7 = .ok (.aload_n 0, 1) := by decide +kernel
theorem dX9_seventh_8 : decode cX9_seventh 8 = .ok (.iload_n 1, 1) := by decide +kernel
theorem dX9_seventh_9 : decode cX9_seventh 9 = .ok (.invokevirtual 138, 3) := by decide +kernel
theorem dX9_seventh_12 : decode cX9_seventh 12 = .ok (.goto 5, 3) := by decide +kernel
theorem dX9_seventh_15 : decode cX9_seventh 15 = .ok (.bipush (-2), 2) := by decide +kernel
theorem dX9_seventh_17 : decode cX9_seventh 17 = .ok (.ireturn, 1) := by decide +kernel
theorem dX9_lullOf_0 : decode cX9_lullOf 0 = .ok (.aload_n 0, 1) := by decide +kernel
theorem dX9_lullOf_1 : decode cX9_lullOf 1 = .ok (.invokevirtual 117, 3) := by decide +kernel
theorem dX9_lullOf_4 : decode cX9_lullOf 4 = .ok (.iconst (-1), 1) := by decide +kernel
theorem dX9_lullOf_5 : decode cX9_lullOf 5 = .ok (.istore 4, 2) := by decide +kernel
theorem dX9_lullOf_7 : decode cX9_lullOf 7 = .ok (.iconst (-1), 1) := by decide +kernel
theorem dX9_lullOf_8 : decode cX9_lullOf 8 = .ok (.istore 5, 2) := by decide +kernel
theorem dX9_lullOf_10 : decode cX9_lullOf 10 = .ok (.iload_n 1, 1) := by decide +kernel
theorem dX9_lullOf_11 : decode cX9_lullOf 11 = .ok (.istore 6, 2) := by decide +kernel
theorem dX9_lullOf_13 : decode cX9_lullOf 13 = .ok (.iload 6, 2) := by decide +kernel
theorem dX9_lullOf_15 : decode cX9_lullOf 15 = .ok (.iload_n 2, 1) := by decide +kernel
theorem dX9_lullOf_16 : decode cX9_lullOf 16 = .ok (.iadd, 1) := by decide +kernel
theorem dX9_lullOf_17 : decode cX9_lullOf 17 = .ok (.sipush 400, 3) := by decide +kernel
theorem dX9_lullOf_20 : decode cX9_lullOf 20 = .ok (.if_icmp .gt 152, 3) := by decide +kernel
theorem dX9_lullOf_23 : decode cX9_lullOf 23 = .ok (.aload_n 0, 1) := by decide +kernel
theorem dX9_lullOf_24 : decode cX9_lullOf 24 = .ok (.getfield 28, 3) := by decide +kernel
theorem dX9_lullOf_27 : decode cX9_lullOf 27 = .ok (.iload 6, 2) := by decide +kernel
theorem dX9_lullOf_29 : decode cX9_lullOf 29 = .ok (.iaload, 1) := by decide +kernel
theorem dX9_lullOf_30 : decode cX9_lullOf 30 = .ok (.istore 7, 2) := by decide +kernel
theorem dX9_lullOf_32 : decode cX9_lullOf 32 = .ok (.aload_n 0, 1) := by decide +kernel
theorem dX9_lullOf_33 : decode cX9_lullOf 33 = .ok (.getfield 28, 3) := by decide +kernel
theorem dX9_lullOf_36 : decode cX9_lullOf 36 = .ok (.iload 6, 2) := by decide +kernel
theorem dX9_lullOf_38 : decode cX9_lullOf 38 = .ok (.iaload, 1) := by decide +kernel
theorem dX9_lullOf_39 : decode cX9_lullOf 39 = .ok (.istore 8, 2) := by decide +kernel
theorem dX9_lullOf_41 : decode cX9_lullOf 41 = .ok (.iload 6, 2) := by decide +kernel
theorem dX9_lullOf_43 : decode cX9_lullOf 43 = .ok (.istore 9, 2) := by decide +kernel
theorem dX9_lullOf_45 : decode cX9_lullOf 45 = .ok (.iload 9, 2) := by decide +kernel
theorem dX9_lullOf_47 : decode cX9_lullOf 47 = .ok (.iload 6, 2) := by decide +kernel
theorem dX9_lullOf_49 : decode cX9_lullOf 49 = .ok (.iload_n 2, 1) := by decide +kernel
theorem dX9_lullOf_50 : decode cX9_lullOf 50 = .ok (.iadd, 1) := by decide +kernel
theorem dX9_lullOf_51 : decode cX9_lullOf 51 = .ok (.if_icmp .ge 61, 3) := by decide +kernel
theorem dX9_lullOf_54 : decode cX9_lullOf 54 = .ok (.aload_n 0, 1) := by decide +kernel
theorem dX9_lullOf_55 : decode cX9_lullOf 55 = .ok (.getfield 28, 3) := by decide +kernel
theorem dX9_lullOf_58 : decode cX9_lullOf 58 = .ok (.iload 9, 2) := by decide +kernel
theorem dX9_lullOf_60 : decode cX9_lullOf 60 = .ok (.iaload, 1) := by decide +kernel
theorem dX9_lullOf_61 : decode cX9_lullOf 61 = .ok (.iload 7, 2) := by decide +kernel
theorem dX9_lullOf_63 : decode cX9_lullOf 63 = .ok (.if_icmp .le 13, 3) := by decide +kernel
theorem dX9_lullOf_66 : decode cX9_lullOf 66 = .ok (.aload_n 0, 1) := by decide +kernel
theorem dX9_lullOf_67 : decode cX9_lullOf 67 = .ok (.getfield 28, 3) := by decide +kernel
theorem dX9_lullOf_70 : decode cX9_lullOf 70 = .ok (.iload 9, 2) := by decide +kernel
theorem dX9_lullOf_72 : decode cX9_lullOf 72 = .ok (.iaload, 1) := by decide +kernel
theorem dX9_lullOf_73 : decode cX9_lullOf 73 = .ok (.goto 5, 3) := by decide +kernel
theorem dX9_lullOf_76 : decode cX9_lullOf 76 = .ok (.iload 7, 2) := by decide +kernel
theorem dX9_lullOf_78 : decode cX9_lullOf 78 = .ok (.istore 7, 2) := by decide +kernel
theorem dX9_lullOf_80 : decode cX9_lullOf 80 = .ok (.aload_n 0, 1) := by decide +kernel
theorem dX9_lullOf_81 : decode cX9_lullOf 81 = .ok (.getfield 28, 3) := by decide +kernel
theorem dX9_lullOf_84 : decode cX9_lullOf 84 = .ok (.iload 9, 2) := by decide +kernel
theorem dX9_lullOf_86 : decode cX9_lullOf 86 = .ok (.iaload, 1) := by decide +kernel
theorem dX9_lullOf_87 : decode cX9_lullOf 87 = .ok (.iload 8, 2) := by decide +kernel
theorem dX9_lullOf_89 : decode cX9_lullOf 89 = .ok (.if_icmp .ge 13, 3) := by decide +kernel
theorem dX9_lullOf_92 : decode cX9_lullOf 92 = .ok (.aload_n 0, 1) := by decide +kernel
theorem dX9_lullOf_93 : decode cX9_lullOf 93 = .ok (.getfield 28, 3) := by decide +kernel
theorem dX9_lullOf_96 : decode cX9_lullOf 96 = .ok (.iload 9, 2) := by decide +kernel
theorem dX9_lullOf_98 : decode cX9_lullOf 98 = .ok (.iaload, 1) := by decide +kernel
theorem dX9_lullOf_99 : decode cX9_lullOf 99 = .ok (.goto 5, 3) := by decide +kernel
theorem dX9_lullOf_102 : decode cX9_lullOf 102 = .ok (.iload 8, 2) := by decide +kernel
theorem dX9_lullOf_104 : decode cX9_lullOf 104 = .ok (.istore 8, 2) := by decide +kernel
theorem dX9_lullOf_106 : decode cX9_lullOf 106 = .ok (.iinc 9 1, 3) := by decide +kernel
theorem dX9_lullOf_109 : decode cX9_lullOf 109 = .ok (.goto (-64), 3) := by decide +kernel
theorem dX9_lullOf_112 : decode cX9_lullOf 112 = .ok (.iload 4, 2) := by decide +kernel
theorem dX9_lullOf_114 : decode cX9_lullOf 114 = .ok (.iconst (-1), 1) := by decide +kernel
theorem dX9_lullOf_115 : decode cX9_lullOf 115 = .ok (.if_icmp .eq 13, 3) := by decide +kernel
theorem dX9_lullOf_118 : decode cX9_lullOf 118 = .ok (.iload 7, 2) := by decide +kernel
theorem dX9_lullOf_120 : decode cX9_lullOf 120 = .ok (.iload 8, 2) := by decide +kernel
theorem dX9_lullOf_122 : decode cX9_lullOf 122 = .ok (.isub, 1) := by decide +kernel
theorem dX9_lullOf_123 : decode cX9_lullOf 123 = .ok (.iload 5, 2) := by decide +kernel
theorem dX9_lullOf_125 : decode cX9_lullOf 125 = .ok (.if_icmp .ge 7, 3) := by decide +kernel
theorem dX9_lullOf_128 : decode cX9_lullOf 128 = .ok (.iconst 1, 1) := by decide +kernel
theorem dX9_lullOf_129 : decode cX9_lullOf 129 = .ok (.goto 4, 3) := by decide +kernel
theorem dX9_lullOf_132 : decode cX9_lullOf 132 = .ok (.iconst 0, 1) := by decide +kernel
theorem dX9_lullOf_133 : decode cX9_lullOf 133 = .ok (.istore 9, 2) := by decide +kernel
theorem dX9_lullOf_135 : decode cX9_lullOf 135 = .ok (.iload 9, 2) := by decide +kernel
theorem dX9_lullOf_137 : decode cX9_lullOf 137 = .ok (.ifCond .eq 8, 3) := by decide +kernel
theorem dX9_lullOf_140 : decode cX9_lullOf 140 = .ok (.iload 6, 2) := by decide +kernel
theorem dX9_lullOf_142 : decode cX9_lullOf 142 = .ok (.goto 5, 3) := by decide +kernel
theorem dX9_lullOf_145 : decode cX9_lullOf 145 = .ok (.iload 4, 2) := by decide +kernel
theorem dX9_lullOf_147 : decode cX9_lullOf 147 = .ok (.istore 4, 2) := by decide +kernel
theorem dX9_lullOf_149 : decode cX9_lullOf 149 = .ok (.iload 9, 2) := by decide +kernel
theorem dX9_lullOf_151 : decode cX9_lullOf 151 = .ok (.ifCond .eq 11, 3) := by decide +kernel
theorem dX9_lullOf_154 : decode cX9_lullOf 154 = .ok (.iload 7, 2) := by decide +kernel
theorem dX9_lullOf_156 : decode cX9_lullOf 156 = .ok (.iload 8, 2) := by decide +kernel
theorem dX9_lullOf_158 : decode cX9_lullOf 158 = .ok (.isub, 1) := by decide +kernel
theorem dX9_lullOf_159 : decode cX9_lullOf 159 = .ok (.goto 5, 3) := by decide +kernel
theorem dX9_lullOf_162 : decode cX9_lullOf 162 = .ok (.iload 5, 2) := by decide +kernel
theorem dX9_lullOf_164 : decode cX9_lullOf 164 = .ok (.istore 5, 2) := by decide +kernel
theorem dX9_lullOf_166 : decode cX9_lullOf 166 = .ok (.iinc 6 1, 3) := by decide +kernel
theorem dX9_lullOf_169 : decode cX9_lullOf 169 = .ok (.goto (-156), 3) := by decide +kernel
theorem dX9_lullOf_172 : decode cX9_lullOf 172 = .ok (.iload_n 3, 1) := by decide +kernel
theorem dX9_lullOf_173 : decode cX9_lullOf 173 = .ok (.ifCond .ne 8, 3) := by decide +kernel
theorem dX9_lullOf_176 : decode cX9_lullOf 176 = .ok (.iload 4, 2) := by decide +kernel
theorem dX9_lullOf_178 : decode cX9_lullOf 178 = .ok (.goto 5, 3) := by decide +kernel
theorem dX9_lullOf_181 : decode cX9_lullOf 181 = .ok (.iload 5, 2) := by decide +kernel
theorem dX9_lullOf_183 : decode cX9_lullOf 183 = .ok (.ireturn, 1) := by decide +kernel
theorem dX9_isMany_0 : decode cX9_isMany 0 = .ok (.iload_n 0, 1) := by decide +kernel
theorem dX9_isMany_1 : decode cX9_isMany 1 = .ok (.iconst 1, 1) := by decide +kernel
theorem dX9_isMany_2 : decode cX9_isMany 2 = .ok (.bipush 100, 2) := by decide +kernel
theorem dX9_isMany_4 : decode cX9_isMany 4 = .ok (.invokestatic 55, 3) := by decide +kernel
theorem dX9_isMany_7 : decode cX9_isMany 7 = .ok (.ireturn, 1) := by decide +kernel
theorem dX9_lull_0 : decode cX9_lull 0 = .ok (.iload_n 1, 1) := by decide +kernel
theorem dX9_lull_1 : decode cX9_lull 1 = .ok (.invokestatic 90, 3) := by decide +kernel
theorem dX9_lull_4 : decode cX9_lull 4 = .ok (.ifCond .eq 29, 3) := by decide +kernel
theorem dX9_lull_7 : decode cX9_lull 7 = .ok (.iload_n 2, 1) := by decide +kernel
theorem dX9_lull_8 : decode cX9_lull 8 = .ok (.invokestatic 141, 3) := by decide +kernel
theorem dX9_lull_11 : decode cX9_lull 11 = .ok (.ifCond .eq 22, 3) := by decide +kernel
theorem dX9_lull_14 : decode cX9_lull 14 = .ok (.iload_n 3, 1) := by decide +kernel
theorem dX9_lull_15 : decode cX9_lull 15 = .ok (.iconst 0, 1) := by decide +kernel
theorem dX9_lull_16 : decode cX9_lull 16 = .ok (.iconst 1, 1) := by decide +kernel
theorem dX9_lull_17 : decode cX9_lull 17 = .ok (.invokestatic 55, 3) := by decide +kernel
theorem dX9_lull_20 : decode cX9_lull 20 = .ok (.ifCond .eq 13, 3) := by decide +kernel
theorem dX9_lull_23 : decode cX9_lull 23 = .ok (.aload_n 0, 1) := by decide +kernel
theorem dX9_lull_24 : decode cX9_lull 24 = .ok (.iload_n 1, 1) := by decide +kernel
theorem dX9_lull_25 : decode cX9_lull 25 = .ok (.iload_n 2, 1) := by decide +kernel
theorem dX9_lull_26 : decode cX9_lull 26 = .ok (.iload_n 3, 1) := by decide +kernel
theorem dX9_lull_27 : decode cX9_lull 27 = .ok (.invokevirtual 144, 3) := by decide +kernel
theorem dX9_lull_30 : decode cX9_lull 30 = .ok (.goto 5, 3) := by decide +kernel
theorem dX9_lull_33 : decode cX9_lull 33 = .ok (.bipush (-2), 2) := by decide +kernel
theorem dX9_lull_35 : decode cX9_lull 35 = .ok (.ireturn, 1) := by decide +kernel
theorem dX9_stepNow_0 : decode cX9_stepNow 0 = .ok (.aload_n 0, 1) := by decide +kernel
theorem dX9_stepNow_1 : decode cX9_stepNow 1 = .ok (.getfield 25, 3) := by decide +kernel
theorem dX9_stepNow_4 : decode cX9_stepNow 4 = .ok (.iconst 0, 1) := by decide +kernel
theorem dX9_stepNow_5 : decode cX9_stepNow 5 = .ok (.iaload, 1) := by decide +kernel
theorem dX9_stepNow_6 : decode cX9_stepNow 6 = .ok (.aload_n 0, 1) := by decide +kernel
theorem dX9_stepNow_7 : decode cX9_stepNow 7 = .ok (.getfield 28, 3) := by decide +kernel
theorem dX9_stepNow_10 : decode cX9_stepNow 10 = .ok (.iload_n 1, 1) := by decide +kernel
theorem dX9_stepNow_11 : decode cX9_stepNow 11 = .ok (.iaload, 1) := by decide +kernel
theorem dX9_stepNow_12 : decode cX9_stepNow 12 = .ok (.isub, 1) := by decide +kernel
theorem dX9_stepNow_13 : decode cX9_stepNow 13 = .ok (.aload_n 0, 1) := by decide +kernel
theorem dX9_stepNow_14 : decode cX9_stepNow 14 = .ok (.getfield 25, 3) := by decide +kernel
theorem dX9_stepNow_17 : decode cX9_stepNow 17 = .ok (.iconst 3, 1) := by decide +kernel
theorem dX9_stepNow_18 : decode cX9_stepNow 18 = .ok (.iaload, 1) := by decide +kernel
theorem dX9_stepNow_19 : decode cX9_stepNow 19 = .ok (.if_icmp .le 7, 3) := by decide +kernel
theorem dX9_stepNow_22 : decode cX9_stepNow 22 = .ok (.iconst 4, 1) := by decide +kernel
theorem dX9_stepNow_23 : decode cX9_stepNow 23 = .ok (.goto 8, 3) := by decide +kernel
theorem dX9_stepNow_26 : decode cX9_stepNow 26 = .ok (.aload_n 0, 1) := by decide +kernel
theorem dX9_stepNow_27 : decode cX9_stepNow 27 = .ok (.iload_n 1, 1) := by decide +kernel
theorem dX9_stepNow_28 : decode cX9_stepNow 28 = .ok (.invokevirtual 120, 3) := by decide +kernel
theorem dX9_stepNow_31 : decode cX9_stepNow 31 = .ok (.ireturn, 1) := by decide +kernel
theorem dX9_stepOf_0 : decode cX9_stepOf 0 = .ok (.aload_n 0, 1) := by decide +kernel
theorem dX9_stepOf_1 : decode cX9_stepOf 1 = .ok (.invokevirtual 117, 3) := by decide +kernel
theorem dX9_stepOf_4 : decode cX9_stepOf 4 = .ok (.aload_n 0, 1) := by decide +kernel
theorem dX9_stepOf_5 : decode cX9_stepOf 5 = .ok (.iload_n 1, 1) := by decide +kernel
theorem dX9_stepOf_6 : decode cX9_stepOf 6 = .ok (.invokevirtual 148, 3) := by decide +kernel
theorem dX9_stepOf_9 : decode cX9_stepOf 9 = .ok (.ireturn, 1) := by decide +kernel
theorem dX9_step_0 : decode cX9_step 0 = .ok (.iload_n 1, 1) := by decide +kernel
theorem dX9_step_1 : decode cX9_step 1 = .ok (.invokestatic 90, 3) := by decide +kernel
theorem dX9_step_4 : decode cX9_step 4 = .ok (.ifCond .eq 11, 3) := by decide +kernel
theorem dX9_step_7 : decode cX9_step 7 = .ok (.aload_n 0, 1) := by decide +kernel
theorem dX9_step_8 : decode cX9_step 8 = .ok (.iload_n 1, 1) := by decide +kernel
theorem dX9_step_9 : decode cX9_step 9 = .ok (.invokevirtual 151, 3) := by decide +kernel
theorem dX9_step_12 : decode cX9_step 12 = .ok (.goto 5, 3) := by decide +kernel
theorem dX9_step_15 : decode cX9_step 15 = .ok (.bipush (-2), 2) := by decide +kernel
theorem dX9_step_17 : decode cX9_step 17 = .ok (.ireturn, 1) := by decide +kernel
theorem dX9_fallNow_0 : decode cX9_fallNow 0 = .ok (.aload_n 0, 1) := by decide +kernel
theorem dX9_fallNow_1 : decode cX9_fallNow 1 = .ok (.iload_n 1, 1) := by decide +kernel
theorem dX9_fallNow_2 : decode cX9_fallNow 2 = .ok (.invokevirtual 148, 3) := by decide +kernel
theorem dX9_fallNow_5 : decode cX9_fallNow 5 = .ok (.istore_n 2, 1) := by decide +kernel
theorem dX9_fallNow_6 : decode cX9_fallNow 6 = .ok (.aload_n 0, 1) := by decide +kernel
theorem dX9_fallNow_7 : decode cX9_fallNow 7 = .ok (.getfield 25, 3) := by decide +kernel
theorem dX9_fallNow_10 : decode cX9_fallNow 10 = .ok (.iload_n 2, 1) := by decide +kernel
theorem dX9_fallNow_11 : decode cX9_fallNow 11 = .ok (.ifCond .ne 8, 3) := by decide +kernel
theorem dX9_fallNow_14 : decode cX9_fallNow 14 = .ok (.bipush 7, 2) := by decide +kernel
theorem dX9_fallNow_16 : decode cX9_fallNow 16 = .ok (.goto 23, 3) := by decide +kernel
theorem dX9_fallNow_19 : decode cX9_fallNow 19 = .ok (.iload_n 2, 1) := by decide +kernel
theorem dX9_fallNow_20 : decode cX9_fallNow 20 = .ok (.iconst 1, 1) := by decide +kernel
theorem dX9_fallNow_21 : decode cX9_fallNow 21 = .ok (.if_icmp .ne 7, 3) := by decide +kernel
theorem dX9_fallNow_24 : decode cX9_fallNow 24 = .ok (.iconst 4, 1) := by decide +kernel
theorem dX9_fallNow_25 : decode cX9_fallNow 25 = .ok (.goto 14, 3) := by decide +kernel
theorem dX9_fallNow_28 : decode cX9_fallNow 28 = .ok (.iload_n 2, 1) := by decide +kernel
theorem dX9_fallNow_29 : decode cX9_fallNow 29 = .ok (.iconst 2, 1) := by decide +kernel
theorem dX9_fallNow_30 : decode cX9_fallNow 30 = .ok (.if_icmp .ne 7, 3) := by decide +kernel
theorem dX9_fallNow_33 : decode cX9_fallNow 33 = .ok (.iconst 5, 1) := by decide +kernel
theorem dX9_fallNow_34 : decode cX9_fallNow 34 = .ok (.goto 5, 3) := by decide +kernel
theorem dX9_fallNow_37 : decode cX9_fallNow 37 = .ok (.bipush 6, 2) := by decide +kernel
theorem dX9_fallNow_39 : decode cX9_fallNow 39 = .ok (.iaload, 1) := by decide +kernel
theorem dX9_fallNow_40 : decode cX9_fallNow 40 = .ok (.aload_n 0, 1) := by decide +kernel
theorem dX9_fallNow_41 : decode cX9_fallNow 41 = .ok (.getfield 25, 3) := by decide +kernel
theorem dX9_fallNow_44 : decode cX9_fallNow 44 = .ok (.bipush 9, 2) := by decide +kernel
theorem dX9_fallNow_46 : decode cX9_fallNow 46 = .ok (.iaload, 1) := by decide +kernel
theorem dX9_fallNow_47 : decode cX9_fallNow 47 = .ok (.iadd, 1) := by decide +kernel
theorem dX9_fallNow_48 : decode cX9_fallNow 48 = .ok (.istore_n 3, 1) := by decide +kernel
theorem dX9_fallNow_49 : decode cX9_fallNow 49 = .ok (.iload_n 2, 1) := by decide +kernel
theorem dX9_fallNow_50 : decode cX9_fallNow 50 = .ok (.iconst 4, 1) := by decide +kernel
theorem dX9_fallNow_51 : decode cX9_fallNow 51 = .ok (.if_icmp .eq 9, 3) := by decide +kernel
theorem dX9_fallNow_54 : decode cX9_fallNow 54 = .ok (.iload_n 3, 1) := by decide +kernel
theorem dX9_fallNow_55 : decode cX9_fallNow 55 = .ok (.bipush 16, 2) := by decide +kernel
theorem dX9_fallNow_57 : decode cX9_fallNow 57 = .ok (.if_icmp .le 8, 3) := by decide +kernel
theorem dX9_fallNow_60 : decode cX9_fallNow 60 = .ok (.bipush 16, 2) := by decide +kernel
theorem dX9_fallNow_62 : decode cX9_fallNow 62 = .ok (.goto 4, 3) := by decide +kernel
theorem dX9_fallNow_65 : decode cX9_fallNow 65 = .ok (.iload_n 3, 1) := by decide +kernel
theorem dX9_fallNow_66 : decode cX9_fallNow 66 = .ok (.ireturn, 1) := by decide +kernel
theorem dX9_fallOf_0 : decode cX9_fallOf 0 = .ok (.aload_n 0, 1) := by decide +kernel
theorem dX9_fallOf_1 : decode cX9_fallOf 1 = .ok (.invokevirtual 117, 3) := by decide +kernel
theorem dX9_fallOf_4 : decode cX9_fallOf 4 = .ok (.aload_n 0, 1) := by decide +kernel
theorem dX9_fallOf_5 : decode cX9_fallOf 5 = .ok (.iload_n 1, 1) := by decide +kernel
theorem dX9_fallOf_6 : decode cX9_fallOf 6 = .ok (.invokevirtual 154, 3) := by decide +kernel
theorem dX9_fallOf_9 : decode cX9_fallOf 9 = .ok (.ireturn, 1) := by decide +kernel
theorem dX9_fall_0 : decode cX9_fall 0 = .ok (.iload_n 1, 1) := by decide +kernel
theorem dX9_fall_1 : decode cX9_fall 1 = .ok (.invokestatic 90, 3) := by decide +kernel
theorem dX9_fall_4 : decode cX9_fall 4 = .ok (.ifCond .eq 11, 3) := by decide +kernel
theorem dX9_fall_7 : decode cX9_fall 7 = .ok (.aload_n 0, 1) := by decide +kernel
theorem dX9_fall_8 : decode cX9_fall 8 = .ok (.iload_n 1, 1) := by decide +kernel
theorem dX9_fall_9 : decode cX9_fall 9 = .ok (.invokevirtual 157, 3) := by decide +kernel
theorem dX9_fall_12 : decode cX9_fall 12 = .ok (.goto 5, 3) := by decide +kernel
theorem dX9_fall_15 : decode cX9_fall 15 = .ok (.bipush (-2), 2) := by decide +kernel
theorem dX9_fall_17 : decode cX9_fall 17 = .ok (.ireturn, 1) := by decide +kernel
theorem dX9_climbs_0 : decode cX9_climbs 0 = .ok (.iload_n 1, 1) := by decide +kernel
theorem dX9_climbs_1 : decode cX9_climbs 1 = .ok (.istore_n 2, 1) := by decide +kernel
theorem dX9_climbs_2 : decode cX9_climbs 2 = .ok (.aload_n 0, 1) := by decide +kernel
theorem dX9_climbs_3 : decode cX9_climbs 3 = .ok (.iconst 0, 1) := by decide +kernel
theorem dX9_climbs_4 : decode cX9_climbs 4 = .ok (.putfield 160, 3) := by decide +kernel
theorem dX9_climbs_7 : decode cX9_climbs 7 = .ok (.iconst 1, 1) := by decide +kernel
theorem dX9_climbs_8 : decode cX9_climbs 8 = .ok (.istore_n 3, 1) := by decide +kernel
theorem dX9_climbs_9 : decode cX9_climbs 9 = .ok (.iload_n 3, 1) := by decide +kernel
theorem dX9_climbs_10 : decode cX9_climbs 10 = .ok (.aload_n 0, 1) := by decide +kernel
theorem dX9_climbs_11 : decode cX9_climbs 11 = .ok (.getfield 25, 3) := by decide +kernel
theorem dX9_climbs_14 : decode cX9_climbs 14 = .ok (.iconst 1, 1) := by decide +kernel
theorem dX9_climbs_15 : decode cX9_climbs 15 = .ok (.iaload, 1) := by decide +kernel
theorem dX9_climbs_16 : decode cX9_climbs 16 = .ok (.if_icmp .gt 97, 3) := by decide +kernel
theorem dX9_climbs_19 : decode cX9_climbs 19 = .ok (.iload_n 2, 1) := by decide +kernel
theorem dX9_climbs_20 : decode cX9_climbs 20 = .ok (.aload_n 0, 1) := by decide +kernel
theorem dX9_climbs_21 : decode cX9_climbs 21 = .ok (.getfield 25, 3) := by decide +kernel
theorem dX9_climbs_24 : decode cX9_climbs 24 = .ok (.bipush 10, 2) := by decide +kernel
theorem dX9_climbs_26 : decode cX9_climbs 26 = .ok (.iaload, 1) := by decide +kernel
theorem dX9_climbs_27 : decode cX9_climbs 27 = .ok (.iadd, 1) := by decide +kernel
theorem dX9_climbs_28 : decode cX9_climbs 28 = .ok (.istore_n 2, 1) := by decide +kernel
theorem dX9_climbs_29 : decode cX9_climbs 29 = .ok (.iload_n 2, 1) := by decide +kernel
theorem dX9_climbs_30 : decode cX9_climbs 30 = .ok (.sipush 400, 3) := by decide +kernel
theorem dX9_climbs_33 : decode cX9_climbs 33 = .ok (.if_icmp .ge 18, 3) := by decide +kernel
theorem dX9_climbs_36 : decode cX9_climbs 36 = .ok (.aload_n 0, 1) := by decide +kernel
theorem dX9_climbs_37 : decode cX9_climbs 37 = .ok (.iload_n 2, 1) := by decide +kernel
theorem dX9_climbs_38 : decode cX9_climbs 38 = .ok (.invokevirtual 126, 3) := by decide +kernel
theorem dX9_climbs_41 : decode cX9_climbs 41 = .ok (.iconst 1, 1) := by decide +kernel
theorem dX9_climbs_42 : decode cX9_climbs 42 = .ok (.if_icmp .ne 9, 3) := by decide +kernel
theorem dX9_climbs_45 : decode cX9_climbs 45 = .ok (.iinc 2 1, 3) := by decide +kernel
theorem dX9_climbs_48 : decode cX9_climbs 48 = .ok (.goto (-19), 3) := by decide +kernel
theorem dX9_climbs_51 : decode cX9_climbs 51 = .ok (.iload_n 2, 1) := by decide +kernel
theorem dX9_climbs_52 : decode cX9_climbs 52 = .ok (.sipush 399, 3) := by decide +kernel
theorem dX9_climbs_55 : decode cX9_climbs 55 = .ok (.if_icmp .gt 27, 3) := by decide +kernel
theorem dX9_climbs_58 : decode cX9_climbs 58 = .ok (.aload_n 0, 1) := by decide +kernel
theorem dX9_climbs_59 : decode cX9_climbs 59 = .ok (.getfield 28, 3) := by decide +kernel
theorem dX9_climbs_62 : decode cX9_climbs 62 = .ok (.iload_n 2, 1) := by decide +kernel
theorem dX9_climbs_63 : decode cX9_climbs 63 = .ok (.iaload, 1) := by decide +kernel
theorem dX9_climbs_64 : decode cX9_climbs 64 = .ok (.aload_n 0, 1) := by decide +kernel
theorem dX9_climbs_65 : decode cX9_climbs 65 = .ok (.getfield 25, 3) := by decide +kernel
theorem dX9_climbs_68 : decode cX9_climbs 68 = .ok (.iconst 0, 1) := by decide +kernel
theorem dX9_climbs_69 : decode cX9_climbs 69 = .ok (.iaload, 1) := by decide +kernel
theorem dX9_climbs_70 : decode cX9_climbs 70 = .ok (.iload_n 3, 1) := by decide +kernel
theorem dX9_climbs_71 : decode cX9_climbs 71 = .ok (.aload_n 0, 1) := by decide +kernel
theorem dX9_climbs_72 : decode cX9_climbs 72 = .ok (.getfield 25, 3) := by decide +kernel
theorem dX9_climbs_75 : decode cX9_climbs 75 = .ok (.iconst 2, 1) := by decide +kernel
theorem dX9_climbs_76 : decode cX9_climbs 76 = .ok (.iaload, 1) := by decide +kernel
theorem dX9_climbs_77 : decode cX9_climbs 77 = .ok (.imul, 1) := by decide +kernel
theorem dX9_climbs_78 : decode cX9_climbs 78 = .ok (.iadd, 1) := by decide +kernel
theorem dX9_climbs_79 : decode cX9_climbs 79 = .ok (.if_icmp .le 5, 3) := by decide +kernel
theorem dX9_climbs_82 : decode cX9_climbs 82 = .ok (.iconst (-1), 1) := by decide +kernel
theorem dX9_climbs_83 : decode cX9_climbs 83 = .ok (.ireturn, 1) := by decide +kernel
theorem dX9_climbs_84 : decode cX9_climbs 84 = .ok (.aload_n 0, 1) := by decide +kernel
theorem dX9_climbs_85 : decode cX9_climbs 85 = .ok (.dup, 1) := by decide +kernel
theorem dX9_climbs_86 : decode cX9_climbs 86 = .ok (.getfield 160, 3) := by decide +kernel
theorem dX9_climbs_89 : decode cX9_climbs 89 = .ok (.aload_n 0, 1) := by decide +kernel
theorem dX9_climbs_90 : decode cX9_climbs 90 = .ok (.iload_n 2, 1) := by decide +kernel
theorem dX9_climbs_91 : decode cX9_climbs 91 = .ok (.invokevirtual 126, 3) := by decide +kernel
theorem dX9_climbs_94 : decode cX9_climbs 94 = .ok (.iconst 2, 1) := by decide +kernel
theorem dX9_climbs_95 : decode cX9_climbs 95 = .ok (.if_icmp .ne 7, 3) := by decide +kernel
theorem dX9_climbs_98 : decode cX9_climbs 98 = .ok (.iconst 1, 1) := by decide +kernel
theorem dX9_climbs_99 : decode cX9_climbs 99 = .ok (.goto 4, 3) := by decide +kernel
theorem dX9_climbs_102 : decode cX9_climbs 102 = .ok (.iconst 0, 1) := by decide +kernel
theorem dX9_climbs_103 : decode cX9_climbs 103 = .ok (.iadd, 1) := by decide +kernel
theorem dX9_climbs_104 : decode cX9_climbs 104 = .ok (.putfield 160, 3) := by decide +kernel
theorem dX9_climbs_107 : decode cX9_climbs 107 = .ok (.iinc 3 1, 3) := by decide +kernel
theorem dX9_climbs_110 : decode cX9_climbs 110 = .ok (.goto (-101), 3) := by decide +kernel
theorem dX9_climbs_113 : decode cX9_climbs 113 = .ok (.iload_n 2, 1) := by decide +kernel
theorem dX9_climbs_114 : decode cX9_climbs 114 = .ok (.ireturn, 1) := by decide +kernel
theorem dX9_climbOf_0 : decode cX9_climbOf 0 = .ok (.aload_n 0, 1) := by decide +kernel
theorem dX9_climbOf_1 : decode cX9_climbOf 1 = .ok (.invokevirtual 117, 3) := by decide +kernel
theorem dX9_climbOf_4 : decode cX9_climbOf 4 = .ok (.aload_n 0, 1) := by decide +kernel
theorem dX9_climbOf_5 : decode cX9_climbOf 5 = .ok (.iload_n 1, 1) := by decide +kernel
theorem dX9_climbOf_6 : decode cX9_climbOf 6 = .ok (.invokevirtual 163, 3) := by decide +kernel
theorem dX9_climbOf_9 : decode cX9_climbOf 9 = .ok (.ireturn, 1) := by decide +kernel
theorem dX9_climb_0 : decode cX9_climb 0 = .ok (.iload_n 1, 1) := by decide +kernel
theorem dX9_climb_1 : decode cX9_climb 1 = .ok (.invokestatic 90, 3) := by decide +kernel
theorem dX9_climb_4 : decode cX9_climb 4 = .ok (.ifCond .eq 11, 3) := by decide +kernel
theorem dX9_climb_7 : decode cX9_climb 7 = .ok (.aload_n 0, 1) := by decide +kernel
theorem dX9_climb_8 : decode cX9_climb 8 = .ok (.iload_n 1, 1) := by decide +kernel
theorem dX9_climb_9 : decode cX9_climb 9 = .ok (.invokevirtual 166, 3) := by decide +kernel
theorem dX9_climb_12 : decode cX9_climb 12 = .ok (.goto 5, 3) := by decide +kernel
theorem dX9_climb_15 : decode cX9_climb 15 = .ok (.bipush (-2), 2) := by decide +kernel
theorem dX9_climb_17 : decode cX9_climb 17 = .ok (.ireturn, 1) := by decide +kernel
theorem dX9_bangsOf_0 : decode cX9_bangsOf 0 = .ok (.aload_n 0, 1) := by decide +kernel
theorem dX9_bangsOf_1 : decode cX9_bangsOf 1 = .ok (.iload_n 1, 1) := by decide +kernel
theorem dX9_bangsOf_2 : decode cX9_bangsOf 2 = .ok (.invokevirtual 166, 3) := by decide +kernel
theorem dX9_bangsOf_5 : decode cX9_bangsOf 5 = .ok (.istore_n 2, 1) := by decide +kernel
theorem dX9_bangsOf_6 : decode cX9_bangsOf 6 = .ok (.aload_n 0, 1) := by decide +kernel
theorem dX9_bangsOf_7 : decode cX9_bangsOf 7 = .ok (.getfield 160, 3) := by decide +kernel
theorem dX9_bangsOf_10 : decode cX9_bangsOf 10 = .ok (.ireturn, 1) := by decide +kernel
theorem dX9_bangs_0 : decode cX9_bangs 0 = .ok (.iload_n 1, 1) := by decide +kernel
theorem dX9_bangs_1 : decode cX9_bangs 1 = .ok (.invokestatic 90, 3) := by decide +kernel
theorem dX9_bangs_4 : decode cX9_bangs 4 = .ok (.ifCond .eq 11, 3) := by decide +kernel
theorem dX9_bangs_7 : decode cX9_bangs 7 = .ok (.aload_n 0, 1) := by decide +kernel
theorem dX9_bangs_8 : decode cX9_bangs 8 = .ok (.iload_n 1, 1) := by decide +kernel
theorem dX9_bangs_9 : decode cX9_bangs 9 = .ok (.invokevirtual 169, 3) := by decide +kernel
theorem dX9_bangs_12 : decode cX9_bangs 12 = .ok (.goto 5, 3) := by decide +kernel
theorem dX9_bangs_15 : decode cX9_bangs 15 = .ok (.bipush (-2), 2) := by decide +kernel
theorem dX9_bangs_17 : decode cX9_bangs 17 = .ok (.ireturn, 1) := by decide +kernel
theorem dX9_power_0 : decode cX9_power 0 = .ok (.lconst 1, 1) := by decide +kernel
theorem dX9_power_1 : decode cX9_power 1 = .ok (.lstore_n 2, 1) := by decide +kernel
theorem dX9_power_2 : decode cX9_power 2 = .ok (.iconst 0, 1) := by decide +kernel
theorem dX9_power_3 : decode cX9_power 3 = .ok (.istore 4, 2) := by decide +kernel
theorem dX9_power_5 : decode cX9_power 5 = .ok (.iload 4, 2) := by decide +kernel
theorem dX9_power_7 : decode cX9_power 7 = .ok (.iload_n 1, 1) := by decide +kernel
theorem dX9_power_8 : decode cX9_power 8 = .ok (.if_icmp .ge 14, 3) := by decide +kernel
theorem dX9_power_11 : decode cX9_power 11 = .ok (.lload_n 2, 1) := by decide +kernel
theorem dX9_power_12 : decode cX9_power 12 = .ok (.iload_n 0, 1) := by decide +kernel
theorem dX9_power_13 : decode cX9_power 13 = .ok (.i2l, 1) := by decide +kernel
theorem dX9_power_14 : decode cX9_power 14 = .ok (.lmul, 1) := by decide +kernel
theorem dX9_power_15 : decode cX9_power 15 = .ok (.lstore_n 2, 1) := by decide +kernel
theorem dX9_power_16 : decode cX9_power 16 = .ok (.iinc 4 1, 3) := by decide +kernel
theorem dX9_power_19 : decode cX9_power 19 = .ok (.goto (-14), 3) := by decide +kernel
theorem dX9_power_22 : decode cX9_power 22 = .ok (.lload_n 2, 1) := by decide +kernel
theorem dX9_power_23 : decode cX9_power 23 = .ok (.lreturn, 1) := by decide +kernel
theorem dX9_safeNow_0 : decode cX9_safeNow 0 = .ok (.aload_n 0, 1) := by decide +kernel
theorem dX9_safeNow_1 : decode cX9_safeNow 1 = .ok (.iload_n 1, 1) := by decide +kernel
theorem dX9_safeNow_2 : decode cX9_safeNow 2 = .ok (.invokevirtual 163, 3) := by decide +kernel
theorem dX9_safeNow_5 : decode cX9_safeNow 5 = .ok (.iconst (-1), 1) := by decide +kernel
theorem dX9_safeNow_6 : decode cX9_safeNow 6 = .ok (.if_icmp .eq 7, 3) := by decide +kernel
theorem dX9_safeNow_9 : decode cX9_safeNow 9 = .ok (.iconst 1, 1) := by decide +kernel
theorem dX9_safeNow_10 : decode cX9_safeNow 10 = .ok (.goto 4, 3) := by decide +kernel
theorem dX9_safeNow_13 : decode cX9_safeNow 13 = .ok (.iconst 0, 1) := by decide +kernel
theorem dX9_safeNow_14 : decode cX9_safeNow 14 = .ok (.istore_n 2, 1) := by decide +kernel
theorem dX9_safeNow_15 : decode cX9_safeNow 15 = .ok (.iload_n 2, 1) := by decide +kernel
theorem dX9_safeNow_16 : decode cX9_safeNow 16 = .ok (.ifCond .eq 46, 3) := by decide +kernel
theorem dX9_safeNow_19 : decode cX9_safeNow 19 = .ok (.bipush 16, 2) := by decide +kernel
theorem dX9_safeNow_21 : decode cX9_safeNow 21 = .ok (.aload_n 0, 1) := by decide +kernel
theorem dX9_safeNow_22 : decode cX9_safeNow 22 = .ok (.iload_n 1, 1) := by decide +kernel
theorem dX9_safeNow_23 : decode cX9_safeNow 23 = .ok (.invokevirtual 154, 3) := by decide +kernel
theorem dX9_safeNow_26 : decode cX9_safeNow 26 = .ok (.isub, 1) := by decide +kernel
theorem dX9_safeNow_27 : decode cX9_safeNow 27 = .ok (.i2l, 1) := by decide +kernel
theorem dX9_safeNow_28 : decode cX9_safeNow 28 = .ok (.bipush 16, 2) := by decide +kernel
theorem dX9_safeNow_30 : decode cX9_safeNow 30 = .ok (.aload_n 0, 1) := by decide +kernel
theorem dX9_safeNow_31 : decode cX9_safeNow 31 = .ok (.getfield 25, 3) := by decide +kernel
theorem dX9_safeNow_34 : decode cX9_safeNow 34 = .ok (.bipush 8, 2) := by decide +kernel
theorem dX9_safeNow_36 : decode cX9_safeNow 36 = .ok (.iaload, 1) := by decide +kernel
theorem dX9_safeNow_37 : decode cX9_safeNow 37 = .ok (.isub, 1) := by decide +kernel
theorem dX9_safeNow_38 : decode cX9_safeNow 38 = .ok (.aload_n 0, 1) := by decide +kernel
theorem dX9_safeNow_39 : decode cX9_safeNow 39 = .ok (.getfield 160, 3) := by decide +kernel
theorem dX9_safeNow_42 : decode cX9_safeNow 42 = .ok (.invokestatic 172, 3) := by decide +kernel
theorem dX9_safeNow_45 : decode cX9_safeNow 45 = .ok (.lmul, 1) := by decide +kernel
theorem dX9_safeNow_46 : decode cX9_safeNow 46 = .ok (.bipush 16, 2) := by decide +kernel
theorem dX9_safeNow_48 : decode cX9_safeNow 48 = .ok (.bipush 12, 2) := by decide +kernel
theorem dX9_safeNow_50 : decode cX9_safeNow 50 = .ok (.aload_n 0, 1) := by decide +kernel
theorem dX9_safeNow_51 : decode cX9_safeNow 51 = .ok (.getfield 160, 3) := by decide +kernel
theorem dX9_safeNow_54 : decode cX9_safeNow 54 = .ok (.isub, 1) := by decide +kernel
theorem dX9_safeNow_55 : decode cX9_safeNow 55 = .ok (.invokestatic 172, 3) := by decide +kernel
theorem dX9_safeNow_58 : decode cX9_safeNow 58 = .ok (.lmul, 1) := by decide +kernel
theorem dX9_safeNow_59 : decode cX9_safeNow 59 = .ok (.goto 4, 3) := by decide +kernel
theorem dX9_safeNow_62 : decode cX9_safeNow 62 = .ok (.lconst 0, 1) := by decide +kernel
theorem dX9_safeNow_63 : decode cX9_safeNow 63 = .ok (.lreturn, 1) := by decide +kernel
theorem dX9_safeOf_0 : decode cX9_safeOf 0 = .ok (.aload_n 0, 1) := by decide +kernel
theorem dX9_safeOf_1 : decode cX9_safeOf 1 = .ok (.invokevirtual 117, 3) := by decide +kernel
theorem dX9_safeOf_4 : decode cX9_safeOf 4 = .ok (.aload_n 0, 1) := by decide +kernel
theorem dX9_safeOf_5 : decode cX9_safeOf 5 = .ok (.iload_n 1, 1) := by decide +kernel
theorem dX9_safeOf_6 : decode cX9_safeOf 6 = .ok (.invokevirtual 176, 3) := by decide +kernel
theorem dX9_safeOf_9 : decode cX9_safeOf 9 = .ok (.bipush 16, 2) := by decide +kernel
theorem dX9_safeOf_11 : decode cX9_safeOf 11 = .ok (.bipush 13, 2) := by decide +kernel
theorem dX9_safeOf_13 : decode cX9_safeOf 13 = .ok (.invokestatic 172, 3) := by decide +kernel
theorem dX9_safeOf_16 : decode cX9_safeOf 16 = .ok (.iload_n 2, 1) := by decide +kernel
theorem dX9_safeOf_17 : decode cX9_safeOf 17 = .ok (.invokestatic 180, 3) := by decide +kernel
theorem dX9_safeOf_20 : decode cX9_safeOf 20 = .ok (.lreturn, 1) := by decide +kernel
theorem dX9_safe_0 : decode cX9_safe 0 = .ok (.iload_n 1, 1) := by decide +kernel
theorem dX9_safe_1 : decode cX9_safe 1 = .ok (.invokestatic 90, 3) := by decide +kernel
theorem dX9_safe_4 : decode cX9_safe 4 = .ok (.ifCond .eq 21, 3) := by decide +kernel
theorem dX9_safe_7 : decode cX9_safe 7 = .ok (.iload_n 2, 1) := by decide +kernel
theorem dX9_safe_8 : decode cX9_safe 8 = .ok (.iconst 0, 1) := by decide +kernel
theorem dX9_safe_9 : decode cX9_safe 9 = .ok (.iconst 1, 1) := by decide +kernel
theorem dX9_safe_10 : decode cX9_safe 10 = .ok (.invokestatic 55, 3) := by decide +kernel
theorem dX9_safe_13 : decode cX9_safe 13 = .ok (.ifCond .eq 12, 3) := by decide +kernel
theorem dX9_safe_16 : decode cX9_safe 16 = .ok (.aload_n 0, 1) := by decide +kernel
theorem dX9_safe_17 : decode cX9_safe 17 = .ok (.iload_n 1, 1) := by decide +kernel
theorem dX9_safe_18 : decode cX9_safe 18 = .ok (.iload_n 2, 1) := by decide +kernel
theorem dX9_safe_19 : decode cX9_safe 19 = .ok (.invokevirtual 184, 3) := by decide +kernel
theorem dX9_safe_22 : decode cX9_safe 22 = .ok (.goto 8, 3) := by decide +kernel
theorem dX9_safe_25 : decode cX9_safe 25 = .ok (.bipush (-2), 2) := by decide +kernel
theorem dX9_safe_27 : decode cX9_safe 27 = .ok (.invokestatic 187, 3) := by decide +kernel
theorem dX9_safe_30 : decode cX9_safe 30 = .ok (.lreturn, 1) := by decide +kernel
theorem dX9_bestOf_0 : decode cX9_bestOf 0 = .ok (.aload_n 0, 1) := by decide +kernel
theorem dX9_bestOf_1 : decode cX9_bestOf 1 = .ok (.invokevirtual 117, 3) := by decide +kernel
theorem dX9_bestOf_4 : decode cX9_bestOf 4 = .ok (.iload_n 1, 1) := by decide +kernel
theorem dX9_bestOf_5 : decode cX9_bestOf 5 = .ok (.istore_n 3, 1) := by decide +kernel
theorem dX9_bestOf_6 : decode cX9_bestOf 6 = .ok (.aload_n 0, 1) := by decide +kernel
theorem dX9_bestOf_7 : decode cX9_bestOf 7 = .ok (.iload_n 1, 1) := by decide +kernel
theorem dX9_bestOf_8 : decode cX9_bestOf 8 = .ok (.invokevirtual 176, 3) := by decide +kernel
theorem dX9_bestOf_11 : decode cX9_bestOf 11 = .ok (.lstore 4, 2) := by decide +kernel
theorem dX9_bestOf_13 : decode cX9_bestOf 13 = .ok (.iload_n 1, 1) := by decide +kernel
theorem dX9_bestOf_14 : decode cX9_bestOf 14 = .ok (.iconst 1, 1) := by decide +kernel
theorem dX9_bestOf_15 : decode cX9_bestOf 15 = .ok (.iadd, 1) := by decide +kernel
theorem dX9_bestOf_16 : decode cX9_bestOf 16 = .ok (.istore 6, 2) := by decide +kernel
theorem dX9_bestOf_18 : decode cX9_bestOf 18 = .ok (.iload 6, 2) := by decide +kernel
theorem dX9_bestOf_20 : decode cX9_bestOf 20 = .ok (.iload_n 1, 1) := by decide +kernel
theorem dX9_bestOf_21 : decode cX9_bestOf 21 = .ok (.iload_n 2, 1) := by decide +kernel
theorem dX9_bestOf_22 : decode cX9_bestOf 22 = .ok (.iadd, 1) := by decide +kernel
theorem dX9_bestOf_23 : decode cX9_bestOf 23 = .ok (.if_icmp .ge 57, 3) := by decide +kernel
theorem dX9_bestOf_26 : decode cX9_bestOf 26 = .ok (.iload 6, 2) := by decide +kernel
theorem dX9_bestOf_28 : decode cX9_bestOf 28 = .ok (.sipush 400, 3) := by decide +kernel
theorem dX9_bestOf_31 : decode cX9_bestOf 31 = .ok (.if_icmp .ge 49, 3) := by decide +kernel
theorem dX9_bestOf_34 : decode cX9_bestOf 34 = .ok (.aload_n 0, 1) := by decide +kernel
theorem dX9_bestOf_35 : decode cX9_bestOf 35 = .ok (.iload 6, 2) := by decide +kernel
theorem dX9_bestOf_37 : decode cX9_bestOf 37 = .ok (.invokevirtual 176, 3) := by decide +kernel
theorem dX9_bestOf_40 : decode cX9_bestOf 40 = .ok (.lstore 7, 2) := by decide +kernel
theorem dX9_bestOf_42 : decode cX9_bestOf 42 = .ok (.lload 7, 2) := by decide +kernel
theorem dX9_bestOf_44 : decode cX9_bestOf 44 = .ok (.lload 4, 2) := by decide +kernel
theorem dX9_bestOf_46 : decode cX9_bestOf 46 = .ok (.lcmp, 1) := by decide +kernel
theorem dX9_bestOf_47 : decode cX9_bestOf 47 = .ok (.ifCond .le 8, 3) := by decide +kernel
theorem dX9_bestOf_50 : decode cX9_bestOf 50 = .ok (.iload 6, 2) := by decide +kernel
theorem dX9_bestOf_52 : decode cX9_bestOf 52 = .ok (.goto 4, 3) := by decide +kernel
theorem dX9_bestOf_55 : decode cX9_bestOf 55 = .ok (.iload_n 3, 1) := by decide +kernel
theorem dX9_bestOf_56 : decode cX9_bestOf 56 = .ok (.istore_n 3, 1) := by decide +kernel
theorem dX9_bestOf_57 : decode cX9_bestOf 57 = .ok (.lload 7, 2) := by decide +kernel
theorem dX9_bestOf_59 : decode cX9_bestOf 59 = .ok (.lload 4, 2) := by decide +kernel
theorem dX9_bestOf_61 : decode cX9_bestOf 61 = .ok (.lcmp, 1) := by decide +kernel
theorem dX9_bestOf_62 : decode cX9_bestOf 62 = .ok (.ifCond .le 8, 3) := by decide +kernel
theorem dX9_bestOf_65 : decode cX9_bestOf 65 = .ok (.lload 7, 2) := by decide +kernel
theorem dX9_bestOf_67 : decode cX9_bestOf 67 = .ok (.goto 5, 3) := by decide +kernel
theorem dX9_bestOf_70 : decode cX9_bestOf 70 = .ok (.lload 4, 2) := by decide +kernel
theorem dX9_bestOf_72 : decode cX9_bestOf 72 = .ok (.lstore 4, 2) := by decide +kernel
theorem dX9_bestOf_74 : decode cX9_bestOf 74 = .ok (.iinc 6 1, 3) := by decide +kernel
theorem dX9_bestOf_77 : decode cX9_bestOf 77 = .ok (.goto (-59), 3) := by decide +kernel
theorem dX9_bestOf_80 : decode cX9_bestOf 80 = .ok (.iload_n 3, 1) := by decide +kernel
theorem dX9_bestOf_81 : decode cX9_bestOf 81 = .ok (.ireturn, 1) := by decide +kernel
theorem dX9_best_0 : decode cX9_best 0 = .ok (.iload_n 1, 1) := by decide +kernel
theorem dX9_best_1 : decode cX9_best 1 = .ok (.invokestatic 90, 3) := by decide +kernel
theorem dX9_best_4 : decode cX9_best 4 = .ok (.ifCond .eq 19, 3) := by decide +kernel
theorem dX9_best_7 : decode cX9_best 7 = .ok (.iload_n 2, 1) := by decide +kernel
theorem dX9_best_8 : decode cX9_best 8 = .ok (.invokestatic 141, 3) := by decide +kernel
theorem dX9_best_11 : decode cX9_best 11 = .ok (.ifCond .eq 12, 3) := by decide +kernel
theorem dX9_best_14 : decode cX9_best 14 = .ok (.aload_n 0, 1) := by decide +kernel
theorem dX9_best_15 : decode cX9_best 15 = .ok (.iload_n 1, 1) := by decide +kernel
theorem dX9_best_16 : decode cX9_best 16 = .ok (.iload_n 2, 1) := by decide +kernel
theorem dX9_best_17 : decode cX9_best 17 = .ok (.invokevirtual 190, 3) := by decide +kernel
theorem dX9_best_20 : decode cX9_best 20 = .ok (.goto 5, 3) := by decide +kernel
theorem dX9_best_23 : decode cX9_best 23 = .ok (.bipush (-2), 2) := by decide +kernel
theorem dX9_best_25 : decode cX9_best 25 = .ok (.ireturn, 1) := by decide +kernel
theorem dX9_callOf_0 : decode cX9_callOf 0 = .ok (.aload_n 0, 1) := by decide +kernel
theorem dX9_callOf_1 : decode cX9_callOf 1 = .ok (.iload_n 1, 1) := by decide +kernel
theorem dX9_callOf_2 : decode cX9_callOf 2 = .ok (.iload_n 2, 1) := by decide +kernel
theorem dX9_callOf_3 : decode cX9_callOf 3 = .ok (.invokevirtual 190, 3) := by decide +kernel
theorem dX9_callOf_6 : decode cX9_callOf 6 = .ok (.istore_n 3, 1) := by decide +kernel
theorem dX9_callOf_7 : decode cX9_callOf 7 = .ok (.iload_n 3, 1) := by decide +kernel
theorem dX9_callOf_8 : decode cX9_callOf 8 = .ok (.aload_n 0, 1) := by decide +kernel
theorem dX9_callOf_9 : decode cX9_callOf 9 = .ok (.getfield 25, 3) := by decide +kernel
theorem dX9_callOf_12 : decode cX9_callOf 12 = .ok (.bipush 11, 2) := by decide +kernel
theorem dX9_callOf_14 : decode cX9_callOf 14 = .ok (.iaload, 1) := by decide +kernel
theorem dX9_callOf_15 : decode cX9_callOf 15 = .ok (.if_icmp .ge 7, 3) := by decide +kernel
theorem dX9_callOf_18 : decode cX9_callOf 18 = .ok (.iconst (-1), 1) := by decide +kernel
theorem dX9_callOf_19 : decode cX9_callOf 19 = .ok (.goto 12, 3) := by decide +kernel
theorem dX9_callOf_22 : decode cX9_callOf 22 = .ok (.iload_n 3, 1) := by decide +kernel
theorem dX9_callOf_23 : decode cX9_callOf 23 = .ok (.aload_n 0, 1) := by decide +kernel
theorem dX9_callOf_24 : decode cX9_callOf 24 = .ok (.getfield 25, 3) := by decide +kernel
theorem dX9_callOf_27 : decode cX9_callOf 27 = .ok (.bipush 11, 2) := by decide +kernel
theorem dX9_callOf_29 : decode cX9_callOf 29 = .ok (.iaload, 1) := by decide +kernel
theorem dX9_callOf_30 : decode cX9_callOf 30 = .ok (.isub, 1) := by decide +kernel
theorem dX9_callOf_31 : decode cX9_callOf 31 = .ok (.ireturn, 1) := by decide +kernel
theorem dX9_call_0 : decode cX9_call 0 = .ok (.iload_n 1, 1) := by decide +kernel
theorem dX9_call_1 : decode cX9_call 1 = .ok (.invokestatic 90, 3) := by decide +kernel
theorem dX9_call_4 : decode cX9_call 4 = .ok (.ifCond .eq 19, 3) := by decide +kernel
theorem dX9_call_7 : decode cX9_call 7 = .ok (.iload_n 2, 1) := by decide +kernel
theorem dX9_call_8 : decode cX9_call 8 = .ok (.invokestatic 141, 3) := by decide +kernel
theorem dX9_call_11 : decode cX9_call 11 = .ok (.ifCond .eq 12, 3) := by decide +kernel
theorem dX9_call_14 : decode cX9_call 14 = .ok (.aload_n 0, 1) := by decide +kernel
theorem dX9_call_15 : decode cX9_call 15 = .ok (.iload_n 1, 1) := by decide +kernel
theorem dX9_call_16 : decode cX9_call 16 = .ok (.iload_n 2, 1) := by decide +kernel
theorem dX9_call_17 : decode cX9_call 17 = .ok (.invokevirtual 193, 3) := by decide +kernel
theorem dX9_call_20 : decode cX9_call 20 = .ok (.goto 5, 3) := by decide +kernel
theorem dX9_call_23 : decode cX9_call 23 = .ok (.bipush (-2), 2) := by decide +kernel
theorem dX9_call_25 : decode cX9_call 25 = .ok (.ireturn, 1) := by decide +kernel
theorem dX9_downOf_0 : decode cX9_downOf 0 = .ok (.aload_n 0, 1) := by decide +kernel
theorem dX9_downOf_1 : decode cX9_downOf 1 = .ok (.invokevirtual 117, 3) := by decide +kernel
theorem dX9_downOf_4 : decode cX9_downOf 4 = .ok (.iconst (-1), 1) := by decide +kernel
theorem dX9_downOf_5 : decode cX9_downOf 5 = .ok (.istore 4, 2) := by decide +kernel
theorem dX9_downOf_7 : decode cX9_downOf 7 = .ok (.iconst 0, 1) := by decide +kernel
theorem dX9_downOf_8 : decode cX9_downOf 8 = .ok (.istore 5, 2) := by decide +kernel
theorem dX9_downOf_10 : decode cX9_downOf 10 = .ok (.iload_n 1, 1) := by decide +kernel
theorem dX9_downOf_11 : decode cX9_downOf 11 = .ok (.istore 6, 2) := by decide +kernel
theorem dX9_downOf_13 : decode cX9_downOf 13 = .ok (.iload 6, 2) := by decide +kernel
theorem dX9_downOf_15 : decode cX9_downOf 15 = .ok (.iload_n 1, 1) := by decide +kernel
theorem dX9_downOf_16 : decode cX9_downOf 16 = .ok (.iload_n 2, 1) := by decide +kernel
theorem dX9_downOf_17 : decode cX9_downOf 17 = .ok (.iadd, 1) := by decide +kernel
theorem dX9_downOf_18 : decode cX9_downOf 18 = .ok (.if_icmp .ge 114, 3) := by decide +kernel
theorem dX9_downOf_21 : decode cX9_downOf 21 = .ok (.iload 6, 2) := by decide +kernel
theorem dX9_downOf_23 : decode cX9_downOf 23 = .ok (.sipush 400, 3) := by decide +kernel
theorem dX9_downOf_26 : decode cX9_downOf 26 = .ok (.if_icmp .ge 106, 3) := by decide +kernel
theorem dX9_downOf_29 : decode cX9_downOf 29 = .ok (.aload_n 0, 1) := by decide +kernel
theorem dX9_downOf_30 : decode cX9_downOf 30 = .ok (.getfield 28, 3) := by decide +kernel
theorem dX9_downOf_33 : decode cX9_downOf 33 = .ok (.iload 6, 2) := by decide +kernel
theorem dX9_downOf_35 : decode cX9_downOf 35 = .ok (.iaload, 1) := by decide +kernel
theorem dX9_downOf_36 : decode cX9_downOf 36 = .ok (.aload_n 0, 1) := by decide +kernel
theorem dX9_downOf_37 : decode cX9_downOf 37 = .ok (.getfield 25, 3) := by decide +kernel
theorem dX9_downOf_40 : decode cX9_downOf 40 = .ok (.iconst 0, 1) := by decide +kernel
theorem dX9_downOf_41 : decode cX9_downOf 41 = .ok (.iaload, 1) := by decide +kernel
theorem dX9_downOf_42 : decode cX9_downOf 42 = .ok (.if_icmp .le 20, 3) := by decide +kernel
theorem dX9_downOf_45 : decode cX9_downOf 45 = .ok (.aload_n 0, 1) := by decide +kernel
theorem dX9_downOf_46 : decode cX9_downOf 46 = .ok (.getfield 28, 3) := by decide +kernel
theorem dX9_downOf_49 : decode cX9_downOf 49 = .ok (.iload 6, 2) := by decide +kernel
theorem dX9_downOf_51 : decode cX9_downOf 51 = .ok (.iaload, 1) := by decide +kernel
theorem dX9_downOf_52 : decode cX9_downOf 52 = .ok (.aload_n 0, 1) := by decide +kernel
theorem dX9_downOf_53 : decode cX9_downOf 53 = .ok (.getfield 25, 3) := by decide +kernel
theorem dX9_downOf_56 : decode cX9_downOf 56 = .ok (.iconst 0, 1) := by decide +kernel
theorem dX9_downOf_57 : decode cX9_downOf 57 = .ok (.iaload, 1) := by decide +kernel
theorem dX9_downOf_58 : decode cX9_downOf 58 = .ok (.isub, 1) := by decide +kernel
theorem dX9_downOf_59 : decode cX9_downOf 59 = .ok (.goto 17, 3) := by decide +kernel
theorem dX9_downOf_62 : decode cX9_downOf 62 = .ok (.aload_n 0, 1) := by decide +kernel
theorem dX9_downOf_63 : decode cX9_downOf 63 = .ok (.getfield 25, 3) := by decide +kernel
theorem dX9_downOf_66 : decode cX9_downOf 66 = .ok (.iconst 0, 1) := by decide +kernel
theorem dX9_downOf_67 : decode cX9_downOf 67 = .ok (.iaload, 1) := by decide +kernel
theorem dX9_downOf_68 : decode cX9_downOf 68 = .ok (.aload_n 0, 1) := by decide +kernel
theorem dX9_downOf_69 : decode cX9_downOf 69 = .ok (.getfield 28, 3) := by decide +kernel
theorem dX9_downOf_72 : decode cX9_downOf 72 = .ok (.iload 6, 2) := by decide +kernel
theorem dX9_downOf_74 : decode cX9_downOf 74 = .ok (.iaload, 1) := by decide +kernel
theorem dX9_downOf_75 : decode cX9_downOf 75 = .ok (.isub, 1) := by decide +kernel
theorem dX9_downOf_76 : decode cX9_downOf 76 = .ok (.istore 7, 2) := by decide +kernel
theorem dX9_downOf_78 : decode cX9_downOf 78 = .ok (.iload 4, 2) := by decide +kernel
theorem dX9_downOf_80 : decode cX9_downOf 80 = .ok (.iconst (-1), 1) := by decide +kernel
theorem dX9_downOf_81 : decode cX9_downOf 81 = .ok (.if_icmp .eq 10, 3) := by decide +kernel
theorem dX9_downOf_84 : decode cX9_downOf 84 = .ok (.iload 7, 2) := by decide +kernel
theorem dX9_downOf_86 : decode cX9_downOf 86 = .ok (.iload 5, 2) := by decide +kernel
theorem dX9_downOf_88 : decode cX9_downOf 88 = .ok (.if_icmp .ge 7, 3) := by decide +kernel
theorem dX9_downOf_91 : decode cX9_downOf 91 = .ok (.iconst 1, 1) := by decide +kernel
theorem dX9_downOf_92 : decode cX9_downOf 92 = .ok (.goto 4, 3) := by decide +kernel
theorem dX9_downOf_95 : decode cX9_downOf 95 = .ok (.iconst 0, 1) := by decide +kernel
theorem dX9_downOf_96 : decode cX9_downOf 96 = .ok (.istore 8, 2) := by decide +kernel
theorem dX9_downOf_98 : decode cX9_downOf 98 = .ok (.iload 8, 2) := by decide +kernel
theorem dX9_downOf_100 : decode cX9_downOf 100 = .ok (.ifCond .eq 8, 3) := by decide +kernel
theorem dX9_downOf_103 : decode cX9_downOf 103 = .ok (.iload 6, 2) := by decide +kernel
theorem dX9_downOf_105 : decode cX9_downOf 105 = .ok (.goto 5, 3) := by decide +kernel
theorem dX9_downOf_108 : decode cX9_downOf 108 = .ok (.iload 4, 2) := by decide +kernel
theorem dX9_downOf_110 : decode cX9_downOf 110 = .ok (.istore 4, 2) := by decide +kernel
theorem dX9_downOf_112 : decode cX9_downOf 112 = .ok (.iload 8, 2) := by decide +kernel
theorem dX9_downOf_114 : decode cX9_downOf 114 = .ok (.ifCond .eq 8, 3) := by decide +kernel
theorem dX9_downOf_117 : decode cX9_downOf 117 = .ok (.iload 7, 2) := by decide +kernel
theorem dX9_downOf_119 : decode cX9_downOf 119 = .ok (.goto 5, 3) := by decide +kernel
theorem dX9_downOf_122 : decode cX9_downOf 122 = .ok (.iload 5, 2) := by decide +kernel
theorem dX9_downOf_124 : decode cX9_downOf 124 = .ok (.istore 5, 2) := by decide +kernel
theorem dX9_downOf_126 : decode cX9_downOf 126 = .ok (.iinc 6 1, 3) := by decide +kernel
theorem dX9_downOf_129 : decode cX9_downOf 129 = .ok (.goto (-116), 3) := by decide +kernel
theorem dX9_downOf_132 : decode cX9_downOf 132 = .ok (.iload_n 3, 1) := by decide +kernel
theorem dX9_downOf_133 : decode cX9_downOf 133 = .ok (.ifCond .ne 8, 3) := by decide +kernel
theorem dX9_downOf_136 : decode cX9_downOf 136 = .ok (.iload 4, 2) := by decide +kernel
theorem dX9_downOf_138 : decode cX9_downOf 138 = .ok (.goto 5, 3) := by decide +kernel
theorem dX9_downOf_141 : decode cX9_downOf 141 = .ok (.iload 5, 2) := by decide +kernel
theorem dX9_downOf_143 : decode cX9_downOf 143 = .ok (.ireturn, 1) := by decide +kernel
theorem dX9_down_0 : decode cX9_down 0 = .ok (.iload_n 1, 1) := by decide +kernel
theorem dX9_down_1 : decode cX9_down 1 = .ok (.invokestatic 90, 3) := by decide +kernel
theorem dX9_down_4 : decode cX9_down 4 = .ok (.ifCond .eq 29, 3) := by decide +kernel
theorem dX9_down_7 : decode cX9_down 7 = .ok (.iload_n 2, 1) := by decide +kernel
theorem dX9_down_8 : decode cX9_down 8 = .ok (.invokestatic 141, 3) := by decide +kernel
theorem dX9_down_11 : decode cX9_down 11 = .ok (.ifCond .eq 22, 3) := by decide +kernel
theorem dX9_down_14 : decode cX9_down 14 = .ok (.iload_n 3, 1) := by decide +kernel
theorem dX9_down_15 : decode cX9_down 15 = .ok (.iconst 0, 1) := by decide +kernel
theorem dX9_down_16 : decode cX9_down 16 = .ok (.iconst 1, 1) := by decide +kernel
theorem dX9_down_17 : decode cX9_down 17 = .ok (.invokestatic 55, 3) := by decide +kernel
theorem dX9_down_20 : decode cX9_down 20 = .ok (.ifCond .eq 13, 3) := by decide +kernel
theorem dX9_down_23 : decode cX9_down 23 = .ok (.aload_n 0, 1) := by decide +kernel
theorem dX9_down_24 : decode cX9_down 24 = .ok (.iload_n 1, 1) := by decide +kernel
theorem dX9_down_25 : decode cX9_down 25 = .ok (.iload_n 2, 1) := by decide +kernel
theorem dX9_down_26 : decode cX9_down 26 = .ok (.iload_n 3, 1) := by decide +kernel
theorem dX9_down_27 : decode cX9_down 27 = .ok (.invokevirtual 196, 3) := by decide +kernel
theorem dX9_down_30 : decode cX9_down 30 = .ok (.goto 5, 3) := by decide +kernel
theorem dX9_down_33 : decode cX9_down 33 = .ok (.bipush (-2), 2) := by decide +kernel
theorem dX9_down_35 : decode cX9_down 35 = .ok (.ireturn, 1) := by decide +kernel
theorem dX9_savesNow_0 : decode cX9_savesNow 0 = .ok (.aload_n 0, 1) := by decide +kernel
theorem dX9_savesNow_1 : decode cX9_savesNow 1 = .ok (.invokevirtual 117, 3) := by decide +kernel
theorem dX9_savesNow_4 : decode cX9_savesNow 4 = .ok (.iconst 0, 1) := by decide +kernel
theorem dX9_savesNow_5 : decode cX9_savesNow 5 = .ok (.istore_n 1, 1) := by decide +kernel
theorem dX9_savesNow_6 : decode cX9_savesNow 6 = .ok (.iconst 0, 1) := by decide +kernel
theorem dX9_savesNow_7 : decode cX9_savesNow 7 = .ok (.istore_n 2, 1) := by decide +kernel
theorem dX9_savesNow_8 : decode cX9_savesNow 8 = .ok (.aload_n 0, 1) := by decide +kernel
theorem dX9_savesNow_9 : decode cX9_savesNow 9 = .ok (.getfield 93, 3) := by decide +kernel
theorem dX9_savesNow_12 : decode cX9_savesNow 12 = .ok (.istore_n 3, 1) := by decide +kernel
theorem dX9_savesNow_13 : decode cX9_savesNow 13 = .ok (.iload_n 3, 1) := by decide +kernel
theorem dX9_savesNow_14 : decode cX9_savesNow 14 = .ok (.aload_n 0, 1) := by decide +kernel
theorem dX9_savesNow_15 : decode cX9_savesNow 15 = .ok (.getfield 93, 3) := by decide +kernel
theorem dX9_savesNow_18 : decode cX9_savesNow 18 = .ok (.aload_n 0, 1) := by decide +kernel
theorem dX9_savesNow_19 : decode cX9_savesNow 19 = .ok (.getfield 96, 3) := by decide +kernel
theorem dX9_savesNow_22 : decode cX9_savesNow 22 = .ok (.iadd, 1) := by decide +kernel
theorem dX9_savesNow_23 : decode cX9_savesNow 23 = .ok (.if_icmp .ge 56, 3) := by decide +kernel
theorem dX9_savesNow_26 : decode cX9_savesNow 26 = .ok (.iload_n 3, 1) := by decide +kernel
theorem dX9_savesNow_27 : decode cX9_savesNow 27 = .ok (.sipush 400, 3) := by decide +kernel
theorem dX9_savesNow_30 : decode cX9_savesNow 30 = .ok (.if_icmp .ge 49, 3) := by decide +kernel
theorem dX9_savesNow_33 : decode cX9_savesNow 33 = .ok (.aload_n 0, 1) := by decide +kernel
theorem dX9_savesNow_34 : decode cX9_savesNow 34 = .ok (.getfield 28, 3) := by decide +kernel
theorem dX9_savesNow_37 : decode cX9_savesNow 37 = .ok (.iload_n 3, 1) := by decide +kernel
theorem dX9_savesNow_38 : decode cX9_savesNow 38 = .ok (.iaload, 1) := by decide +kernel
theorem dX9_savesNow_39 : decode cX9_savesNow 39 = .ok (.iload_n 1, 1) := by decide +kernel
theorem dX9_savesNow_40 : decode cX9_savesNow 40 = .ok (.if_icmp .le 12, 3) := by decide +kernel
theorem dX9_savesNow_43 : decode cX9_savesNow 43 = .ok (.aload_n 0, 1) := by decide +kernel
theorem dX9_savesNow_44 : decode cX9_savesNow 44 = .ok (.getfield 28, 3) := by decide +kernel
theorem dX9_savesNow_47 : decode cX9_savesNow 47 = .ok (.iload_n 3, 1) := by decide +kernel
theorem dX9_savesNow_48 : decode cX9_savesNow 48 = .ok (.iaload, 1) := by decide +kernel
theorem dX9_savesNow_49 : decode cX9_savesNow 49 = .ok (.goto 4, 3) := by decide +kernel
theorem dX9_savesNow_52 : decode cX9_savesNow 52 = .ok (.iload_n 1, 1) := by decide +kernel
theorem dX9_savesNow_53 : decode cX9_savesNow 53 = .ok (.istore_n 1, 1) := by decide +kernel
theorem dX9_savesNow_54 : decode cX9_savesNow 54 = .ok (.aload_n 0, 1) := by decide +kernel
theorem dX9_savesNow_55 : decode cX9_savesNow 55 = .ok (.iload_n 3, 1) := by decide +kernel
theorem dX9_savesNow_56 : decode cX9_savesNow 56 = .ok (.invokevirtual 108, 3) := by decide +kernel
theorem dX9_savesNow_59 : decode cX9_savesNow 59 = .ok (.iload_n 2, 1) := by decide +kernel
theorem dX9_savesNow_60 : decode cX9_savesNow 60 = .ok (.if_icmp .le 11, 3) := by decide +kernel
theorem dX9_savesNow_63 : decode cX9_savesNow 63 = .ok (.aload_n 0, 1) := by decide +kernel
theorem dX9_savesNow_64 : decode cX9_savesNow 64 = .ok (.iload_n 3, 1) := by decide +kernel
theorem dX9_savesNow_65 : decode cX9_savesNow 65 = .ok (.invokevirtual 108, 3) := by decide +kernel
theorem dX9_savesNow_68 : decode cX9_savesNow 68 = .ok (.goto 4, 3) := by decide +kernel
theorem dX9_savesNow_71 : decode cX9_savesNow 71 = .ok (.iload_n 2, 1) := by decide +kernel
theorem dX9_savesNow_72 : decode cX9_savesNow 72 = .ok (.istore_n 2, 1) := by decide +kernel
theorem dX9_savesNow_73 : decode cX9_savesNow 73 = .ok (.iinc 3 1, 3) := by decide +kernel
theorem dX9_savesNow_76 : decode cX9_savesNow 76 = .ok (.goto (-63), 3) := by decide +kernel
theorem dX9_savesNow_79 : decode cX9_savesNow 79 = .ok (.aload_n 0, 1) := by decide +kernel
theorem dX9_savesNow_80 : decode cX9_savesNow 80 = .ok (.getfield 96, 3) := by decide +kernel
theorem dX9_savesNow_83 : decode cX9_savesNow 83 = .ok (.ifCond .ne 7, 3) := by decide +kernel
theorem dX9_savesNow_86 : decode cX9_savesNow 86 = .ok (.iconst (-1), 1) := by decide +kernel
theorem dX9_savesNow_87 : decode cX9_savesNow 87 = .ok (.goto 6, 3) := by decide +kernel
theorem dX9_savesNow_90 : decode cX9_savesNow 90 = .ok (.iload_n 2, 1) := by decide +kernel
theorem dX9_savesNow_91 : decode cX9_savesNow 91 = .ok (.iload_n 1, 1) := by decide +kernel
theorem dX9_savesNow_92 : decode cX9_savesNow 92 = .ok (.isub, 1) := by decide +kernel
theorem dX9_savesNow_93 : decode cX9_savesNow 93 = .ok (.ireturn, 1) := by decide +kernel
theorem dX9_saves_0 : decode cX9_saves 0 = .ok (.aload_n 0, 1) := by decide +kernel
theorem dX9_saves_1 : decode cX9_saves 1 = .ok (.invokevirtual 199, 3) := by decide +kernel
theorem dX9_saves_4 : decode cX9_saves 4 = .ok (.ireturn, 1) := by decide +kernel
theorem dX9_ladderOf_0 : decode cX9_ladderOf 0 = .ok (.aload_n 0, 1) := by decide +kernel
theorem dX9_ladderOf_1 : decode cX9_ladderOf 1 = .ok (.invokevirtual 117, 3) := by decide +kernel
theorem dX9_ladderOf_4 : decode cX9_ladderOf 4 = .ok (.iconst (-1), 1) := by decide +kernel
theorem dX9_ladderOf_5 : decode cX9_ladderOf 5 = .ok (.istore_n 3, 1) := by decide +kernel
theorem dX9_ladderOf_6 : decode cX9_ladderOf 6 = .ok (.iconst 0, 1) := by decide +kernel
theorem dX9_ladderOf_7 : decode cX9_ladderOf 7 = .ok (.istore 4, 2) := by decide +kernel
theorem dX9_ladderOf_9 : decode cX9_ladderOf 9 = .ok (.iconst 0, 1) := by decide +kernel
theorem dX9_ladderOf_10 : decode cX9_ladderOf 10 = .ok (.istore 5, 2) := by decide +kernel
theorem dX9_ladderOf_12 : decode cX9_ladderOf 12 = .ok (.iload 5, 2) := by decide +kernel
theorem dX9_ladderOf_14 : decode cX9_ladderOf 14 = .ok (.sipush 1000, 3) := by decide +kernel
theorem dX9_ladderOf_17 : decode cX9_ladderOf 17 = .ok (.if_icmp .ge 129, 3) := by decide +kernel
theorem dX9_ladderOf_20 : decode cX9_ladderOf 20 = .ok (.iconst 0, 1) := by decide +kernel
theorem dX9_ladderOf_21 : decode cX9_ladderOf 21 = .ok (.istore 6, 2) := by decide +kernel
theorem dX9_ladderOf_23 : decode cX9_ladderOf 23 = .ok (.iload_n 1, 1) := by decide +kernel
theorem dX9_ladderOf_24 : decode cX9_ladderOf 24 = .ok (.istore 7, 2) := by decide +kernel
theorem dX9_ladderOf_26 : decode cX9_ladderOf 26 = .ok (.iload 7, 2) := by decide +kernel
theorem dX9_ladderOf_28 : decode cX9_ladderOf 28 = .ok (.iload_n 1, 1) := by decide +kernel
theorem dX9_ladderOf_29 : decode cX9_ladderOf 29 = .ok (.iload_n 2, 1) := by decide +kernel
theorem dX9_ladderOf_30 : decode cX9_ladderOf 30 = .ok (.iadd, 1) := by decide +kernel
theorem dX9_ladderOf_31 : decode cX9_ladderOf 31 = .ok (.if_icmp .ge 64, 3) := by decide +kernel
theorem dX9_ladderOf_34 : decode cX9_ladderOf 34 = .ok (.iload 7, 2) := by decide +kernel
theorem dX9_ladderOf_36 : decode cX9_ladderOf 36 = .ok (.sipush 400, 3) := by decide +kernel
theorem dX9_ladderOf_39 : decode cX9_ladderOf 39 = .ok (.if_icmp .ge 56, 3) := by decide +kernel
theorem dX9_ladderOf_42 : decode cX9_ladderOf 42 = .ok (.iload 6, 2) := by decide +kernel
theorem dX9_ladderOf_44 : decode cX9_ladderOf 44 = .ok (.iload 5, 2) := by decide +kernel
theorem dX9_ladderOf_46 : decode cX9_ladderOf 46 = .ok (.aload_n 0, 1) := by decide +kernel
theorem dX9_ladderOf_47 : decode cX9_ladderOf 47 = .ok (.getfield 28, 3) := by decide +kernel
theorem dX9_ladderOf_50 : decode cX9_ladderOf 50 = .ok (.iload 7, 2) := by decide +kernel
theorem dX9_ladderOf_52 : decode cX9_ladderOf 52 = .ok (.iaload, 1) := by decide +kernel
theorem dX9_ladderOf_53 : decode cX9_ladderOf 53 = .ok (.isub, 1) := by decide +kernel
theorem dX9_ladderOf_54 : decode cX9_ladderOf 54 = .ok (.aload_n 0, 1) := by decide +kernel
theorem dX9_ladderOf_55 : decode cX9_ladderOf 55 = .ok (.getfield 25, 3) := by decide +kernel
theorem dX9_ladderOf_58 : decode cX9_ladderOf 58 = .ok (.iconst 3, 1) := by decide +kernel
theorem dX9_ladderOf_59 : decode cX9_ladderOf 59 = .ok (.iaload, 1) := by decide +kernel
theorem dX9_ladderOf_60 : decode cX9_ladderOf 60 = .ok (.if_icmp .le 9, 3) := by decide +kernel
theorem dX9_ladderOf_63 : decode cX9_ladderOf 63 = .ok (.sipush 1000, 3) := by decide +kernel
theorem dX9_ladderOf_66 : decode cX9_ladderOf 66 = .ok (.goto 20, 3) := by decide +kernel
theorem dX9_ladderOf_69 : decode cX9_ladderOf 69 = .ok (.aload_n 0, 1) := by decide +kernel
theorem dX9_ladderOf_70 : decode cX9_ladderOf 70 = .ok (.getfield 28, 3) := by decide +kernel
theorem dX9_ladderOf_73 : decode cX9_ladderOf 73 = .ok (.iload 7, 2) := by decide +kernel
theorem dX9_ladderOf_75 : decode cX9_ladderOf 75 = .ok (.iaload, 1) := by decide +kernel
theorem dX9_ladderOf_76 : decode cX9_ladderOf 76 = .ok (.iload 5, 2) := by decide +kernel
theorem dX9_ladderOf_78 : decode cX9_ladderOf 78 = .ok (.if_icmp .le 7, 3) := by decide +kernel
theorem dX9_ladderOf_81 : decode cX9_ladderOf 81 = .ok (.iconst 1, 1) := by decide +kernel
theorem dX9_ladderOf_82 : decode cX9_ladderOf 82 = .ok (.goto 4, 3) := by decide +kernel
theorem dX9_ladderOf_85 : decode cX9_ladderOf 85 = .ok (.iconst 0, 1) := by decide +kernel
theorem dX9_ladderOf_86 : decode cX9_ladderOf 86 = .ok (.iadd, 1) := by decide +kernel
theorem dX9_ladderOf_87 : decode cX9_ladderOf 87 = .ok (.istore 6, 2) := by decide +kernel
theorem dX9_ladderOf_89 : decode cX9_ladderOf 89 = .ok (.iinc 7 1, 3) := by decide +kernel
theorem dX9_ladderOf_92 : decode cX9_ladderOf 92 = .ok (.goto (-66), 3) := by decide +kernel
theorem dX9_ladderOf_95 : decode cX9_ladderOf 95 = .ok (.iload_n 3, 1) := by decide +kernel
theorem dX9_ladderOf_96 : decode cX9_ladderOf 96 = .ok (.iconst (-1), 1) := by decide +kernel
theorem dX9_ladderOf_97 : decode cX9_ladderOf 97 = .ok (.if_icmp .eq 10, 3) := by decide +kernel
theorem dX9_ladderOf_100 : decode cX9_ladderOf 100 = .ok (.iload 6, 2) := by decide +kernel
theorem dX9_ladderOf_102 : decode cX9_ladderOf 102 = .ok (.iload 4, 2) := by decide +kernel
theorem dX9_ladderOf_104 : decode cX9_ladderOf 104 = .ok (.if_icmp .ge 7, 3) := by decide +kernel
theorem dX9_ladderOf_107 : decode cX9_ladderOf 107 = .ok (.iconst 1, 1) := by decide +kernel
theorem dX9_ladderOf_108 : decode cX9_ladderOf 108 = .ok (.goto 4, 3) := by decide +kernel
theorem dX9_ladderOf_111 : decode cX9_ladderOf 111 = .ok (.iconst 0, 1) := by decide +kernel
theorem dX9_ladderOf_112 : decode cX9_ladderOf 112 = .ok (.istore 7, 2) := by decide +kernel
theorem dX9_ladderOf_114 : decode cX9_ladderOf 114 = .ok (.iload 7, 2) := by decide +kernel
theorem dX9_ladderOf_116 : decode cX9_ladderOf 116 = .ok (.ifCond .eq 8, 3) := by decide +kernel
theorem dX9_ladderOf_119 : decode cX9_ladderOf 119 = .ok (.iload 5, 2) := by decide +kernel
theorem dX9_ladderOf_121 : decode cX9_ladderOf 121 = .ok (.goto 4, 3) := by decide +kernel
theorem dX9_ladderOf_124 : decode cX9_ladderOf 124 = .ok (.iload_n 3, 1) := by decide +kernel
theorem dX9_ladderOf_125 : decode cX9_ladderOf 125 = .ok (.istore_n 3, 1) := by decide +kernel
theorem dX9_ladderOf_126 : decode cX9_ladderOf 126 = .ok (.iload 7, 2) := by decide +kernel
theorem dX9_ladderOf_128 : decode cX9_ladderOf 128 = .ok (.ifCond .eq 8, 3) := by decide +kernel
theorem dX9_ladderOf_131 : decode cX9_ladderOf 131 = .ok (.iload 6, 2) := by decide +kernel
theorem dX9_ladderOf_133 : decode cX9_ladderOf 133 = .ok (.goto 5, 3) := by decide +kernel
theorem dX9_ladderOf_136 : decode cX9_ladderOf 136 = .ok (.iload 4, 2) := by decide +kernel
theorem dX9_ladderOf_138 : decode cX9_ladderOf 138 = .ok (.istore 4, 2) := by decide +kernel
theorem dX9_ladderOf_140 : decode cX9_ladderOf 140 = .ok (.iinc 5 1, 3) := by decide +kernel
theorem dX9_ladderOf_143 : decode cX9_ladderOf 143 = .ok (.goto (-131), 3) := by decide +kernel
theorem dX9_ladderOf_146 : decode cX9_ladderOf 146 = .ok (.iload_n 3, 1) := by decide +kernel
theorem dX9_ladderOf_147 : decode cX9_ladderOf 147 = .ok (.ireturn, 1) := by decide +kernel
theorem dX9_ladder_0 : decode cX9_ladder 0 = .ok (.iload_n 1, 1) := by decide +kernel
theorem dX9_ladder_1 : decode cX9_ladder 1 = .ok (.invokestatic 90, 3) := by decide +kernel
theorem dX9_ladder_4 : decode cX9_ladder 4 = .ok (.ifCond .eq 19, 3) := by decide +kernel
theorem dX9_ladder_7 : decode cX9_ladder 7 = .ok (.iload_n 2, 1) := by decide +kernel
theorem dX9_ladder_8 : decode cX9_ladder 8 = .ok (.invokestatic 141, 3) := by decide +kernel
theorem dX9_ladder_11 : decode cX9_ladder 11 = .ok (.ifCond .eq 12, 3) := by decide +kernel
theorem dX9_ladder_14 : decode cX9_ladder 14 = .ok (.aload_n 0, 1) := by decide +kernel
theorem dX9_ladder_15 : decode cX9_ladder 15 = .ok (.iload_n 1, 1) := by decide +kernel
theorem dX9_ladder_16 : decode cX9_ladder 16 = .ok (.iload_n 2, 1) := by decide +kernel
theorem dX9_ladder_17 : decode cX9_ladder 17 = .ok (.invokevirtual 203, 3) := by decide +kernel
theorem dX9_ladder_20 : decode cX9_ladder 20 = .ok (.goto 5, 3) := by decide +kernel
theorem dX9_ladder_23 : decode cX9_ladder 23 = .ok (.bipush (-2), 2) := by decide +kernel
theorem dX9_ladder_25 : decode cX9_ladder 25 = .ok (.ireturn, 1) := by decide +kernel
theorem dX9_seen_0 : decode cX9_seen 0 = .ok (.iload_n 1, 1) := by decide +kernel
theorem dX9_seen_1 : decode cX9_seen 1 = .ok (.invokestatic 90, 3) := by decide +kernel
theorem dX9_seen_4 : decode cX9_seen 4 = .ok (.ifCond .eq 14, 3) := by decide +kernel
theorem dX9_seen_7 : decode cX9_seen 7 = .ok (.iload_n 2, 1) := by decide +kernel
theorem dX9_seen_8 : decode cX9_seen 8 = .ok (.iconst 0, 1) := by decide +kernel
theorem dX9_seen_9 : decode cX9_seen 9 = .ok (.sipush 3000, 3) := by decide +kernel
theorem dX9_seen_12 : decode cX9_seen 12 = .ok (.invokestatic 55, 3) := by decide +kernel
theorem dX9_seen_15 : decode cX9_seen 15 = .ok (.ifCond .ne 6, 3) := by decide +kernel
theorem dX9_seen_18 : decode cX9_seen 18 = .ok (.bipush (-2), 2) := by decide +kernel
theorem dX9_seen_20 : decode cX9_seen 20 = .ok (.ireturn, 1) := by decide +kernel
theorem dX9_seen_21 : decode cX9_seen 21 = .ok (.aload_n 0, 1) := by decide +kernel
theorem dX9_seen_22 : decode cX9_seen 22 = .ok (.getfield 206, 3) := by decide +kernel
theorem dX9_seen_25 : decode cX9_seen 25 = .ok (.bipush 8, 2) := by decide +kernel
theorem dX9_seen_27 : decode cX9_seen 27 = .ok (.if_icmp .ne 6, 3) := by decide +kernel
theorem dX9_seen_30 : decode cX9_seen 30 = .ok (.bipush (-4), 2) := by decide +kernel
theorem dX9_seen_32 : decode cX9_seen 32 = .ok (.ireturn, 1) := by decide +kernel
theorem dX9_seen_33 : decode cX9_seen 33 = .ok (.aload_n 0, 1) := by decide +kernel
theorem dX9_seen_34 : decode cX9_seen 34 = .ok (.getfield 31, 3) := by decide +kernel
theorem dX9_seen_37 : decode cX9_seen 37 = .ok (.aload_n 0, 1) := by decide +kernel
theorem dX9_seen_38 : decode cX9_seen 38 = .ok (.getfield 206, 3) := by decide +kernel
theorem dX9_seen_41 : decode cX9_seen 41 = .ok (.iload_n 1, 1) := by decide +kernel
theorem dX9_seen_42 : decode cX9_seen 42 = .ok (.iastore, 1) := by decide +kernel
theorem dX9_seen_43 : decode cX9_seen 43 = .ok (.aload_n 0, 1) := by decide +kernel
theorem dX9_seen_44 : decode cX9_seen 44 = .ok (.getfield 34, 3) := by decide +kernel
theorem dX9_seen_47 : decode cX9_seen 47 = .ok (.aload_n 0, 1) := by decide +kernel
theorem dX9_seen_48 : decode cX9_seen 48 = .ok (.getfield 206, 3) := by decide +kernel
theorem dX9_seen_51 : decode cX9_seen 51 = .ok (.iload_n 2, 1) := by decide +kernel
theorem dX9_seen_52 : decode cX9_seen 52 = .ok (.iastore, 1) := by decide +kernel
theorem dX9_seen_53 : decode cX9_seen 53 = .ok (.aload_n 0, 1) := by decide +kernel
theorem dX9_seen_54 : decode cX9_seen 54 = .ok (.dup, 1) := by decide +kernel
theorem dX9_seen_55 : decode cX9_seen 55 = .ok (.getfield 206, 3) := by decide +kernel
theorem dX9_seen_58 : decode cX9_seen 58 = .ok (.iconst 1, 1) := by decide +kernel
theorem dX9_seen_59 : decode cX9_seen 59 = .ok (.iadd, 1) := by decide +kernel
theorem dX9_seen_60 : decode cX9_seen 60 = .ok (.putfield 206, 3) := by decide +kernel
theorem dX9_seen_63 : decode cX9_seen 63 = .ok (.aload_n 0, 1) := by decide +kernel
theorem dX9_seen_64 : decode cX9_seen 64 = .ok (.getfield 206, 3) := by decide +kernel
theorem dX9_seen_67 : decode cX9_seen 67 = .ok (.ireturn, 1) := by decide +kernel
theorem dX9_forget_0 : decode cX9_forget 0 = .ok (.aload_n 0, 1) := by decide +kernel
theorem dX9_forget_1 : decode cX9_forget 1 = .ok (.getfield 206, 3) := by decide +kernel
theorem dX9_forget_4 : decode cX9_forget 4 = .ok (.istore_n 1, 1) := by decide +kernel
theorem dX9_forget_5 : decode cX9_forget 5 = .ok (.aload_n 0, 1) := by decide +kernel
theorem dX9_forget_6 : decode cX9_forget 6 = .ok (.iconst 0, 1) := by decide +kernel
theorem dX9_forget_7 : decode cX9_forget 7 = .ok (.putfield 206, 3) := by decide +kernel
theorem dX9_forget_10 : decode cX9_forget 10 = .ok (.iload_n 1, 1) := by decide +kernel
theorem dX9_forget_11 : decode cX9_forget 11 = .ok (.ireturn, 1) := by decide +kernel
theorem dX9_read_0 : decode cX9_read 0 = .ok (.iload_n 1, 1) := by decide +kernel
theorem dX9_read_1 : decode cX9_read 1 = .ok (.invokestatic 209, 3) := by decide +kernel
theorem dX9_read_4 : decode cX9_read 4 = .ok (.ifCond .ne 6, 3) := by decide +kernel
theorem dX9_read_7 : decode cX9_read 7 = .ok (.bipush (-2), 2) := by decide +kernel
theorem dX9_read_9 : decode cX9_read 9 = .ok (.ireturn, 1) := by decide +kernel
theorem dX9_read_10 : decode cX9_read 10 = .ok (.aload_n 0, 1) := by decide +kernel
theorem dX9_read_11 : decode cX9_read 11 = .ok (.getfield 37, 3) := by decide +kernel
theorem dX9_read_14 : decode cX9_read 14 = .ok (.iload_n 1, 1) := by decide +kernel
theorem dX9_read_15 : decode cX9_read 15 = .ok (.baload, 1) := by decide +kernel
theorem dX9_read_16 : decode cX9_read 16 = .ok (.ifCond .ne 9, 3) := by decide +kernel
theorem dX9_read_19 : decode cX9_read 19 = .ok (.aload_n 0, 1) := by decide +kernel
theorem dX9_read_20 : decode cX9_read 20 = .ok (.iconst 1, 1) := by decide +kernel
theorem dX9_read_21 : decode cX9_read 21 = .ok (.invokevirtual 212, 3) := by decide +kernel
theorem dX9_read_24 : decode cX9_read 24 = .ok (.ireturn, 1) := by decide +kernel
theorem dX9_read_25 : decode cX9_read 25 = .ok (.iconst 0, 1) := by decide +kernel
theorem dX9_read_26 : decode cX9_read 26 = .ok (.istore_n 2, 1) := by decide +kernel
theorem dX9_read_27 : decode cX9_read 27 = .ok (.iconst 2, 1) := by decide +kernel
theorem dX9_read_28 : decode cX9_read 28 = .ok (.iload_n 2, 1) := by decide +kernel
theorem dX9_read_29 : decode cX9_read 29 = .ok (.imul, 1) := by decide +kernel
theorem dX9_read_30 : decode cX9_read 30 = .ok (.iconst 1, 1) := by decide +kernel
theorem dX9_read_31 : decode cX9_read 31 = .ok (.iadd, 1) := by decide +kernel
theorem dX9_read_32 : decode cX9_read 32 = .ok (.aload_n 0, 1) := by decide +kernel
theorem dX9_read_33 : decode cX9_read 33 = .ok (.getfield 44, 3) := by decide +kernel
theorem dX9_read_36 : decode cX9_read 36 = .ok (.iload_n 1, 1) := by decide +kernel
theorem dX9_read_37 : decode cX9_read 37 = .ok (.iaload, 1) := by decide +kernel
theorem dX9_read_38 : decode cX9_read 38 = .ok (.if_icmp .ge 44, 3) := by decide +kernel
theorem dX9_read_41 : decode cX9_read 41 = .ok (.aload_n 0, 1) := by decide +kernel
theorem dX9_read_42 : decode cX9_read 42 = .ok (.aload_n 0, 1) := by decide +kernel
theorem dX9_read_43 : decode cX9_read 43 = .ok (.getfield 47, 3) := by decide +kernel
theorem dX9_read_46 : decode cX9_read 46 = .ok (.bipush 48, 2) := by decide +kernel
theorem dX9_read_48 : decode cX9_read 48 = .ok (.iload_n 1, 1) := by decide +kernel
theorem dX9_read_49 : decode cX9_read 49 = .ok (.imul, 1) := by decide +kernel
theorem dX9_read_50 : decode cX9_read 50 = .ok (.iconst 2, 1) := by decide +kernel
theorem dX9_read_51 : decode cX9_read 51 = .ok (.iload_n 2, 1) := by decide +kernel
theorem dX9_read_52 : decode cX9_read 52 = .ok (.imul, 1) := by decide +kernel
theorem dX9_read_53 : decode cX9_read 53 = .ok (.iadd, 1) := by decide +kernel
theorem dX9_read_54 : decode cX9_read 54 = .ok (.iaload, 1) := by decide +kernel
theorem dX9_read_55 : decode cX9_read 55 = .ok (.aload_n 0, 1) := by decide +kernel
theorem dX9_read_56 : decode cX9_read 56 = .ok (.getfield 47, 3) := by decide +kernel
theorem dX9_read_59 : decode cX9_read 59 = .ok (.bipush 48, 2) := by decide +kernel
theorem dX9_read_61 : decode cX9_read 61 = .ok (.iload_n 1, 1) := by decide +kernel
theorem dX9_read_62 : decode cX9_read 62 = .ok (.imul, 1) := by decide +kernel
theorem dX9_read_63 : decode cX9_read 63 = .ok (.iconst 2, 1) := by decide +kernel
theorem dX9_read_64 : decode cX9_read 64 = .ok (.iload_n 2, 1) := by decide +kernel
theorem dX9_read_65 : decode cX9_read 65 = .ok (.imul, 1) := by decide +kernel
theorem dX9_read_66 : decode cX9_read 66 = .ok (.iadd, 1) := by decide +kernel
theorem dX9_read_67 : decode cX9_read 67 = .ok (.iconst 1, 1) := by decide +kernel
theorem dX9_read_68 : decode cX9_read 68 = .ok (.iadd, 1) := by decide +kernel
theorem dX9_read_69 : decode cX9_read 69 = .ok (.iaload, 1) := by decide +kernel
theorem dX9_read_70 : decode cX9_read 70 = .ok (.invokevirtual 215, 3) := by decide +kernel
theorem dX9_read_73 : decode cX9_read 73 = .ok (.ifCond .le 9, 3) := by decide +kernel
theorem dX9_read_76 : decode cX9_read 76 = .ok (.iinc 2 1, 3) := by decide +kernel
theorem dX9_read_79 : decode cX9_read 79 = .ok (.goto (-52), 3) := by decide +kernel
theorem dX9_read_82 : decode cX9_read 82 = .ok (.iload_n 2, 1) := by decide +kernel
theorem dX9_read_83 : decode cX9_read 83 = .ok (.ireturn, 1) := by decide +kernel
theorem dX9_learnOf_0 : decode cX9_learnOf 0 = .ok (.aload_n 0, 1) := by decide +kernel
theorem dX9_learnOf_1 : decode cX9_learnOf 1 = .ok (.invokevirtual 81, 3) := by decide +kernel
theorem dX9_learnOf_4 : decode cX9_learnOf 4 = .ok (.aload_n 0, 1) := by decide +kernel
theorem dX9_learnOf_5 : decode cX9_learnOf 5 = .ok (.getfield 19, 3) := by decide +kernel
theorem dX9_learnOf_8 : decode cX9_learnOf 8 = .ok (.iload_n 1, 1) := by decide +kernel
theorem dX9_learnOf_9 : decode cX9_learnOf 9 = .ok (.iaload, 1) := by decide +kernel
theorem dX9_learnOf_10 : decode cX9_learnOf 10 = .ok (.istore_n 3, 1) := by decide +kernel
theorem dX9_learnOf_11 : decode cX9_learnOf 11 = .ok (.iconst 0, 1) := by decide +kernel
theorem dX9_learnOf_12 : decode cX9_learnOf 12 = .ok (.istore 4, 2) := by decide +kernel
theorem dX9_learnOf_14 : decode cX9_learnOf 14 = .ok (.iconst (-1), 1) := by decide +kernel
theorem dX9_learnOf_15 : decode cX9_learnOf 15 = .ok (.istore 5, 2) := by decide +kernel
theorem dX9_learnOf_17 : decode cX9_learnOf 17 = .ok (.iconst 2, 1) := by decide +kernel
theorem dX9_learnOf_18 : decode cX9_learnOf 18 = .ok (.istore 6, 2) := by decide +kernel
theorem dX9_learnOf_20 : decode cX9_learnOf 20 = .ok (.iload 6, 2) := by decide +kernel
theorem dX9_learnOf_22 : decode cX9_learnOf 22 = .ok (.bipush 100, 2) := by decide +kernel
theorem dX9_learnOf_24 : decode cX9_learnOf 24 = .ok (.if_icmp .ge 106, 3) := by decide +kernel
theorem dX9_learnOf_27 : decode cX9_learnOf 27 = .ok (.aload_n 0, 1) := by decide +kernel
theorem dX9_learnOf_28 : decode cX9_learnOf 28 = .ok (.getfield 19, 3) := by decide +kernel
theorem dX9_learnOf_31 : decode cX9_learnOf 31 = .ok (.iload_n 1, 1) := by decide +kernel
theorem dX9_learnOf_32 : decode cX9_learnOf 32 = .ok (.iload 6, 2) := by decide +kernel
theorem dX9_learnOf_34 : decode cX9_learnOf 34 = .ok (.iastore, 1) := by decide +kernel
theorem dX9_learnOf_35 : decode cX9_learnOf 35 = .ok (.iconst 1, 1) := by decide +kernel
theorem dX9_learnOf_36 : decode cX9_learnOf 36 = .ok (.istore 7, 2) := by decide +kernel
theorem dX9_learnOf_38 : decode cX9_learnOf 38 = .ok (.iconst 0, 1) := by decide +kernel
theorem dX9_learnOf_39 : decode cX9_learnOf 39 = .ok (.istore 8, 2) := by decide +kernel
theorem dX9_learnOf_41 : decode cX9_learnOf 41 = .ok (.iload 8, 2) := by decide +kernel
theorem dX9_learnOf_43 : decode cX9_learnOf 43 = .ok (.aload_n 0, 1) := by decide +kernel
theorem dX9_learnOf_44 : decode cX9_learnOf 44 = .ok (.getfield 206, 3) := by decide +kernel
theorem dX9_learnOf_47 : decode cX9_learnOf 47 = .ok (.if_icmp .ge 42, 3) := by decide +kernel
theorem dX9_learnOf_50 : decode cX9_learnOf 50 = .ok (.iload 7, 2) := by decide +kernel
theorem dX9_learnOf_52 : decode cX9_learnOf 52 = .ok (.ifCond .eq 28, 3) := by decide +kernel
theorem dX9_learnOf_55 : decode cX9_learnOf 55 = .ok (.aload_n 0, 1) := by decide +kernel
theorem dX9_learnOf_56 : decode cX9_learnOf 56 = .ok (.aload_n 0, 1) := by decide +kernel
theorem dX9_learnOf_57 : decode cX9_learnOf 57 = .ok (.getfield 31, 3) := by decide +kernel
theorem dX9_learnOf_60 : decode cX9_learnOf 60 = .ok (.iload 8, 2) := by decide +kernel
theorem dX9_learnOf_62 : decode cX9_learnOf 62 = .ok (.iaload, 1) := by decide +kernel
theorem dX9_learnOf_63 : decode cX9_learnOf 63 = .ok (.invokevirtual 111, 3) := by decide +kernel
theorem dX9_learnOf_66 : decode cX9_learnOf 66 = .ok (.aload_n 0, 1) := by decide +kernel
theorem dX9_learnOf_67 : decode cX9_learnOf 67 = .ok (.getfield 34, 3) := by decide +kernel
theorem dX9_learnOf_70 : decode cX9_learnOf 70 = .ok (.iload 8, 2) := by decide +kernel
theorem dX9_learnOf_72 : decode cX9_learnOf 72 = .ok (.iaload, 1) := by decide +kernel
theorem dX9_learnOf_73 : decode cX9_learnOf 73 = .ok (.if_icmp .ne 7, 3) := by decide +kernel
theorem dX9_learnOf_76 : decode cX9_learnOf 76 = .ok (.iconst 1, 1) := by decide +kernel
theorem dX9_learnOf_77 : decode cX9_learnOf 77 = .ok (.goto 4, 3) := by decide +kernel
theorem dX9_learnOf_80 : decode cX9_learnOf 80 = .ok (.iconst 0, 1) := by decide +kernel
theorem dX9_learnOf_81 : decode cX9_learnOf 81 = .ok (.istore 7, 2) := by decide +kernel
theorem dX9_learnOf_83 : decode cX9_learnOf 83 = .ok (.iinc 8 1, 3) := by decide +kernel
theorem dX9_learnOf_86 : decode cX9_learnOf 86 = .ok (.goto (-45), 3) := by decide +kernel
theorem dX9_learnOf_89 : decode cX9_learnOf 89 = .ok (.iload 7, 2) := by decide +kernel
theorem dX9_learnOf_91 : decode cX9_learnOf 91 = .ok (.ifCond .eq 14, 3) := by decide +kernel
theorem dX9_learnOf_94 : decode cX9_learnOf 94 = .ok (.iload 4, 2) := by decide +kernel
theorem dX9_learnOf_96 : decode cX9_learnOf 96 = .ok (.iload_n 2, 1) := by decide +kernel
theorem dX9_learnOf_97 : decode cX9_learnOf 97 = .ok (.if_icmp .ne 8, 3) := by decide +kernel
theorem dX9_learnOf_100 : decode cX9_learnOf 100 = .ok (.iload 6, 2) := by decide +kernel
theorem dX9_learnOf_102 : decode cX9_learnOf 102 = .ok (.goto 5, 3) := by decide +kernel
theorem dX9_learnOf_105 : decode cX9_learnOf 105 = .ok (.iload 5, 2) := by decide +kernel
theorem dX9_learnOf_107 : decode cX9_learnOf 107 = .ok (.istore 5, 2) := by decide +kernel
theorem dX9_learnOf_109 : decode cX9_learnOf 109 = .ok (.iload 4, 2) := by decide +kernel
theorem dX9_learnOf_111 : decode cX9_learnOf 111 = .ok (.iload 7, 2) := by decide +kernel
theorem dX9_learnOf_113 : decode cX9_learnOf 113 = .ok (.ifCond .eq 7, 3) := by decide +kernel
theorem dX9_learnOf_116 : decode cX9_learnOf 116 = .ok (.iconst 1, 1) := by decide +kernel
theorem dX9_learnOf_117 : decode cX9_learnOf 117 = .ok (.goto 4, 3) := by decide +kernel
theorem dX9_learnOf_120 : decode cX9_learnOf 120 = .ok (.iconst 0, 1) := by decide +kernel
theorem dX9_learnOf_121 : decode cX9_learnOf 121 = .ok (.iadd, 1) := by decide +kernel
theorem dX9_learnOf_122 : decode cX9_learnOf 122 = .ok (.istore 4, 2) := by decide +kernel
theorem dX9_learnOf_124 : decode cX9_learnOf 124 = .ok (.iinc 6 1, 3) := by decide +kernel
theorem dX9_learnOf_127 : decode cX9_learnOf 127 = .ok (.goto (-107), 3) := by decide +kernel
theorem dX9_learnOf_130 : decode cX9_learnOf 130 = .ok (.aload_n 0, 1) := by decide +kernel
theorem dX9_learnOf_131 : decode cX9_learnOf 131 = .ok (.getfield 19, 3) := by decide +kernel
theorem dX9_learnOf_134 : decode cX9_learnOf 134 = .ok (.iload_n 1, 1) := by decide +kernel
theorem dX9_learnOf_135 : decode cX9_learnOf 135 = .ok (.iload_n 3, 1) := by decide +kernel
theorem dX9_learnOf_136 : decode cX9_learnOf 136 = .ok (.iastore, 1) := by decide +kernel
theorem dX9_learnOf_137 : decode cX9_learnOf 137 = .ok (.iload_n 2, 1) := by decide +kernel
theorem dX9_learnOf_138 : decode cX9_learnOf 138 = .ok (.iconst (-1), 1) := by decide +kernel
theorem dX9_learnOf_139 : decode cX9_learnOf 139 = .ok (.if_icmp .ne 8, 3) := by decide +kernel
theorem dX9_learnOf_142 : decode cX9_learnOf 142 = .ok (.iload 4, 2) := by decide +kernel
theorem dX9_learnOf_144 : decode cX9_learnOf 144 = .ok (.goto 5, 3) := by decide +kernel
theorem dX9_learnOf_147 : decode cX9_learnOf 147 = .ok (.iload 5, 2) := by decide +kernel
theorem dX9_learnOf_149 : decode cX9_learnOf 149 = .ok (.ireturn, 1) := by decide +kernel
theorem dX9_learn_0 : decode cX9_learn 0 = .ok (.aload_n 0, 1) := by decide +kernel
theorem dX9_learn_1 : decode cX9_learn 1 = .ok (.iload_n 1, 1) := by decide +kernel
theorem dX9_learn_2 : decode cX9_learn 2 = .ok (.invokevirtual 84, 3) := by decide +kernel
theorem dX9_learn_5 : decode cX9_learn 5 = .ok (.ifCond .eq 22, 3) := by decide +kernel
theorem dX9_learn_8 : decode cX9_learn 8 = .ok (.iload_n 2, 1) := by decide +kernel
theorem dX9_learn_9 : decode cX9_learn 9 = .ok (.iconst (-1), 1) := by decide +kernel
theorem dX9_learn_10 : decode cX9_learn 10 = .ok (.bipush 97, 2) := by decide +kernel
theorem dX9_learn_12 : decode cX9_learn 12 = .ok (.invokestatic 55, 3) := by decide +kernel
theorem dX9_learn_15 : decode cX9_learn 15 = .ok (.ifCond .eq 12, 3) := by decide +kernel
theorem dX9_learn_18 : decode cX9_learn 18 = .ok (.aload_n 0, 1) := by decide +kernel
theorem dX9_learn_19 : decode cX9_learn 19 = .ok (.iload_n 1, 1) := by decide +kernel
theorem dX9_learn_20 : decode cX9_learn 20 = .ok (.iload_n 2, 1) := by decide +kernel
theorem dX9_learn_21 : decode cX9_learn 21 = .ok (.invokevirtual 218, 3) := by decide +kernel
theorem dX9_learn_24 : decode cX9_learn 24 = .ok (.goto 5, 3) := by decide +kernel
theorem dX9_learn_27 : decode cX9_learn 27 = .ok (.bipush (-2), 2) := by decide +kernel
theorem dX9_learn_29 : decode cX9_learn 29 = .ok (.ireturn, 1) := by decide +kernel
theorem dX9_lot_0 : decode cX9_lot 0 = .ok (.aload_n 0, 1) := by decide +kernel
theorem dX9_lot_1 : decode cX9_lot 1 = .ok (.ldc 221, 2) := by decide +kernel
theorem dX9_lot_3 : decode cX9_lot 3 = .ok (.aload_n 0, 1) := by decide +kernel
theorem dX9_lot_4 : decode cX9_lot 4 = .ok (.getfield 222, 3) := by decide +kernel
theorem dX9_lot_7 : decode cX9_lot 7 = .ok (.imul, 1) := by decide +kernel
theorem dX9_lot_8 : decode cX9_lot 8 = .ok (.sipush 12345, 3) := by decide +kernel
theorem dX9_lot_11 : decode cX9_lot 11 = .ok (.iadd, 1) := by decide +kernel
theorem dX9_lot_12 : decode cX9_lot 12 = .ok (.putfield 222, 3) := by decide +kernel
theorem dX9_lot_15 : decode cX9_lot 15 = .ok (.aload_n 0, 1) := by decide +kernel
theorem dX9_lot_16 : decode cX9_lot 16 = .ok (.getfield 222, 3) := by decide +kernel
theorem dX9_lot_19 : decode cX9_lot 19 = .ok (.bipush 16, 2) := by decide +kernel
theorem dX9_lot_21 : decode cX9_lot 21 = .ok (.iushr, 1) := by decide +kernel
theorem dX9_lot_22 : decode cX9_lot 22 = .ok (.iload_n 1, 1) := by decide +kernel
theorem dX9_lot_23 : decode cX9_lot 23 = .ok (.irem, 1) := by decide +kernel
theorem dX9_lot_24 : decode cX9_lot 24 = .ok (.ireturn, 1) := by decide +kernel
theorem dX9_nightOf_0 : decode cX9_nightOf 0 = .ok (.aload_n 0, 1) := by decide +kernel
theorem dX9_nightOf_1 : decode cX9_nightOf 1 = .ok (.invokevirtual 117, 3) := by decide +kernel
theorem dX9_nightOf_4 : decode cX9_nightOf 4 = .ok (.aload_n 0, 1) := by decide +kernel
theorem dX9_nightOf_5 : decode cX9_nightOf 5 = .ok (.iload_n 1, 1) := by decide +kernel
theorem dX9_nightOf_6 : decode cX9_nightOf 6 = .ok (.putfield 222, 3) := by decide +kernel
theorem dX9_nightOf_9 : decode cX9_nightOf 9 = .ok (.iconst 0, 1) := by decide +kernel
theorem dX9_nightOf_10 : decode cX9_nightOf 10 = .ok (.istore_n 3, 1) := by decide +kernel
theorem dX9_nightOf_11 : decode cX9_nightOf 11 = .ok (.iconst 0, 1) := by decide +kernel
theorem dX9_nightOf_12 : decode cX9_nightOf 12 = .ok (.istore 4, 2) := by decide +kernel
theorem dX9_nightOf_14 : decode cX9_nightOf 14 = .ok (.iconst 0, 1) := by decide +kernel
theorem dX9_nightOf_15 : decode cX9_nightOf 15 = .ok (.istore 5, 2) := by decide +kernel
theorem dX9_nightOf_17 : decode cX9_nightOf 17 = .ok (.iload 5, 2) := by decide +kernel
theorem dX9_nightOf_19 : decode cX9_nightOf 19 = .ok (.iload_n 2, 1) := by decide +kernel
theorem dX9_nightOf_20 : decode cX9_nightOf 20 = .ok (.if_icmp .ge 171, 3) := by decide +kernel
theorem dX9_nightOf_23 : decode cX9_nightOf 23 = .ok (.aload_n 0, 1) := by decide +kernel
theorem dX9_nightOf_24 : decode cX9_nightOf 24 = .ok (.iload_n 3, 1) := by decide +kernel
theorem dX9_nightOf_25 : decode cX9_nightOf 25 = .ok (.invokevirtual 132, 3) := by decide +kernel
theorem dX9_nightOf_28 : decode cX9_nightOf 28 = .ok (.istore 6, 2) := by decide +kernel
theorem dX9_nightOf_30 : decode cX9_nightOf 30 = .ok (.iload 6, 2) := by decide +kernel
theorem dX9_nightOf_32 : decode cX9_nightOf 32 = .ok (.iconst (-1), 1) := by decide +kernel
theorem dX9_nightOf_33 : decode cX9_nightOf 33 = .ok (.if_icmp .ne 9, 3) := by decide +kernel
theorem dX9_nightOf_36 : decode cX9_nightOf 36 = .ok (.sipush 400, 3) := by decide +kernel
theorem dX9_nightOf_39 : decode cX9_nightOf 39 = .ok (.goto 11, 3) := by decide +kernel
theorem dX9_nightOf_42 : decode cX9_nightOf 42 = .ok (.iload 6, 2) := by decide +kernel
theorem dX9_nightOf_44 : decode cX9_nightOf 44 = .ok (.aload_n 0, 1) := by decide +kernel
theorem dX9_nightOf_45 : decode cX9_nightOf 45 = .ok (.iconst 3, 1) := by decide +kernel
theorem dX9_nightOf_46 : decode cX9_nightOf 46 = .ok (.invokevirtual 225, 3) := by decide +kernel
theorem dX9_nightOf_49 : decode cX9_nightOf 49 = .ok (.iadd, 1) := by decide +kernel
theorem dX9_nightOf_50 : decode cX9_nightOf 50 = .ok (.istore 7, 2) := by decide +kernel
theorem dX9_nightOf_52 : decode cX9_nightOf 52 = .ok (.iload 7, 2) := by decide +kernel
theorem dX9_nightOf_54 : decode cX9_nightOf 54 = .ok (.sipush 399, 3) := by decide +kernel
theorem dX9_nightOf_57 : decode cX9_nightOf 57 = .ok (.if_icmp .le 6, 3) := by decide +kernel
theorem dX9_nightOf_60 : decode cX9_nightOf 60 = .ok (.iload 4, 2) := by decide +kernel
theorem dX9_nightOf_62 : decode cX9_nightOf 62 = .ok (.ireturn, 1) := by decide +kernel
theorem dX9_nightOf_63 : decode cX9_nightOf 63 = .ok (.aload_n 0, 1) := by decide +kernel
theorem dX9_nightOf_64 : decode cX9_nightOf 64 = .ok (.iload 7, 2) := by decide +kernel
theorem dX9_nightOf_66 : decode cX9_nightOf 66 = .ok (.invokevirtual 163, 3) := by decide +kernel
theorem dX9_nightOf_69 : decode cX9_nightOf 69 = .ok (.istore 8, 2) := by decide +kernel
theorem dX9_nightOf_71 : decode cX9_nightOf 71 = .ok (.aload_n 0, 1) := by decide +kernel
theorem dX9_nightOf_72 : decode cX9_nightOf 72 = .ok (.bipush 16, 2) := by decide +kernel
theorem dX9_nightOf_74 : decode cX9_nightOf 74 = .ok (.invokevirtual 225, 3) := by decide +kernel
theorem dX9_nightOf_77 : decode cX9_nightOf 77 = .ok (.aload_n 0, 1) := by decide +kernel
theorem dX9_nightOf_78 : decode cX9_nightOf 78 = .ok (.iload 7, 2) := by decide +kernel
theorem dX9_nightOf_80 : decode cX9_nightOf 80 = .ok (.invokevirtual 154, 3) := by decide +kernel
theorem dX9_nightOf_83 : decode cX9_nightOf 83 = .ok (.if_icmp .ge 7, 3) := by decide +kernel
theorem dX9_nightOf_86 : decode cX9_nightOf 86 = .ok (.iconst 1, 1) := by decide +kernel
theorem dX9_nightOf_87 : decode cX9_nightOf 87 = .ok (.goto 4, 3) := by decide +kernel
theorem dX9_nightOf_90 : decode cX9_nightOf 90 = .ok (.iconst 0, 1) := by decide +kernel
theorem dX9_nightOf_91 : decode cX9_nightOf 91 = .ok (.istore 9, 2) := by decide +kernel
theorem dX9_nightOf_93 : decode cX9_nightOf 93 = .ok (.iconst 0, 1) := by decide +kernel
theorem dX9_nightOf_94 : decode cX9_nightOf 94 = .ok (.istore 10, 2) := by decide +kernel
theorem dX9_nightOf_96 : decode cX9_nightOf 96 = .ok (.iload 10, 2) := by decide +kernel
theorem dX9_nightOf_98 : decode cX9_nightOf 98 = .ok (.aload_n 0, 1) := by decide +kernel
theorem dX9_nightOf_99 : decode cX9_nightOf 99 = .ok (.getfield 160, 3) := by decide +kernel
theorem dX9_nightOf_102 : decode cX9_nightOf 102 = .ok (.if_icmp .ge 37, 3) := by decide +kernel
theorem dX9_nightOf_105 : decode cX9_nightOf 105 = .ok (.iload 9, 2) := by decide +kernel
theorem dX9_nightOf_107 : decode cX9_nightOf 107 = .ok (.ifCond .ne 32, 3) := by decide +kernel
theorem dX9_nightOf_110 : decode cX9_nightOf 110 = .ok (.aload_n 0, 1) := by decide +kernel
theorem dX9_nightOf_111 : decode cX9_nightOf 111 = .ok (.bipush 16, 2) := by decide +kernel
theorem dX9_nightOf_113 : decode cX9_nightOf 113 = .ok (.invokevirtual 225, 3) := by decide +kernel
theorem dX9_nightOf_116 : decode cX9_nightOf 116 = .ok (.aload_n 0, 1) := by decide +kernel
theorem dX9_nightOf_117 : decode cX9_nightOf 117 = .ok (.getfield 25, 3) := by decide +kernel
theorem dX9_nightOf_120 : decode cX9_nightOf 120 = .ok (.bipush 8, 2) := by decide +kernel
theorem dX9_nightOf_122 : decode cX9_nightOf 122 = .ok (.iaload, 1) := by decide +kernel
theorem dX9_nightOf_123 : decode cX9_nightOf 123 = .ok (.if_icmp .ge 7, 3) := by decide +kernel
theorem dX9_nightOf_126 : decode cX9_nightOf 126 = .ok (.iconst 1, 1) := by decide +kernel
theorem dX9_nightOf_127 : decode cX9_nightOf 127 = .ok (.goto 4, 3) := by decide +kernel
theorem dX9_nightOf_130 : decode cX9_nightOf 130 = .ok (.iconst 0, 1) := by decide +kernel
theorem dX9_nightOf_131 : decode cX9_nightOf 131 = .ok (.istore 9, 2) := by decide +kernel
theorem dX9_nightOf_133 : decode cX9_nightOf 133 = .ok (.iinc 10 1, 3) := by decide +kernel
theorem dX9_nightOf_136 : decode cX9_nightOf 136 = .ok (.goto (-40), 3) := by decide +kernel
theorem dX9_nightOf_139 : decode cX9_nightOf 139 = .ok (.iload 9, 2) := by decide +kernel
theorem dX9_nightOf_141 : decode cX9_nightOf 141 = .ok (.ifCond .ne 9, 3) := by decide +kernel
theorem dX9_nightOf_144 : decode cX9_nightOf 144 = .ok (.iload 8, 2) := by decide +kernel
theorem dX9_nightOf_146 : decode cX9_nightOf 146 = .ok (.iconst (-1), 1) := by decide +kernel
theorem dX9_nightOf_147 : decode cX9_nightOf 147 = .ok (.if_icmp .ne 7, 3) := by decide +kernel
theorem dX9_nightOf_150 : decode cX9_nightOf 150 = .ok (.iconst 1, 1) := by decide +kernel
theorem dX9_nightOf_151 : decode cX9_nightOf 151 = .ok (.goto 4, 3) := by decide +kernel
theorem dX9_nightOf_154 : decode cX9_nightOf 154 = .ok (.iconst 0, 1) := by decide +kernel
theorem dX9_nightOf_155 : decode cX9_nightOf 155 = .ok (.istore 9, 2) := by decide +kernel
theorem dX9_nightOf_157 : decode cX9_nightOf 157 = .ok (.iload 9, 2) := by decide +kernel
theorem dX9_nightOf_159 : decode cX9_nightOf 159 = .ok (.ifCond .eq 8, 3) := by decide +kernel
theorem dX9_nightOf_162 : decode cX9_nightOf 162 = .ok (.iload 7, 2) := by decide +kernel
theorem dX9_nightOf_164 : decode cX9_nightOf 164 = .ok (.goto 5, 3) := by decide +kernel
theorem dX9_nightOf_167 : decode cX9_nightOf 167 = .ok (.iload 8, 2) := by decide +kernel
theorem dX9_nightOf_169 : decode cX9_nightOf 169 = .ok (.istore_n 3, 1) := by decide +kernel
theorem dX9_nightOf_170 : decode cX9_nightOf 170 = .ok (.iload 4, 2) := by decide +kernel
theorem dX9_nightOf_172 : decode cX9_nightOf 172 = .ok (.iload 9, 2) := by decide +kernel
theorem dX9_nightOf_174 : decode cX9_nightOf 174 = .ok (.ifCond .eq 7, 3) := by decide +kernel
theorem dX9_nightOf_177 : decode cX9_nightOf 177 = .ok (.iconst 0, 1) := by decide +kernel
theorem dX9_nightOf_178 : decode cX9_nightOf 178 = .ok (.goto 4, 3) := by decide +kernel
theorem dX9_nightOf_181 : decode cX9_nightOf 181 = .ok (.iconst 1, 1) := by decide +kernel
theorem dX9_nightOf_182 : decode cX9_nightOf 182 = .ok (.iadd, 1) := by decide +kernel
theorem dX9_nightOf_183 : decode cX9_nightOf 183 = .ok (.istore 4, 2) := by decide +kernel
theorem dX9_nightOf_185 : decode cX9_nightOf 185 = .ok (.iinc 5 1, 3) := by decide +kernel
theorem dX9_nightOf_188 : decode cX9_nightOf 188 = .ok (.goto (-171), 3) := by decide +kernel
theorem dX9_nightOf_191 : decode cX9_nightOf 191 = .ok (.iload 4, 2) := by decide +kernel
theorem dX9_nightOf_193 : decode cX9_nightOf 193 = .ok (.ireturn, 1) := by decide +kernel
theorem dX9_night_0 : decode cX9_night 0 = .ok (.iload_n 2, 1) := by decide +kernel
theorem dX9_night_1 : decode cX9_night 1 = .ok (.iconst 1, 1) := by decide +kernel
theorem dX9_night_2 : decode cX9_night 2 = .ok (.bipush 20, 2) := by decide +kernel
theorem dX9_night_4 : decode cX9_night 4 = .ok (.invokestatic 55, 3) := by decide +kernel
theorem dX9_night_7 : decode cX9_night 7 = .ok (.ifCond .eq 12, 3) := by decide +kernel
theorem dX9_night_10 : decode cX9_night 10 = .ok (.aload_n 0, 1) := by decide +kernel
theorem dX9_night_11 : decode cX9_night 11 = .ok (.iload_n 1, 1) := by decide +kernel
theorem dX9_night_12 : decode cX9_night 12 = .ok (.iload_n 2, 1) := by decide +kernel
theorem dX9_night_13 : decode cX9_night 13 = .ok (.invokevirtual 228, 3) := by decide +kernel
theorem dX9_night_16 : decode cX9_night 16 = .ok (.goto 5, 3) := by decide +kernel
theorem dX9_night_19 : decode cX9_night 19 = .ok (.bipush (-2), 2) := by decide +kernel
theorem dX9_night_21 : decode cX9_night 21 = .ok (.ireturn, 1) := by decide +kernel
theorem dX9_meets_0 : decode cX9_meets 0 = .ok (.aload_n 0, 1) := by decide +kernel
theorem dX9_meets_1 : decode cX9_meets 1 = .ok (.iload_n 1, 1) := by decide +kernel
theorem dX9_meets_2 : decode cX9_meets 2 = .ok (.putfield 231, 3) := by decide +kernel
theorem dX9_meets_5 : decode cX9_meets 5 = .ok (.bipush (-10), 2) := by decide +kernel
theorem dX9_meets_7 : decode cX9_meets 7 = .ok (.iload_n 1, 1) := by decide +kernel
theorem dX9_meets_8 : decode cX9_meets 8 = .ok (.isub, 1) := by decide +kernel
theorem dX9_meets_9 : decode cX9_meets 9 = .ok (.ireturn, 1) := by decide +kernel
theorem dX9_isSheet_0 : decode cX9_isSheet 0 = .ok (.iload_n 0, 1) := by decide +kernel
theorem dX9_isSheet_1 : decode cX9_isSheet 1 = .ok (.iconst 0, 1) := by decide +kernel
theorem dX9_isSheet_2 : decode cX9_isSheet 2 = .ok (.iconst 3, 1) := by decide +kernel
theorem dX9_isSheet_3 : decode cX9_isSheet 3 = .ok (.invokestatic 55, 3) := by decide +kernel
theorem dX9_isSheet_6 : decode cX9_isSheet 6 = .ok (.ireturn, 1) := by decide +kernel
theorem dX9_sheet_0 : decode cX9_sheet 0 = .ok (.iload_n 1, 1) := by decide +kernel
theorem dX9_sheet_1 : decode cX9_sheet 1 = .ok (.invokestatic 209, 3) := by decide +kernel
theorem dX9_sheet_4 : decode cX9_sheet 4 = .ok (.ifCond .eq 18, 3) := by decide +kernel
theorem dX9_sheet_7 : decode cX9_sheet 7 = .ok (.iload_n 2, 1) := by decide +kernel
theorem dX9_sheet_8 : decode cX9_sheet 8 = .ok (.iconst 0, 1) := by decide +kernel
theorem dX9_sheet_9 : decode cX9_sheet 9 = .ok (.iconst 2, 1) := by decide +kernel
theorem dX9_sheet_10 : decode cX9_sheet 10 = .ok (.invokestatic 55, 3) := by decide +kernel
theorem dX9_sheet_13 : decode cX9_sheet 13 = .ok (.ifCond .eq 9, 3) := by decide +kernel
theorem dX9_sheet_16 : decode cX9_sheet 16 = .ok (.iload_n 3, 1) := by decide +kernel
theorem dX9_sheet_17 : decode cX9_sheet 17 = .ok (.bipush 48, 2) := by decide +kernel
theorem dX9_sheet_19 : decode cX9_sheet 19 = .ok (.if_icmp .le 6, 3) := by decide +kernel
theorem dX9_sheet_22 : decode cX9_sheet 22 = .ok (.bipush (-2), 2) := by decide +kernel
theorem dX9_sheet_24 : decode cX9_sheet 24 = .ok (.ireturn, 1) := by decide +kernel
theorem dX9_sheet_25 : decode cX9_sheet 25 = .ok (.iload_n 3, 1) := by decide +kernel
theorem dX9_sheet_26 : decode cX9_sheet 26 = .ok (.ifCond .ge 9, 3) := by decide +kernel
theorem dX9_sheet_29 : decode cX9_sheet 29 = .ok (.aload_n 0, 1) := by decide +kernel
theorem dX9_sheet_30 : decode cX9_sheet 30 = .ok (.iconst 5, 1) := by decide +kernel
theorem dX9_sheet_31 : decode cX9_sheet 31 = .ok (.invokevirtual 212, 3) := by decide +kernel
theorem dX9_sheet_34 : decode cX9_sheet 34 = .ok (.ireturn, 1) := by decide +kernel
theorem dX9_sheet_35 : decode cX9_sheet 35 = .ok (.aload_n 0, 1) := by decide +kernel
theorem dX9_sheet_36 : decode cX9_sheet 36 = .ok (.getfield 37, 3) := by decide +kernel
theorem dX9_sheet_39 : decode cX9_sheet 39 = .ok (.iload_n 1, 1) := by decide +kernel
theorem dX9_sheet_40 : decode cX9_sheet 40 = .ok (.iconst 1, 1) := by decide +kernel
theorem dX9_sheet_41 : decode cX9_sheet 41 = .ok (.bastore, 1) := by decide +kernel
theorem dX9_sheet_42 : decode cX9_sheet 42 = .ok (.aload_n 0, 1) := by decide +kernel
theorem dX9_sheet_43 : decode cX9_sheet 43 = .ok (.getfield 41, 3) := by decide +kernel
theorem dX9_sheet_46 : decode cX9_sheet 46 = .ok (.iload_n 1, 1) := by decide +kernel
theorem dX9_sheet_47 : decode cX9_sheet 47 = .ok (.iload_n 2, 1) := by decide +kernel
theorem dX9_sheet_48 : decode cX9_sheet 48 = .ok (.iastore, 1) := by decide +kernel
theorem dX9_sheet_49 : decode cX9_sheet 49 = .ok (.aload_n 0, 1) := by decide +kernel
theorem dX9_sheet_50 : decode cX9_sheet 50 = .ok (.getfield 44, 3) := by decide +kernel
theorem dX9_sheet_53 : decode cX9_sheet 53 = .ok (.iload_n 1, 1) := by decide +kernel
theorem dX9_sheet_54 : decode cX9_sheet 54 = .ok (.iload_n 3, 1) := by decide +kernel
theorem dX9_sheet_55 : decode cX9_sheet 55 = .ok (.iastore, 1) := by decide +kernel
theorem dX9_sheet_56 : decode cX9_sheet 56 = .ok (.iconst 0, 1) := by decide +kernel
theorem dX9_sheet_57 : decode cX9_sheet 57 = .ok (.istore 4, 2) := by decide +kernel
theorem dX9_sheet_59 : decode cX9_sheet 59 = .ok (.iload 4, 2) := by decide +kernel
theorem dX9_sheet_61 : decode cX9_sheet 61 = .ok (.bipush 48, 2) := by decide +kernel
theorem dX9_sheet_63 : decode cX9_sheet 63 = .ok (.if_icmp .ge 22, 3) := by decide +kernel
theorem dX9_sheet_66 : decode cX9_sheet 66 = .ok (.aload_n 0, 1) := by decide +kernel
theorem dX9_sheet_67 : decode cX9_sheet 67 = .ok (.getfield 47, 3) := by decide +kernel
theorem dX9_sheet_70 : decode cX9_sheet 70 = .ok (.bipush 48, 2) := by decide +kernel
theorem dX9_sheet_72 : decode cX9_sheet 72 = .ok (.iload_n 1, 1) := by decide +kernel
theorem dX9_sheet_73 : decode cX9_sheet 73 = .ok (.imul, 1) := by decide +kernel
theorem dX9_sheet_74 : decode cX9_sheet 74 = .ok (.iload 4, 2) := by decide +kernel
theorem dX9_sheet_76 : decode cX9_sheet 76 = .ok (.iadd, 1) := by decide +kernel
theorem dX9_sheet_77 : decode cX9_sheet 77 = .ok (.iconst 0, 1) := by decide +kernel
theorem dX9_sheet_78 : decode cX9_sheet 78 = .ok (.iastore, 1) := by decide +kernel
theorem dX9_sheet_79 : decode cX9_sheet 79 = .ok (.iinc 4 1, 3) := by decide +kernel
theorem dX9_sheet_82 : decode cX9_sheet 82 = .ok (.goto (-23), 3) := by decide +kernel
theorem dX9_sheet_85 : decode cX9_sheet 85 = .ok (.iload_n 3, 1) := by decide +kernel
theorem dX9_sheet_86 : decode cX9_sheet 86 = .ok (.ireturn, 1) := by decide +kernel
theorem dX9_lose_0 : decode cX9_lose 0 = .ok (.iload_n 1, 1) := by decide +kernel
theorem dX9_lose_1 : decode cX9_lose 1 = .ok (.invokestatic 209, 3) := by decide +kernel
theorem dX9_lose_4 : decode cX9_lose 4 = .ok (.ifCond .ne 6, 3) := by decide +kernel
theorem dX9_lose_7 : decode cX9_lose 7 = .ok (.bipush (-2), 2) := by decide +kernel
theorem dX9_lose_9 : decode cX9_lose 9 = .ok (.ireturn, 1) := by decide +kernel
theorem dX9_lose_10 : decode cX9_lose 10 = .ok (.aload_n 0, 1) := by decide +kernel
theorem dX9_lose_11 : decode cX9_lose 11 = .ok (.getfield 37, 3) := by decide +kernel
theorem dX9_lose_14 : decode cX9_lose 14 = .ok (.iload_n 1, 1) := by decide +kernel
theorem dX9_lose_15 : decode cX9_lose 15 = .ok (.baload, 1) := by decide +kernel
theorem dX9_lose_16 : decode cX9_lose 16 = .ok (.ifCond .ne 9, 3) := by decide +kernel
theorem dX9_lose_19 : decode cX9_lose 19 = .ok (.aload_n 0, 1) := by decide +kernel
theorem dX9_lose_20 : decode cX9_lose 20 = .ok (.iconst 1, 1) := by decide +kernel
theorem dX9_lose_21 : decode cX9_lose 21 = .ok (.invokevirtual 212, 3) := by decide +kernel
theorem dX9_lose_24 : decode cX9_lose 24 = .ok (.ireturn, 1) := by decide +kernel
theorem dX9_lose_25 : decode cX9_lose 25 = .ok (.aload_n 0, 1) := by decide +kernel
theorem dX9_lose_26 : decode cX9_lose 26 = .ok (.getfield 37, 3) := by decide +kernel
theorem dX9_lose_29 : decode cX9_lose 29 = .ok (.iload_n 1, 1) := by decide +kernel
theorem dX9_lose_30 : decode cX9_lose 30 = .ok (.iconst 0, 1) := by decide +kernel
theorem dX9_lose_31 : decode cX9_lose 31 = .ok (.bastore, 1) := by decide +kernel
theorem dX9_lose_32 : decode cX9_lose 32 = .ok (.aload_n 0, 1) := by decide +kernel
theorem dX9_lose_33 : decode cX9_lose 33 = .ok (.getfield 44, 3) := by decide +kernel
theorem dX9_lose_36 : decode cX9_lose 36 = .ok (.iload_n 1, 1) := by decide +kernel
theorem dX9_lose_37 : decode cX9_lose 37 = .ok (.iaload, 1) := by decide +kernel
theorem dX9_lose_38 : decode cX9_lose 38 = .ok (.ireturn, 1) := by decide +kernel
theorem dX9_lacks_0 : decode cX9_lacks 0 = .ok (.aload_n 0, 1) := by decide +kernel
theorem dX9_lacks_1 : decode cX9_lacks 1 = .ok (.getfield 37, 3) := by decide +kernel
theorem dX9_lacks_4 : decode cX9_lacks 4 = .ok (.iload_n 1, 1) := by decide +kernel
theorem dX9_lacks_5 : decode cX9_lacks 5 = .ok (.baload, 1) := by decide +kernel
theorem dX9_lacks_6 : decode cX9_lacks 6 = .ok (.ifCond .ne 7, 3) := by decide +kernel
theorem dX9_lacks_9 : decode cX9_lacks 9 = .ok (.iconst 1, 1) := by decide +kernel
theorem dX9_lacks_10 : decode cX9_lacks 10 = .ok (.goto 38, 3) := by decide +kernel
theorem dX9_lacks_13 : decode cX9_lacks 13 = .ok (.aload_n 0, 1) := by decide +kernel
theorem dX9_lacks_14 : decode cX9_lacks 14 = .ok (.getfield 41, 3) := by decide +kernel
theorem dX9_lacks_17 : decode cX9_lacks 17 = .ok (.iload_n 1, 1) := by decide +kernel
theorem dX9_lacks_18 : decode cX9_lacks 18 = .ok (.iaload, 1) := by decide +kernel
theorem dX9_lacks_19 : decode cX9_lacks 19 = .ok (.iload_n 2, 1) := by decide +kernel
theorem dX9_lacks_20 : decode cX9_lacks 20 = .ok (.if_icmp .eq 7, 3) := by decide +kernel
theorem dX9_lacks_23 : decode cX9_lacks 23 = .ok (.iconst 3, 1) := by decide +kernel
theorem dX9_lacks_24 : decode cX9_lacks 24 = .ok (.goto 24, 3) := by decide +kernel
theorem dX9_lacks_27 : decode cX9_lacks 27 = .ok (.iload_n 3, 1) := by decide +kernel
theorem dX9_lacks_28 : decode cX9_lacks 28 = .ok (.iconst 0, 1) := by decide +kernel
theorem dX9_lacks_29 : decode cX9_lacks 29 = .ok (.aload_n 0, 1) := by decide +kernel
theorem dX9_lacks_30 : decode cX9_lacks 30 = .ok (.getfield 44, 3) := by decide +kernel
theorem dX9_lacks_33 : decode cX9_lacks 33 = .ok (.iload_n 1, 1) := by decide +kernel
theorem dX9_lacks_34 : decode cX9_lacks 34 = .ok (.iaload, 1) := by decide +kernel
theorem dX9_lacks_35 : decode cX9_lacks 35 = .ok (.iconst 1, 1) := by decide +kernel
theorem dX9_lacks_36 : decode cX9_lacks 36 = .ok (.isub, 1) := by decide +kernel
theorem dX9_lacks_37 : decode cX9_lacks 37 = .ok (.invokestatic 55, 3) := by decide +kernel
theorem dX9_lacks_40 : decode cX9_lacks 40 = .ok (.ifCond .eq 7, 3) := by decide +kernel
theorem dX9_lacks_43 : decode cX9_lacks 43 = .ok (.iconst 0, 1) := by decide +kernel
theorem dX9_lacks_44 : decode cX9_lacks 44 = .ok (.goto 4, 3) := by decide +kernel
theorem dX9_lacks_47 : decode cX9_lacks 47 = .ok (.iconst 2, 1) := by decide +kernel
theorem dX9_lacks_48 : decode cX9_lacks 48 = .ok (.ireturn, 1) := by decide +kernel
theorem dX9_keep_0 : decode cX9_keep 0 = .ok (.aload_n 0, 1) := by decide +kernel
theorem dX9_keep_1 : decode cX9_keep 1 = .ok (.getfield 47, 3) := by decide +kernel
theorem dX9_keep_4 : decode cX9_keep 4 = .ok (.bipush 48, 2) := by decide +kernel
theorem dX9_keep_6 : decode cX9_keep 6 = .ok (.iload_n 1, 1) := by decide +kernel
theorem dX9_keep_7 : decode cX9_keep 7 = .ok (.imul, 1) := by decide +kernel
theorem dX9_keep_8 : decode cX9_keep 8 = .ok (.iload_n 2, 1) := by decide +kernel
theorem dX9_keep_9 : decode cX9_keep 9 = .ok (.iadd, 1) := by decide +kernel
theorem dX9_keep_10 : decode cX9_keep 10 = .ok (.aload_n 0, 1) := by decide +kernel
theorem dX9_keep_11 : decode cX9_keep 11 = .ok (.getfield 41, 3) := by decide +kernel
theorem dX9_keep_14 : decode cX9_keep 14 = .ok (.iload_n 1, 1) := by decide +kernel
theorem dX9_keep_15 : decode cX9_keep 15 = .ok (.iaload, 1) := by decide +kernel
theorem dX9_keep_16 : decode cX9_keep 16 = .ok (.ifCond .ne 8, 3) := by decide +kernel
theorem dX9_keep_19 : decode cX9_keep 19 = .ok (.iload_n 3, 1) := by decide +kernel
theorem dX9_keep_20 : decode cX9_keep 20 = .ok (.i2b, 1) := by decide +kernel
theorem dX9_keep_21 : decode cX9_keep 21 = .ok (.goto 19, 3) := by decide +kernel
theorem dX9_keep_24 : decode cX9_keep 24 = .ok (.aload_n 0, 1) := by decide +kernel
theorem dX9_keep_25 : decode cX9_keep 25 = .ok (.getfield 41, 3) := by decide +kernel
theorem dX9_keep_28 : decode cX9_keep 28 = .ok (.iload_n 1, 1) := by decide +kernel
theorem dX9_keep_29 : decode cX9_keep 29 = .ok (.iaload, 1) := by decide +kernel
theorem dX9_keep_30 : decode cX9_keep 30 = .ok (.iconst 1, 1) := by decide +kernel
theorem dX9_keep_31 : decode cX9_keep 31 = .ok (.if_icmp .ne 8, 3) := by decide +kernel
theorem dX9_keep_34 : decode cX9_keep 34 = .ok (.iload_n 3, 1) := by decide +kernel
theorem dX9_keep_35 : decode cX9_keep 35 = .ok (.i2s, 1) := by decide +kernel
theorem dX9_keep_36 : decode cX9_keep 36 = .ok (.goto 4, 3) := by decide +kernel
theorem dX9_keep_39 : decode cX9_keep 39 = .ok (.iload_n 3, 1) := by decide +kernel
theorem dX9_keep_40 : decode cX9_keep 40 = .ok (.iastore, 1) := by decide +kernel
theorem dX9_keep_41 : decode cX9_keep 41 = .ok (.return_, 1) := by decide +kernel
theorem dX9_put_0 : decode cX9_put 0 = .ok (.iload_n 1, 1) := by decide +kernel
theorem dX9_put_1 : decode cX9_put 1 = .ok (.invokestatic 209, 3) := by decide +kernel
theorem dX9_put_4 : decode cX9_put 4 = .ok (.ifCond .eq 12, 3) := by decide +kernel
theorem dX9_put_7 : decode cX9_put 7 = .ok (.iload_n 2, 1) := by decide +kernel
theorem dX9_put_8 : decode cX9_put 8 = .ok (.iconst 0, 1) := by decide +kernel
theorem dX9_put_9 : decode cX9_put 9 = .ok (.iconst 2, 1) := by decide +kernel
theorem dX9_put_10 : decode cX9_put 10 = .ok (.invokestatic 55, 3) := by decide +kernel
theorem dX9_put_13 : decode cX9_put 13 = .ok (.ifCond .ne 6, 3) := by decide +kernel
theorem dX9_put_16 : decode cX9_put 16 = .ok (.bipush (-2), 2) := by decide +kernel
theorem dX9_put_18 : decode cX9_put 18 = .ok (.ireturn, 1) := by decide +kernel
theorem dX9_put_19 : decode cX9_put 19 = .ok (.aload_n 0, 1) := by decide +kernel
theorem dX9_put_20 : decode cX9_put 20 = .ok (.iload_n 1, 1) := by decide +kernel
theorem dX9_put_21 : decode cX9_put 21 = .ok (.iload_n 2, 1) := by decide +kernel
theorem dX9_put_22 : decode cX9_put 22 = .ok (.iload_n 3, 1) := by decide +kernel
theorem dX9_put_23 : decode cX9_put 23 = .ok (.invokevirtual 234, 3) := by decide +kernel
theorem dX9_put_26 : decode cX9_put 26 = .ok (.istore 5, 2) := by decide +kernel
theorem dX9_put_28 : decode cX9_put 28 = .ok (.iload 5, 2) := by decide +kernel
theorem dX9_put_30 : decode cX9_put 30 = .ok (.ifCond .le 10, 3) := by decide +kernel
theorem dX9_put_33 : decode cX9_put 33 = .ok (.aload_n 0, 1) := by decide +kernel
theorem dX9_put_34 : decode cX9_put 34 = .ok (.iload 5, 2) := by decide +kernel
theorem dX9_put_36 : decode cX9_put 36 = .ok (.invokevirtual 212, 3) := by decide +kernel
theorem dX9_put_39 : decode cX9_put 39 = .ok (.ireturn, 1) := by decide +kernel
theorem dX9_put_40 : decode cX9_put 40 = .ok (.aload_n 0, 1) := by decide +kernel
theorem dX9_put_41 : decode cX9_put 41 = .ok (.iload_n 1, 1) := by decide +kernel
theorem dX9_put_42 : decode cX9_put 42 = .ok (.iload_n 3, 1) := by decide +kernel
theorem dX9_put_43 : decode cX9_put 43 = .ok (.iload 4, 2) := by decide +kernel
theorem dX9_put_45 : decode cX9_put 45 = .ok (.invokevirtual 237, 3) := by decide +kernel
theorem dX9_put_48 : decode cX9_put 48 = .ok (.iconst 1, 1) := by decide +kernel
theorem dX9_put_49 : decode cX9_put 49 = .ok (.ireturn, 1) := by decide +kernel
theorem dX9_get_0 : decode cX9_get 0 = .ok (.iload_n 1, 1) := by decide +kernel
theorem dX9_get_1 : decode cX9_get 1 = .ok (.invokestatic 209, 3) := by decide +kernel
theorem dX9_get_4 : decode cX9_get 4 = .ok (.ifCond .eq 12, 3) := by decide +kernel
theorem dX9_get_7 : decode cX9_get 7 = .ok (.iload_n 2, 1) := by decide +kernel
theorem dX9_get_8 : decode cX9_get 8 = .ok (.iconst 0, 1) := by decide +kernel
theorem dX9_get_9 : decode cX9_get 9 = .ok (.iconst 2, 1) := by decide +kernel
theorem dX9_get_10 : decode cX9_get 10 = .ok (.invokestatic 55, 3) := by decide +kernel
theorem dX9_get_13 : decode cX9_get 13 = .ok (.ifCond .ne 6, 3) := by decide +kernel
theorem dX9_get_16 : decode cX9_get 16 = .ok (.ldc 241, 2) := by decide +kernel
theorem dX9_get_18 : decode cX9_get 18 = .ok (.ireturn, 1) := by decide +kernel
theorem dX9_get_19 : decode cX9_get 19 = .ok (.aload_n 0, 1) := by decide +kernel
theorem dX9_get_20 : decode cX9_get 20 = .ok (.iload_n 1, 1) := by decide +kernel
theorem dX9_get_21 : decode cX9_get 21 = .ok (.iload_n 2, 1) := by decide +kernel
theorem dX9_get_22 : decode cX9_get 22 = .ok (.iload_n 3, 1) := by decide +kernel
theorem dX9_get_23 : decode cX9_get 23 = .ok (.invokevirtual 234, 3) := by decide +kernel
theorem dX9_get_26 : decode cX9_get 26 = .ok (.istore 4, 2) := by decide +kernel
theorem dX9_get_28 : decode cX9_get 28 = .ok (.iload 4, 2) := by decide +kernel
theorem dX9_get_30 : decode cX9_get 30 = .ok (.ifCond .le 12, 3) := by decide +kernel
theorem dX9_get_33 : decode cX9_get 33 = .ok (.aload_n 0, 1) := by decide +kernel
theorem dX9_get_34 : decode cX9_get 34 = .ok (.iload 4, 2) := by decide +kernel
theorem dX9_get_36 : decode cX9_get 36 = .ok (.putfield 231, 3) := by decide +kernel
theorem dX9_get_39 : decode cX9_get 39 = .ok (.ldc 241, 2) := by decide +kernel
theorem dX9_get_41 : decode cX9_get 41 = .ok (.ireturn, 1) := by decide +kernel
theorem dX9_get_42 : decode cX9_get 42 = .ok (.aload_n 0, 1) := by decide +kernel
theorem dX9_get_43 : decode cX9_get 43 = .ok (.getfield 47, 3) := by decide +kernel
theorem dX9_get_46 : decode cX9_get 46 = .ok (.bipush 48, 2) := by decide +kernel
theorem dX9_get_48 : decode cX9_get 48 = .ok (.iload_n 1, 1) := by decide +kernel
theorem dX9_get_49 : decode cX9_get 49 = .ok (.imul, 1) := by decide +kernel
theorem dX9_get_50 : decode cX9_get 50 = .ok (.iload_n 3, 1) := by decide +kernel
theorem dX9_get_51 : decode cX9_get 51 = .ok (.iadd, 1) := by decide +kernel
theorem dX9_get_52 : decode cX9_get 52 = .ok (.iaload, 1) := by decide +kernel
theorem dX9_get_53 : decode cX9_get 53 = .ok (.ireturn, 1) := by decide +kernel
theorem dX9_copy_0 : decode cX9_copy 0 = .ok (.iload_n 1, 1) := by decide +kernel
theorem dX9_copy_1 : decode cX9_copy 1 = .ok (.invokestatic 209, 3) := by decide +kernel
theorem dX9_copy_4 : decode cX9_copy 4 = .ok (.ifCond .eq 10, 3) := by decide +kernel
theorem dX9_copy_7 : decode cX9_copy 7 = .ok (.iload_n 3, 1) := by decide +kernel
theorem dX9_copy_8 : decode cX9_copy 8 = .ok (.invokestatic 209, 3) := by decide +kernel
theorem dX9_copy_11 : decode cX9_copy 11 = .ok (.ifCond .ne 6, 3) := by decide +kernel
theorem dX9_copy_14 : decode cX9_copy 14 = .ok (.bipush (-2), 2) := by decide +kernel
theorem dX9_copy_16 : decode cX9_copy 16 = .ok (.ireturn, 1) := by decide +kernel
theorem dX9_copy_17 : decode cX9_copy 17 = .ok (.aload_n 0, 1) := by decide +kernel
theorem dX9_copy_18 : decode cX9_copy 18 = .ok (.getfield 37, 3) := by decide +kernel
theorem dX9_copy_21 : decode cX9_copy 21 = .ok (.iload_n 1, 1) := by decide +kernel
theorem dX9_copy_22 : decode cX9_copy 22 = .ok (.baload, 1) := by decide +kernel
theorem dX9_copy_23 : decode cX9_copy 23 = .ok (.ifCond .eq 12, 3) := by decide +kernel
theorem dX9_copy_26 : decode cX9_copy 26 = .ok (.aload_n 0, 1) := by decide +kernel
theorem dX9_copy_27 : decode cX9_copy 27 = .ok (.getfield 37, 3) := by decide +kernel
theorem dX9_copy_30 : decode cX9_copy 30 = .ok (.iload_n 3, 1) := by decide +kernel
theorem dX9_copy_31 : decode cX9_copy 31 = .ok (.baload, 1) := by decide +kernel
theorem dX9_copy_32 : decode cX9_copy 32 = .ok (.ifCond .ne 9, 3) := by decide +kernel
theorem dX9_copy_35 : decode cX9_copy 35 = .ok (.aload_n 0, 1) := by decide +kernel
theorem dX9_copy_36 : decode cX9_copy 36 = .ok (.iconst 1, 1) := by decide +kernel
theorem dX9_copy_37 : decode cX9_copy 37 = .ok (.invokevirtual 212, 3) := by decide +kernel
theorem dX9_copy_40 : decode cX9_copy 40 = .ok (.ireturn, 1) := by decide +kernel
theorem dX9_copy_41 : decode cX9_copy 41 = .ok (.aload_n 0, 1) := by decide +kernel
theorem dX9_copy_42 : decode cX9_copy 42 = .ok (.getfield 41, 3) := by decide +kernel
theorem dX9_copy_45 : decode cX9_copy 45 = .ok (.iload_n 1, 1) := by decide +kernel
theorem dX9_copy_46 : decode cX9_copy 46 = .ok (.iaload, 1) := by decide +kernel
theorem dX9_copy_47 : decode cX9_copy 47 = .ok (.aload_n 0, 1) := by decide +kernel
theorem dX9_copy_48 : decode cX9_copy 48 = .ok (.getfield 41, 3) := by decide +kernel
theorem dX9_copy_51 : decode cX9_copy 51 = .ok (.iload_n 3, 1) := by decide +kernel
theorem dX9_copy_52 : decode cX9_copy 52 = .ok (.iaload, 1) := by decide +kernel
theorem dX9_copy_53 : decode cX9_copy 53 = .ok (.if_icmp .eq 9, 3) := by decide +kernel
theorem dX9_copy_56 : decode cX9_copy 56 = .ok (.aload_n 0, 1) := by decide +kernel
theorem dX9_copy_57 : decode cX9_copy 57 = .ok (.iconst 4, 1) := by decide +kernel
theorem dX9_copy_58 : decode cX9_copy 58 = .ok (.invokevirtual 212, 3) := by decide +kernel
theorem dX9_copy_61 : decode cX9_copy 61 = .ok (.ireturn, 1) := by decide +kernel
theorem dX9_copy_62 : decode cX9_copy 62 = .ok (.iload_n 2, 1) := by decide +kernel
theorem dX9_copy_63 : decode cX9_copy 63 = .ok (.ifCond .lt 48, 3) := by decide +kernel
theorem dX9_copy_66 : decode cX9_copy 66 = .ok (.iload 4, 2) := by decide +kernel
theorem dX9_copy_68 : decode cX9_copy 68 = .ok (.ifCond .lt 43, 3) := by decide +kernel
theorem dX9_copy_71 : decode cX9_copy 71 = .ok (.iload 5, 2) := by decide +kernel
theorem dX9_copy_73 : decode cX9_copy 73 = .ok (.ifCond .lt 38, 3) := by decide +kernel
theorem dX9_copy_76 : decode cX9_copy 76 = .ok (.iload_n 2, 1) := by decide +kernel
theorem dX9_copy_77 : decode cX9_copy 77 = .ok (.i2l, 1) := by decide +kernel
theorem dX9_copy_78 : decode cX9_copy 78 = .ok (.iload 5, 2) := by decide +kernel
theorem dX9_copy_80 : decode cX9_copy 80 = .ok (.i2l, 1) := by decide +kernel
theorem dX9_copy_81 : decode cX9_copy 81 = .ok (.ladd, 1) := by decide +kernel
theorem dX9_copy_82 : decode cX9_copy 82 = .ok (.aload_n 0, 1) := by decide +kernel
theorem dX9_copy_83 : decode cX9_copy 83 = .ok (.getfield 44, 3) := by decide +kernel
theorem dX9_copy_86 : decode cX9_copy 86 = .ok (.iload_n 1, 1) := by decide +kernel
theorem dX9_copy_87 : decode cX9_copy 87 = .ok (.iaload, 1) := by decide +kernel
theorem dX9_copy_88 : decode cX9_copy 88 = .ok (.i2l, 1) := by decide +kernel
theorem dX9_copy_89 : decode cX9_copy 89 = .ok (.lcmp, 1) := by decide +kernel
theorem dX9_copy_90 : decode cX9_copy 90 = .ok (.ifCond .gt 21, 3) := by decide +kernel
theorem dX9_copy_93 : decode cX9_copy 93 = .ok (.iload 4, 2) := by decide +kernel
theorem dX9_copy_95 : decode cX9_copy 95 = .ok (.i2l, 1) := by decide +kernel
theorem dX9_copy_96 : decode cX9_copy 96 = .ok (.iload 5, 2) := by decide +kernel
theorem dX9_copy_98 : decode cX9_copy 98 = .ok (.i2l, 1) := by decide +kernel
theorem dX9_copy_99 : decode cX9_copy 99 = .ok (.ladd, 1) := by decide +kernel
theorem dX9_copy_100 : decode cX9_copy 100 = .ok (.aload_n 0, 1) := by decide +kernel
theorem dX9_copy_101 : decode cX9_copy 101 = .ok (.getfield 44, 3) := by decide +kernel
theorem dX9_copy_104 : decode cX9_copy 104 = .ok (.iload_n 3, 1) := by decide +kernel
theorem dX9_copy_105 : decode cX9_copy 105 = .ok (.iaload, 1) := by decide +kernel
theorem dX9_copy_106 : decode cX9_copy 106 = .ok (.i2l, 1) := by decide +kernel
theorem dX9_copy_107 : decode cX9_copy 107 = .ok (.lcmp, 1) := by decide +kernel
theorem dX9_copy_108 : decode cX9_copy 108 = .ok (.ifCond .le 9, 3) := by decide +kernel
theorem dX9_copy_111 : decode cX9_copy 111 = .ok (.aload_n 0, 1) := by decide +kernel
theorem dX9_copy_112 : decode cX9_copy 112 = .ok (.iconst 2, 1) := by decide +kernel
theorem dX9_copy_113 : decode cX9_copy 113 = .ok (.invokevirtual 212, 3) := by decide +kernel
theorem dX9_copy_116 : decode cX9_copy 116 = .ok (.ireturn, 1) := by decide +kernel
theorem dX9_copy_117 : decode cX9_copy 117 = .ok (.iconst 0, 1) := by decide +kernel
theorem dX9_copy_118 : decode cX9_copy 118 = .ok (.istore 6, 2) := by decide +kernel
theorem dX9_copy_120 : decode cX9_copy 120 = .ok (.iload 6, 2) := by decide +kernel
theorem dX9_copy_122 : decode cX9_copy 122 = .ok (.iload 5, 2) := by decide +kernel
theorem dX9_copy_124 : decode cX9_copy 124 = .ok (.if_icmp .ge 30, 3) := by decide +kernel
theorem dX9_copy_127 : decode cX9_copy 127 = .ok (.aload_n 0, 1) := by decide +kernel
theorem dX9_copy_128 : decode cX9_copy 128 = .ok (.getfield 50, 3) := by decide +kernel
theorem dX9_copy_131 : decode cX9_copy 131 = .ok (.iload 6, 2) := by decide +kernel
theorem dX9_copy_133 : decode cX9_copy 133 = .ok (.aload_n 0, 1) := by decide +kernel
theorem dX9_copy_134 : decode cX9_copy 134 = .ok (.getfield 47, 3) := by decide +kernel
theorem dX9_copy_137 : decode cX9_copy 137 = .ok (.bipush 48, 2) := by decide +kernel
theorem dX9_copy_139 : decode cX9_copy 139 = .ok (.iload_n 1, 1) := by decide +kernel
theorem dX9_copy_140 : decode cX9_copy 140 = .ok (.imul, 1) := by decide +kernel
theorem dX9_copy_141 : decode cX9_copy 141 = .ok (.iload_n 2, 1) := by decide +kernel
theorem dX9_copy_142 : decode cX9_copy 142 = .ok (.iadd, 1) := by decide +kernel
theorem dX9_copy_143 : decode cX9_copy 143 = .ok (.iload 6, 2) := by decide +kernel
theorem dX9_copy_145 : decode cX9_copy 145 = .ok (.iadd, 1) := by decide +kernel
theorem dX9_copy_146 : decode cX9_copy 146 = .ok (.iaload, 1) := by decide +kernel
theorem dX9_copy_147 : decode cX9_copy 147 = .ok (.iastore, 1) := by decide +kernel
theorem dX9_copy_148 : decode cX9_copy 148 = .ok (.iinc 6 1, 3) := by decide +kernel
theorem dX9_copy_151 : decode cX9_copy 151 = .ok (.goto (-31), 3) := by decide +kernel
theorem dX9_copy_154 : decode cX9_copy 154 = .ok (.iconst 0, 1) := by decide +kernel
theorem dX9_copy_155 : decode cX9_copy 155 = .ok (.istore 6, 2) := by decide +kernel
theorem dX9_copy_157 : decode cX9_copy 157 = .ok (.iload 6, 2) := by decide +kernel
theorem dX9_copy_159 : decode cX9_copy 159 = .ok (.iload 5, 2) := by decide +kernel
theorem dX9_copy_161 : decode cX9_copy 161 = .ok (.if_icmp .ge 31, 3) := by decide +kernel
theorem dX9_copy_164 : decode cX9_copy 164 = .ok (.aload_n 0, 1) := by decide +kernel
theorem dX9_copy_165 : decode cX9_copy 165 = .ok (.getfield 47, 3) := by decide +kernel
theorem dX9_copy_168 : decode cX9_copy 168 = .ok (.bipush 48, 2) := by decide +kernel
theorem dX9_copy_170 : decode cX9_copy 170 = .ok (.iload_n 3, 1) := by decide +kernel
theorem dX9_copy_171 : decode cX9_copy 171 = .ok (.imul, 1) := by decide +kernel
theorem dX9_copy_172 : decode cX9_copy 172 = .ok (.iload 4, 2) := by decide +kernel
theorem dX9_copy_174 : decode cX9_copy 174 = .ok (.iadd, 1) := by decide +kernel
theorem dX9_copy_175 : decode cX9_copy 175 = .ok (.iload 6, 2) := by decide +kernel
theorem dX9_copy_177 : decode cX9_copy 177 = .ok (.iadd, 1) := by decide +kernel
theorem dX9_copy_178 : decode cX9_copy 178 = .ok (.aload_n 0, 1) := by decide +kernel
theorem dX9_copy_179 : decode cX9_copy 179 = .ok (.getfield 50, 3) := by decide +kernel
theorem dX9_copy_182 : decode cX9_copy 182 = .ok (.iload 6, 2) := by decide +kernel
theorem dX9_copy_184 : decode cX9_copy 184 = .ok (.iaload, 1) := by decide +kernel
theorem dX9_copy_185 : decode cX9_copy 185 = .ok (.iastore, 1) := by decide +kernel
theorem dX9_copy_186 : decode cX9_copy 186 = .ok (.iinc 6 1, 3) := by decide +kernel
theorem dX9_copy_189 : decode cX9_copy 189 = .ok (.goto (-32), 3) := by decide +kernel
theorem dX9_copy_192 : decode cX9_copy 192 = .ok (.iconst 1, 1) := by decide +kernel
theorem dX9_copy_193 : decode cX9_copy 193 = .ok (.ireturn, 1) := by decide +kernel
theorem dX9_write_0 : decode cX9_write 0 = .ok (.iload_n 1, 1) := by decide +kernel
theorem dX9_write_1 : decode cX9_write 1 = .ok (.invokestatic 90, 3) := by decide +kernel
theorem dX9_write_4 : decode cX9_write 4 = .ok (.ifCond .eq 10, 3) := by decide +kernel
theorem dX9_write_7 : decode cX9_write 7 = .ok (.iload_n 2, 1) := by decide +kernel
theorem dX9_write_8 : decode cX9_write 8 = .ok (.invokestatic 209, 3) := by decide +kernel
theorem dX9_write_11 : decode cX9_write 11 = .ok (.ifCond .ne 6, 3) := by decide +kernel
theorem dX9_write_14 : decode cX9_write 14 = .ok (.bipush (-2), 2) := by decide +kernel
theorem dX9_write_16 : decode cX9_write 16 = .ok (.ireturn, 1) := by decide +kernel
theorem dX9_write_17 : decode cX9_write 17 = .ok (.aload_n 0, 1) := by decide +kernel
theorem dX9_write_18 : decode cX9_write 18 = .ok (.getfield 37, 3) := by decide +kernel
theorem dX9_write_21 : decode cX9_write 21 = .ok (.iload_n 2, 1) := by decide +kernel
theorem dX9_write_22 : decode cX9_write 22 = .ok (.baload, 1) := by decide +kernel
theorem dX9_write_23 : decode cX9_write 23 = .ok (.ifCond .ne 9, 3) := by decide +kernel
theorem dX9_write_26 : decode cX9_write 26 = .ok (.aload_n 0, 1) := by decide +kernel
theorem dX9_write_27 : decode cX9_write 27 = .ok (.iconst 1, 1) := by decide +kernel
theorem dX9_write_28 : decode cX9_write 28 = .ok (.invokevirtual 212, 3) := by decide +kernel
theorem dX9_write_31 : decode cX9_write 31 = .ok (.ireturn, 1) := by decide +kernel
theorem dX9_write_32 : decode cX9_write 32 = .ok (.aload_n 0, 1) := by decide +kernel
theorem dX9_write_33 : decode cX9_write 33 = .ok (.invokevirtual 117, 3) := by decide +kernel
theorem dX9_write_36 : decode cX9_write 36 = .ok (.iconst 0, 1) := by decide +kernel
theorem dX9_write_37 : decode cX9_write 37 = .ok (.istore_n 3, 1) := by decide +kernel
theorem dX9_write_38 : decode cX9_write 38 = .ok (.iload_n 3, 1) := by decide +kernel
theorem dX9_write_39 : decode cX9_write 39 = .ok (.aload_n 0, 1) := by decide +kernel
theorem dX9_write_40 : decode cX9_write 40 = .ok (.getfield 44, 3) := by decide +kernel
theorem dX9_write_43 : decode cX9_write 43 = .ok (.iload_n 2, 1) := by decide +kernel
theorem dX9_write_44 : decode cX9_write 44 = .ok (.iaload, 1) := by decide +kernel
theorem dX9_write_45 : decode cX9_write 45 = .ok (.if_icmp .ge 32, 3) := by decide +kernel
theorem dX9_write_48 : decode cX9_write 48 = .ok (.iload_n 1, 1) := by decide +kernel
theorem dX9_write_49 : decode cX9_write 49 = .ok (.iload_n 3, 1) := by decide +kernel
theorem dX9_write_50 : decode cX9_write 50 = .ok (.iadd, 1) := by decide +kernel
theorem dX9_write_51 : decode cX9_write 51 = .ok (.sipush 400, 3) := by decide +kernel
theorem dX9_write_54 : decode cX9_write 54 = .ok (.if_icmp .ge 23, 3) := by decide +kernel
theorem dX9_write_57 : decode cX9_write 57 = .ok (.aload_n 0, 1) := by decide +kernel
theorem dX9_write_58 : decode cX9_write 58 = .ok (.iload_n 2, 1) := by decide +kernel
theorem dX9_write_59 : decode cX9_write 59 = .ok (.iload_n 3, 1) := by decide +kernel
theorem dX9_write_60 : decode cX9_write 60 = .ok (.aload_n 0, 1) := by decide +kernel
theorem dX9_write_61 : decode cX9_write 61 = .ok (.getfield 28, 3) := by decide +kernel
theorem dX9_write_64 : decode cX9_write 64 = .ok (.iload_n 1, 1) := by decide +kernel
theorem dX9_write_65 : decode cX9_write 65 = .ok (.iload_n 3, 1) := by decide +kernel
theorem dX9_write_66 : decode cX9_write 66 = .ok (.iadd, 1) := by decide +kernel
theorem dX9_write_67 : decode cX9_write 67 = .ok (.iaload, 1) := by decide +kernel
theorem dX9_write_68 : decode cX9_write 68 = .ok (.invokevirtual 237, 3) := by decide +kernel
theorem dX9_write_71 : decode cX9_write 71 = .ok (.iinc 3 1, 3) := by decide +kernel
theorem dX9_write_74 : decode cX9_write 74 = .ok (.goto (-36), 3) := by decide +kernel
theorem dX9_write_77 : decode cX9_write 77 = .ok (.iload_n 3, 1) := by decide +kernel
theorem dX9_write_78 : decode cX9_write 78 = .ok (.ireturn, 1) := by decide +kernel
theorem dX9_sumOf_0 : decode cX9_sumOf 0 = .ok (.aload_n 0, 1) := by decide +kernel
theorem dX9_sumOf_1 : decode cX9_sumOf 1 = .ok (.invokevirtual 117, 3) := by decide +kernel
theorem dX9_sumOf_4 : decode cX9_sumOf 4 = .ok (.iconst 0, 1) := by decide +kernel
theorem dX9_sumOf_5 : decode cX9_sumOf 5 = .ok (.istore_n 2, 1) := by decide +kernel
theorem dX9_sumOf_6 : decode cX9_sumOf 6 = .ok (.iconst 0, 1) := by decide +kernel
theorem dX9_sumOf_7 : decode cX9_sumOf 7 = .ok (.istore_n 3, 1) := by decide +kernel
theorem dX9_sumOf_8 : decode cX9_sumOf 8 = .ok (.iload_n 3, 1) := by decide +kernel
theorem dX9_sumOf_9 : decode cX9_sumOf 9 = .ok (.aload_n 0, 1) := by decide +kernel
theorem dX9_sumOf_10 : decode cX9_sumOf 10 = .ok (.getfield 63, 3) := by decide +kernel
theorem dX9_sumOf_13 : decode cX9_sumOf 13 = .ok (.if_icmp .ge 23, 3) := by decide +kernel
theorem dX9_sumOf_16 : decode cX9_sumOf 16 = .ok (.iload_n 1, 1) := by decide +kernel
theorem dX9_sumOf_17 : decode cX9_sumOf 17 = .ok (.iconst 3, 1) := by decide +kernel
theorem dX9_sumOf_18 : decode cX9_sumOf 18 = .ok (.if_icmp .ne 18, 3) := by decide +kernel
theorem dX9_sumOf_21 : decode cX9_sumOf 21 = .ok (.iload_n 2, 1) := by decide +kernel
theorem dX9_sumOf_22 : decode cX9_sumOf 22 = .ok (.aload_n 0, 1) := by decide +kernel
theorem dX9_sumOf_23 : decode cX9_sumOf 23 = .ok (.getfield 16, 3) := by decide +kernel
theorem dX9_sumOf_26 : decode cX9_sumOf 26 = .ok (.iload_n 3, 1) := by decide +kernel
theorem dX9_sumOf_27 : decode cX9_sumOf 27 = .ok (.iaload, 1) := by decide +kernel
theorem dX9_sumOf_28 : decode cX9_sumOf 28 = .ok (.iadd, 1) := by decide +kernel
theorem dX9_sumOf_29 : decode cX9_sumOf 29 = .ok (.istore_n 2, 1) := by decide +kernel
theorem dX9_sumOf_30 : decode cX9_sumOf 30 = .ok (.iinc 3 1, 3) := by decide +kernel
theorem dX9_sumOf_33 : decode cX9_sumOf 33 = .ok (.goto (-25), 3) := by decide +kernel
theorem dX9_sumOf_36 : decode cX9_sumOf 36 = .ok (.iconst 0, 1) := by decide +kernel
theorem dX9_sumOf_37 : decode cX9_sumOf 37 = .ok (.istore_n 3, 1) := by decide +kernel
theorem dX9_sumOf_38 : decode cX9_sumOf 38 = .ok (.iload_n 3, 1) := by decide +kernel
theorem dX9_sumOf_39 : decode cX9_sumOf 39 = .ok (.sipush 400, 3) := by decide +kernel
theorem dX9_sumOf_42 : decode cX9_sumOf 42 = .ok (.if_icmp .ge 64, 3) := by decide +kernel
theorem dX9_sumOf_45 : decode cX9_sumOf 45 = .ok (.iload_n 1, 1) := by decide +kernel
theorem dX9_sumOf_46 : decode cX9_sumOf 46 = .ok (.iconst 3, 1) := by decide +kernel
theorem dX9_sumOf_47 : decode cX9_sumOf 47 = .ok (.if_icmp .le 59, 3) := by decide +kernel
theorem dX9_sumOf_50 : decode cX9_sumOf 50 = .ok (.aload_n 0, 1) := by decide +kernel
theorem dX9_sumOf_51 : decode cX9_sumOf 51 = .ok (.getfield 28, 3) := by decide +kernel
theorem dX9_sumOf_54 : decode cX9_sumOf 54 = .ok (.iload_n 3, 1) := by decide +kernel
theorem dX9_sumOf_55 : decode cX9_sumOf 55 = .ok (.iaload, 1) := by decide +kernel
theorem dX9_sumOf_56 : decode cX9_sumOf 56 = .ok (.iload_n 2, 1) := by decide +kernel
theorem dX9_sumOf_57 : decode cX9_sumOf 57 = .ok (.if_icmp .le 12, 3) := by decide +kernel
theorem dX9_sumOf_60 : decode cX9_sumOf 60 = .ok (.aload_n 0, 1) := by decide +kernel
theorem dX9_sumOf_61 : decode cX9_sumOf 61 = .ok (.getfield 28, 3) := by decide +kernel
theorem dX9_sumOf_64 : decode cX9_sumOf 64 = .ok (.iload_n 3, 1) := by decide +kernel
theorem dX9_sumOf_65 : decode cX9_sumOf 65 = .ok (.iaload, 1) := by decide +kernel
theorem dX9_sumOf_66 : decode cX9_sumOf 66 = .ok (.goto 4, 3) := by decide +kernel
theorem dX9_sumOf_69 : decode cX9_sumOf 69 = .ok (.iload_n 2, 1) := by decide +kernel
theorem dX9_sumOf_70 : decode cX9_sumOf 70 = .ok (.istore 4, 2) := by decide +kernel
theorem dX9_sumOf_72 : decode cX9_sumOf 72 = .ok (.iload_n 1, 1) := by decide +kernel
theorem dX9_sumOf_73 : decode cX9_sumOf 73 = .ok (.bipush 7, 2) := by decide +kernel
theorem dX9_sumOf_75 : decode cX9_sumOf 75 = .ok (.if_icmp .ne 8, 3) := by decide +kernel
theorem dX9_sumOf_78 : decode cX9_sumOf 78 = .ok (.iload 4, 2) := by decide +kernel
theorem dX9_sumOf_80 : decode cX9_sumOf 80 = .ok (.goto 19, 3) := by decide +kernel
theorem dX9_sumOf_83 : decode cX9_sumOf 83 = .ok (.iload_n 2, 1) := by decide +kernel
theorem dX9_sumOf_84 : decode cX9_sumOf 84 = .ok (.aload_n 0, 1) := by decide +kernel
theorem dX9_sumOf_85 : decode cX9_sumOf 85 = .ok (.iload_n 3, 1) := by decide +kernel
theorem dX9_sumOf_86 : decode cX9_sumOf 86 = .ok (.invokevirtual 120, 3) := by decide +kernel
theorem dX9_sumOf_89 : decode cX9_sumOf 89 = .ok (.iconst 1, 1) := by decide +kernel
theorem dX9_sumOf_90 : decode cX9_sumOf 90 = .ok (.if_icmp .ne 7, 3) := by decide +kernel
theorem dX9_sumOf_93 : decode cX9_sumOf 93 = .ok (.iconst 1, 1) := by decide +kernel
theorem dX9_sumOf_94 : decode cX9_sumOf 94 = .ok (.goto 4, 3) := by decide +kernel
theorem dX9_sumOf_97 : decode cX9_sumOf 97 = .ok (.iconst 0, 1) := by decide +kernel
theorem dX9_sumOf_98 : decode cX9_sumOf 98 = .ok (.iadd, 1) := by decide +kernel
theorem dX9_sumOf_99 : decode cX9_sumOf 99 = .ok (.istore_n 2, 1) := by decide +kernel
theorem dX9_sumOf_100 : decode cX9_sumOf 100 = .ok (.iinc 3 1, 3) := by decide +kernel
theorem dX9_sumOf_103 : decode cX9_sumOf 103 = .ok (.goto (-65), 3) := by decide +kernel
theorem dX9_sumOf_106 : decode cX9_sumOf 106 = .ok (.iload_n 1, 1) := by decide +kernel
theorem dX9_sumOf_107 : decode cX9_sumOf 107 = .ok (.ifCond .ne 10, 3) := by decide +kernel
theorem dX9_sumOf_110 : decode cX9_sumOf 110 = .ok (.aload_n 0, 1) := by decide +kernel
theorem dX9_sumOf_111 : decode cX9_sumOf 111 = .ok (.getfield 63, 3) := by decide +kernel
theorem dX9_sumOf_114 : decode cX9_sumOf 114 = .ok (.goto 4, 3) := by decide +kernel
theorem dX9_sumOf_117 : decode cX9_sumOf 117 = .ok (.iload_n 2, 1) := by decide +kernel
theorem dX9_sumOf_118 : decode cX9_sumOf 118 = .ok (.ireturn, 1) := by decide +kernel
theorem dX9_count_0 : decode cX9_count 0 = .ok (.iload_n 1, 1) := by decide +kernel
theorem dX9_count_1 : decode cX9_count 1 = .ok (.tableswitch 83 0 8 #[51, 57, 57, 51, 51, 66, 71, 51, 78], 51) := by decide +kernel
theorem dX9_count_52 : decode cX9_count 52 = .ok (.aload_n 0, 1) := by decide +kernel
theorem dX9_count_53 : decode cX9_count 53 = .ok (.iload_n 1, 1) := by decide +kernel
theorem dX9_count_54 : decode cX9_count 54 = .ok (.invokevirtual 242, 3) := by decide +kernel
theorem dX9_count_57 : decode cX9_count 57 = .ok (.ireturn, 1) := by decide +kernel
theorem dX9_count_58 : decode cX9_count 58 = .ok (.aload_n 0, 1) := by decide +kernel
theorem dX9_count_59 : decode cX9_count 59 = .ok (.getfield 7, 3) := by decide +kernel
theorem dX9_count_62 : decode cX9_count 62 = .ok (.iload_n 1, 1) := by decide +kernel
theorem dX9_count_63 : decode cX9_count 63 = .ok (.iconst 1, 1) := by decide +kernel
theorem dX9_count_64 : decode cX9_count 64 = .ok (.isub, 1) := by decide +kernel
theorem dX9_count_65 : decode cX9_count 65 = .ok (.iaload, 1) := by decide +kernel
theorem dX9_count_66 : decode cX9_count 66 = .ok (.ireturn, 1) := by decide +kernel
theorem dX9_count_67 : decode cX9_count 67 = .ok (.aload_n 0, 1) := by decide +kernel
theorem dX9_count_68 : decode cX9_count 68 = .ok (.getfield 206, 3) := by decide +kernel
theorem dX9_count_71 : decode cX9_count 71 = .ok (.ireturn, 1) := by decide +kernel
theorem dX9_count_72 : decode cX9_count 72 = .ok (.aload_n 0, 1) := by decide +kernel
theorem dX9_count_73 : decode cX9_count 73 = .ok (.getfield 25, 3) := by decide +kernel
theorem dX9_count_76 : decode cX9_count 76 = .ok (.iconst 0, 1) := by decide +kernel
theorem dX9_count_77 : decode cX9_count 77 = .ok (.iaload, 1) := by decide +kernel
theorem dX9_count_78 : decode cX9_count 78 = .ok (.ireturn, 1) := by decide +kernel
theorem dX9_count_79 : decode cX9_count 79 = .ok (.aload_n 0, 1) := by decide +kernel
theorem dX9_count_80 : decode cX9_count 80 = .ok (.getfield 231, 3) := by decide +kernel
theorem dX9_count_83 : decode cX9_count 83 = .ok (.ireturn, 1) := by decide +kernel
theorem dX9_count_84 : decode cX9_count 84 = .ok (.bipush (-2), 2) := by decide +kernel
theorem dX9_count_86 : decode cX9_count 86 = .ok (.ireturn, 1) := by decide +kernel
theorem dX9_tenthDigest_0 : decode cX9_tenthDigest 0 = .ok (.lload_n 1, 1) := by decide +kernel
theorem dX9_tenthDigest_1 : decode cX9_tenthDigest 1 = .ok (.lstore 4, 2) := by decide +kernel
theorem dX9_tenthDigest_3 : decode cX9_tenthDigest 3 = .ok (.ldc2_w 245, 3) := by decide +kernel
theorem dX9_tenthDigest_6 : decode cX9_tenthDigest 6 = .ok (.lload 4, 2) := by decide +kernel
theorem dX9_tenthDigest_8 : decode cX9_tenthDigest 8 = .ok (.lmul, 1) := by decide +kernel
theorem dX9_tenthDigest_9 : decode cX9_tenthDigest 9 = .ok (.aload_n 0, 1) := by decide +kernel
theorem dX9_tenthDigest_10 : decode cX9_tenthDigest 10 = .ok (.iload_n 3, 1) := by decide +kernel
theorem dX9_tenthDigest_11 : decode cX9_tenthDigest 11 = .ok (.invokevirtual 114, 3) := by decide +kernel
theorem dX9_tenthDigest_14 : decode cX9_tenthDigest 14 = .ok (.i2l, 1) := by decide +kernel
theorem dX9_tenthDigest_15 : decode cX9_tenthDigest 15 = .ok (.ladd, 1) := by decide +kernel
theorem dX9_tenthDigest_16 : decode cX9_tenthDigest 16 = .ok (.lstore 4, 2) := by decide +kernel
theorem dX9_tenthDigest_18 : decode cX9_tenthDigest 18 = .ok (.ldc2_w 245, 3) := by decide +kernel
theorem dX9_tenthDigest_21 : decode cX9_tenthDigest 21 = .ok (.lload 4, 2) := by decide +kernel
theorem dX9_tenthDigest_23 : decode cX9_tenthDigest 23 = .ok (.lmul, 1) := by decide +kernel
theorem dX9_tenthDigest_24 : decode cX9_tenthDigest 24 = .ok (.aload_n 0, 1) := by decide +kernel
theorem dX9_tenthDigest_25 : decode cX9_tenthDigest 25 = .ok (.iload_n 3, 1) := by decide +kernel
theorem dX9_tenthDigest_26 : decode cX9_tenthDigest 26 = .ok (.invokevirtual 123, 3) := by decide +kernel
theorem dX9_tenthDigest_29 : decode cX9_tenthDigest 29 = .ok (.i2l, 1) := by decide +kernel
theorem dX9_tenthDigest_30 : decode cX9_tenthDigest 30 = .ok (.ladd, 1) := by decide +kernel
theorem dX9_tenthDigest_31 : decode cX9_tenthDigest 31 = .ok (.lstore 4, 2) := by decide +kernel
theorem dX9_tenthDigest_33 : decode cX9_tenthDigest 33 = .ok (.ldc2_w 245, 3) := by decide +kernel
theorem dX9_tenthDigest_36 : decode cX9_tenthDigest 36 = .ok (.lload 4, 2) := by decide +kernel
theorem dX9_tenthDigest_38 : decode cX9_tenthDigest 38 = .ok (.lmul, 1) := by decide +kernel
theorem dX9_tenthDigest_39 : decode cX9_tenthDigest 39 = .ok (.aload_n 0, 1) := by decide +kernel
theorem dX9_tenthDigest_40 : decode cX9_tenthDigest 40 = .ok (.iload_n 3, 1) := by decide +kernel
theorem dX9_tenthDigest_41 : decode cX9_tenthDigest 41 = .ok (.invokevirtual 129, 3) := by decide +kernel
theorem dX9_tenthDigest_44 : decode cX9_tenthDigest 44 = .ok (.i2l, 1) := by decide +kernel
theorem dX9_tenthDigest_45 : decode cX9_tenthDigest 45 = .ok (.ladd, 1) := by decide +kernel
theorem dX9_tenthDigest_46 : decode cX9_tenthDigest 46 = .ok (.lstore 4, 2) := by decide +kernel
theorem dX9_tenthDigest_48 : decode cX9_tenthDigest 48 = .ok (.ldc2_w 245, 3) := by decide +kernel
theorem dX9_tenthDigest_51 : decode cX9_tenthDigest 51 = .ok (.lload 4, 2) := by decide +kernel
theorem dX9_tenthDigest_53 : decode cX9_tenthDigest 53 = .ok (.lmul, 1) := by decide +kernel
theorem dX9_tenthDigest_54 : decode cX9_tenthDigest 54 = .ok (.aload_n 0, 1) := by decide +kernel
theorem dX9_tenthDigest_55 : decode cX9_tenthDigest 55 = .ok (.iload_n 3, 1) := by decide +kernel
theorem dX9_tenthDigest_56 : decode cX9_tenthDigest 56 = .ok (.iconst 2, 1) := by decide +kernel
theorem dX9_tenthDigest_57 : decode cX9_tenthDigest 57 = .ok (.invokevirtual 135, 3) := by decide +kernel
theorem dX9_tenthDigest_60 : decode cX9_tenthDigest 60 = .ok (.i2l, 1) := by decide +kernel
theorem dX9_tenthDigest_61 : decode cX9_tenthDigest 61 = .ok (.ladd, 1) := by decide +kernel
theorem dX9_tenthDigest_62 : decode cX9_tenthDigest 62 = .ok (.lstore 4, 2) := by decide +kernel
theorem dX9_tenthDigest_64 : decode cX9_tenthDigest 64 = .ok (.ldc2_w 245, 3) := by decide +kernel
theorem dX9_tenthDigest_67 : decode cX9_tenthDigest 67 = .ok (.lload 4, 2) := by decide +kernel
theorem dX9_tenthDigest_69 : decode cX9_tenthDigest 69 = .ok (.lmul, 1) := by decide +kernel
theorem dX9_tenthDigest_70 : decode cX9_tenthDigest 70 = .ok (.aload_n 0, 1) := by decide +kernel
theorem dX9_tenthDigest_71 : decode cX9_tenthDigest 71 = .ok (.iload_n 3, 1) := by decide +kernel
theorem dX9_tenthDigest_72 : decode cX9_tenthDigest 72 = .ok (.invokevirtual 138, 3) := by decide +kernel
theorem dX9_tenthDigest_75 : decode cX9_tenthDigest 75 = .ok (.i2l, 1) := by decide +kernel
theorem dX9_tenthDigest_76 : decode cX9_tenthDigest 76 = .ok (.ladd, 1) := by decide +kernel
theorem dX9_tenthDigest_77 : decode cX9_tenthDigest 77 = .ok (.lstore 4, 2) := by decide +kernel
theorem dX9_tenthDigest_79 : decode cX9_tenthDigest 79 = .ok (.ldc2_w 245, 3) := by decide +kernel
theorem dX9_tenthDigest_82 : decode cX9_tenthDigest 82 = .ok (.lload 4, 2) := by decide +kernel
theorem dX9_tenthDigest_84 : decode cX9_tenthDigest 84 = .ok (.lmul, 1) := by decide +kernel
theorem dX9_tenthDigest_85 : decode cX9_tenthDigest 85 = .ok (.aload_n 0, 1) := by decide +kernel
theorem dX9_tenthDigest_86 : decode cX9_tenthDigest 86 = .ok (.iload_n 3, 1) := by decide +kernel
theorem dX9_tenthDigest_87 : decode cX9_tenthDigest 87 = .ok (.bipush 20, 2) := by decide +kernel
theorem dX9_tenthDigest_89 : decode cX9_tenthDigest 89 = .ok (.iconst 0, 1) := by decide +kernel
theorem dX9_tenthDigest_90 : decode cX9_tenthDigest 90 = .ok (.invokevirtual 144, 3) := by decide +kernel
theorem dX9_tenthDigest_93 : decode cX9_tenthDigest 93 = .ok (.i2l, 1) := by decide +kernel
theorem dX9_tenthDigest_94 : decode cX9_tenthDigest 94 = .ok (.ladd, 1) := by decide +kernel
theorem dX9_tenthDigest_95 : decode cX9_tenthDigest 95 = .ok (.lstore 4, 2) := by decide +kernel
theorem dX9_tenthDigest_97 : decode cX9_tenthDigest 97 = .ok (.ldc2_w 245, 3) := by decide +kernel
theorem dX9_tenthDigest_100 : decode cX9_tenthDigest 100 = .ok (.lload 4, 2) := by decide +kernel
theorem dX9_tenthDigest_102 : decode cX9_tenthDigest 102 = .ok (.lmul, 1) := by decide +kernel
theorem dX9_tenthDigest_103 : decode cX9_tenthDigest 103 = .ok (.aload_n 0, 1) := by decide +kernel
theorem dX9_tenthDigest_104 : decode cX9_tenthDigest 104 = .ok (.iload_n 3, 1) := by decide +kernel
theorem dX9_tenthDigest_105 : decode cX9_tenthDigest 105 = .ok (.bipush 20, 2) := by decide +kernel
theorem dX9_tenthDigest_107 : decode cX9_tenthDigest 107 = .ok (.iconst 1, 1) := by decide +kernel
theorem dX9_tenthDigest_108 : decode cX9_tenthDigest 108 = .ok (.invokevirtual 144, 3) := by decide +kernel
theorem dX9_tenthDigest_111 : decode cX9_tenthDigest 111 = .ok (.i2l, 1) := by decide +kernel
theorem dX9_tenthDigest_112 : decode cX9_tenthDigest 112 = .ok (.ladd, 1) := by decide +kernel
theorem dX9_tenthDigest_113 : decode cX9_tenthDigest 113 = .ok (.lstore 4, 2) := by decide +kernel
theorem dX9_tenthDigest_115 : decode cX9_tenthDigest 115 = .ok (.ldc2_w 245, 3) := by decide +kernel
theorem dX9_tenthDigest_118 : decode cX9_tenthDigest 118 = .ok (.lload 4, 2) := by decide +kernel
theorem dX9_tenthDigest_120 : decode cX9_tenthDigest 120 = .ok (.lmul, 1) := by decide +kernel
theorem dX9_tenthDigest_121 : decode cX9_tenthDigest 121 = .ok (.aload_n 0, 1) := by decide +kernel
theorem dX9_tenthDigest_122 : decode cX9_tenthDigest 122 = .ok (.iload_n 3, 1) := by decide +kernel
theorem dX9_tenthDigest_123 : decode cX9_tenthDigest 123 = .ok (.invokevirtual 151, 3) := by decide +kernel
theorem dX9_tenthDigest_126 : decode cX9_tenthDigest 126 = .ok (.i2l, 1) := by decide +kernel
theorem dX9_tenthDigest_127 : decode cX9_tenthDigest 127 = .ok (.ladd, 1) := by decide +kernel
theorem dX9_tenthDigest_128 : decode cX9_tenthDigest 128 = .ok (.lstore 4, 2) := by decide +kernel
theorem dX9_tenthDigest_130 : decode cX9_tenthDigest 130 = .ok (.ldc2_w 245, 3) := by decide +kernel
theorem dX9_tenthDigest_133 : decode cX9_tenthDigest 133 = .ok (.lload 4, 2) := by decide +kernel
theorem dX9_tenthDigest_135 : decode cX9_tenthDigest 135 = .ok (.lmul, 1) := by decide +kernel
theorem dX9_tenthDigest_136 : decode cX9_tenthDigest 136 = .ok (.aload_n 0, 1) := by decide +kernel
theorem dX9_tenthDigest_137 : decode cX9_tenthDigest 137 = .ok (.iload_n 3, 1) := by decide +kernel
theorem dX9_tenthDigest_138 : decode cX9_tenthDigest 138 = .ok (.invokevirtual 157, 3) := by decide +kernel
theorem dX9_tenthDigest_141 : decode cX9_tenthDigest 141 = .ok (.i2l, 1) := by decide +kernel
theorem dX9_tenthDigest_142 : decode cX9_tenthDigest 142 = .ok (.ladd, 1) := by decide +kernel
theorem dX9_tenthDigest_143 : decode cX9_tenthDigest 143 = .ok (.lstore 4, 2) := by decide +kernel
theorem dX9_tenthDigest_145 : decode cX9_tenthDigest 145 = .ok (.ldc2_w 245, 3) := by decide +kernel
theorem dX9_tenthDigest_148 : decode cX9_tenthDigest 148 = .ok (.lload 4, 2) := by decide +kernel
theorem dX9_tenthDigest_150 : decode cX9_tenthDigest 150 = .ok (.lmul, 1) := by decide +kernel
theorem dX9_tenthDigest_151 : decode cX9_tenthDigest 151 = .ok (.aload_n 0, 1) := by decide +kernel
theorem dX9_tenthDigest_152 : decode cX9_tenthDigest 152 = .ok (.iload_n 3, 1) := by decide +kernel
theorem dX9_tenthDigest_153 : decode cX9_tenthDigest 153 = .ok (.invokevirtual 166, 3) := by decide +kernel
theorem dX9_tenthDigest_156 : decode cX9_tenthDigest 156 = .ok (.i2l, 1) := by decide +kernel
theorem dX9_tenthDigest_157 : decode cX9_tenthDigest 157 = .ok (.ladd, 1) := by decide +kernel
theorem dX9_tenthDigest_158 : decode cX9_tenthDigest 158 = .ok (.lstore 4, 2) := by decide +kernel
theorem dX9_tenthDigest_160 : decode cX9_tenthDigest 160 = .ok (.ldc2_w 245, 3) := by decide +kernel
theorem dX9_tenthDigest_163 : decode cX9_tenthDigest 163 = .ok (.lload 4, 2) := by decide +kernel
theorem dX9_tenthDigest_165 : decode cX9_tenthDigest 165 = .ok (.lmul, 1) := by decide +kernel
theorem dX9_tenthDigest_166 : decode cX9_tenthDigest 166 = .ok (.aload_n 0, 1) := by decide +kernel
theorem dX9_tenthDigest_167 : decode cX9_tenthDigest 167 = .ok (.iload_n 3, 1) := by decide +kernel
theorem dX9_tenthDigest_168 : decode cX9_tenthDigest 168 = .ok (.invokevirtual 169, 3) := by decide +kernel
theorem dX9_tenthDigest_171 : decode cX9_tenthDigest 171 = .ok (.i2l, 1) := by decide +kernel
theorem dX9_tenthDigest_172 : decode cX9_tenthDigest 172 = .ok (.ladd, 1) := by decide +kernel
theorem dX9_tenthDigest_173 : decode cX9_tenthDigest 173 = .ok (.lstore 4, 2) := by decide +kernel
theorem dX9_tenthDigest_175 : decode cX9_tenthDigest 175 = .ok (.ldc2_w 245, 3) := by decide +kernel
theorem dX9_tenthDigest_178 : decode cX9_tenthDigest 178 = .ok (.lload 4, 2) := by decide +kernel
theorem dX9_tenthDigest_180 : decode cX9_tenthDigest 180 = .ok (.lmul, 1) := by decide +kernel
theorem dX9_tenthDigest_181 : decode cX9_tenthDigest 181 = .ok (.aload_n 0, 1) := by decide +kernel
theorem dX9_tenthDigest_182 : decode cX9_tenthDigest 182 = .ok (.iload_n 3, 1) := by decide +kernel
theorem dX9_tenthDigest_183 : decode cX9_tenthDigest 183 = .ok (.iconst 0, 1) := by decide +kernel
theorem dX9_tenthDigest_184 : decode cX9_tenthDigest 184 = .ok (.invokevirtual 184, 3) := by decide +kernel
theorem dX9_tenthDigest_187 : decode cX9_tenthDigest 187 = .ok (.ladd, 1) := by decide +kernel
theorem dX9_tenthDigest_188 : decode cX9_tenthDigest 188 = .ok (.lstore 4, 2) := by decide +kernel
theorem dX9_tenthDigest_190 : decode cX9_tenthDigest 190 = .ok (.ldc2_w 245, 3) := by decide +kernel
theorem dX9_tenthDigest_193 : decode cX9_tenthDigest 193 = .ok (.lload 4, 2) := by decide +kernel
theorem dX9_tenthDigest_195 : decode cX9_tenthDigest 195 = .ok (.lmul, 1) := by decide +kernel
theorem dX9_tenthDigest_196 : decode cX9_tenthDigest 196 = .ok (.aload_n 0, 1) := by decide +kernel
theorem dX9_tenthDigest_197 : decode cX9_tenthDigest 197 = .ok (.iload_n 3, 1) := by decide +kernel
theorem dX9_tenthDigest_198 : decode cX9_tenthDigest 198 = .ok (.iconst 1, 1) := by decide +kernel
theorem dX9_tenthDigest_199 : decode cX9_tenthDigest 199 = .ok (.invokevirtual 184, 3) := by decide +kernel
theorem dX9_tenthDigest_202 : decode cX9_tenthDigest 202 = .ok (.ladd, 1) := by decide +kernel
theorem dX9_tenthDigest_203 : decode cX9_tenthDigest 203 = .ok (.lstore 4, 2) := by decide +kernel
theorem dX9_tenthDigest_205 : decode cX9_tenthDigest 205 = .ok (.ldc2_w 245, 3) := by decide +kernel
theorem dX9_tenthDigest_208 : decode cX9_tenthDigest 208 = .ok (.lload 4, 2) := by decide +kernel
theorem dX9_tenthDigest_210 : decode cX9_tenthDigest 210 = .ok (.lmul, 1) := by decide +kernel
theorem dX9_tenthDigest_211 : decode cX9_tenthDigest 211 = .ok (.aload_n 0, 1) := by decide +kernel
theorem dX9_tenthDigest_212 : decode cX9_tenthDigest 212 = .ok (.iload_n 3, 1) := by decide +kernel
theorem dX9_tenthDigest_213 : decode cX9_tenthDigest 213 = .ok (.bipush 30, 2) := by decide +kernel
theorem dX9_tenthDigest_215 : decode cX9_tenthDigest 215 = .ok (.invokevirtual 190, 3) := by decide +kernel
theorem dX9_tenthDigest_218 : decode cX9_tenthDigest 218 = .ok (.i2l, 1) := by decide +kernel
theorem dX9_tenthDigest_219 : decode cX9_tenthDigest 219 = .ok (.ladd, 1) := by decide +kernel
theorem dX9_tenthDigest_220 : decode cX9_tenthDigest 220 = .ok (.lstore 4, 2) := by decide +kernel
theorem dX9_tenthDigest_222 : decode cX9_tenthDigest 222 = .ok (.ldc2_w 245, 3) := by decide +kernel
theorem dX9_tenthDigest_225 : decode cX9_tenthDigest 225 = .ok (.lload 4, 2) := by decide +kernel
theorem dX9_tenthDigest_227 : decode cX9_tenthDigest 227 = .ok (.lmul, 1) := by decide +kernel
theorem dX9_tenthDigest_228 : decode cX9_tenthDigest 228 = .ok (.aload_n 0, 1) := by decide +kernel
theorem dX9_tenthDigest_229 : decode cX9_tenthDigest 229 = .ok (.iload_n 3, 1) := by decide +kernel
theorem dX9_tenthDigest_230 : decode cX9_tenthDigest 230 = .ok (.bipush 30, 2) := by decide +kernel
theorem dX9_tenthDigest_232 : decode cX9_tenthDigest 232 = .ok (.invokevirtual 193, 3) := by decide +kernel
theorem dX9_tenthDigest_235 : decode cX9_tenthDigest 235 = .ok (.i2l, 1) := by decide +kernel
theorem dX9_tenthDigest_236 : decode cX9_tenthDigest 236 = .ok (.ladd, 1) := by decide +kernel
theorem dX9_tenthDigest_237 : decode cX9_tenthDigest 237 = .ok (.lstore 4, 2) := by decide +kernel
theorem dX9_tenthDigest_239 : decode cX9_tenthDigest 239 = .ok (.ldc2_w 245, 3) := by decide +kernel
theorem dX9_tenthDigest_242 : decode cX9_tenthDigest 242 = .ok (.lload 4, 2) := by decide +kernel
theorem dX9_tenthDigest_244 : decode cX9_tenthDigest 244 = .ok (.lmul, 1) := by decide +kernel
theorem dX9_tenthDigest_245 : decode cX9_tenthDigest 245 = .ok (.aload_n 0, 1) := by decide +kernel
theorem dX9_tenthDigest_246 : decode cX9_tenthDigest 246 = .ok (.iload_n 3, 1) := by decide +kernel
theorem dX9_tenthDigest_247 : decode cX9_tenthDigest 247 = .ok (.bipush 30, 2) := by decide +kernel
theorem dX9_tenthDigest_249 : decode cX9_tenthDigest 249 = .ok (.iconst 0, 1) := by decide +kernel
theorem dX9_tenthDigest_250 : decode cX9_tenthDigest 250 = .ok (.invokevirtual 196, 3) := by decide +kernel
theorem dX9_tenthDigest_253 : decode cX9_tenthDigest 253 = .ok (.i2l, 1) := by decide +kernel
theorem dX9_tenthDigest_254 : decode cX9_tenthDigest 254 = .ok (.ladd, 1) := by decide +kernel
theorem dX9_tenthDigest_255 : decode cX9_tenthDigest 255 = .ok (.lstore 4, 2) := by decide +kernel
theorem dX9_tenthDigest_257 : decode cX9_tenthDigest 257 = .ok (.ldc2_w 245, 3) := by decide +kernel
theorem dX9_tenthDigest_260 : decode cX9_tenthDigest 260 = .ok (.lload 4, 2) := by decide +kernel
theorem dX9_tenthDigest_262 : decode cX9_tenthDigest 262 = .ok (.lmul, 1) := by decide +kernel
theorem dX9_tenthDigest_263 : decode cX9_tenthDigest 263 = .ok (.aload_n 0, 1) := by decide +kernel
theorem dX9_tenthDigest_264 : decode cX9_tenthDigest 264 = .ok (.iload_n 3, 1) := by decide +kernel
theorem dX9_tenthDigest_265 : decode cX9_tenthDigest 265 = .ok (.bipush 30, 2) := by decide +kernel
theorem dX9_tenthDigest_267 : decode cX9_tenthDigest 267 = .ok (.iconst 1, 1) := by decide +kernel
theorem dX9_tenthDigest_268 : decode cX9_tenthDigest 268 = .ok (.invokevirtual 196, 3) := by decide +kernel
theorem dX9_tenthDigest_271 : decode cX9_tenthDigest 271 = .ok (.i2l, 1) := by decide +kernel
theorem dX9_tenthDigest_272 : decode cX9_tenthDigest 272 = .ok (.ladd, 1) := by decide +kernel
theorem dX9_tenthDigest_273 : decode cX9_tenthDigest 273 = .ok (.lstore 4, 2) := by decide +kernel
theorem dX9_tenthDigest_275 : decode cX9_tenthDigest 275 = .ok (.ldc2_w 245, 3) := by decide +kernel
theorem dX9_tenthDigest_278 : decode cX9_tenthDigest 278 = .ok (.lload 4, 2) := by decide +kernel
theorem dX9_tenthDigest_280 : decode cX9_tenthDigest 280 = .ok (.lmul, 1) := by decide +kernel
theorem dX9_tenthDigest_281 : decode cX9_tenthDigest 281 = .ok (.aload_n 0, 1) := by decide +kernel
theorem dX9_tenthDigest_282 : decode cX9_tenthDigest 282 = .ok (.iload_n 3, 1) := by decide +kernel
theorem dX9_tenthDigest_283 : decode cX9_tenthDigest 283 = .ok (.bipush 30, 2) := by decide +kernel
theorem dX9_tenthDigest_285 : decode cX9_tenthDigest 285 = .ok (.invokevirtual 203, 3) := by decide +kernel
theorem dX9_tenthDigest_288 : decode cX9_tenthDigest 288 = .ok (.i2l, 1) := by decide +kernel
theorem dX9_tenthDigest_289 : decode cX9_tenthDigest 289 = .ok (.ladd, 1) := by decide +kernel
theorem dX9_tenthDigest_290 : decode cX9_tenthDigest 290 = .ok (.lreturn, 1) := by decide +kernel
theorem dX9_digest_0 : decode cX9_digest 0 = .ok (.ldc2_w 247, 3) := by decide +kernel
theorem dX9_digest_3 : decode cX9_digest 3 = .ok (.lstore_n 1, 1) := by decide +kernel
theorem dX9_digest_4 : decode cX9_digest 4 = .ok (.iconst 0, 1) := by decide +kernel
theorem dX9_digest_5 : decode cX9_digest 5 = .ok (.istore_n 3, 1) := by decide +kernel
theorem dX9_digest_6 : decode cX9_digest 6 = .ok (.iload_n 3, 1) := by decide +kernel
theorem dX9_digest_7 : decode cX9_digest 7 = .ok (.bipush 8, 2) := by decide +kernel
theorem dX9_digest_9 : decode cX9_digest 9 = .ok (.if_icmp .ge 22, 3) := by decide +kernel
theorem dX9_digest_12 : decode cX9_digest 12 = .ok (.ldc2_w 245, 3) := by decide +kernel
theorem dX9_digest_15 : decode cX9_digest 15 = .ok (.lload_n 1, 1) := by decide +kernel
theorem dX9_digest_16 : decode cX9_digest 16 = .ok (.lmul, 1) := by decide +kernel
theorem dX9_digest_17 : decode cX9_digest 17 = .ok (.aload_n 0, 1) := by decide +kernel
theorem dX9_digest_18 : decode cX9_digest 18 = .ok (.iload_n 3, 1) := by decide +kernel
theorem dX9_digest_19 : decode cX9_digest 19 = .ok (.invokevirtual 249, 3) := by decide +kernel
theorem dX9_digest_22 : decode cX9_digest 22 = .ok (.i2l, 1) := by decide +kernel
theorem dX9_digest_23 : decode cX9_digest 23 = .ok (.ladd, 1) := by decide +kernel
theorem dX9_digest_24 : decode cX9_digest 24 = .ok (.lstore_n 1, 1) := by decide +kernel
theorem dX9_digest_25 : decode cX9_digest 25 = .ok (.iinc 3 1, 3) := by decide +kernel
theorem dX9_digest_28 : decode cX9_digest 28 = .ok (.goto (-22), 3) := by decide +kernel
theorem dX9_digest_31 : decode cX9_digest 31 = .ok (.ldc2_w 245, 3) := by decide +kernel
theorem dX9_digest_34 : decode cX9_digest 34 = .ok (.lload_n 1, 1) := by decide +kernel
theorem dX9_digest_35 : decode cX9_digest 35 = .ok (.lmul, 1) := by decide +kernel
theorem dX9_digest_36 : decode cX9_digest 36 = .ok (.aload_n 0, 1) := by decide +kernel
theorem dX9_digest_37 : decode cX9_digest 37 = .ok (.iconst 0, 1) := by decide +kernel
theorem dX9_digest_38 : decode cX9_digest 38 = .ok (.invokevirtual 78, 3) := by decide +kernel
theorem dX9_digest_41 : decode cX9_digest 41 = .ok (.i2l, 1) := by decide +kernel
theorem dX9_digest_42 : decode cX9_digest 42 = .ok (.ladd, 1) := by decide +kernel
theorem dX9_digest_43 : decode cX9_digest 43 = .ok (.lstore_n 1, 1) := by decide +kernel
theorem dX9_digest_44 : decode cX9_digest 44 = .ok (.ldc2_w 245, 3) := by decide +kernel
theorem dX9_digest_47 : decode cX9_digest 47 = .ok (.lload_n 1, 1) := by decide +kernel
theorem dX9_digest_48 : decode cX9_digest 48 = .ok (.lmul, 1) := by decide +kernel
theorem dX9_digest_49 : decode cX9_digest 49 = .ok (.aload_n 0, 1) := by decide +kernel
theorem dX9_digest_50 : decode cX9_digest 50 = .ok (.iconst 1, 1) := by decide +kernel
theorem dX9_digest_51 : decode cX9_digest 51 = .ok (.invokevirtual 78, 3) := by decide +kernel
theorem dX9_digest_54 : decode cX9_digest 54 = .ok (.i2l, 1) := by decide +kernel
theorem dX9_digest_55 : decode cX9_digest 55 = .ok (.ladd, 1) := by decide +kernel
theorem dX9_digest_56 : decode cX9_digest 56 = .ok (.lstore_n 1, 1) := by decide +kernel
theorem dX9_digest_57 : decode cX9_digest 57 = .ok (.iconst 0, 1) := by decide +kernel
theorem dX9_digest_58 : decode cX9_digest 58 = .ok (.istore_n 3, 1) := by decide +kernel
theorem dX9_digest_59 : decode cX9_digest 59 = .ok (.iload_n 3, 1) := by decide +kernel
theorem dX9_digest_60 : decode cX9_digest 60 = .ok (.aload_n 0, 1) := by decide +kernel
theorem dX9_digest_61 : decode cX9_digest 61 = .ok (.getfield 63, 3) := by decide +kernel
theorem dX9_digest_64 : decode cX9_digest 64 = .ok (.if_icmp .ge 65, 3) := by decide +kernel
theorem dX9_digest_67 : decode cX9_digest 67 = .ok (.ldc2_w 245, 3) := by decide +kernel
theorem dX9_digest_70 : decode cX9_digest 70 = .ok (.lload_n 1, 1) := by decide +kernel
theorem dX9_digest_71 : decode cX9_digest 71 = .ok (.lmul, 1) := by decide +kernel
theorem dX9_digest_72 : decode cX9_digest 72 = .ok (.aload_n 0, 1) := by decide +kernel
theorem dX9_digest_73 : decode cX9_digest 73 = .ok (.getfield 16, 3) := by decide +kernel
theorem dX9_digest_76 : decode cX9_digest 76 = .ok (.iload_n 3, 1) := by decide +kernel
theorem dX9_digest_77 : decode cX9_digest 77 = .ok (.iaload, 1) := by decide +kernel
theorem dX9_digest_78 : decode cX9_digest 78 = .ok (.i2l, 1) := by decide +kernel
theorem dX9_digest_79 : decode cX9_digest 79 = .ok (.ladd, 1) := by decide +kernel
theorem dX9_digest_80 : decode cX9_digest 80 = .ok (.lstore_n 1, 1) := by decide +kernel
theorem dX9_digest_81 : decode cX9_digest 81 = .ok (.ldc2_w 245, 3) := by decide +kernel
theorem dX9_digest_84 : decode cX9_digest 84 = .ok (.lload_n 1, 1) := by decide +kernel
theorem dX9_digest_85 : decode cX9_digest 85 = .ok (.lmul, 1) := by decide +kernel
theorem dX9_digest_86 : decode cX9_digest 86 = .ok (.aload_n 0, 1) := by decide +kernel
theorem dX9_digest_87 : decode cX9_digest 87 = .ok (.getfield 19, 3) := by decide +kernel
theorem dX9_digest_90 : decode cX9_digest 90 = .ok (.iload_n 3, 1) := by decide +kernel
theorem dX9_digest_91 : decode cX9_digest 91 = .ok (.iaload, 1) := by decide +kernel
theorem dX9_digest_92 : decode cX9_digest 92 = .ok (.i2l, 1) := by decide +kernel
theorem dX9_digest_93 : decode cX9_digest 93 = .ok (.ladd, 1) := by decide +kernel
theorem dX9_digest_94 : decode cX9_digest 94 = .ok (.lstore_n 1, 1) := by decide +kernel
theorem dX9_digest_95 : decode cX9_digest 95 = .ok (.ldc2_w 245, 3) := by decide +kernel
theorem dX9_digest_98 : decode cX9_digest 98 = .ok (.lload_n 1, 1) := by decide +kernel
theorem dX9_digest_99 : decode cX9_digest 99 = .ok (.lmul, 1) := by decide +kernel
theorem dX9_digest_100 : decode cX9_digest 100 = .ok (.aload_n 0, 1) := by decide +kernel
theorem dX9_digest_101 : decode cX9_digest 101 = .ok (.iload_n 3, 1) := by decide +kernel
theorem dX9_digest_102 : decode cX9_digest 102 = .ok (.iconst (-1), 1) := by decide +kernel
theorem dX9_digest_103 : decode cX9_digest 103 = .ok (.invokevirtual 218, 3) := by decide +kernel
theorem dX9_digest_106 : decode cX9_digest 106 = .ok (.i2l, 1) := by decide +kernel
theorem dX9_digest_107 : decode cX9_digest 107 = .ok (.ladd, 1) := by decide +kernel
theorem dX9_digest_108 : decode cX9_digest 108 = .ok (.lstore_n 1, 1) := by decide +kernel
theorem dX9_digest_109 : decode cX9_digest 109 = .ok (.ldc2_w 245, 3) := by decide +kernel
theorem dX9_digest_112 : decode cX9_digest 112 = .ok (.lload_n 1, 1) := by decide +kernel
theorem dX9_digest_113 : decode cX9_digest 113 = .ok (.lmul, 1) := by decide +kernel
theorem dX9_digest_114 : decode cX9_digest 114 = .ok (.aload_n 0, 1) := by decide +kernel
theorem dX9_digest_115 : decode cX9_digest 115 = .ok (.iload_n 3, 1) := by decide +kernel
theorem dX9_digest_116 : decode cX9_digest 116 = .ok (.iconst 0, 1) := by decide +kernel
theorem dX9_digest_117 : decode cX9_digest 117 = .ok (.invokevirtual 218, 3) := by decide +kernel
theorem dX9_digest_120 : decode cX9_digest 120 = .ok (.i2l, 1) := by decide +kernel
theorem dX9_digest_121 : decode cX9_digest 121 = .ok (.ladd, 1) := by decide +kernel
theorem dX9_digest_122 : decode cX9_digest 122 = .ok (.lstore_n 1, 1) := by decide +kernel
theorem dX9_digest_123 : decode cX9_digest 123 = .ok (.iinc 3 1, 3) := by decide +kernel
theorem dX9_digest_126 : decode cX9_digest 126 = .ok (.goto (-67), 3) := by decide +kernel
theorem dX9_digest_129 : decode cX9_digest 129 = .ok (.ldc2_w 245, 3) := by decide +kernel
theorem dX9_digest_132 : decode cX9_digest 132 = .ok (.lload_n 1, 1) := by decide +kernel
theorem dX9_digest_133 : decode cX9_digest 133 = .ok (.lmul, 1) := by decide +kernel
theorem dX9_digest_134 : decode cX9_digest 134 = .ok (.aload_n 0, 1) := by decide +kernel
theorem dX9_digest_135 : decode cX9_digest 135 = .ok (.iconst 0, 1) := by decide +kernel
theorem dX9_digest_136 : decode cX9_digest 136 = .ok (.invokevirtual 87, 3) := by decide +kernel
theorem dX9_digest_139 : decode cX9_digest 139 = .ok (.i2l, 1) := by decide +kernel
theorem dX9_digest_140 : decode cX9_digest 140 = .ok (.ladd, 1) := by decide +kernel
theorem dX9_digest_141 : decode cX9_digest 141 = .ok (.lstore_n 1, 1) := by decide +kernel
theorem dX9_digest_142 : decode cX9_digest 142 = .ok (.ldc2_w 245, 3) := by decide +kernel
theorem dX9_digest_145 : decode cX9_digest 145 = .ok (.lload_n 1, 1) := by decide +kernel
theorem dX9_digest_146 : decode cX9_digest 146 = .ok (.lmul, 1) := by decide +kernel
theorem dX9_digest_147 : decode cX9_digest 147 = .ok (.aload_n 0, 1) := by decide +kernel
theorem dX9_digest_148 : decode cX9_digest 148 = .ok (.iconst 1, 1) := by decide +kernel
theorem dX9_digest_149 : decode cX9_digest 149 = .ok (.invokevirtual 87, 3) := by decide +kernel
theorem dX9_digest_152 : decode cX9_digest 152 = .ok (.i2l, 1) := by decide +kernel
theorem dX9_digest_153 : decode cX9_digest 153 = .ok (.ladd, 1) := by decide +kernel
theorem dX9_digest_154 : decode cX9_digest 154 = .ok (.lstore_n 1, 1) := by decide +kernel
theorem dX9_digest_155 : decode cX9_digest 155 = .ok (.aload_n 0, 1) := by decide +kernel
theorem dX9_digest_156 : decode cX9_digest 156 = .ok (.lload_n 1, 1) := by decide +kernel
theorem dX9_digest_157 : decode cX9_digest 157 = .ok (.iconst 0, 1) := by decide +kernel
theorem dX9_digest_158 : decode cX9_digest 158 = .ok (.invokevirtual 252, 3) := by decide +kernel
theorem dX9_digest_161 : decode cX9_digest 161 = .ok (.lstore_n 1, 1) := by decide +kernel
theorem dX9_digest_162 : decode cX9_digest 162 = .ok (.aload_n 0, 1) := by decide +kernel
theorem dX9_digest_163 : decode cX9_digest 163 = .ok (.lload_n 1, 1) := by decide +kernel
theorem dX9_digest_164 : decode cX9_digest 164 = .ok (.iconst 1, 1) := by decide +kernel
theorem dX9_digest_165 : decode cX9_digest 165 = .ok (.invokevirtual 252, 3) := by decide +kernel
theorem dX9_digest_168 : decode cX9_digest 168 = .ok (.lstore_n 1, 1) := by decide +kernel
theorem dX9_digest_169 : decode cX9_digest 169 = .ok (.aload_n 0, 1) := by decide +kernel
theorem dX9_digest_170 : decode cX9_digest 170 = .ok (.lload_n 1, 1) := by decide +kernel
theorem dX9_digest_171 : decode cX9_digest 171 = .ok (.bipush 37, 2) := by decide +kernel
theorem dX9_digest_173 : decode cX9_digest 173 = .ok (.invokevirtual 252, 3) := by decide +kernel
theorem dX9_digest_176 : decode cX9_digest 176 = .ok (.lstore_n 1, 1) := by decide +kernel
theorem dX9_digest_177 : decode cX9_digest 177 = .ok (.aload_n 0, 1) := by decide +kernel
theorem dX9_digest_178 : decode cX9_digest 178 = .ok (.lload_n 1, 1) := by decide +kernel
theorem dX9_digest_179 : decode cX9_digest 179 = .ok (.sipush 200, 3) := by decide +kernel
theorem dX9_digest_182 : decode cX9_digest 182 = .ok (.invokevirtual 252, 3) := by decide +kernel
theorem dX9_digest_185 : decode cX9_digest 185 = .ok (.lstore_n 1, 1) := by decide +kernel
theorem dX9_digest_186 : decode cX9_digest 186 = .ok (.aload_n 0, 1) := by decide +kernel
theorem dX9_digest_187 : decode cX9_digest 187 = .ok (.lload_n 1, 1) := by decide +kernel
theorem dX9_digest_188 : decode cX9_digest 188 = .ok (.sipush 399, 3) := by decide +kernel
theorem dX9_digest_191 : decode cX9_digest 191 = .ok (.invokevirtual 252, 3) := by decide +kernel
theorem dX9_digest_194 : decode cX9_digest 194 = .ok (.lstore_n 1, 1) := by decide +kernel
theorem dX9_digest_195 : decode cX9_digest 195 = .ok (.ldc2_w 245, 3) := by decide +kernel
theorem dX9_digest_198 : decode cX9_digest 198 = .ok (.lload_n 1, 1) := by decide +kernel
theorem dX9_digest_199 : decode cX9_digest 199 = .ok (.lmul, 1) := by decide +kernel
theorem dX9_digest_200 : decode cX9_digest 200 = .ok (.aload_n 0, 1) := by decide +kernel
theorem dX9_digest_201 : decode cX9_digest 201 = .ok (.invokevirtual 199, 3) := by decide +kernel
theorem dX9_digest_204 : decode cX9_digest 204 = .ok (.i2l, 1) := by decide +kernel
theorem dX9_digest_205 : decode cX9_digest 205 = .ok (.ladd, 1) := by decide +kernel
theorem dX9_digest_206 : decode cX9_digest 206 = .ok (.lstore_n 1, 1) := by decide +kernel
theorem dX9_digest_207 : decode cX9_digest 207 = .ok (.ldc2_w 245, 3) := by decide +kernel
theorem dX9_digest_210 : decode cX9_digest 210 = .ok (.lload_n 1, 1) := by decide +kernel
theorem dX9_digest_211 : decode cX9_digest 211 = .ok (.lmul, 1) := by decide +kernel
theorem dX9_digest_212 : decode cX9_digest 212 = .ok (.aload_n 0, 1) := by decide +kernel
theorem dX9_digest_213 : decode cX9_digest 213 = .ok (.bipush 7, 2) := by decide +kernel
theorem dX9_digest_215 : decode cX9_digest 215 = .ok (.iconst 5, 1) := by decide +kernel
theorem dX9_digest_216 : decode cX9_digest 216 = .ok (.invokevirtual 228, 3) := by decide +kernel
theorem dX9_digest_219 : decode cX9_digest 219 = .ok (.i2l, 1) := by decide +kernel
theorem dX9_digest_220 : decode cX9_digest 220 = .ok (.ladd, 1) := by decide +kernel
theorem dX9_digest_221 : decode cX9_digest 221 = .ok (.lreturn, 1) := by decide +kernel
end
section
theorem dL_law_0 : decode cL_law 0 = .ok (.new 7, 3) := by decide +kernel
theorem dL_law_3 : decode cL_law 3 = .ok (.dup, 1) := by decide +kernel
theorem dL_law_4 : decode cL_law 4 = .ok (.invokespecial 9, 3) := by decide +kernel
theorem dL_law_7 : decode cL_law 7 = .ok (.astore_n 1, 1) := by decide +kernel
theorem dL_law_8 : decode cL_law 8 = .ok (.new 10, 3) := by decide +kernel
theorem dL_law_11 : decode cL_law 11 = .ok (.dup, 1) := by decide +kernel
theorem dL_law_12 : decode cL_law 12 = .ok (.invokespecial 12, 3) := by decide +kernel
theorem dL_law_15 : decode cL_law 15 = .ok (.astore_n 2, 1) := by decide +kernel
theorem dL_law_16 : decode cL_law 16 = .ok (.iconst 0, 1) := by decide +kernel
theorem dL_law_17 : decode cL_law 17 = .ok (.istore_n 3, 1) := by decide +kernel
theorem dL_law_18 : decode cL_law 18 = .ok (.iload_n 3, 1) := by decide +kernel
theorem dL_law_19 : decode cL_law 19 = .ok (.aload_n 0, 1) := by decide +kernel
theorem dL_law_20 : decode cL_law 20 = .ok (.arraylength, 1) := by decide +kernel
theorem dL_law_21 : decode cL_law 21 = .ok (.bipush 6, 2) := by decide +kernel
theorem dL_law_23 : decode cL_law 23 = .ok (.isub, 1) := by decide +kernel
theorem dL_law_24 : decode cL_law 24 = .ok (.if_icmp .gt 1318, 3) := by decide +kernel
theorem dL_law_27 : decode cL_law 27 = .ok (.aload_n 0, 1) := by decide +kernel
theorem dL_law_28 : decode cL_law 28 = .ok (.iload_n 3, 1) := by decide +kernel
theorem dL_law_29 : decode cL_law 29 = .ok (.iaload, 1) := by decide +kernel
theorem dL_law_30 : decode cL_law 30 = .ok (.bipush 63, 2) := by decide +kernel
theorem dL_law_32 : decode cL_law 32 = .ok (.iand, 1) := by decide +kernel
theorem dL_law_33 : decode cL_law 33 = .ok (.tableswitch 1303 0 37 #[167, 200, 223, 246, 269, 302, 325, 358, 391, 424, 447, 470, 493, 526, 549, 592, 615, 638, 661, 684, 718, 751, 784, 827, 840, 873, 906, 919, 942, 975, 1008, 1051, 1074, 1127, 1170, 1233, 1266, 1289], 167) := by decide +kernel
theorem dL_law_200 : decode cL_law 200 = .ok (.aload_n 1, 1) := by decide +kernel
theorem dL_law_201 : decode cL_law 201 = .ok (.aload_n 0, 1) := by decide +kernel
theorem dL_law_202 : decode cL_law 202 = .ok (.iload_n 3, 1) := by decide +kernel
theorem dL_law_203 : decode cL_law 203 = .ok (.iconst 1, 1) := by decide +kernel
theorem dL_law_204 : decode cL_law 204 = .ok (.iadd, 1) := by decide +kernel
theorem dL_law_205 : decode cL_law 205 = .ok (.iaload, 1) := by decide +kernel
theorem dL_law_206 : decode cL_law 206 = .ok (.aload_n 0, 1) := by decide +kernel
theorem dL_law_207 : decode cL_law 207 = .ok (.iload_n 3, 1) := by decide +kernel
theorem dL_law_208 : decode cL_law 208 = .ok (.iconst 2, 1) := by decide +kernel
theorem dL_law_209 : decode cL_law 209 = .ok (.iadd, 1) := by decide +kernel
theorem dL_law_210 : decode cL_law 210 = .ok (.iaload, 1) := by decide +kernel
theorem dL_law_211 : decode cL_law 211 = .ok (.invokevirtual 13, 3) := by decide +kernel
theorem dL_law_214 : decode cL_law 214 = .ok (.aload_n 2, 1) := by decide +kernel
theorem dL_law_215 : decode cL_law 215 = .ok (.aload_n 0, 1) := by decide +kernel
theorem dL_law_216 : decode cL_law 216 = .ok (.iload_n 3, 1) := by decide +kernel
theorem dL_law_217 : decode cL_law 217 = .ok (.iconst 1, 1) := by decide +kernel
theorem dL_law_218 : decode cL_law 218 = .ok (.iadd, 1) := by decide +kernel
theorem dL_law_219 : decode cL_law 219 = .ok (.iaload, 1) := by decide +kernel
theorem dL_law_220 : decode cL_law 220 = .ok (.aload_n 0, 1) := by decide +kernel
theorem dL_law_221 : decode cL_law 221 = .ok (.iload_n 3, 1) := by decide +kernel
theorem dL_law_222 : decode cL_law 222 = .ok (.iconst 2, 1) := by decide +kernel
theorem dL_law_223 : decode cL_law 223 = .ok (.iadd, 1) := by decide +kernel
theorem dL_law_224 : decode cL_law 224 = .ok (.iaload, 1) := by decide +kernel
theorem dL_law_225 : decode cL_law 225 = .ok (.invokevirtual 17, 3) := by decide +kernel
theorem dL_law_228 : decode cL_law 228 = .ok (.if_icmp .eq 1108, 3) := by decide +kernel
theorem dL_law_231 : decode cL_law 231 = .ok (.iconst 0, 1) := by decide +kernel
theorem dL_law_232 : decode cL_law 232 = .ok (.ireturn, 1) := by decide +kernel
theorem dL_law_233 : decode cL_law 233 = .ok (.aload_n 1, 1) := by decide +kernel
theorem dL_law_234 : decode cL_law 234 = .ok (.aload_n 0, 1) := by decide +kernel
theorem dL_law_235 : decode cL_law 235 = .ok (.iload_n 3, 1) := by decide +kernel
theorem dL_law_236 : decode cL_law 236 = .ok (.iconst 1, 1) := by decide +kernel
theorem dL_law_237 : decode cL_law 237 = .ok (.iadd, 1) := by decide +kernel
theorem dL_law_238 : decode cL_law 238 = .ok (.iaload, 1) := by decide +kernel
theorem dL_law_239 : decode cL_law 239 = .ok (.invokevirtual 18, 3) := by decide +kernel
theorem dL_law_242 : decode cL_law 242 = .ok (.aload_n 2, 1) := by decide +kernel
theorem dL_law_243 : decode cL_law 243 = .ok (.aload_n 0, 1) := by decide +kernel
theorem dL_law_244 : decode cL_law 244 = .ok (.iload_n 3, 1) := by decide +kernel
theorem dL_law_245 : decode cL_law 245 = .ok (.iconst 1, 1) := by decide +kernel
theorem dL_law_246 : decode cL_law 246 = .ok (.iadd, 1) := by decide +kernel
theorem dL_law_247 : decode cL_law 247 = .ok (.iaload, 1) := by decide +kernel
theorem dL_law_248 : decode cL_law 248 = .ok (.invokevirtual 22, 3) := by decide +kernel
theorem dL_law_251 : decode cL_law 251 = .ok (.if_icmp .eq 1085, 3) := by decide +kernel
theorem dL_law_254 : decode cL_law 254 = .ok (.iconst 0, 1) := by decide +kernel
theorem dL_law_255 : decode cL_law 255 = .ok (.ireturn, 1) := by decide +kernel
theorem dL_law_256 : decode cL_law 256 = .ok (.aload_n 1, 1) := by decide +kernel
theorem dL_law_257 : decode cL_law 257 = .ok (.aload_n 0, 1) := by decide +kernel
theorem dL_law_258 : decode cL_law 258 = .ok (.iload_n 3, 1) := by decide +kernel
theorem dL_law_259 : decode cL_law 259 = .ok (.iconst 1, 1) := by decide +kernel
theorem dL_law_260 : decode cL_law 260 = .ok (.iadd, 1) := by decide +kernel
theorem dL_law_261 : decode cL_law 261 = .ok (.iaload, 1) := by decide +kernel
theorem dL_law_262 : decode cL_law 262 = .ok (.invokevirtual 23, 3) := by decide +kernel
theorem dL_law_265 : decode cL_law 265 = .ok (.aload_n 2, 1) := by decide +kernel
theorem dL_law_266 : decode cL_law 266 = .ok (.aload_n 0, 1) := by decide +kernel
theorem dL_law_267 : decode cL_law 267 = .ok (.iload_n 3, 1) := by decide +kernel
theorem dL_law_268 : decode cL_law 268 = .ok (.iconst 1, 1) := by decide +kernel
theorem dL_law_269 : decode cL_law 269 = .ok (.iadd, 1) := by decide +kernel
theorem dL_law_270 : decode cL_law 270 = .ok (.iaload, 1) := by decide +kernel
theorem dL_law_271 : decode cL_law 271 = .ok (.invokevirtual 26, 3) := by decide +kernel
theorem dL_law_274 : decode cL_law 274 = .ok (.if_icmp .eq 1062, 3) := by decide +kernel
theorem dL_law_277 : decode cL_law 277 = .ok (.iconst 0, 1) := by decide +kernel
theorem dL_law_278 : decode cL_law 278 = .ok (.ireturn, 1) := by decide +kernel
theorem dL_law_279 : decode cL_law 279 = .ok (.aload_n 1, 1) := by decide +kernel
theorem dL_law_280 : decode cL_law 280 = .ok (.aload_n 0, 1) := by decide +kernel
theorem dL_law_281 : decode cL_law 281 = .ok (.iload_n 3, 1) := by decide +kernel
theorem dL_law_282 : decode cL_law 282 = .ok (.iconst 1, 1) := by decide +kernel
theorem dL_law_283 : decode cL_law 283 = .ok (.iadd, 1) := by decide +kernel
theorem dL_law_284 : decode cL_law 284 = .ok (.iaload, 1) := by decide +kernel
theorem dL_law_285 : decode cL_law 285 = .ok (.invokevirtual 27, 3) := by decide +kernel
theorem dL_law_288 : decode cL_law 288 = .ok (.aload_n 2, 1) := by decide +kernel
theorem dL_law_289 : decode cL_law 289 = .ok (.aload_n 0, 1) := by decide +kernel
theorem dL_law_290 : decode cL_law 290 = .ok (.iload_n 3, 1) := by decide +kernel
theorem dL_law_291 : decode cL_law 291 = .ok (.iconst 1, 1) := by decide +kernel
theorem dL_law_292 : decode cL_law 292 = .ok (.iadd, 1) := by decide +kernel
theorem dL_law_293 : decode cL_law 293 = .ok (.iaload, 1) := by decide +kernel
theorem dL_law_294 : decode cL_law 294 = .ok (.invokevirtual 30, 3) := by decide +kernel
theorem dL_law_297 : decode cL_law 297 = .ok (.if_icmp .eq 1039, 3) := by decide +kernel
theorem dL_law_300 : decode cL_law 300 = .ok (.iconst 0, 1) := by decide +kernel
theorem dL_law_301 : decode cL_law 301 = .ok (.ireturn, 1) := by decide +kernel
theorem dL_law_302 : decode cL_law 302 = .ok (.aload_n 1, 1) := by decide +kernel
theorem dL_law_303 : decode cL_law 303 = .ok (.aload_n 0, 1) := by decide +kernel
theorem dL_law_304 : decode cL_law 304 = .ok (.iload_n 3, 1) := by decide +kernel
theorem dL_law_305 : decode cL_law 305 = .ok (.iconst 1, 1) := by decide +kernel
theorem dL_law_306 : decode cL_law 306 = .ok (.iadd, 1) := by decide +kernel
theorem dL_law_307 : decode cL_law 307 = .ok (.iaload, 1) := by decide +kernel
theorem dL_law_308 : decode cL_law 308 = .ok (.aload_n 0, 1) := by decide +kernel
theorem dL_law_309 : decode cL_law 309 = .ok (.iload_n 3, 1) := by decide +kernel
theorem dL_law_310 : decode cL_law 310 = .ok (.iconst 2, 1) := by decide +kernel
theorem dL_law_311 : decode cL_law 311 = .ok (.iadd, 1) := by decide +kernel
theorem dL_law_312 : decode cL_law 312 = .ok (.iaload, 1) := by decide +kernel
theorem dL_law_313 : decode cL_law 313 = .ok (.invokevirtual 31, 3) := by decide +kernel
theorem dL_law_316 : decode cL_law 316 = .ok (.aload_n 2, 1) := by decide +kernel
theorem dL_law_317 : decode cL_law 317 = .ok (.aload_n 0, 1) := by decide +kernel
theorem dL_law_318 : decode cL_law 318 = .ok (.iload_n 3, 1) := by decide +kernel
theorem dL_law_319 : decode cL_law 319 = .ok (.iconst 1, 1) := by decide +kernel
theorem dL_law_320 : decode cL_law 320 = .ok (.iadd, 1) := by decide +kernel
theorem dL_law_321 : decode cL_law 321 = .ok (.iaload, 1) := by decide +kernel
theorem dL_law_322 : decode cL_law 322 = .ok (.aload_n 0, 1) := by decide +kernel
theorem dL_law_323 : decode cL_law 323 = .ok (.iload_n 3, 1) := by decide +kernel
theorem dL_law_324 : decode cL_law 324 = .ok (.iconst 2, 1) := by decide +kernel
theorem dL_law_325 : decode cL_law 325 = .ok (.iadd, 1) := by decide +kernel
theorem dL_law_326 : decode cL_law 326 = .ok (.iaload, 1) := by decide +kernel
theorem dL_law_327 : decode cL_law 327 = .ok (.invokevirtual 34, 3) := by decide +kernel
theorem dL_law_330 : decode cL_law 330 = .ok (.if_icmp .eq 1006, 3) := by decide +kernel
theorem dL_law_333 : decode cL_law 333 = .ok (.iconst 0, 1) := by decide +kernel
theorem dL_law_334 : decode cL_law 334 = .ok (.ireturn, 1) := by decide +kernel
theorem dL_law_335 : decode cL_law 335 = .ok (.aload_n 1, 1) := by decide +kernel
theorem dL_law_336 : decode cL_law 336 = .ok (.aload_n 0, 1) := by decide +kernel
theorem dL_law_337 : decode cL_law 337 = .ok (.iload_n 3, 1) := by decide +kernel
theorem dL_law_338 : decode cL_law 338 = .ok (.iconst 1, 1) := by decide +kernel
theorem dL_law_339 : decode cL_law 339 = .ok (.iadd, 1) := by decide +kernel
theorem dL_law_340 : decode cL_law 340 = .ok (.iaload, 1) := by decide +kernel
theorem dL_law_341 : decode cL_law 341 = .ok (.invokevirtual 35, 3) := by decide +kernel
theorem dL_law_344 : decode cL_law 344 = .ok (.aload_n 2, 1) := by decide +kernel
theorem dL_law_345 : decode cL_law 345 = .ok (.aload_n 0, 1) := by decide +kernel
theorem dL_law_346 : decode cL_law 346 = .ok (.iload_n 3, 1) := by decide +kernel
theorem dL_law_347 : decode cL_law 347 = .ok (.iconst 1, 1) := by decide +kernel
theorem dL_law_348 : decode cL_law 348 = .ok (.iadd, 1) := by decide +kernel
theorem dL_law_349 : decode cL_law 349 = .ok (.iaload, 1) := by decide +kernel
theorem dL_law_350 : decode cL_law 350 = .ok (.invokevirtual 38, 3) := by decide +kernel
theorem dL_law_353 : decode cL_law 353 = .ok (.if_icmp .eq 983, 3) := by decide +kernel
theorem dL_law_356 : decode cL_law 356 = .ok (.iconst 0, 1) := by decide +kernel
theorem dL_law_357 : decode cL_law 357 = .ok (.ireturn, 1) := by decide +kernel
theorem dL_law_358 : decode cL_law 358 = .ok (.aload_n 1, 1) := by decide +kernel
theorem dL_law_359 : decode cL_law 359 = .ok (.aload_n 0, 1) := by decide +kernel
theorem dL_law_360 : decode cL_law 360 = .ok (.iload_n 3, 1) := by decide +kernel
theorem dL_law_361 : decode cL_law 361 = .ok (.iconst 1, 1) := by decide +kernel
theorem dL_law_362 : decode cL_law 362 = .ok (.iadd, 1) := by decide +kernel
theorem dL_law_363 : decode cL_law 363 = .ok (.iaload, 1) := by decide +kernel
theorem dL_law_364 : decode cL_law 364 = .ok (.aload_n 0, 1) := by decide +kernel
theorem dL_law_365 : decode cL_law 365 = .ok (.iload_n 3, 1) := by decide +kernel
theorem dL_law_366 : decode cL_law 366 = .ok (.iconst 2, 1) := by decide +kernel
theorem dL_law_367 : decode cL_law 367 = .ok (.iadd, 1) := by decide +kernel
theorem dL_law_368 : decode cL_law 368 = .ok (.iaload, 1) := by decide +kernel
theorem dL_law_369 : decode cL_law 369 = .ok (.invokevirtual 39, 3) := by decide +kernel
theorem dL_law_372 : decode cL_law 372 = .ok (.aload_n 2, 1) := by decide +kernel
theorem dL_law_373 : decode cL_law 373 = .ok (.aload_n 0, 1) := by decide +kernel
theorem dL_law_374 : decode cL_law 374 = .ok (.iload_n 3, 1) := by decide +kernel
theorem dL_law_375 : decode cL_law 375 = .ok (.iconst 1, 1) := by decide +kernel
theorem dL_law_376 : decode cL_law 376 = .ok (.iadd, 1) := by decide +kernel
theorem dL_law_377 : decode cL_law 377 = .ok (.iaload, 1) := by decide +kernel
theorem dL_law_378 : decode cL_law 378 = .ok (.aload_n 0, 1) := by decide +kernel
theorem dL_law_379 : decode cL_law 379 = .ok (.iload_n 3, 1) := by decide +kernel
theorem dL_law_380 : decode cL_law 380 = .ok (.iconst 2, 1) := by decide +kernel
theorem dL_law_381 : decode cL_law 381 = .ok (.iadd, 1) := by decide +kernel
theorem dL_law_382 : decode cL_law 382 = .ok (.iaload, 1) := by decide +kernel
theorem dL_law_383 : decode cL_law 383 = .ok (.invokevirtual 42, 3) := by decide +kernel
theorem dL_law_386 : decode cL_law 386 = .ok (.if_icmp .eq 950, 3) := by decide +kernel
theorem dL_law_389 : decode cL_law 389 = .ok (.iconst 0, 1) := by decide +kernel
theorem dL_law_390 : decode cL_law 390 = .ok (.ireturn, 1) := by decide +kernel
theorem dL_law_391 : decode cL_law 391 = .ok (.aload_n 1, 1) := by decide +kernel
theorem dL_law_392 : decode cL_law 392 = .ok (.aload_n 0, 1) := by decide +kernel
theorem dL_law_393 : decode cL_law 393 = .ok (.iload_n 3, 1) := by decide +kernel
theorem dL_law_394 : decode cL_law 394 = .ok (.iconst 1, 1) := by decide +kernel
theorem dL_law_395 : decode cL_law 395 = .ok (.iadd, 1) := by decide +kernel
theorem dL_law_396 : decode cL_law 396 = .ok (.iaload, 1) := by decide +kernel
theorem dL_law_397 : decode cL_law 397 = .ok (.aload_n 0, 1) := by decide +kernel
theorem dL_law_398 : decode cL_law 398 = .ok (.iload_n 3, 1) := by decide +kernel
theorem dL_law_399 : decode cL_law 399 = .ok (.iconst 2, 1) := by decide +kernel
theorem dL_law_400 : decode cL_law 400 = .ok (.iadd, 1) := by decide +kernel
theorem dL_law_401 : decode cL_law 401 = .ok (.iaload, 1) := by decide +kernel
theorem dL_law_402 : decode cL_law 402 = .ok (.invokevirtual 43, 3) := by decide +kernel
theorem dL_law_405 : decode cL_law 405 = .ok (.aload_n 2, 1) := by decide +kernel
theorem dL_law_406 : decode cL_law 406 = .ok (.aload_n 0, 1) := by decide +kernel
theorem dL_law_407 : decode cL_law 407 = .ok (.iload_n 3, 1) := by decide +kernel
theorem dL_law_408 : decode cL_law 408 = .ok (.iconst 1, 1) := by decide +kernel
theorem dL_law_409 : decode cL_law 409 = .ok (.iadd, 1) := by decide +kernel
theorem dL_law_410 : decode cL_law 410 = .ok (.iaload, 1) := by decide +kernel
theorem dL_law_411 : decode cL_law 411 = .ok (.aload_n 0, 1) := by decide +kernel
theorem dL_law_412 : decode cL_law 412 = .ok (.iload_n 3, 1) := by decide +kernel
theorem dL_law_413 : decode cL_law 413 = .ok (.iconst 2, 1) := by decide +kernel
theorem dL_law_414 : decode cL_law 414 = .ok (.iadd, 1) := by decide +kernel
theorem dL_law_415 : decode cL_law 415 = .ok (.iaload, 1) := by decide +kernel
theorem dL_law_416 : decode cL_law 416 = .ok (.invokevirtual 46, 3) := by decide +kernel
theorem dL_law_419 : decode cL_law 419 = .ok (.if_icmp .eq 917, 3) := by decide +kernel
theorem dL_law_422 : decode cL_law 422 = .ok (.iconst 0, 1) := by decide +kernel
theorem dL_law_423 : decode cL_law 423 = .ok (.ireturn, 1) := by decide +kernel
theorem dL_law_424 : decode cL_law 424 = .ok (.aload_n 1, 1) := by decide +kernel
theorem dL_law_425 : decode cL_law 425 = .ok (.aload_n 0, 1) := by decide +kernel
theorem dL_law_426 : decode cL_law 426 = .ok (.iload_n 3, 1) := by decide +kernel
theorem dL_law_427 : decode cL_law 427 = .ok (.iconst 1, 1) := by decide +kernel
theorem dL_law_428 : decode cL_law 428 = .ok (.iadd, 1) := by decide +kernel
theorem dL_law_429 : decode cL_law 429 = .ok (.iaload, 1) := by decide +kernel
theorem dL_law_430 : decode cL_law 430 = .ok (.aload_n 0, 1) := by decide +kernel
theorem dL_law_431 : decode cL_law 431 = .ok (.iload_n 3, 1) := by decide +kernel
theorem dL_law_432 : decode cL_law 432 = .ok (.iconst 2, 1) := by decide +kernel
theorem dL_law_433 : decode cL_law 433 = .ok (.iadd, 1) := by decide +kernel
theorem dL_law_434 : decode cL_law 434 = .ok (.iaload, 1) := by decide +kernel
theorem dL_law_435 : decode cL_law 435 = .ok (.invokevirtual 47, 3) := by decide +kernel
theorem dL_law_438 : decode cL_law 438 = .ok (.aload_n 2, 1) := by decide +kernel
theorem dL_law_439 : decode cL_law 439 = .ok (.aload_n 0, 1) := by decide +kernel
theorem dL_law_440 : decode cL_law 440 = .ok (.iload_n 3, 1) := by decide +kernel
theorem dL_law_441 : decode cL_law 441 = .ok (.iconst 1, 1) := by decide +kernel
theorem dL_law_442 : decode cL_law 442 = .ok (.iadd, 1) := by decide +kernel
theorem dL_law_443 : decode cL_law 443 = .ok (.iaload, 1) := by decide +kernel
theorem dL_law_444 : decode cL_law 444 = .ok (.aload_n 0, 1) := by decide +kernel
theorem dL_law_445 : decode cL_law 445 = .ok (.iload_n 3, 1) := by decide +kernel
theorem dL_law_446 : decode cL_law 446 = .ok (.iconst 2, 1) := by decide +kernel
theorem dL_law_447 : decode cL_law 447 = .ok (.iadd, 1) := by decide +kernel
theorem dL_law_448 : decode cL_law 448 = .ok (.iaload, 1) := by decide +kernel
theorem dL_law_449 : decode cL_law 449 = .ok (.invokevirtual 50, 3) := by decide +kernel
theorem dL_law_452 : decode cL_law 452 = .ok (.if_icmp .eq 884, 3) := by decide +kernel
theorem dL_law_455 : decode cL_law 455 = .ok (.iconst 0, 1) := by decide +kernel
theorem dL_law_456 : decode cL_law 456 = .ok (.ireturn, 1) := by decide +kernel
theorem dL_law_457 : decode cL_law 457 = .ok (.aload_n 1, 1) := by decide +kernel
theorem dL_law_458 : decode cL_law 458 = .ok (.aload_n 0, 1) := by decide +kernel
theorem dL_law_459 : decode cL_law 459 = .ok (.iload_n 3, 1) := by decide +kernel
theorem dL_law_460 : decode cL_law 460 = .ok (.iconst 1, 1) := by decide +kernel
theorem dL_law_461 : decode cL_law 461 = .ok (.iadd, 1) := by decide +kernel
theorem dL_law_462 : decode cL_law 462 = .ok (.iaload, 1) := by decide +kernel
theorem dL_law_463 : decode cL_law 463 = .ok (.invokevirtual 51, 3) := by decide +kernel
theorem dL_law_466 : decode cL_law 466 = .ok (.aload_n 2, 1) := by decide +kernel
theorem dL_law_467 : decode cL_law 467 = .ok (.aload_n 0, 1) := by decide +kernel
theorem dL_law_468 : decode cL_law 468 = .ok (.iload_n 3, 1) := by decide +kernel
theorem dL_law_469 : decode cL_law 469 = .ok (.iconst 1, 1) := by decide +kernel
theorem dL_law_470 : decode cL_law 470 = .ok (.iadd, 1) := by decide +kernel
theorem dL_law_471 : decode cL_law 471 = .ok (.iaload, 1) := by decide +kernel
theorem dL_law_472 : decode cL_law 472 = .ok (.invokevirtual 54, 3) := by decide +kernel
theorem dL_law_475 : decode cL_law 475 = .ok (.if_icmp .eq 861, 3) := by decide +kernel
theorem dL_law_478 : decode cL_law 478 = .ok (.iconst 0, 1) := by decide +kernel
theorem dL_law_479 : decode cL_law 479 = .ok (.ireturn, 1) := by decide +kernel
theorem dL_law_480 : decode cL_law 480 = .ok (.aload_n 1, 1) := by decide +kernel
theorem dL_law_481 : decode cL_law 481 = .ok (.aload_n 0, 1) := by decide +kernel
theorem dL_law_482 : decode cL_law 482 = .ok (.iload_n 3, 1) := by decide +kernel
theorem dL_law_483 : decode cL_law 483 = .ok (.iconst 1, 1) := by decide +kernel
theorem dL_law_484 : decode cL_law 484 = .ok (.iadd, 1) := by decide +kernel
theorem dL_law_485 : decode cL_law 485 = .ok (.iaload, 1) := by decide +kernel
theorem dL_law_486 : decode cL_law 486 = .ok (.invokevirtual 55, 3) := by decide +kernel
theorem dL_law_489 : decode cL_law 489 = .ok (.aload_n 2, 1) := by decide +kernel
theorem dL_law_490 : decode cL_law 490 = .ok (.aload_n 0, 1) := by decide +kernel
theorem dL_law_491 : decode cL_law 491 = .ok (.iload_n 3, 1) := by decide +kernel
theorem dL_law_492 : decode cL_law 492 = .ok (.iconst 1, 1) := by decide +kernel
theorem dL_law_493 : decode cL_law 493 = .ok (.iadd, 1) := by decide +kernel
theorem dL_law_494 : decode cL_law 494 = .ok (.iaload, 1) := by decide +kernel
theorem dL_law_495 : decode cL_law 495 = .ok (.invokevirtual 58, 3) := by decide +kernel
theorem dL_law_498 : decode cL_law 498 = .ok (.if_icmp .eq 838, 3) := by decide +kernel
theorem dL_law_501 : decode cL_law 501 = .ok (.iconst 0, 1) := by decide +kernel
theorem dL_law_502 : decode cL_law 502 = .ok (.ireturn, 1) := by decide +kernel
theorem dL_law_503 : decode cL_law 503 = .ok (.aload_n 1, 1) := by decide +kernel
theorem dL_law_504 : decode cL_law 504 = .ok (.aload_n 0, 1) := by decide +kernel
theorem dL_law_505 : decode cL_law 505 = .ok (.iload_n 3, 1) := by decide +kernel
theorem dL_law_506 : decode cL_law 506 = .ok (.iconst 1, 1) := by decide +kernel
theorem dL_law_507 : decode cL_law 507 = .ok (.iadd, 1) := by decide +kernel
theorem dL_law_508 : decode cL_law 508 = .ok (.iaload, 1) := by decide +kernel
theorem dL_law_509 : decode cL_law 509 = .ok (.invokevirtual 59, 3) := by decide +kernel
theorem dL_law_512 : decode cL_law 512 = .ok (.aload_n 2, 1) := by decide +kernel
theorem dL_law_513 : decode cL_law 513 = .ok (.aload_n 0, 1) := by decide +kernel
theorem dL_law_514 : decode cL_law 514 = .ok (.iload_n 3, 1) := by decide +kernel
theorem dL_law_515 : decode cL_law 515 = .ok (.iconst 1, 1) := by decide +kernel
theorem dL_law_516 : decode cL_law 516 = .ok (.iadd, 1) := by decide +kernel
theorem dL_law_517 : decode cL_law 517 = .ok (.iaload, 1) := by decide +kernel
theorem dL_law_518 : decode cL_law 518 = .ok (.invokevirtual 62, 3) := by decide +kernel
theorem dL_law_521 : decode cL_law 521 = .ok (.if_icmp .eq 815, 3) := by decide +kernel
theorem dL_law_524 : decode cL_law 524 = .ok (.iconst 0, 1) := by decide +kernel
theorem dL_law_525 : decode cL_law 525 = .ok (.ireturn, 1) := by decide +kernel
theorem dL_law_526 : decode cL_law 526 = .ok (.aload_n 1, 1) := by decide +kernel
theorem dL_law_527 : decode cL_law 527 = .ok (.aload_n 0, 1) := by decide +kernel
theorem dL_law_528 : decode cL_law 528 = .ok (.iload_n 3, 1) := by decide +kernel
theorem dL_law_529 : decode cL_law 529 = .ok (.iconst 1, 1) := by decide +kernel
theorem dL_law_530 : decode cL_law 530 = .ok (.iadd, 1) := by decide +kernel
theorem dL_law_531 : decode cL_law 531 = .ok (.iaload, 1) := by decide +kernel
theorem dL_law_532 : decode cL_law 532 = .ok (.aload_n 0, 1) := by decide +kernel
theorem dL_law_533 : decode cL_law 533 = .ok (.iload_n 3, 1) := by decide +kernel
theorem dL_law_534 : decode cL_law 534 = .ok (.iconst 2, 1) := by decide +kernel
theorem dL_law_535 : decode cL_law 535 = .ok (.iadd, 1) := by decide +kernel
theorem dL_law_536 : decode cL_law 536 = .ok (.iaload, 1) := by decide +kernel
theorem dL_law_537 : decode cL_law 537 = .ok (.invokevirtual 63, 3) := by decide +kernel
theorem dL_law_540 : decode cL_law 540 = .ok (.aload_n 2, 1) := by decide +kernel
theorem dL_law_541 : decode cL_law 541 = .ok (.aload_n 0, 1) := by decide +kernel
theorem dL_law_542 : decode cL_law 542 = .ok (.iload_n 3, 1) := by decide +kernel
theorem dL_law_543 : decode cL_law 543 = .ok (.iconst 1, 1) := by decide +kernel
theorem dL_law_544 : decode cL_law 544 = .ok (.iadd, 1) := by decide +kernel
theorem dL_law_545 : decode cL_law 545 = .ok (.iaload, 1) := by decide +kernel
theorem dL_law_546 : decode cL_law 546 = .ok (.aload_n 0, 1) := by decide +kernel
theorem dL_law_547 : decode cL_law 547 = .ok (.iload_n 3, 1) := by decide +kernel
theorem dL_law_548 : decode cL_law 548 = .ok (.iconst 2, 1) := by decide +kernel
theorem dL_law_549 : decode cL_law 549 = .ok (.iadd, 1) := by decide +kernel
theorem dL_law_550 : decode cL_law 550 = .ok (.iaload, 1) := by decide +kernel
theorem dL_law_551 : decode cL_law 551 = .ok (.invokevirtual 66, 3) := by decide +kernel
theorem dL_law_554 : decode cL_law 554 = .ok (.if_icmp .eq 782, 3) := by decide +kernel
theorem dL_law_557 : decode cL_law 557 = .ok (.iconst 0, 1) := by decide +kernel
theorem dL_law_558 : decode cL_law 558 = .ok (.ireturn, 1) := by decide +kernel
theorem dL_law_559 : decode cL_law 559 = .ok (.aload_n 1, 1) := by decide +kernel
theorem dL_law_560 : decode cL_law 560 = .ok (.aload_n 0, 1) := by decide +kernel
theorem dL_law_561 : decode cL_law 561 = .ok (.iload_n 3, 1) := by decide +kernel
theorem dL_law_562 : decode cL_law 562 = .ok (.iconst 1, 1) := by decide +kernel
theorem dL_law_563 : decode cL_law 563 = .ok (.iadd, 1) := by decide +kernel
theorem dL_law_564 : decode cL_law 564 = .ok (.iaload, 1) := by decide +kernel
theorem dL_law_565 : decode cL_law 565 = .ok (.invokevirtual 67, 3) := by decide +kernel
theorem dL_law_568 : decode cL_law 568 = .ok (.aload_n 2, 1) := by decide +kernel
theorem dL_law_569 : decode cL_law 569 = .ok (.aload_n 0, 1) := by decide +kernel
theorem dL_law_570 : decode cL_law 570 = .ok (.iload_n 3, 1) := by decide +kernel
theorem dL_law_571 : decode cL_law 571 = .ok (.iconst 1, 1) := by decide +kernel
theorem dL_law_572 : decode cL_law 572 = .ok (.iadd, 1) := by decide +kernel
theorem dL_law_573 : decode cL_law 573 = .ok (.iaload, 1) := by decide +kernel
theorem dL_law_574 : decode cL_law 574 = .ok (.invokevirtual 70, 3) := by decide +kernel
theorem dL_law_577 : decode cL_law 577 = .ok (.if_icmp .eq 759, 3) := by decide +kernel
theorem dL_law_580 : decode cL_law 580 = .ok (.iconst 0, 1) := by decide +kernel
theorem dL_law_581 : decode cL_law 581 = .ok (.ireturn, 1) := by decide +kernel
theorem dL_law_582 : decode cL_law 582 = .ok (.aload_n 1, 1) := by decide +kernel
theorem dL_law_583 : decode cL_law 583 = .ok (.aload_n 0, 1) := by decide +kernel
theorem dL_law_584 : decode cL_law 584 = .ok (.iload_n 3, 1) := by decide +kernel
theorem dL_law_585 : decode cL_law 585 = .ok (.iconst 1, 1) := by decide +kernel
theorem dL_law_586 : decode cL_law 586 = .ok (.iadd, 1) := by decide +kernel
theorem dL_law_587 : decode cL_law 587 = .ok (.iaload, 1) := by decide +kernel
theorem dL_law_588 : decode cL_law 588 = .ok (.aload_n 0, 1) := by decide +kernel
theorem dL_law_589 : decode cL_law 589 = .ok (.iload_n 3, 1) := by decide +kernel
theorem dL_law_590 : decode cL_law 590 = .ok (.iconst 2, 1) := by decide +kernel
theorem dL_law_591 : decode cL_law 591 = .ok (.iadd, 1) := by decide +kernel
theorem dL_law_592 : decode cL_law 592 = .ok (.iaload, 1) := by decide +kernel
theorem dL_law_593 : decode cL_law 593 = .ok (.aload_n 0, 1) := by decide +kernel
theorem dL_law_594 : decode cL_law 594 = .ok (.iload_n 3, 1) := by decide +kernel
theorem dL_law_595 : decode cL_law 595 = .ok (.iconst 3, 1) := by decide +kernel
theorem dL_law_596 : decode cL_law 596 = .ok (.iadd, 1) := by decide +kernel
theorem dL_law_597 : decode cL_law 597 = .ok (.iaload, 1) := by decide +kernel
theorem dL_law_598 : decode cL_law 598 = .ok (.invokevirtual 71, 3) := by decide +kernel
theorem dL_law_601 : decode cL_law 601 = .ok (.aload_n 2, 1) := by decide +kernel
theorem dL_law_602 : decode cL_law 602 = .ok (.aload_n 0, 1) := by decide +kernel
theorem dL_law_603 : decode cL_law 603 = .ok (.iload_n 3, 1) := by decide +kernel
theorem dL_law_604 : decode cL_law 604 = .ok (.iconst 1, 1) := by decide +kernel
theorem dL_law_605 : decode cL_law 605 = .ok (.iadd, 1) := by decide +kernel
theorem dL_law_606 : decode cL_law 606 = .ok (.iaload, 1) := by decide +kernel
theorem dL_law_607 : decode cL_law 607 = .ok (.aload_n 0, 1) := by decide +kernel
theorem dL_law_608 : decode cL_law 608 = .ok (.iload_n 3, 1) := by decide +kernel
theorem dL_law_609 : decode cL_law 609 = .ok (.iconst 2, 1) := by decide +kernel
theorem dL_law_610 : decode cL_law 610 = .ok (.iadd, 1) := by decide +kernel
theorem dL_law_611 : decode cL_law 611 = .ok (.iaload, 1) := by decide +kernel
theorem dL_law_612 : decode cL_law 612 = .ok (.aload_n 0, 1) := by decide +kernel
theorem dL_law_613 : decode cL_law 613 = .ok (.iload_n 3, 1) := by decide +kernel
theorem dL_law_614 : decode cL_law 614 = .ok (.iconst 3, 1) := by decide +kernel
theorem dL_law_615 : decode cL_law 615 = .ok (.iadd, 1) := by decide +kernel
theorem dL_law_616 : decode cL_law 616 = .ok (.iaload, 1) := by decide +kernel
theorem dL_law_617 : decode cL_law 617 = .ok (.invokevirtual 75, 3) := by decide +kernel
theorem dL_law_620 : decode cL_law 620 = .ok (.if_icmp .eq 716, 3) := by decide +kernel
theorem dL_law_623 : decode cL_law 623 = .ok (.iconst 0, 1) := by decide +kernel
theorem dL_law_624 : decode cL_law 624 = .ok (.ireturn, 1) := by decide +kernel
theorem dL_law_625 : decode cL_law 625 = .ok (.aload_n 1, 1) := by decide +kernel
theorem dL_law_626 : decode cL_law 626 = .ok (.aload_n 0, 1) := by decide +kernel
theorem dL_law_627 : decode cL_law 627 = .ok (.iload_n 3, 1) := by decide +kernel
theorem dL_law_628 : decode cL_law 628 = .ok (.iconst 1, 1) := by decide +kernel
theorem dL_law_629 : decode cL_law 629 = .ok (.iadd, 1) := by decide +kernel
theorem dL_law_630 : decode cL_law 630 = .ok (.iaload, 1) := by decide +kernel
theorem dL_law_631 : decode cL_law 631 = .ok (.invokevirtual 76, 3) := by decide +kernel
theorem dL_law_634 : decode cL_law 634 = .ok (.aload_n 2, 1) := by decide +kernel
theorem dL_law_635 : decode cL_law 635 = .ok (.aload_n 0, 1) := by decide +kernel
theorem dL_law_636 : decode cL_law 636 = .ok (.iload_n 3, 1) := by decide +kernel
theorem dL_law_637 : decode cL_law 637 = .ok (.iconst 1, 1) := by decide +kernel
theorem dL_law_638 : decode cL_law 638 = .ok (.iadd, 1) := by decide +kernel
theorem dL_law_639 : decode cL_law 639 = .ok (.iaload, 1) := by decide +kernel
theorem dL_law_640 : decode cL_law 640 = .ok (.invokevirtual 79, 3) := by decide +kernel
theorem dL_law_643 : decode cL_law 643 = .ok (.if_icmp .eq 693, 3) := by decide +kernel
theorem dL_law_646 : decode cL_law 646 = .ok (.iconst 0, 1) := by decide +kernel
theorem dL_law_647 : decode cL_law 647 = .ok (.ireturn, 1) := by decide +kernel
theorem dL_law_648 : decode cL_law 648 = .ok (.aload_n 1, 1) := by decide +kernel
theorem dL_law_649 : decode cL_law 649 = .ok (.aload_n 0, 1) := by decide +kernel
theorem dL_law_650 : decode cL_law 650 = .ok (.iload_n 3, 1) := by decide +kernel
theorem dL_law_651 : decode cL_law 651 = .ok (.iconst 1, 1) := by decide +kernel
theorem dL_law_652 : decode cL_law 652 = .ok (.iadd, 1) := by decide +kernel
theorem dL_law_653 : decode cL_law 653 = .ok (.iaload, 1) := by decide +kernel
theorem dL_law_654 : decode cL_law 654 = .ok (.invokevirtual 80, 3) := by decide +kernel
theorem dL_law_657 : decode cL_law 657 = .ok (.aload_n 2, 1) := by decide +kernel
theorem dL_law_658 : decode cL_law 658 = .ok (.aload_n 0, 1) := by decide +kernel
theorem dL_law_659 : decode cL_law 659 = .ok (.iload_n 3, 1) := by decide +kernel
theorem dL_law_660 : decode cL_law 660 = .ok (.iconst 1, 1) := by decide +kernel
theorem dL_law_661 : decode cL_law 661 = .ok (.iadd, 1) := by decide +kernel
theorem dL_law_662 : decode cL_law 662 = .ok (.iaload, 1) := by decide +kernel
theorem dL_law_663 : decode cL_law 663 = .ok (.invokevirtual 83, 3) := by decide +kernel
theorem dL_law_666 : decode cL_law 666 = .ok (.if_icmp .eq 670, 3) := by decide +kernel
theorem dL_law_669 : decode cL_law 669 = .ok (.iconst 0, 1) := by decide +kernel
theorem dL_law_670 : decode cL_law 670 = .ok (.ireturn, 1) := by decide +kernel
theorem dL_law_671 : decode cL_law 671 = .ok (.aload_n 1, 1) := by decide +kernel
theorem dL_law_672 : decode cL_law 672 = .ok (.aload_n 0, 1) := by decide +kernel
theorem dL_law_673 : decode cL_law 673 = .ok (.iload_n 3, 1) := by decide +kernel
theorem dL_law_674 : decode cL_law 674 = .ok (.iconst 1, 1) := by decide +kernel
theorem dL_law_675 : decode cL_law 675 = .ok (.iadd, 1) := by decide +kernel
theorem dL_law_676 : decode cL_law 676 = .ok (.iaload, 1) := by decide +kernel
theorem dL_law_677 : decode cL_law 677 = .ok (.invokevirtual 84, 3) := by decide +kernel
theorem dL_law_680 : decode cL_law 680 = .ok (.aload_n 2, 1) := by decide +kernel
theorem dL_law_681 : decode cL_law 681 = .ok (.aload_n 0, 1) := by decide +kernel
theorem dL_law_682 : decode cL_law 682 = .ok (.iload_n 3, 1) := by decide +kernel
theorem dL_law_683 : decode cL_law 683 = .ok (.iconst 1, 1) := by decide +kernel
theorem dL_law_684 : decode cL_law 684 = .ok (.iadd, 1) := by decide +kernel
theorem dL_law_685 : decode cL_law 685 = .ok (.iaload, 1) := by decide +kernel
theorem dL_law_686 : decode cL_law 686 = .ok (.invokevirtual 87, 3) := by decide +kernel
theorem dL_law_689 : decode cL_law 689 = .ok (.if_icmp .eq 647, 3) := by decide +kernel
theorem dL_law_692 : decode cL_law 692 = .ok (.iconst 0, 1) := by decide +kernel
theorem dL_law_693 : decode cL_law 693 = .ok (.ireturn, 1) := by decide +kernel
theorem dL_law_694 : decode cL_law 694 = .ok (.aload_n 1, 1) := by decide +kernel
theorem dL_law_695 : decode cL_law 695 = .ok (.aload_n 0, 1) := by decide +kernel
theorem dL_law_696 : decode cL_law 696 = .ok (.iload_n 3, 1) := by decide +kernel
theorem dL_law_697 : decode cL_law 697 = .ok (.iconst 1, 1) := by decide +kernel
theorem dL_law_698 : decode cL_law 698 = .ok (.iadd, 1) := by decide +kernel
theorem dL_law_699 : decode cL_law 699 = .ok (.iaload, 1) := by decide +kernel
theorem dL_law_700 : decode cL_law 700 = .ok (.invokevirtual 88, 3) := by decide +kernel
theorem dL_law_703 : decode cL_law 703 = .ok (.aload_n 2, 1) := by decide +kernel
theorem dL_law_704 : decode cL_law 704 = .ok (.aload_n 0, 1) := by decide +kernel
theorem dL_law_705 : decode cL_law 705 = .ok (.iload_n 3, 1) := by decide +kernel
theorem dL_law_706 : decode cL_law 706 = .ok (.iconst 1, 1) := by decide +kernel
theorem dL_law_707 : decode cL_law 707 = .ok (.iadd, 1) := by decide +kernel
theorem dL_law_708 : decode cL_law 708 = .ok (.iaload, 1) := by decide +kernel
theorem dL_law_709 : decode cL_law 709 = .ok (.invokevirtual 91, 3) := by decide +kernel
theorem dL_law_712 : decode cL_law 712 = .ok (.if_icmp .eq 624, 3) := by decide +kernel
theorem dL_law_715 : decode cL_law 715 = .ok (.iconst 0, 1) := by decide +kernel
theorem dL_law_716 : decode cL_law 716 = .ok (.ireturn, 1) := by decide +kernel
theorem dL_law_717 : decode cL_law 717 = .ok (.aload_n 1, 1) := by decide +kernel
theorem dL_law_718 : decode cL_law 718 = .ok (.aload_n 0, 1) := by decide +kernel
theorem dL_law_719 : decode cL_law 719 = .ok (.iload_n 3, 1) := by decide +kernel
theorem dL_law_720 : decode cL_law 720 = .ok (.iconst 1, 1) := by decide +kernel
theorem dL_law_721 : decode cL_law 721 = .ok (.iadd, 1) := by decide +kernel
theorem dL_law_722 : decode cL_law 722 = .ok (.iaload, 1) := by decide +kernel
theorem dL_law_723 : decode cL_law 723 = .ok (.aload_n 0, 1) := by decide +kernel
theorem dL_law_724 : decode cL_law 724 = .ok (.iload_n 3, 1) := by decide +kernel
theorem dL_law_725 : decode cL_law 725 = .ok (.iconst 2, 1) := by decide +kernel
theorem dL_law_726 : decode cL_law 726 = .ok (.iadd, 1) := by decide +kernel
theorem dL_law_727 : decode cL_law 727 = .ok (.iaload, 1) := by decide +kernel
theorem dL_law_728 : decode cL_law 728 = .ok (.invokevirtual 92, 3) := by decide +kernel
theorem dL_law_731 : decode cL_law 731 = .ok (.aload_n 2, 1) := by decide +kernel
theorem dL_law_732 : decode cL_law 732 = .ok (.aload_n 0, 1) := by decide +kernel
theorem dL_law_733 : decode cL_law 733 = .ok (.iload_n 3, 1) := by decide +kernel
theorem dL_law_734 : decode cL_law 734 = .ok (.iconst 1, 1) := by decide +kernel
theorem dL_law_735 : decode cL_law 735 = .ok (.iadd, 1) := by decide +kernel
theorem dL_law_736 : decode cL_law 736 = .ok (.iaload, 1) := by decide +kernel
theorem dL_law_737 : decode cL_law 737 = .ok (.aload_n 0, 1) := by decide +kernel
theorem dL_law_738 : decode cL_law 738 = .ok (.iload_n 3, 1) := by decide +kernel
theorem dL_law_739 : decode cL_law 739 = .ok (.iconst 2, 1) := by decide +kernel
theorem dL_law_740 : decode cL_law 740 = .ok (.iadd, 1) := by decide +kernel
theorem dL_law_741 : decode cL_law 741 = .ok (.iaload, 1) := by decide +kernel
theorem dL_law_742 : decode cL_law 742 = .ok (.invokevirtual 96, 3) := by decide +kernel
theorem dL_law_745 : decode cL_law 745 = .ok (.lcmp, 1) := by decide +kernel
theorem dL_law_746 : decode cL_law 746 = .ok (.ifCond .eq 590, 3) := by decide +kernel
theorem dL_law_749 : decode cL_law 749 = .ok (.iconst 0, 1) := by decide +kernel
theorem dL_law_750 : decode cL_law 750 = .ok (.ireturn, 1) := by decide +kernel
theorem dL_law_751 : decode cL_law 751 = .ok (.aload_n 1, 1) := by decide +kernel
theorem dL_law_752 : decode cL_law 752 = .ok (.aload_n 0, 1) := by decide +kernel
theorem dL_law_753 : decode cL_law 753 = .ok (.iload_n 3, 1) := by decide +kernel
theorem dL_law_754 : decode cL_law 754 = .ok (.iconst 1, 1) := by decide +kernel
theorem dL_law_755 : decode cL_law 755 = .ok (.iadd, 1) := by decide +kernel
theorem dL_law_756 : decode cL_law 756 = .ok (.iaload, 1) := by decide +kernel
theorem dL_law_757 : decode cL_law 757 = .ok (.aload_n 0, 1) := by decide +kernel
theorem dL_law_758 : decode cL_law 758 = .ok (.iload_n 3, 1) := by decide +kernel
theorem dL_law_759 : decode cL_law 759 = .ok (.iconst 2, 1) := by decide +kernel
theorem dL_law_760 : decode cL_law 760 = .ok (.iadd, 1) := by decide +kernel
theorem dL_law_761 : decode cL_law 761 = .ok (.iaload, 1) := by decide +kernel
theorem dL_law_762 : decode cL_law 762 = .ok (.invokevirtual 97, 3) := by decide +kernel
theorem dL_law_765 : decode cL_law 765 = .ok (.aload_n 2, 1) := by decide +kernel
theorem dL_law_766 : decode cL_law 766 = .ok (.aload_n 0, 1) := by decide +kernel
theorem dL_law_767 : decode cL_law 767 = .ok (.iload_n 3, 1) := by decide +kernel
theorem dL_law_768 : decode cL_law 768 = .ok (.iconst 1, 1) := by decide +kernel
theorem dL_law_769 : decode cL_law 769 = .ok (.iadd, 1) := by decide +kernel
theorem dL_law_770 : decode cL_law 770 = .ok (.iaload, 1) := by decide +kernel
theorem dL_law_771 : decode cL_law 771 = .ok (.aload_n 0, 1) := by decide +kernel
theorem dL_law_772 : decode cL_law 772 = .ok (.iload_n 3, 1) := by decide +kernel
theorem dL_law_773 : decode cL_law 773 = .ok (.iconst 2, 1) := by decide +kernel
theorem dL_law_774 : decode cL_law 774 = .ok (.iadd, 1) := by decide +kernel
theorem dL_law_775 : decode cL_law 775 = .ok (.iaload, 1) := by decide +kernel
theorem dL_law_776 : decode cL_law 776 = .ok (.invokevirtual 100, 3) := by decide +kernel
theorem dL_law_779 : decode cL_law 779 = .ok (.if_icmp .eq 557, 3) := by decide +kernel
theorem dL_law_782 : decode cL_law 782 = .ok (.iconst 0, 1) := by decide +kernel
theorem dL_law_783 : decode cL_law 783 = .ok (.ireturn, 1) := by decide +kernel
theorem dL_law_784 : decode cL_law 784 = .ok (.aload_n 1, 1) := by decide +kernel
theorem dL_law_785 : decode cL_law 785 = .ok (.aload_n 0, 1) := by decide +kernel
theorem dL_law_786 : decode cL_law 786 = .ok (.iload_n 3, 1) := by decide +kernel
theorem dL_law_787 : decode cL_law 787 = .ok (.iconst 1, 1) := by decide +kernel
theorem dL_law_788 : decode cL_law 788 = .ok (.iadd, 1) := by decide +kernel
theorem dL_law_789 : decode cL_law 789 = .ok (.iaload, 1) := by decide +kernel
theorem dL_law_790 : decode cL_law 790 = .ok (.aload_n 0, 1) := by decide +kernel
theorem dL_law_791 : decode cL_law 791 = .ok (.iload_n 3, 1) := by decide +kernel
theorem dL_law_792 : decode cL_law 792 = .ok (.iconst 2, 1) := by decide +kernel
theorem dL_law_793 : decode cL_law 793 = .ok (.iadd, 1) := by decide +kernel
theorem dL_law_794 : decode cL_law 794 = .ok (.iaload, 1) := by decide +kernel
theorem dL_law_795 : decode cL_law 795 = .ok (.invokevirtual 101, 3) := by decide +kernel
theorem dL_law_798 : decode cL_law 798 = .ok (.aload_n 2, 1) := by decide +kernel
theorem dL_law_799 : decode cL_law 799 = .ok (.aload_n 0, 1) := by decide +kernel
theorem dL_law_800 : decode cL_law 800 = .ok (.iload_n 3, 1) := by decide +kernel
theorem dL_law_801 : decode cL_law 801 = .ok (.iconst 1, 1) := by decide +kernel
theorem dL_law_802 : decode cL_law 802 = .ok (.iadd, 1) := by decide +kernel
theorem dL_law_803 : decode cL_law 803 = .ok (.iaload, 1) := by decide +kernel
theorem dL_law_804 : decode cL_law 804 = .ok (.aload_n 0, 1) := by decide +kernel
theorem dL_law_805 : decode cL_law 805 = .ok (.iload_n 3, 1) := by decide +kernel
theorem dL_law_806 : decode cL_law 806 = .ok (.iconst 2, 1) := by decide +kernel
theorem dL_law_807 : decode cL_law 807 = .ok (.iadd, 1) := by decide +kernel
theorem dL_law_808 : decode cL_law 808 = .ok (.iaload, 1) := by decide +kernel
theorem dL_law_809 : decode cL_law 809 = .ok (.invokevirtual 104, 3) := by decide +kernel
theorem dL_law_812 : decode cL_law 812 = .ok (.if_icmp .eq 524, 3) := by decide +kernel
theorem dL_law_815 : decode cL_law 815 = .ok (.iconst 0, 1) := by decide +kernel
theorem dL_law_816 : decode cL_law 816 = .ok (.ireturn, 1) := by decide +kernel
theorem dL_law_817 : decode cL_law 817 = .ok (.aload_n 1, 1) := by decide +kernel
theorem dL_law_818 : decode cL_law 818 = .ok (.aload_n 0, 1) := by decide +kernel
theorem dL_law_819 : decode cL_law 819 = .ok (.iload_n 3, 1) := by decide +kernel
theorem dL_law_820 : decode cL_law 820 = .ok (.iconst 1, 1) := by decide +kernel
theorem dL_law_821 : decode cL_law 821 = .ok (.iadd, 1) := by decide +kernel
theorem dL_law_822 : decode cL_law 822 = .ok (.iaload, 1) := by decide +kernel
theorem dL_law_823 : decode cL_law 823 = .ok (.aload_n 0, 1) := by decide +kernel
theorem dL_law_824 : decode cL_law 824 = .ok (.iload_n 3, 1) := by decide +kernel
theorem dL_law_825 : decode cL_law 825 = .ok (.iconst 2, 1) := by decide +kernel
theorem dL_law_826 : decode cL_law 826 = .ok (.iadd, 1) := by decide +kernel
theorem dL_law_827 : decode cL_law 827 = .ok (.iaload, 1) := by decide +kernel
theorem dL_law_828 : decode cL_law 828 = .ok (.aload_n 0, 1) := by decide +kernel
theorem dL_law_829 : decode cL_law 829 = .ok (.iload_n 3, 1) := by decide +kernel
theorem dL_law_830 : decode cL_law 830 = .ok (.iconst 3, 1) := by decide +kernel
theorem dL_law_831 : decode cL_law 831 = .ok (.iadd, 1) := by decide +kernel
theorem dL_law_832 : decode cL_law 832 = .ok (.iaload, 1) := by decide +kernel
theorem dL_law_833 : decode cL_law 833 = .ok (.invokevirtual 105, 3) := by decide +kernel
theorem dL_law_836 : decode cL_law 836 = .ok (.aload_n 2, 1) := by decide +kernel
theorem dL_law_837 : decode cL_law 837 = .ok (.aload_n 0, 1) := by decide +kernel
theorem dL_law_838 : decode cL_law 838 = .ok (.iload_n 3, 1) := by decide +kernel
theorem dL_law_839 : decode cL_law 839 = .ok (.iconst 1, 1) := by decide +kernel
theorem dL_law_840 : decode cL_law 840 = .ok (.iadd, 1) := by decide +kernel
theorem dL_law_841 : decode cL_law 841 = .ok (.iaload, 1) := by decide +kernel
theorem dL_law_842 : decode cL_law 842 = .ok (.aload_n 0, 1) := by decide +kernel
theorem dL_law_843 : decode cL_law 843 = .ok (.iload_n 3, 1) := by decide +kernel
theorem dL_law_844 : decode cL_law 844 = .ok (.iconst 2, 1) := by decide +kernel
theorem dL_law_845 : decode cL_law 845 = .ok (.iadd, 1) := by decide +kernel
theorem dL_law_846 : decode cL_law 846 = .ok (.iaload, 1) := by decide +kernel
theorem dL_law_847 : decode cL_law 847 = .ok (.aload_n 0, 1) := by decide +kernel
theorem dL_law_848 : decode cL_law 848 = .ok (.iload_n 3, 1) := by decide +kernel
theorem dL_law_849 : decode cL_law 849 = .ok (.iconst 3, 1) := by decide +kernel
theorem dL_law_850 : decode cL_law 850 = .ok (.iadd, 1) := by decide +kernel
theorem dL_law_851 : decode cL_law 851 = .ok (.iaload, 1) := by decide +kernel
theorem dL_law_852 : decode cL_law 852 = .ok (.invokevirtual 108, 3) := by decide +kernel
theorem dL_law_855 : decode cL_law 855 = .ok (.if_icmp .eq 481, 3) := by decide +kernel
theorem dL_law_858 : decode cL_law 858 = .ok (.iconst 0, 1) := by decide +kernel
theorem dL_law_859 : decode cL_law 859 = .ok (.ireturn, 1) := by decide +kernel
theorem dL_law_860 : decode cL_law 860 = .ok (.aload_n 1, 1) := by decide +kernel
theorem dL_law_861 : decode cL_law 861 = .ok (.invokevirtual 109, 3) := by decide +kernel
theorem dL_law_864 : decode cL_law 864 = .ok (.aload_n 2, 1) := by decide +kernel
theorem dL_law_865 : decode cL_law 865 = .ok (.invokevirtual 113, 3) := by decide +kernel
theorem dL_law_868 : decode cL_law 868 = .ok (.if_icmp .eq 468, 3) := by decide +kernel
theorem dL_law_871 : decode cL_law 871 = .ok (.iconst 0, 1) := by decide +kernel
theorem dL_law_872 : decode cL_law 872 = .ok (.ireturn, 1) := by decide +kernel
theorem dL_law_873 : decode cL_law 873 = .ok (.aload_n 1, 1) := by decide +kernel
theorem dL_law_874 : decode cL_law 874 = .ok (.aload_n 0, 1) := by decide +kernel
theorem dL_law_875 : decode cL_law 875 = .ok (.iload_n 3, 1) := by decide +kernel
theorem dL_law_876 : decode cL_law 876 = .ok (.iconst 1, 1) := by decide +kernel
theorem dL_law_877 : decode cL_law 877 = .ok (.iadd, 1) := by decide +kernel
theorem dL_law_878 : decode cL_law 878 = .ok (.iaload, 1) := by decide +kernel
theorem dL_law_879 : decode cL_law 879 = .ok (.aload_n 0, 1) := by decide +kernel
theorem dL_law_880 : decode cL_law 880 = .ok (.iload_n 3, 1) := by decide +kernel
theorem dL_law_881 : decode cL_law 881 = .ok (.iconst 2, 1) := by decide +kernel
theorem dL_law_882 : decode cL_law 882 = .ok (.iadd, 1) := by decide +kernel
theorem dL_law_883 : decode cL_law 883 = .ok (.iaload, 1) := by decide +kernel
theorem dL_law_884 : decode cL_law 884 = .ok (.invokevirtual 114, 3) := by decide +kernel
theorem dL_law_887 : decode cL_law 887 = .ok (.aload_n 2, 1) := by decide +kernel
theorem dL_law_888 : decode cL_law 888 = .ok (.aload_n 0, 1) := by decide +kernel
theorem dL_law_889 : decode cL_law 889 = .ok (.iload_n 3, 1) := by decide +kernel
theorem dL_law_890 : decode cL_law 890 = .ok (.iconst 1, 1) := by decide +kernel
theorem dL_law_891 : decode cL_law 891 = .ok (.iadd, 1) := by decide +kernel
theorem dL_law_892 : decode cL_law 892 = .ok (.iaload, 1) := by decide +kernel
theorem dL_law_893 : decode cL_law 893 = .ok (.aload_n 0, 1) := by decide +kernel
theorem dL_law_894 : decode cL_law 894 = .ok (.iload_n 3, 1) := by decide +kernel
theorem dL_law_895 : decode cL_law 895 = .ok (.iconst 2, 1) := by decide +kernel
theorem dL_law_896 : decode cL_law 896 = .ok (.iadd, 1) := by decide +kernel
theorem dL_law_897 : decode cL_law 897 = .ok (.iaload, 1) := by decide +kernel
theorem dL_law_898 : decode cL_law 898 = .ok (.invokevirtual 117, 3) := by decide +kernel
theorem dL_law_901 : decode cL_law 901 = .ok (.if_icmp .eq 435, 3) := by decide +kernel
theorem dL_law_904 : decode cL_law 904 = .ok (.iconst 0, 1) := by decide +kernel
theorem dL_law_905 : decode cL_law 905 = .ok (.ireturn, 1) := by decide +kernel
theorem dL_law_906 : decode cL_law 906 = .ok (.aload_n 1, 1) := by decide +kernel
theorem dL_law_907 : decode cL_law 907 = .ok (.aload_n 0, 1) := by decide +kernel
theorem dL_law_908 : decode cL_law 908 = .ok (.iload_n 3, 1) := by decide +kernel
theorem dL_law_909 : decode cL_law 909 = .ok (.iconst 1, 1) := by decide +kernel
theorem dL_law_910 : decode cL_law 910 = .ok (.iadd, 1) := by decide +kernel
theorem dL_law_911 : decode cL_law 911 = .ok (.iaload, 1) := by decide +kernel
theorem dL_law_912 : decode cL_law 912 = .ok (.aload_n 0, 1) := by decide +kernel
theorem dL_law_913 : decode cL_law 913 = .ok (.iload_n 3, 1) := by decide +kernel
theorem dL_law_914 : decode cL_law 914 = .ok (.iconst 2, 1) := by decide +kernel
theorem dL_law_915 : decode cL_law 915 = .ok (.iadd, 1) := by decide +kernel
theorem dL_law_916 : decode cL_law 916 = .ok (.iaload, 1) := by decide +kernel
theorem dL_law_917 : decode cL_law 917 = .ok (.invokevirtual 118, 3) := by decide +kernel
theorem dL_law_920 : decode cL_law 920 = .ok (.aload_n 2, 1) := by decide +kernel
theorem dL_law_921 : decode cL_law 921 = .ok (.aload_n 0, 1) := by decide +kernel
theorem dL_law_922 : decode cL_law 922 = .ok (.iload_n 3, 1) := by decide +kernel
theorem dL_law_923 : decode cL_law 923 = .ok (.iconst 1, 1) := by decide +kernel
theorem dL_law_924 : decode cL_law 924 = .ok (.iadd, 1) := by decide +kernel
theorem dL_law_925 : decode cL_law 925 = .ok (.iaload, 1) := by decide +kernel
theorem dL_law_926 : decode cL_law 926 = .ok (.aload_n 0, 1) := by decide +kernel
theorem dL_law_927 : decode cL_law 927 = .ok (.iload_n 3, 1) := by decide +kernel
theorem dL_law_928 : decode cL_law 928 = .ok (.iconst 2, 1) := by decide +kernel
theorem dL_law_929 : decode cL_law 929 = .ok (.iadd, 1) := by decide +kernel
theorem dL_law_930 : decode cL_law 930 = .ok (.iaload, 1) := by decide +kernel
theorem dL_law_931 : decode cL_law 931 = .ok (.invokevirtual 121, 3) := by decide +kernel
theorem dL_law_934 : decode cL_law 934 = .ok (.if_icmp .eq 402, 3) := by decide +kernel
theorem dL_law_937 : decode cL_law 937 = .ok (.iconst 0, 1) := by decide +kernel
theorem dL_law_938 : decode cL_law 938 = .ok (.ireturn, 1) := by decide +kernel
theorem dL_law_939 : decode cL_law 939 = .ok (.aload_n 1, 1) := by decide +kernel
theorem dL_law_940 : decode cL_law 940 = .ok (.invokevirtual 122, 3) := by decide +kernel
theorem dL_law_943 : decode cL_law 943 = .ok (.aload_n 2, 1) := by decide +kernel
theorem dL_law_944 : decode cL_law 944 = .ok (.invokevirtual 125, 3) := by decide +kernel
theorem dL_law_947 : decode cL_law 947 = .ok (.if_icmp .eq 389, 3) := by decide +kernel
theorem dL_law_950 : decode cL_law 950 = .ok (.iconst 0, 1) := by decide +kernel
theorem dL_law_951 : decode cL_law 951 = .ok (.ireturn, 1) := by decide +kernel
theorem dL_law_952 : decode cL_law 952 = .ok (.aload_n 1, 1) := by decide +kernel
theorem dL_law_953 : decode cL_law 953 = .ok (.aload_n 0, 1) := by decide +kernel
theorem dL_law_954 : decode cL_law 954 = .ok (.iload_n 3, 1) := by decide +kernel
theorem dL_law_955 : decode cL_law 955 = .ok (.iconst 1, 1) := by decide +kernel
theorem dL_law_956 : decode cL_law 956 = .ok (.iadd, 1) := by decide +kernel
theorem dL_law_957 : decode cL_law 957 = .ok (.iaload, 1) := by decide +kernel
theorem dL_law_958 : decode cL_law 958 = .ok (.invokevirtual 126, 3) := by decide +kernel
theorem dL_law_961 : decode cL_law 961 = .ok (.aload_n 2, 1) := by decide +kernel
theorem dL_law_962 : decode cL_law 962 = .ok (.aload_n 0, 1) := by decide +kernel
theorem dL_law_963 : decode cL_law 963 = .ok (.iload_n 3, 1) := by decide +kernel
theorem dL_law_964 : decode cL_law 964 = .ok (.iconst 1, 1) := by decide +kernel
theorem dL_law_965 : decode cL_law 965 = .ok (.iadd, 1) := by decide +kernel
theorem dL_law_966 : decode cL_law 966 = .ok (.iaload, 1) := by decide +kernel
theorem dL_law_967 : decode cL_law 967 = .ok (.invokevirtual 129, 3) := by decide +kernel
theorem dL_law_970 : decode cL_law 970 = .ok (.if_icmp .eq 366, 3) := by decide +kernel
theorem dL_law_973 : decode cL_law 973 = .ok (.iconst 0, 1) := by decide +kernel
theorem dL_law_974 : decode cL_law 974 = .ok (.ireturn, 1) := by decide +kernel
theorem dL_law_975 : decode cL_law 975 = .ok (.aload_n 1, 1) := by decide +kernel
theorem dL_law_976 : decode cL_law 976 = .ok (.aload_n 0, 1) := by decide +kernel
theorem dL_law_977 : decode cL_law 977 = .ok (.iload_n 3, 1) := by decide +kernel
theorem dL_law_978 : decode cL_law 978 = .ok (.iconst 1, 1) := by decide +kernel
theorem dL_law_979 : decode cL_law 979 = .ok (.iadd, 1) := by decide +kernel
theorem dL_law_980 : decode cL_law 980 = .ok (.iaload, 1) := by decide +kernel
theorem dL_law_981 : decode cL_law 981 = .ok (.aload_n 0, 1) := by decide +kernel
theorem dL_law_982 : decode cL_law 982 = .ok (.iload_n 3, 1) := by decide +kernel
theorem dL_law_983 : decode cL_law 983 = .ok (.iconst 2, 1) := by decide +kernel
theorem dL_law_984 : decode cL_law 984 = .ok (.iadd, 1) := by decide +kernel
theorem dL_law_985 : decode cL_law 985 = .ok (.iaload, 1) := by decide +kernel
theorem dL_law_986 : decode cL_law 986 = .ok (.invokevirtual 130, 3) := by decide +kernel
theorem dL_law_989 : decode cL_law 989 = .ok (.aload_n 2, 1) := by decide +kernel
theorem dL_law_990 : decode cL_law 990 = .ok (.aload_n 0, 1) := by decide +kernel
theorem dL_law_991 : decode cL_law 991 = .ok (.iload_n 3, 1) := by decide +kernel
theorem dL_law_992 : decode cL_law 992 = .ok (.iconst 1, 1) := by decide +kernel
theorem dL_law_993 : decode cL_law 993 = .ok (.iadd, 1) := by decide +kernel
theorem dL_law_994 : decode cL_law 994 = .ok (.iaload, 1) := by decide +kernel
theorem dL_law_995 : decode cL_law 995 = .ok (.aload_n 0, 1) := by decide +kernel
theorem dL_law_996 : decode cL_law 996 = .ok (.iload_n 3, 1) := by decide +kernel
theorem dL_law_997 : decode cL_law 997 = .ok (.iconst 2, 1) := by decide +kernel
theorem dL_law_998 : decode cL_law 998 = .ok (.iadd, 1) := by decide +kernel
theorem dL_law_999 : decode cL_law 999 = .ok (.iaload, 1) := by decide +kernel
theorem dL_law_1000 : decode cL_law 1000 = .ok (.invokevirtual 133, 3) := by decide +kernel
theorem dL_law_1003 : decode cL_law 1003 = .ok (.if_icmp .eq 333, 3) := by decide +kernel
theorem dL_law_1006 : decode cL_law 1006 = .ok (.iconst 0, 1) := by decide +kernel
theorem dL_law_1007 : decode cL_law 1007 = .ok (.ireturn, 1) := by decide +kernel
theorem dL_law_1008 : decode cL_law 1008 = .ok (.aload_n 1, 1) := by decide +kernel
theorem dL_law_1009 : decode cL_law 1009 = .ok (.aload_n 0, 1) := by decide +kernel
theorem dL_law_1010 : decode cL_law 1010 = .ok (.iload_n 3, 1) := by decide +kernel
theorem dL_law_1011 : decode cL_law 1011 = .ok (.iconst 1, 1) := by decide +kernel
theorem dL_law_1012 : decode cL_law 1012 = .ok (.iadd, 1) := by decide +kernel
theorem dL_law_1013 : decode cL_law 1013 = .ok (.iaload, 1) := by decide +kernel
theorem dL_law_1014 : decode cL_law 1014 = .ok (.aload_n 0, 1) := by decide +kernel
theorem dL_law_1015 : decode cL_law 1015 = .ok (.iload_n 3, 1) := by decide +kernel
theorem dL_law_1016 : decode cL_law 1016 = .ok (.iconst 2, 1) := by decide +kernel
theorem dL_law_1017 : decode cL_law 1017 = .ok (.iadd, 1) := by decide +kernel
theorem dL_law_1018 : decode cL_law 1018 = .ok (.iaload, 1) := by decide +kernel
theorem dL_law_1019 : decode cL_law 1019 = .ok (.invokevirtual 134, 3) := by decide +kernel
theorem dL_law_1022 : decode cL_law 1022 = .ok (.aload_n 2, 1) := by decide +kernel
theorem dL_law_1023 : decode cL_law 1023 = .ok (.aload_n 0, 1) := by decide +kernel
theorem dL_law_1024 : decode cL_law 1024 = .ok (.iload_n 3, 1) := by decide +kernel
theorem dL_law_1025 : decode cL_law 1025 = .ok (.iconst 1, 1) := by decide +kernel
theorem dL_law_1026 : decode cL_law 1026 = .ok (.iadd, 1) := by decide +kernel
theorem dL_law_1027 : decode cL_law 1027 = .ok (.iaload, 1) := by decide +kernel
theorem dL_law_1028 : decode cL_law 1028 = .ok (.aload_n 0, 1) := by decide +kernel
theorem dL_law_1029 : decode cL_law 1029 = .ok (.iload_n 3, 1) := by decide +kernel
theorem dL_law_1030 : decode cL_law 1030 = .ok (.iconst 2, 1) := by decide +kernel
theorem dL_law_1031 : decode cL_law 1031 = .ok (.iadd, 1) := by decide +kernel
theorem dL_law_1032 : decode cL_law 1032 = .ok (.iaload, 1) := by decide +kernel
theorem dL_law_1033 : decode cL_law 1033 = .ok (.invokevirtual 137, 3) := by decide +kernel
theorem dL_law_1036 : decode cL_law 1036 = .ok (.if_icmp .eq 300, 3) := by decide +kernel
theorem dL_law_1039 : decode cL_law 1039 = .ok (.iconst 0, 1) := by decide +kernel
theorem dL_law_1040 : decode cL_law 1040 = .ok (.ireturn, 1) := by decide +kernel
theorem dL_law_1041 : decode cL_law 1041 = .ok (.aload_n 1, 1) := by decide +kernel
theorem dL_law_1042 : decode cL_law 1042 = .ok (.aload_n 0, 1) := by decide +kernel
theorem dL_law_1043 : decode cL_law 1043 = .ok (.iload_n 3, 1) := by decide +kernel
theorem dL_law_1044 : decode cL_law 1044 = .ok (.iconst 1, 1) := by decide +kernel
theorem dL_law_1045 : decode cL_law 1045 = .ok (.iadd, 1) := by decide +kernel
theorem dL_law_1046 : decode cL_law 1046 = .ok (.iaload, 1) := by decide +kernel
theorem dL_law_1047 : decode cL_law 1047 = .ok (.aload_n 0, 1) := by decide +kernel
theorem dL_law_1048 : decode cL_law 1048 = .ok (.iload_n 3, 1) := by decide +kernel
theorem dL_law_1049 : decode cL_law 1049 = .ok (.iconst 2, 1) := by decide +kernel
theorem dL_law_1050 : decode cL_law 1050 = .ok (.iadd, 1) := by decide +kernel
theorem dL_law_1051 : decode cL_law 1051 = .ok (.iaload, 1) := by decide +kernel
theorem dL_law_1052 : decode cL_law 1052 = .ok (.aload_n 0, 1) := by decide +kernel
theorem dL_law_1053 : decode cL_law 1053 = .ok (.iload_n 3, 1) := by decide +kernel
theorem dL_law_1054 : decode cL_law 1054 = .ok (.iconst 3, 1) := by decide +kernel
theorem dL_law_1055 : decode cL_law 1055 = .ok (.iadd, 1) := by decide +kernel
theorem dL_law_1056 : decode cL_law 1056 = .ok (.iaload, 1) := by decide +kernel
theorem dL_law_1057 : decode cL_law 1057 = .ok (.invokevirtual 138, 3) := by decide +kernel
theorem dL_law_1060 : decode cL_law 1060 = .ok (.aload_n 2, 1) := by decide +kernel
theorem dL_law_1061 : decode cL_law 1061 = .ok (.aload_n 0, 1) := by decide +kernel
theorem dL_law_1062 : decode cL_law 1062 = .ok (.iload_n 3, 1) := by decide +kernel
theorem dL_law_1063 : decode cL_law 1063 = .ok (.iconst 1, 1) := by decide +kernel
theorem dL_law_1064 : decode cL_law 1064 = .ok (.iadd, 1) := by decide +kernel
theorem dL_law_1065 : decode cL_law 1065 = .ok (.iaload, 1) := by decide +kernel
theorem dL_law_1066 : decode cL_law 1066 = .ok (.aload_n 0, 1) := by decide +kernel
theorem dL_law_1067 : decode cL_law 1067 = .ok (.iload_n 3, 1) := by decide +kernel
theorem dL_law_1068 : decode cL_law 1068 = .ok (.iconst 2, 1) := by decide +kernel
theorem dL_law_1069 : decode cL_law 1069 = .ok (.iadd, 1) := by decide +kernel
theorem dL_law_1070 : decode cL_law 1070 = .ok (.iaload, 1) := by decide +kernel
theorem dL_law_1071 : decode cL_law 1071 = .ok (.aload_n 0, 1) := by decide +kernel
theorem dL_law_1072 : decode cL_law 1072 = .ok (.iload_n 3, 1) := by decide +kernel
theorem dL_law_1073 : decode cL_law 1073 = .ok (.iconst 3, 1) := by decide +kernel
theorem dL_law_1074 : decode cL_law 1074 = .ok (.iadd, 1) := by decide +kernel
theorem dL_law_1075 : decode cL_law 1075 = .ok (.iaload, 1) := by decide +kernel
theorem dL_law_1076 : decode cL_law 1076 = .ok (.invokevirtual 141, 3) := by decide +kernel
theorem dL_law_1079 : decode cL_law 1079 = .ok (.if_icmp .eq 257, 3) := by decide +kernel
theorem dL_law_1082 : decode cL_law 1082 = .ok (.iconst 0, 1) := by decide +kernel
theorem dL_law_1083 : decode cL_law 1083 = .ok (.ireturn, 1) := by decide +kernel
theorem dL_law_1084 : decode cL_law 1084 = .ok (.aload_n 1, 1) := by decide +kernel
theorem dL_law_1085 : decode cL_law 1085 = .ok (.aload_n 0, 1) := by decide +kernel
theorem dL_law_1086 : decode cL_law 1086 = .ok (.iload_n 3, 1) := by decide +kernel
theorem dL_law_1087 : decode cL_law 1087 = .ok (.iconst 1, 1) := by decide +kernel
theorem dL_law_1088 : decode cL_law 1088 = .ok (.iadd, 1) := by decide +kernel
theorem dL_law_1089 : decode cL_law 1089 = .ok (.iaload, 1) := by decide +kernel
theorem dL_law_1090 : decode cL_law 1090 = .ok (.invokevirtual 142, 3) := by decide +kernel
theorem dL_law_1093 : decode cL_law 1093 = .ok (.aload_n 2, 1) := by decide +kernel
theorem dL_law_1094 : decode cL_law 1094 = .ok (.aload_n 0, 1) := by decide +kernel
theorem dL_law_1095 : decode cL_law 1095 = .ok (.iload_n 3, 1) := by decide +kernel
theorem dL_law_1096 : decode cL_law 1096 = .ok (.iconst 1, 1) := by decide +kernel
theorem dL_law_1097 : decode cL_law 1097 = .ok (.iadd, 1) := by decide +kernel
theorem dL_law_1098 : decode cL_law 1098 = .ok (.iaload, 1) := by decide +kernel
theorem dL_law_1099 : decode cL_law 1099 = .ok (.invokevirtual 145, 3) := by decide +kernel
theorem dL_law_1102 : decode cL_law 1102 = .ok (.if_icmp .eq 234, 3) := by decide +kernel
theorem dL_law_1105 : decode cL_law 1105 = .ok (.iconst 0, 1) := by decide +kernel
theorem dL_law_1106 : decode cL_law 1106 = .ok (.ireturn, 1) := by decide +kernel
theorem dL_law_1107 : decode cL_law 1107 = .ok (.aload_n 1, 1) := by decide +kernel
theorem dL_law_1108 : decode cL_law 1108 = .ok (.aload_n 0, 1) := by decide +kernel
theorem dL_law_1109 : decode cL_law 1109 = .ok (.iload_n 3, 1) := by decide +kernel
theorem dL_law_1110 : decode cL_law 1110 = .ok (.iconst 1, 1) := by decide +kernel
theorem dL_law_1111 : decode cL_law 1111 = .ok (.iadd, 1) := by decide +kernel
theorem dL_law_1112 : decode cL_law 1112 = .ok (.iaload, 1) := by decide +kernel
theorem dL_law_1113 : decode cL_law 1113 = .ok (.aload_n 0, 1) := by decide +kernel
theorem dL_law_1114 : decode cL_law 1114 = .ok (.iload_n 3, 1) := by decide +kernel
theorem dL_law_1115 : decode cL_law 1115 = .ok (.iconst 2, 1) := by decide +kernel
theorem dL_law_1116 : decode cL_law 1116 = .ok (.iadd, 1) := by decide +kernel
theorem dL_law_1117 : decode cL_law 1117 = .ok (.iaload, 1) := by decide +kernel
theorem dL_law_1118 : decode cL_law 1118 = .ok (.aload_n 0, 1) := by decide +kernel
theorem dL_law_1119 : decode cL_law 1119 = .ok (.iload_n 3, 1) := by decide +kernel
theorem dL_law_1120 : decode cL_law 1120 = .ok (.iconst 3, 1) := by decide +kernel
theorem dL_law_1121 : decode cL_law 1121 = .ok (.iadd, 1) := by decide +kernel
theorem dL_law_1122 : decode cL_law 1122 = .ok (.iaload, 1) := by decide +kernel
theorem dL_law_1123 : decode cL_law 1123 = .ok (.aload_n 0, 1) := by decide +kernel
theorem dL_law_1124 : decode cL_law 1124 = .ok (.iload_n 3, 1) := by decide +kernel
theorem dL_law_1125 : decode cL_law 1125 = .ok (.iconst 4, 1) := by decide +kernel
theorem dL_law_1126 : decode cL_law 1126 = .ok (.iadd, 1) := by decide +kernel
theorem dL_law_1127 : decode cL_law 1127 = .ok (.iaload, 1) := by decide +kernel
theorem dL_law_1128 : decode cL_law 1128 = .ok (.invokevirtual 146, 3) := by decide +kernel
theorem dL_law_1131 : decode cL_law 1131 = .ok (.aload_n 2, 1) := by decide +kernel
theorem dL_law_1132 : decode cL_law 1132 = .ok (.aload_n 0, 1) := by decide +kernel
theorem dL_law_1133 : decode cL_law 1133 = .ok (.iload_n 3, 1) := by decide +kernel
theorem dL_law_1134 : decode cL_law 1134 = .ok (.iconst 1, 1) := by decide +kernel
theorem dL_law_1135 : decode cL_law 1135 = .ok (.iadd, 1) := by decide +kernel
theorem dL_law_1136 : decode cL_law 1136 = .ok (.iaload, 1) := by decide +kernel
theorem dL_law_1137 : decode cL_law 1137 = .ok (.aload_n 0, 1) := by decide +kernel
theorem dL_law_1138 : decode cL_law 1138 = .ok (.iload_n 3, 1) := by decide +kernel
theorem dL_law_1139 : decode cL_law 1139 = .ok (.iconst 2, 1) := by decide +kernel
theorem dL_law_1140 : decode cL_law 1140 = .ok (.iadd, 1) := by decide +kernel
theorem dL_law_1141 : decode cL_law 1141 = .ok (.iaload, 1) := by decide +kernel
theorem dL_law_1142 : decode cL_law 1142 = .ok (.aload_n 0, 1) := by decide +kernel
theorem dL_law_1143 : decode cL_law 1143 = .ok (.iload_n 3, 1) := by decide +kernel
theorem dL_law_1144 : decode cL_law 1144 = .ok (.iconst 3, 1) := by decide +kernel
theorem dL_law_1145 : decode cL_law 1145 = .ok (.iadd, 1) := by decide +kernel
theorem dL_law_1146 : decode cL_law 1146 = .ok (.iaload, 1) := by decide +kernel
theorem dL_law_1147 : decode cL_law 1147 = .ok (.aload_n 0, 1) := by decide +kernel
theorem dL_law_1148 : decode cL_law 1148 = .ok (.iload_n 3, 1) := by decide +kernel
theorem dL_law_1149 : decode cL_law 1149 = .ok (.iconst 4, 1) := by decide +kernel
theorem dL_law_1150 : decode cL_law 1150 = .ok (.iadd, 1) := by decide +kernel
theorem dL_law_1151 : decode cL_law 1151 = .ok (.iaload, 1) := by decide +kernel
theorem dL_law_1152 : decode cL_law 1152 = .ok (.invokevirtual 150, 3) := by decide +kernel
theorem dL_law_1155 : decode cL_law 1155 = .ok (.if_icmp .eq 181, 3) := by decide +kernel
theorem dL_law_1158 : decode cL_law 1158 = .ok (.iconst 0, 1) := by decide +kernel
theorem dL_law_1159 : decode cL_law 1159 = .ok (.ireturn, 1) := by decide +kernel
theorem dL_law_1160 : decode cL_law 1160 = .ok (.aload_n 1, 1) := by decide +kernel
theorem dL_law_1161 : decode cL_law 1161 = .ok (.aload_n 0, 1) := by decide +kernel
theorem dL_law_1162 : decode cL_law 1162 = .ok (.iload_n 3, 1) := by decide +kernel
theorem dL_law_1163 : decode cL_law 1163 = .ok (.iconst 1, 1) := by decide +kernel
theorem dL_law_1164 : decode cL_law 1164 = .ok (.iadd, 1) := by decide +kernel
theorem dL_law_1165 : decode cL_law 1165 = .ok (.iaload, 1) := by decide +kernel
theorem dL_law_1166 : decode cL_law 1166 = .ok (.aload_n 0, 1) := by decide +kernel
theorem dL_law_1167 : decode cL_law 1167 = .ok (.iload_n 3, 1) := by decide +kernel
theorem dL_law_1168 : decode cL_law 1168 = .ok (.iconst 2, 1) := by decide +kernel
theorem dL_law_1169 : decode cL_law 1169 = .ok (.iadd, 1) := by decide +kernel
theorem dL_law_1170 : decode cL_law 1170 = .ok (.iaload, 1) := by decide +kernel
theorem dL_law_1171 : decode cL_law 1171 = .ok (.aload_n 0, 1) := by decide +kernel
theorem dL_law_1172 : decode cL_law 1172 = .ok (.iload_n 3, 1) := by decide +kernel
theorem dL_law_1173 : decode cL_law 1173 = .ok (.iconst 3, 1) := by decide +kernel
theorem dL_law_1174 : decode cL_law 1174 = .ok (.iadd, 1) := by decide +kernel
theorem dL_law_1175 : decode cL_law 1175 = .ok (.iaload, 1) := by decide +kernel
theorem dL_law_1176 : decode cL_law 1176 = .ok (.invokevirtual 151, 3) := by decide +kernel
theorem dL_law_1179 : decode cL_law 1179 = .ok (.aload_n 2, 1) := by decide +kernel
theorem dL_law_1180 : decode cL_law 1180 = .ok (.aload_n 0, 1) := by decide +kernel
theorem dL_law_1181 : decode cL_law 1181 = .ok (.iload_n 3, 1) := by decide +kernel
theorem dL_law_1182 : decode cL_law 1182 = .ok (.iconst 1, 1) := by decide +kernel
theorem dL_law_1183 : decode cL_law 1183 = .ok (.iadd, 1) := by decide +kernel
theorem dL_law_1184 : decode cL_law 1184 = .ok (.iaload, 1) := by decide +kernel
theorem dL_law_1185 : decode cL_law 1185 = .ok (.aload_n 0, 1) := by decide +kernel
theorem dL_law_1186 : decode cL_law 1186 = .ok (.iload_n 3, 1) := by decide +kernel
theorem dL_law_1187 : decode cL_law 1187 = .ok (.iconst 2, 1) := by decide +kernel
theorem dL_law_1188 : decode cL_law 1188 = .ok (.iadd, 1) := by decide +kernel
theorem dL_law_1189 : decode cL_law 1189 = .ok (.iaload, 1) := by decide +kernel
theorem dL_law_1190 : decode cL_law 1190 = .ok (.aload_n 0, 1) := by decide +kernel
theorem dL_law_1191 : decode cL_law 1191 = .ok (.iload_n 3, 1) := by decide +kernel
theorem dL_law_1192 : decode cL_law 1192 = .ok (.iconst 3, 1) := by decide +kernel
theorem dL_law_1193 : decode cL_law 1193 = .ok (.iadd, 1) := by decide +kernel
theorem dL_law_1194 : decode cL_law 1194 = .ok (.iaload, 1) := by decide +kernel
theorem dL_law_1195 : decode cL_law 1195 = .ok (.invokevirtual 154, 3) := by decide +kernel
theorem dL_law_1198 : decode cL_law 1198 = .ok (.if_icmp .eq 138, 3) := by decide +kernel
theorem dL_law_1201 : decode cL_law 1201 = .ok (.iconst 0, 1) := by decide +kernel
theorem dL_law_1202 : decode cL_law 1202 = .ok (.ireturn, 1) := by decide +kernel
theorem dL_law_1203 : decode cL_law 1203 = .ok (.aload_n 1, 1) := by decide +kernel
theorem dL_law_1204 : decode cL_law 1204 = .ok (.aload_n 0, 1) := by decide +kernel
theorem dL_law_1205 : decode cL_law 1205 = .ok (.iload_n 3, 1) := by decide +kernel
theorem dL_law_1206 : decode cL_law 1206 = .ok (.iconst 1, 1) := by decide +kernel
theorem dL_law_1207 : decode cL_law 1207 = .ok (.iadd, 1) := by decide +kernel
theorem dL_law_1208 : decode cL_law 1208 = .ok (.iaload, 1) := by decide +kernel
theorem dL_law_1209 : decode cL_law 1209 = .ok (.aload_n 0, 1) := by decide +kernel
theorem dL_law_1210 : decode cL_law 1210 = .ok (.iload_n 3, 1) := by decide +kernel
theorem dL_law_1211 : decode cL_law 1211 = .ok (.iconst 2, 1) := by decide +kernel
theorem dL_law_1212 : decode cL_law 1212 = .ok (.iadd, 1) := by decide +kernel
theorem dL_law_1213 : decode cL_law 1213 = .ok (.iaload, 1) := by decide +kernel
theorem dL_law_1214 : decode cL_law 1214 = .ok (.aload_n 0, 1) := by decide +kernel
theorem dL_law_1215 : decode cL_law 1215 = .ok (.iload_n 3, 1) := by decide +kernel
theorem dL_law_1216 : decode cL_law 1216 = .ok (.iconst 3, 1) := by decide +kernel
theorem dL_law_1217 : decode cL_law 1217 = .ok (.iadd, 1) := by decide +kernel
theorem dL_law_1218 : decode cL_law 1218 = .ok (.iaload, 1) := by decide +kernel
theorem dL_law_1219 : decode cL_law 1219 = .ok (.aload_n 0, 1) := by decide +kernel
theorem dL_law_1220 : decode cL_law 1220 = .ok (.iload_n 3, 1) := by decide +kernel
theorem dL_law_1221 : decode cL_law 1221 = .ok (.iconst 4, 1) := by decide +kernel
theorem dL_law_1222 : decode cL_law 1222 = .ok (.iadd, 1) := by decide +kernel
theorem dL_law_1223 : decode cL_law 1223 = .ok (.iaload, 1) := by decide +kernel
theorem dL_law_1224 : decode cL_law 1224 = .ok (.aload_n 0, 1) := by decide +kernel
theorem dL_law_1225 : decode cL_law 1225 = .ok (.iload_n 3, 1) := by decide +kernel
theorem dL_law_1226 : decode cL_law 1226 = .ok (.iconst 5, 1) := by decide +kernel
theorem dL_law_1227 : decode cL_law 1227 = .ok (.iadd, 1) := by decide +kernel
theorem dL_law_1228 : decode cL_law 1228 = .ok (.iaload, 1) := by decide +kernel
theorem dL_law_1229 : decode cL_law 1229 = .ok (.invokevirtual 155, 3) := by decide +kernel
theorem dL_law_1232 : decode cL_law 1232 = .ok (.aload_n 2, 1) := by decide +kernel
theorem dL_law_1233 : decode cL_law 1233 = .ok (.aload_n 0, 1) := by decide +kernel
theorem dL_law_1234 : decode cL_law 1234 = .ok (.iload_n 3, 1) := by decide +kernel
theorem dL_law_1235 : decode cL_law 1235 = .ok (.iconst 1, 1) := by decide +kernel
theorem dL_law_1236 : decode cL_law 1236 = .ok (.iadd, 1) := by decide +kernel
theorem dL_law_1237 : decode cL_law 1237 = .ok (.iaload, 1) := by decide +kernel
theorem dL_law_1238 : decode cL_law 1238 = .ok (.aload_n 0, 1) := by decide +kernel
theorem dL_law_1239 : decode cL_law 1239 = .ok (.iload_n 3, 1) := by decide +kernel
theorem dL_law_1240 : decode cL_law 1240 = .ok (.iconst 2, 1) := by decide +kernel
theorem dL_law_1241 : decode cL_law 1241 = .ok (.iadd, 1) := by decide +kernel
theorem dL_law_1242 : decode cL_law 1242 = .ok (.iaload, 1) := by decide +kernel
theorem dL_law_1243 : decode cL_law 1243 = .ok (.aload_n 0, 1) := by decide +kernel
theorem dL_law_1244 : decode cL_law 1244 = .ok (.iload_n 3, 1) := by decide +kernel
theorem dL_law_1245 : decode cL_law 1245 = .ok (.iconst 3, 1) := by decide +kernel
theorem dL_law_1246 : decode cL_law 1246 = .ok (.iadd, 1) := by decide +kernel
theorem dL_law_1247 : decode cL_law 1247 = .ok (.iaload, 1) := by decide +kernel
theorem dL_law_1248 : decode cL_law 1248 = .ok (.aload_n 0, 1) := by decide +kernel
theorem dL_law_1249 : decode cL_law 1249 = .ok (.iload_n 3, 1) := by decide +kernel
theorem dL_law_1250 : decode cL_law 1250 = .ok (.iconst 4, 1) := by decide +kernel
theorem dL_law_1251 : decode cL_law 1251 = .ok (.iadd, 1) := by decide +kernel
theorem dL_law_1252 : decode cL_law 1252 = .ok (.iaload, 1) := by decide +kernel
theorem dL_law_1253 : decode cL_law 1253 = .ok (.aload_n 0, 1) := by decide +kernel
theorem dL_law_1254 : decode cL_law 1254 = .ok (.iload_n 3, 1) := by decide +kernel
theorem dL_law_1255 : decode cL_law 1255 = .ok (.iconst 5, 1) := by decide +kernel
theorem dL_law_1256 : decode cL_law 1256 = .ok (.iadd, 1) := by decide +kernel
theorem dL_law_1257 : decode cL_law 1257 = .ok (.iaload, 1) := by decide +kernel
theorem dL_law_1258 : decode cL_law 1258 = .ok (.invokevirtual 159, 3) := by decide +kernel
theorem dL_law_1261 : decode cL_law 1261 = .ok (.if_icmp .eq 75, 3) := by decide +kernel
theorem dL_law_1264 : decode cL_law 1264 = .ok (.iconst 0, 1) := by decide +kernel
theorem dL_law_1265 : decode cL_law 1265 = .ok (.ireturn, 1) := by decide +kernel
theorem dL_law_1266 : decode cL_law 1266 = .ok (.aload_n 1, 1) := by decide +kernel
theorem dL_law_1267 : decode cL_law 1267 = .ok (.aload_n 0, 1) := by decide +kernel
theorem dL_law_1268 : decode cL_law 1268 = .ok (.iload_n 3, 1) := by decide +kernel
theorem dL_law_1269 : decode cL_law 1269 = .ok (.iconst 1, 1) := by decide +kernel
theorem dL_law_1270 : decode cL_law 1270 = .ok (.iadd, 1) := by decide +kernel
theorem dL_law_1271 : decode cL_law 1271 = .ok (.iaload, 1) := by decide +kernel
theorem dL_law_1272 : decode cL_law 1272 = .ok (.aload_n 0, 1) := by decide +kernel
theorem dL_law_1273 : decode cL_law 1273 = .ok (.iload_n 3, 1) := by decide +kernel
theorem dL_law_1274 : decode cL_law 1274 = .ok (.iconst 2, 1) := by decide +kernel
theorem dL_law_1275 : decode cL_law 1275 = .ok (.iadd, 1) := by decide +kernel
theorem dL_law_1276 : decode cL_law 1276 = .ok (.iaload, 1) := by decide +kernel
theorem dL_law_1277 : decode cL_law 1277 = .ok (.invokevirtual 160, 3) := by decide +kernel
theorem dL_law_1280 : decode cL_law 1280 = .ok (.aload_n 2, 1) := by decide +kernel
theorem dL_law_1281 : decode cL_law 1281 = .ok (.aload_n 0, 1) := by decide +kernel
theorem dL_law_1282 : decode cL_law 1282 = .ok (.iload_n 3, 1) := by decide +kernel
theorem dL_law_1283 : decode cL_law 1283 = .ok (.iconst 1, 1) := by decide +kernel
theorem dL_law_1284 : decode cL_law 1284 = .ok (.iadd, 1) := by decide +kernel
theorem dL_law_1285 : decode cL_law 1285 = .ok (.iaload, 1) := by decide +kernel
theorem dL_law_1286 : decode cL_law 1286 = .ok (.aload_n 0, 1) := by decide +kernel
theorem dL_law_1287 : decode cL_law 1287 = .ok (.iload_n 3, 1) := by decide +kernel
theorem dL_law_1288 : decode cL_law 1288 = .ok (.iconst 2, 1) := by decide +kernel
theorem dL_law_1289 : decode cL_law 1289 = .ok (.iadd, 1) := by decide +kernel
theorem dL_law_1290 : decode cL_law 1290 = .ok (.iaload, 1) := by decide +kernel
theorem dL_law_1291 : decode cL_law 1291 = .ok (.invokevirtual 163, 3) := by decide +kernel
theorem dL_law_1294 : decode cL_law 1294 = .ok (.if_icmp .eq 42, 3) := by decide +kernel
theorem dL_law_1297 : decode cL_law 1297 = .ok (.iconst 0, 1) := by decide +kernel
theorem dL_law_1298 : decode cL_law 1298 = .ok (.ireturn, 1) := by decide +kernel
theorem dL_law_1299 : decode cL_law 1299 = .ok (.aload_n 1, 1) := by decide +kernel
theorem dL_law_1300 : decode cL_law 1300 = .ok (.aload_n 0, 1) := by decide +kernel
theorem dL_law_1301 : decode cL_law 1301 = .ok (.iload_n 3, 1) := by decide +kernel
theorem dL_law_1302 : decode cL_law 1302 = .ok (.iconst 1, 1) := by decide +kernel
theorem dL_law_1303 : decode cL_law 1303 = .ok (.iadd, 1) := by decide +kernel
theorem dL_law_1304 : decode cL_law 1304 = .ok (.iaload, 1) := by decide +kernel
theorem dL_law_1305 : decode cL_law 1305 = .ok (.invokevirtual 164, 3) := by decide +kernel
theorem dL_law_1308 : decode cL_law 1308 = .ok (.aload_n 2, 1) := by decide +kernel
theorem dL_law_1309 : decode cL_law 1309 = .ok (.aload_n 0, 1) := by decide +kernel
theorem dL_law_1310 : decode cL_law 1310 = .ok (.iload_n 3, 1) := by decide +kernel
theorem dL_law_1311 : decode cL_law 1311 = .ok (.iconst 1, 1) := by decide +kernel
theorem dL_law_1312 : decode cL_law 1312 = .ok (.iadd, 1) := by decide +kernel
theorem dL_law_1313 : decode cL_law 1313 = .ok (.iaload, 1) := by decide +kernel
theorem dL_law_1314 : decode cL_law 1314 = .ok (.invokevirtual 167, 3) := by decide +kernel
theorem dL_law_1317 : decode cL_law 1317 = .ok (.if_icmp .eq 19, 3) := by decide +kernel
theorem dL_law_1320 : decode cL_law 1320 = .ok (.iconst 0, 1) := by decide +kernel
theorem dL_law_1321 : decode cL_law 1321 = .ok (.ireturn, 1) := by decide +kernel
theorem dL_law_1322 : decode cL_law 1322 = .ok (.aload_n 1, 1) := by decide +kernel
theorem dL_law_1323 : decode cL_law 1323 = .ok (.invokevirtual 168, 3) := by decide +kernel
theorem dL_law_1326 : decode cL_law 1326 = .ok (.aload_n 2, 1) := by decide +kernel
theorem dL_law_1327 : decode cL_law 1327 = .ok (.invokevirtual 172, 3) := by decide +kernel
theorem dL_law_1330 : decode cL_law 1330 = .ok (.lcmp, 1) := by decide +kernel
theorem dL_law_1331 : decode cL_law 1331 = .ok (.ifCond .eq 5, 3) := by decide +kernel
theorem dL_law_1334 : decode cL_law 1334 = .ok (.iconst 0, 1) := by decide +kernel
theorem dL_law_1335 : decode cL_law 1335 = .ok (.ireturn, 1) := by decide +kernel
theorem dL_law_1336 : decode cL_law 1336 = .ok (.iinc 3 6, 3) := by decide +kernel
theorem dL_law_1339 : decode cL_law 1339 = .ok (.goto (-1321), 3) := by decide +kernel
theorem dL_law_1342 : decode cL_law 1342 = .ok (.iconst 1, 1) := by decide +kernel
theorem dL_law_1343 : decode cL_law 1343 = .ok (.ireturn, 1) := by decide +kernel
end
section
/-! a small machine over the kit's rows: a world of fixed cells whose ints alone change; a run from a place in a method's code; a method's contract -/
/-- the int of an integer; the values of the world's cells and of all ints are kept as integers -/
def iI (z : Int) : Int32 := Int32.ofInt z
def lI (z : Int) : Int64 := Int64.ofInt z
abbrev rl_S : Type := Nat → Nat → Int
abbrev rl_D : Type := (Nat × Nat) ⊕ ((Nat × List (Option Value)) ⊕ (Nat × List Nat))
abbrev rl_W : Type := Nat × (Nat → rl_D) × List FieldType × List (String × String × Nat × Nat × (Nat → Int32))
/-- a method: its name, bytes, greatest number of locals, answer, and how deep its calls go -/
abbrev rl_M : Type := MethodName × ByteArray × Nat × Option FieldType × Nat
def rcv (ad : Nat → Nat) : Value → Value := fun v => match v with
  | .ref k => .ref (ad k)
  | .int x => .int x
  | .long x => .long x
  | .float x => .float x
  | .double x => .double x
  | .null => .null
  | .retAddr x => .retAddr x
theorem rcv_cat (ad : Nat → Nat) (v : Value) : (rcv ad v).category = v.category := by cases v <;> rfl
-- words
def rl_T : List Cond := lw_tbl.filter goodWord
theorem rl_in (i : Nat) {w : Cond} (h : lw_tbl[i]? = some w) (g : goodWord w = true) : w ∈ rl_T := List.mem_filter.mpr ⟨List.mem_of_getElem? h, g⟩
theorem rl_goodT {w : Cond} (h : w ∈ rl_T) : (w.onTables && w.keeps) = true ∨ ∃ ty, w = .arrayClass ty := good_of_word (List.mem_filter.mp h).2
def rl_ws (M : rl_M) : List Cond := Cond.code M.1 M.2.1 M.2.2.1 M.2.2.2.1 :: rl_T
theorem rl_goodM {M M' : rl_M} (hc : Cond.code M'.1 M'.2.1 M'.2.2.1 M'.2.2.2.1 ∈ rl_T) : GoodIn (rl_ws M) (rl_ws M') := by
  intro w hw
  rcases List.mem_cons.mp hw with h | h
  · subst h
    exact ⟨List.mem_cons_of_mem _ hc, rl_goodT hc⟩
  · exact ⟨List.mem_cons_of_mem _ h, rl_goodT h⟩
def rl_plain (y : MethodName) : Prop := y.cls ≠ "java/lang/invoke/MethodHandle" ∧ y.cls ≠ "java/lang/invoke/VarHandle"
/-- a link to a method that is called by its object -/
def rl_CV (own : String) (idx : Nat) (M : rl_M) (n : Nat) : Prop :=
  Cond.code M.1 M.2.1 M.2.2.1 M.2.2.2.1 ∈ rl_T ∧ Cond.methodLink own idx M.1 ∈ rl_T ∧ Cond.instanceMethod M.1 ∈ rl_T ∧ Cond.selects M.1.cls M.1 M.1 ∈ rl_T ∧ Cond.initialized M.1.cls ∈ rl_T ∧ rl_plain M.1 ∧ (parseMethodDescriptor M.1.desc).map (fun d => d.parameters.length) = some n
/-- a link to a static method -/
def rl_CS (own : String) (idx : Nat) (M : rl_M) (n : Nat) : Prop :=
  Cond.code M.1 M.2.1 M.2.2.1 M.2.2.2.1 ∈ rl_T ∧ Cond.methodLink own idx M.1 ∈ rl_T ∧ Cond.static M.1 ∈ rl_T ∧ Cond.initialized M.1.cls ∈ rl_T ∧ rl_plain M.1 ∧ (parseMethodDescriptor M.1.desc).map (fun d => d.parameters.length) = some n
/-- kind ci of objects -/
def rl_K (ci : Nat) (C : String) (T : u_T) (N : Nat) (ty0 : Nat → FieldType) : Prop :=
  vwCl[ci]? = some (C, T, N) ∧ (∀ w ∈ u_ws C T N, w ∈ rl_T) ∧ (∀ k, k < N → parseFieldDescriptor (T k).2.2.1 = some (ty0 k)) ∧ ∀ a, a < N → ∀ b, b < N → a ≠ b → (T a).2.1 ≠ (T b).2.1
/-- a link to field j of kind ci -/
def rl_FL (own : String) (idx ci j : Nat) : Prop :=
  ∃ (C : String) (T : u_T) (N : Nat) (ty0 : Nat → FieldType), rl_K ci C T N ty0 ∧ j < N ∧ Cond.fieldLink own idx (T j).1 (T j).2.1 (T j).2.2.1 ∈ rl_T
def rl_FP (own : String) (idx ci j : Nat) (ty : FieldType) : Prop :=
  ∃ (C : String) (T : u_T) (N : Nat) (ty0 : Nat → FieldType), rl_K ci C T N ty0 ∧ j < N ∧ Cond.fieldLink own idx (T j).1 (T j).2.1 (T j).2.2.1 ∈ rl_T ∧ (T j).2.2.2 = false ∧ parseFieldDescriptor (T j).2.2.1 = some ty
-- the world
def rl_fv (fs : List (Option Value)) (j : Nat) (τ : Nat → Int) : Option Value := match fs[j]? with
  | some none => some (.int (iI (τ j)))
  | some (some v) => some v
  | none => none
def rl_ob (ad : Nat → Nat) (fs : List (Option Value)) (τ : Nat → Int) : List Value := fs.mapIdx (fun j f => match f with
  | none => .int (iI (τ j))
  | some v => rcv ad v)
def rl_c (w : rl_W) (T : Nat → ClassId) (ad : Nat → Nat) (σ : rl_S) (k : Nat) : va_E := match w.2.1 k with
  | .inl (t, n) => .inl (T t, (n, .inl (fun i => iI (σ k i))))
  | .inr (.inl (ci, fs)) => .inr (ci, rl_ob ad fs (σ k))
  | .inr (.inr (t, rs)) => .inl (T t, (rs.length, .inr (.inr (.inr (.inr (fun i => (rs[i]?).map ad))))))
def rl_w (w : rl_W) (T : Nat → ClassId) (ad : Nat → Nat) (σ : rl_S) : va_W := (List.range w.1).map (fun k => (ad k, rl_c w T ad σ k))
def rl_ty (w : rl_W) (T : Nat → ClassId) : List (ClassId × FieldType) := w.2.2.1.mapIdx (fun t ty => (T t, ty))
def sup (σ : rl_S) (k i : Nat) (x : Int) : rl_S := fun a => if a = k then (fun j => if j = i then x else σ k j) else σ a
theorem rl_ob_get (ad : Nat → Nat) (fs : List (Option Value)) (j : Nat) (τ : Nat → Int) : (rl_ob ad fs τ)[j]? = (rl_fv fs j τ).map (rcv ad) := by
  simp only [rl_ob, rl_fv, List.getElem?_mapIdx]
  cases fs[j]? with
  | none => rfl
  | some f => cases f <;> rfl
theorem rl_ob_set (ad : Nat → Nat) (fs : List (Option Value)) (j : Nat) (τ : Nat → Int) (x : Int) (h : fs[j]? = some none) : (rl_ob ad fs τ).set j (.int (iI x)) = rl_ob ad fs (fun i => if i = j then x else τ i) := by
  apply List.ext_getElem?
  intro i
  rw [List.getElem?_set, rl_ob_get, rl_ob_get]
  by_cases hij : j = i
  · subst hij
    have hl : j < (rl_ob ad fs τ).length := by
      simp only [rl_ob, List.length_mapIdx]
      exact (List.getElem?_eq_some_iff.mp h).1
    rw [if_pos rfl, if_pos hl]
    simp [rl_fv, h, rcv]
  · rw [if_neg hij]
    simp only [rl_fv]
    rw [if_neg (fun e => hij e.symm)]
theorem rl_w_get (w : rl_W) (T : Nat → ClassId) (ad : Nat → Nat) (σ : rl_S) {k : Nat} (hk : k < w.1) : (rl_w w T ad σ)[k]? = some (ad k, rl_c w T ad σ k) := by
  simp [rl_w, hk]
theorem rl_w_set (w : rl_W) (T : Nat → ClassId) (ad : Nat → Nat) (σ σ' : rl_S) {k : Nat} {e : va_E} (hk : k < w.1) (he : rl_c w T ad σ' k = e) (ho : ∀ a, a ≠ k → σ' a = σ a) : (rl_w w T ad σ).set k (ad k, e) = rl_w w T ad σ' := by
  apply List.ext_getElem?
  intro i
  rw [List.getElem?_set]
  by_cases hij : k = i
  · subst hij
    rw [if_pos rfl, rl_w_get w T ad σ' hk, he]
    simp [rl_w, hk]
  · rw [if_neg hij]
    simp only [rl_w, List.getElem?_map]
    by_cases hi : i < w.1
    · simp only [List.getElem?_range hi, Option.map_some]
      simp only [rl_c, ho i (fun e => hij e.symm)]
    · rw [List.getElem?_eq_none (by simp; omega)]
      rfl
theorem rl_ty_get (w : rl_W) (T : Nat → ClassId) {t : Nat} {ty : FieldType} (h : w.2.2.1[t]? = some ty) : (rl_ty w T)[t]? = some (T t, ty) := by
  simp [rl_ty, h]
def rl_Z (w : rl_W) (ad : Nat → Nat) (A : Nat → Prop) (U : State) (H : Heap) : Prop :=
  ∀ q ∈ w.2.2.2, va_Z q.1 q.2.1 "[I" (.ref (ad q.2.2.1)) A U H ∧ va_T .int (ad q.2.2.1) q.2.2.2.1 (fun j => .int (q.2.2.2.2 j)) A U H
def rl_H (w : rl_W) (D : va_G) (T : Nat → ClassId) (ad : Nat → Nat) (A : Nat → Prop) (σ : rl_S) (U : State) : Prop :=
  va_P D vwCl (rl_w w T ad σ) U.heap ∧ va_K D vwCl (rl_ty w T) U ∧ (∀ σ0, va_D A (rl_w w T ad σ0)) ∧ rl_Z w ad A U U.heap
theorem rl_Z.go {w : rl_W} {ad : Nat → Nat} {A : Nat → Prop} {u U : State} {H H1 : Heap} (hvm : u.vm.Alike U.vm) (h : rl_Z w ad A u H) (hq : ∀ a : Nat, a < H.size → ¬ A a → H1[a]? = H[a]?) : rl_Z w ad A U H1 := fun q hq1 => ⟨((h q hq1).1.moved hvm).kept hq, ((h q hq1).2.moved hvm).kept hq⟩
def rl_R (d : Nat) : Room := { frames := d, cells := 0, slots := 0, locals := 32 * d }
def rl_Q (w : rl_W) (D : va_G) (T : Nat → ClassId) (ad : Nat → Nat) (A : Nat → Prop) (Post : Option Value → rl_S → Prop) : Array Value → State → Outcome → State → Prop := fun _ st oc t =>
  (∃ (r : Option Value) (σ' : rl_S), oc = .returned (r.map (rcv ad)) ∧ Post r σ' ∧ rl_H w D T ad A σ' t) ∧ va_F A st t
/-- a method's contract: from the world σ it returns, and Post holds of its answer and of the world behind it -/
def Ct (w : rl_W) (M : rl_M) (as : List Value) (σ : rl_S) (Post : Option Value → rl_S → Prop) : Prop :=
  ∀ (l : Launch) (D : va_G) (T : Nat → ClassId) (ad : Nat → Nat) (A : Nat → Prop),
    Met l M.1 (rl_ws M) (rl_R M.2.2.2.2) (va_Pc (as.map (rcv ad)) (fun U => rl_H w D T ad A σ U)) (rl_Q w D T ad A Post) 0 0 A
-- locals
def rl_L (larr : Array Slot) (n : Nat) (ad : Nat → Nat) (ls : List Value) : Prop :=
  larr.size = n ∧ lv_wf larr ∧ ∀ (i : Nat) (v : Value), ls[i]? = some v → v ≠ .float 0 → larr[i]? = some (.val (rcv ad v))
def rl_l (ad : Nat → Nat) (ls : List Value) : List (Nat × Value) := (List.range ls.length).filterMap (fun i => match ls[i]? with
  | some v => if v = .float 0 then none else some (i, rcv ad v)
  | none => none)
theorem rl_l_mem {ad : Nat → Nat} {ls : List Value} {i : Nat} {v : Value} (h : ls[i]? = some v) (hv : v ≠ .float 0) : (i, rcv ad v) ∈ rl_l ad ls := by
  refine List.mem_filterMap.mpr ⟨i, List.mem_range.mpr (List.getElem?_eq_some_iff.mp h).1, ?_⟩
  rw [h]
  simp [hv]
theorem rl_L.has {larr : Array Slot} {n : Nat} {ad : Nat → Nat} {ls : List Value} (h : rl_L larr n ad ls) : lv_has larr n (rl_l ad ls) := by
  refine ⟨h.1, h.2.1, fun q hq => ?_⟩
  obtain ⟨i, -, hi⟩ := List.mem_filterMap.mp hq
  cases hs : ls[i]? with
  | none => rw [hs] at hi; cases hi
  | some v =>
    rw [hs] at hi
    by_cases hv : v = .float 0
    · simp [hv] at hi
    · simp only [hv, if_false] at hi
      cases hi
      exact h.2.2 i v hs hv
def rl_two (o : Option Value) : Bool := match o with
  | some (.long _) => true
  | some (.double _) => true
  | _ => false
theorem rl_two_of {v : Value} (h : v.category = 2) : rl_two (some v) = true := by cases v <;> first | rfl | cases h
def rl_s1 (ls : List Value) (i : Nat) (v : Value) : List Value := (bif rl_two ls[i - 1]? then ls.set (i - 1) (.float 0) else ls).set i v
def rl_s2 (ls : List Value) (i : Nat) (v : Value) : List Value := (rl_s1 ls i v).set (i + 1) (.float 0)
theorem rl_s1_at {ls : List Value} {i j : Nat} {v u : Value} (hj : (rl_s1 ls i v)[j]? = some u) (hu : u ≠ .float 0) : (j = i ∧ u = v) ∨ (j ≠ i ∧ ls[j]? = some u ∧ ¬ (j + 1 = i ∧ u.category = 2)) := by
  by_cases hji : j = i
  · subst hji
    left
    refine ⟨rfl, ?_⟩
    unfold rl_s1 at hj
    rw [List.getElem?_set] at hj
    simp only [if_true] at hj
    split at hj
    · exact (Option.some.inj hj).symm
    · cases hj
  · right
    refine ⟨hji, ?_⟩
    unfold rl_s1 at hj
    rw [List.getElem?_set_ne (fun e => hji e.symm)] at hj
    cases ht : rl_two ls[i - 1]? with
    | false =>
      rw [ht] at hj
      refine ⟨hj, fun ⟨h1, h2⟩ => ?_⟩
      have : i - 1 = j := by omega
      rw [this, show ls[j]? = some u from hj, rl_two_of h2] at ht
      cases ht
    | true =>
      rw [ht] at hj
      simp only [cond_true] at hj
      rw [List.getElem?_set] at hj
      by_cases h1 : i - 1 = j
      · rw [if_pos h1] at hj
        split at hj
        · exact absurd (Option.some.inj hj).symm hu
        · cases hj
      · rw [if_neg h1] at hj
        exact ⟨hj, fun ⟨h2, _⟩ => h1 (by omega)⟩
theorem rl_L.s1 {larr : Array Slot} {n : Nat} {ad : Nat → Nat} {ls : List Value} {i : Nat} {v : Value} (h : lv_has larr n ((i, rcv ad v) :: (rl_l ad ls).filter (fun q => !(q.1 == i) && !(q.1 + 1 == i && q.2.category == 2)))) : rl_L larr n ad (rl_s1 ls i v) := by
  refine ⟨h.1, h.2.1, fun j u hj hu => ?_⟩
  rcases rl_s1_at hj hu with ⟨rfl, rfl⟩ | ⟨h1, h2, h3⟩
  · exact h.2.2 _ List.mem_cons_self
  · refine h.2.2 (j, rcv ad u) (List.mem_cons_of_mem _ (List.mem_filter.mpr ⟨rl_l_mem h2 hu, ?_⟩))
    simp only [rcv_cat, Bool.and_eq_true, Bool.not_eq_true', beq_eq_false_iff_ne, Bool.and_eq_false_iff]
    refine ⟨h1, ?_⟩
    by_cases h4 : j + 1 = i
    · exact Or.inr (fun z => h3 ⟨h4, z⟩)
    · exact Or.inl h4
theorem rl_L.s2 {larr : Array Slot} {n : Nat} {ad : Nat → Nat} {ls : List Value} {i : Nat} {v : Value} (h : lv_has larr n ((i, rcv ad v) :: (rl_l ad ls).filter (fun q => !(q.1 == i) && (!(q.1 == i + 1) && !(q.1 + 1 == i && q.2.category == 2))))) : rl_L larr n ad (rl_s2 ls i v) := by
  refine ⟨h.1, h.2.1, fun j u hj hu => ?_⟩
  unfold rl_s2 at hj
  rw [List.getElem?_set] at hj
  by_cases hj2 : i + 1 = j
  · rw [if_pos hj2] at hj
    split at hj
    · exact absurd (Option.some.inj hj).symm hu
    · cases hj
  · rw [if_neg hj2] at hj
    rcases rl_s1_at hj hu with ⟨rfl, rfl⟩ | ⟨h1, h2, h3⟩
    · exact h.2.2 _ List.mem_cons_self
    · refine h.2.2 (j, rcv ad u) (List.mem_cons_of_mem _ (List.mem_filter.mpr ⟨rl_l_mem h2 hu, ?_⟩))
      simp only [rcv_cat, Bool.and_eq_true, Bool.not_eq_true', beq_eq_false_iff_ne, Bool.and_eq_false_iff]
      refine ⟨h1, fun z => hj2 z.symm, ?_⟩
      by_cases h4 : j + 1 = i
      · exact Or.inr (fun z => h3 ⟨h4, z⟩)
      · exact Or.inl h4
def rl_fl : List Value → List Value
  | [] => []
  | v :: as => bif rl_two (some v) then v :: .float 0 :: rl_fl as else v :: rl_fl as
def rl_e (as : List Value) (n : Nat) : List Value := rl_fl as ++ List.replicate (n - (rl_fl as).length) (.float 0)
theorem rl_fl_len (ad : Nat → Nat) : ∀ as : List Value, (lg_sl (as.map (rcv ad))).length = (rl_fl as).length
  | [] => rfl
  | v :: as => by
    have ih := rl_fl_len ad as
    cases v <;> simp [lg_sl, rl_fl, rl_two, rcv, Value.category] at ih ⊢ <;> omega
theorem rl_fl_at (ad : Nat → Nat) : ∀ (as : List Value) (i : Nat) (v : Value), (rl_fl as)[i]? = some v → v ≠ .float 0 → (lg_sl (as.map (rcv ad)))[i]? = some (.val (rcv ad v))
  | [], i, v, h, _ => by simp [rl_fl] at h
  | u :: as, i, v, h, hv => by
    have ih := rl_fl_at ad as
    by_cases hu : u.category = 2
    · have e1 : lg_sl ((u :: as).map (rcv ad)) = .val (rcv ad u) :: .second :: lg_sl (as.map (rcv ad)) := by
        simp [lg_sl, rcv_cat, hu]
      have e2 : rl_fl (u :: as) = u :: .float 0 :: rl_fl as := by
        simp [rl_fl, rl_two_of hu]
      rw [e2] at h
      rw [e1]
      match i with
      | 0 => simp at h; subst h; simp
      | 1 => simp at h; exact absurd h.symm hv
      | i + 2 => simp at h ⊢; exact ih i v h hv
    · have e1 : lg_sl ((u :: as).map (rcv ad)) = .val (rcv ad u) :: lg_sl (as.map (rcv ad)) := by
        simp [lg_sl, rcv_cat, hu]
      have e2 : rl_fl (u :: as) = u :: rl_fl as := by
        have : rl_two (some u) = false := by cases u <;> first | rfl | exact absurd rfl hu
        simp [rl_fl, this]
      rw [e2] at h
      rw [e1]
      match i with
      | 0 => simp at h; subst h; simp
      | i + 1 => simp at h ⊢; exact ih i v h hv
theorem rl_L.entry (ad : Nat → Nat) (as : List Value) (n : Nat) (h : (rl_fl as).length ≤ n) : rl_L ((lg_sl (as.map (rcv ad)) ++ List.replicate (n - (lg_sl (as.map (rcv ad))).length) Slot.unset).toArray) n ad (rl_e as n) := by
  have h0 := lv_entry (as.map (rcv ad)) (n := n) (by rw [rl_fl_len]; exact h)
  refine ⟨h0.1, h0.2.1, fun i v hi hv => ?_⟩
  unfold rl_e at hi
  rw [List.getElem?_append] at hi
  split at hi
  · rename_i hlt
    rw [List.getElem?_toArray, List.getElem?_append_left (by rw [rl_fl_len]; exact hlt)]
    exact rl_fl_at ad as i v hi hv
  · rw [List.getElem?_replicate] at hi
    split at hi
    · exact absurd (Option.some.inj hi).symm hv
    · cases hi
/-- what holds of a frame of method M all through its run -/
def rl_F (w : rl_W) (M : rl_M) (p : Program) (s : State) (m : MethodId) (args : Array Value) (meth : Method) (c : Code) (D : va_G) (T : Nat → ClassId) (ad : Nat → Nat) (A : Nat → Prop) : Prop :=
  p.tables.exec = Jvm.exec ∧ c.code = M.2.1 ∧ meth.sig.returnType = M.2.2.2.1 ∧ (∀ q ∈ rl_ws M, q.before args s = true) ∧ s.vm.findClass M.1.cls = some m.cls ∧ meth.locks = false ∧ c.maxLocals = M.2.2.1 ∧ va_K D vwCl (rl_ty w T) s ∧ (∀ σ0, va_D A (rl_w w T ad σ0)) ∧ rl_Z w ad A s s.heap
/-- a run: from pc, with these locals, this stack, in the world σ, method M returns, and Post holds then -/
def Rn (w : rl_W) (M : rl_M) (pc : Nat) (ls st : List Value) (σ : rl_S) (Post : Option Value → rl_S → Prop) : Prop :=
  ∀ (p : Program) (l : Launch) (e : Env) (s : State) (m : MethodId) (args : Array Value) (below : List Frame) (meth : Method) (c : Code) (D : va_G) (T : Nat → ClassId) (ad : Nat → Nat) (A : Nat → Prop), rl_F w M p s m args meth c D T ad A →
    ∀ (H : Heap) (locs : List Loc) (larr : Array Slot), va_P D vwCl (rl_w w T ad σ) H → va_S A s.heap H locs → rl_L larr M.2.2.1 ad ls →
      W p l e (rl_R M.2.2.2.2) s m args below meth c H locs 0 0 (MQ below (rl_Q w D T ad A Post) args s 0 0 A) (F0 m pc larr (st.map (rcv ad)))
set_option maxHeartbeats 4000000 in
theorem Ct.of {w : rl_W} {M : rl_M} {as : List Value} {σ : rl_S} {Post : Option Value → rl_S → Prop} (hy : plainName M.1.cls = true) (hl : (rl_fl as).length ≤ M.2.2.1) (h : Rn w M 0 (rl_e as M.2.2.1) [] σ Post) : Ct w M as σ Post := by
  intro l D T ad A
  refine Met.ofW (cc := M.2.1) (maxL := M.2.2.1) (ret := M.2.2.2.1) (ws' := rl_T) hy rfl ?_
  intro p e s m args below meth c s₁ B hml hv
  obtain ⟨rfl, hP, hK, hD, hZ⟩ := hv
  have hts := atoms_spec (ws := rl_ws M) B.pre
  have hown : s.vm.findClass M.1.cls = some m.cls := findClass_of_methodNamed B.named
  rw [lg_entry_eq]
  exact h p l e s m _ below meth c D T ad A ⟨B.exec, B.bytes, B.returns, hts, hown, B.notSynchronized, hml, hK, hD, hZ⟩ s.heap [] _ hP va_S.rf (rl_L.entry ad as _ hl)
theorem Ct.mono {w : rl_W} {M : rl_M} {as : List Value} {σ : rl_S} {P Q : Option Value → rl_S → Prop} (h : Ct w M as σ P) (hPQ : ∀ r σ', P r σ' → Q r σ') : Ct w M as σ Q := by
  intro l D T ad A p e ha hc hk s m args below hf happ hP hK
  obtain ⟨k, o, h1, h2, h3, ⟨⟨⟨r, σ', h4, h5, h6⟩, h7⟩, h8⟩⟩ := h l D T ad A p e ha hc hk s m args below hf happ hP hK
  exact ⟨k, o, h1, h2, h3, ⟨⟨⟨r, σ', h4, hPQ _ _ h5, h6⟩, h7⟩, h8⟩⟩
section RL
variable {w : rl_W} {M : rl_M} {pc : Nat} {ls st : List Value} {σ : rl_S} {Post : Option Value → rl_S → Prop}

theorem r_iconst {n : Int} {v : Int32} (hd : decode M.2.1 pc = .ok (.iconst n, 1)) (hv : Int32.ofInt n = v) (kk : Rn w M (pc + 1) ls (.int v :: st) σ Post) : Rn w M pc ls (st) σ Post := by
  intro p l e s m args below meth c D T ad A F H locs larr hP hS hL
  exact lv_iconst F.1 F.2.1 hd hv (kk p l e s m args below meth c D T ad A F H locs larr hP hS hL)

theorem r_bipush {n : Int} {v : Int32} (hd : decode M.2.1 pc = .ok (.bipush n, 2)) (hv : (Int8.ofInt n).toInt32 = v) (kk : Rn w M (pc + 2) ls (.int v :: st) σ Post) : Rn w M pc ls (st) σ Post := by
  intro p l e s m args below meth c D T ad A F H locs larr hP hS hL
  exact lv_bipush F.1 F.2.1 hd hv (kk p l e s m args below meth c D T ad A F H locs larr hP hS hL)

theorem r_sipush {n : Int} {v : Int32} (hd : decode M.2.1 pc = .ok (.sipush n, 3)) (hv : (Int16.ofInt n).toInt32 = v) (kk : Rn w M (pc + 3) ls (.int v :: st) σ Post) : Rn w M pc ls (st) σ Post := by
  intro p l e s m args below meth c D T ad A F H locs larr hP hS hL
  exact lv_sipush F.1 F.2.1 hd hv (kk p l e s m args below meth c D T ad A F H locs larr hP hS hL)

theorem r_lconst {n : Fin 2} {v : Int64} (hd : decode M.2.1 pc = .ok (.lconst n, 1)) (hv : Int64.ofNat n = v) (kk : Rn w M (pc + 1) ls (.long v :: st) σ Post) : Rn w M pc ls (st) σ Post := by
  intro p l e s m args below meth c D T ad A F H locs larr hP hS hL
  exact lv_lconst F.1 F.2.1 hd hv (kk p l e s m args below meth c D T ad A F H locs larr hP hS hL)

theorem r_null  (hd : decode M.2.1 pc = .ok (.aconst_null, 1)) (kk : Rn w M (pc + 1) ls (.null :: st) σ Post) : Rn w M pc ls (st) σ Post := by
  intro p l e s m args below meth c D T ad A F H locs larr hP hS hL
  exact lv_null F.1 F.2.1 hd (kk p l e s m args below meth c D T ad A F H locs larr hP hS hL)

theorem r_ldc {n : Nat} {v : Int32} (hd : decode M.2.1 pc = .ok (.ldc n, 2)) (hw : Cond.constant M.1.cls n v ∈ rl_T) (kk : Rn w M (pc + 2) ls (.int v :: st) σ Post) : Rn w M pc ls (st) σ Post := by
  intro p l e s m args below meth c D T ad A F H locs larr hP hS hL
  exact lv_ldc F.1 F.2.1 F.2.2.2.2.1 (F.2.2.2.1 _ (List.mem_cons_of_mem _ hw)) hd (kk p l e s m args below meth c D T ad A F H locs larr hP hS hL)

theorem r_ldcw {n : Nat} {v : Int32} (hd : decode M.2.1 pc = .ok (.ldc_w n, 3)) (hw : Cond.constant M.1.cls n v ∈ rl_T) (kk : Rn w M (pc + 3) ls (.int v :: st) σ Post) : Rn w M pc ls (st) σ Post := by
  intro p l e s m args below meth c D T ad A F H locs larr hP hS hL
  exact lv_ldcw F.1 F.2.1 F.2.2.2.2.1 (F.2.2.2.1 _ (List.mem_cons_of_mem _ hw)) hd (kk p l e s m args below meth c D T ad A F H locs larr hP hS hL)

theorem r_ldc2 {n : Nat} {v : Int64} (hd : decode M.2.1 pc = .ok (.ldc2_w n, 3)) (hw : Cond.constantLong M.1.cls n v ∈ rl_T) (kk : Rn w M (pc + 3) ls (.long v :: st) σ Post) : Rn w M pc ls (st) σ Post := by
  intro p l e s m args below meth c D T ad A F H locs larr hP hS hL
  exact lv_ldc2 F.1 F.2.1 F.2.2.2.2.1 (F.2.2.2.1 _ (List.mem_cons_of_mem _ hw)) hd (kk p l e s m args below meth c D T ad A F H locs larr hP hS hL)

theorem r_iload_n {k : Fin 4} {x : Int32} (hd : decode M.2.1 pc = .ok (.iload_n k, 1)) (hl : ls[(k : Nat)]? = some (.int x)) (kk : Rn w M (pc + 1) ls (.int x :: st) σ Post) : Rn w M pc ls (st) σ Post := by
  intro p l e s m args below meth c D T ad A F H locs larr hP hS hL
  exact lv_iload_n F.1 F.2.1 hd rfl (hL.2.2 _ _ hl (by intro q; cases q)) (kk p l e s m args below meth c D T ad A F H locs larr hP hS hL)

theorem r_iload {i : Nat} {x : Int32} (hd : decode M.2.1 pc = .ok (.iload i, 2)) (hl : ls[i]? = some (.int x)) (kk : Rn w M (pc + 2) ls (.int x :: st) σ Post) : Rn w M pc ls (st) σ Post := by
  intro p l e s m args below meth c D T ad A F H locs larr hP hS hL
  exact lv_iload F.1 F.2.1 hd (hL.2.2 _ _ hl (by intro q; cases q)) (kk p l e s m args below meth c D T ad A F H locs larr hP hS hL)

theorem r_lload_n {k : Fin 4} {x : Int64} (hd : decode M.2.1 pc = .ok (.lload_n k, 1)) (hl : ls[(k : Nat)]? = some (.long x)) (kk : Rn w M (pc + 1) ls (.long x :: st) σ Post) : Rn w M pc ls (st) σ Post := by
  intro p l e s m args below meth c D T ad A F H locs larr hP hS hL
  exact lv_lload_n F.1 F.2.1 hd rfl (hL.2.2 _ _ hl (by intro q; cases q)) (kk p l e s m args below meth c D T ad A F H locs larr hP hS hL)

theorem r_lload {i : Nat} {x : Int64} (hd : decode M.2.1 pc = .ok (.lload i, 2)) (hl : ls[i]? = some (.long x)) (kk : Rn w M (pc + 2) ls (.long x :: st) σ Post) : Rn w M pc ls (st) σ Post := by
  intro p l e s m args below meth c D T ad A F H locs larr hP hS hL
  exact lv_lload F.1 F.2.1 hd (hL.2.2 _ _ hl (by intro q; cases q)) (kk p l e s m args below meth c D T ad A F H locs larr hP hS hL)

theorem r_aload_n {k : Fin 4} {x : Nat} (hd : decode M.2.1 pc = .ok (.aload_n k, 1)) (hl : ls[(k : Nat)]? = some (.ref x)) (kk : Rn w M (pc + 1) ls (.ref x :: st) σ Post) : Rn w M pc ls (st) σ Post := by
  intro p l e s m args below meth c D T ad A F H locs larr hP hS hL
  exact lv_aload_n F.1 F.2.1 hd rfl (hL.2.2 _ _ hl (by intro q; cases q)) (kk p l e s m args below meth c D T ad A F H locs larr hP hS hL)

theorem r_aload {i : Nat} {x : Nat} (hd : decode M.2.1 pc = .ok (.aload i, 2)) (hl : ls[i]? = some (.ref x)) (kk : Rn w M (pc + 2) ls (.ref x :: st) σ Post) : Rn w M pc ls (st) σ Post := by
  intro p l e s m args below meth c D T ad A F H locs larr hP hS hL
  exact lv_aload F.1 F.2.1 hd (hL.2.2 _ _ hl (by intro q; cases q)) (kk p l e s m args below meth c D T ad A F H locs larr hP hS hL)

theorem r_aload_nN {k : Fin 4} (hd : decode M.2.1 pc = .ok (.aload_n k, 1)) (hl : ls[(k : Nat)]? = some .null) (kk : Rn w M (pc + 1) ls (.null :: st) σ Post) : Rn w M pc ls (st) σ Post := by
  intro p l e s m args below meth c D T ad A F H locs larr hP hS hL
  exact lv_aload_nN F.1 F.2.1 hd rfl (hL.2.2 _ _ hl (by intro q; cases q)) (kk p l e s m args below meth c D T ad A F H locs larr hP hS hL)

theorem r_aloadN {i : Nat} (hd : decode M.2.1 pc = .ok (.aload i, 2)) (hl : ls[i]? = some .null) (kk : Rn w M (pc + 2) ls (.null :: st) σ Post) : Rn w M pc ls (st) σ Post := by
  intro p l e s m args below meth c D T ad A F H locs larr hP hS hL
  exact lv_aloadN F.1 F.2.1 hd (hL.2.2 _ _ hl (by intro q; cases q)) (kk p l e s m args below meth c D T ad A F H locs larr hP hS hL)

theorem r_istore_n {k : Fin 4} {x : Int32} (hd : decode M.2.1 pc = .ok (.istore_n k, 1)) (hn : (k : Nat) < M.2.2.1) (kk : Rn w M (pc + 1) (rl_s1 ls (k : Nat) (.int x)) st σ Post) : Rn w M pc ls (.int x :: st) σ Post := by
  intro p l e s m args below meth c D T ad A F H locs larr hP hS hL
  exact lv_istore_n F.1 F.2.1 hd rfl (rl_L.has hL) hn rfl (fun ls1 h1 => kk p l e s m args below meth c D T ad A F H locs ls1 hP hS (rl_L.s1 h1))

theorem r_istore {i : Nat} {x : Int32} (hd : decode M.2.1 pc = .ok (.istore i, 2)) (hn : i < M.2.2.1) (kk : Rn w M (pc + 2) (rl_s1 ls i (.int x)) st σ Post) : Rn w M pc ls (.int x :: st) σ Post := by
  intro p l e s m args below meth c D T ad A F H locs larr hP hS hL
  exact lv_istore F.1 F.2.1 hd (rl_L.has hL) hn rfl (fun ls1 h1 => kk p l e s m args below meth c D T ad A F H locs ls1 hP hS (rl_L.s1 h1))

theorem r_lstore_n {k : Fin 4} {x : Int64} (hd : decode M.2.1 pc = .ok (.lstore_n k, 1)) (hn : (k : Nat) + 1 < M.2.2.1) (kk : Rn w M (pc + 1) (rl_s2 ls (k : Nat) (.long x)) st σ Post) : Rn w M pc ls (.long x :: st) σ Post := by
  intro p l e s m args below meth c D T ad A F H locs larr hP hS hL
  exact lv_lstore_n F.1 F.2.1 hd rfl (rl_L.has hL) hn rfl (fun ls1 h1 => kk p l e s m args below meth c D T ad A F H locs ls1 hP hS (rl_L.s2 h1))

theorem r_lstore {i : Nat} {x : Int64} (hd : decode M.2.1 pc = .ok (.lstore i, 2)) (hn : i + 1 < M.2.2.1) (kk : Rn w M (pc + 2) (rl_s2 ls i (.long x)) st σ Post) : Rn w M pc ls (.long x :: st) σ Post := by
  intro p l e s m args below meth c D T ad A F H locs larr hP hS hL
  exact lv_lstore F.1 F.2.1 hd (rl_L.has hL) hn rfl (fun ls1 h1 => kk p l e s m args below meth c D T ad A F H locs ls1 hP hS (rl_L.s2 h1))

theorem r_astore_n {k : Fin 4} {x : Nat} (hd : decode M.2.1 pc = .ok (.astore_n k, 1)) (hn : (k : Nat) < M.2.2.1) (kk : Rn w M (pc + 1) (rl_s1 ls (k : Nat) (.ref x)) st σ Post) : Rn w M pc ls (.ref x :: st) σ Post := by
  intro p l e s m args below meth c D T ad A F H locs larr hP hS hL
  exact lv_astore_n F.1 F.2.1 hd rfl (rl_L.has hL) hn rfl (fun ls1 h1 => kk p l e s m args below meth c D T ad A F H locs ls1 hP hS (rl_L.s1 h1))

theorem r_astore {i : Nat} {x : Nat} (hd : decode M.2.1 pc = .ok (.astore i, 2)) (hn : i < M.2.2.1) (kk : Rn w M (pc + 2) (rl_s1 ls i (.ref x)) st σ Post) : Rn w M pc ls (.ref x :: st) σ Post := by
  intro p l e s m args below meth c D T ad A F H locs larr hP hS hL
  exact lv_astore F.1 F.2.1 hd (rl_L.has hL) hn rfl (fun ls1 h1 => kk p l e s m args below meth c D T ad A F H locs ls1 hP hS (rl_L.s1 h1))

theorem r_astore_nN {k : Fin 4} (hd : decode M.2.1 pc = .ok (.astore_n k, 1)) (hn : (k : Nat) < M.2.2.1) (kk : Rn w M (pc + 1) (rl_s1 ls (k : Nat) .null) st σ Post) : Rn w M pc ls (.null :: st) σ Post := by
  intro p l e s m args below meth c D T ad A F H locs larr hP hS hL
  exact lv_astore_nN F.1 F.2.1 hd rfl (rl_L.has hL) hn rfl (fun ls1 h1 => kk p l e s m args below meth c D T ad A F H locs ls1 hP hS (rl_L.s1 h1))

theorem r_astoreN {i : Nat} (hd : decode M.2.1 pc = .ok (.astore i, 2)) (hn : i < M.2.2.1) (kk : Rn w M (pc + 2) (rl_s1 ls i .null) st σ Post) : Rn w M pc ls (.null :: st) σ Post := by
  intro p l e s m args below meth c D T ad A F H locs larr hP hS hL
  exact lv_astoreN F.1 F.2.1 hd (rl_L.has hL) hn rfl (fun ls1 h1 => kk p l e s m args below meth c D T ad A F H locs ls1 hP hS (rl_L.s1 h1))

theorem r_iinc {i : Nat} {n : Int} {x v : Int32} (hd : decode M.2.1 pc = .ok (.iinc i n, 3)) (hl : ls[i]? = some (.int x)) (hv : x + Int32.ofInt n = v) (hn : i < M.2.2.1) (kk : Rn w M (pc + 3) (rl_s1 ls i (.int v)) st σ Post) : Rn w M pc ls st σ Post := by
  intro p l e s m args below meth c D T ad A F H locs larr hP hS hL
  obtain ⟨k, hk⟩ := List.getElem?_of_mem (rl_l_mem (ad := ad) hl (by intro q; cases q))
  exact lv_iinc F.1 F.2.1 hd (rl_L.has hL) hk hv hn rfl (fun ls1 h1 => kk p l e s m args below meth c D T ad A F H locs ls1 hP hS (rl_L.s1 h1))

theorem r_iadd {x y : Int32} (hd : decode M.2.1 pc = .ok (.iadd, 1)) (kk : Rn w M (pc + 1) ls (.int (x + y) :: st) σ Post) : Rn w M pc ls (.int y :: .int x :: st) σ Post := by
  intro p l e s m args below meth c D T ad A F H locs larr hP hS hL
  exact lv_iadd F.1 F.2.1 hd (kk p l e s m args below meth c D T ad A F H locs larr hP hS hL)

theorem r_isub {x y : Int32} (hd : decode M.2.1 pc = .ok (.isub, 1)) (kk : Rn w M (pc + 1) ls (.int (x - y) :: st) σ Post) : Rn w M pc ls (.int y :: .int x :: st) σ Post := by
  intro p l e s m args below meth c D T ad A F H locs larr hP hS hL
  exact lv_isub F.1 F.2.1 hd (kk p l e s m args below meth c D T ad A F H locs larr hP hS hL)

theorem r_imul {x y : Int32} (hd : decode M.2.1 pc = .ok (.imul, 1)) (kk : Rn w M (pc + 1) ls (.int (x * y) :: st) σ Post) : Rn w M pc ls (.int y :: .int x :: st) σ Post := by
  intro p l e s m args below meth c D T ad A F H locs larr hP hS hL
  exact lv_imul F.1 F.2.1 hd (kk p l e s m args below meth c D T ad A F H locs larr hP hS hL)

theorem r_iand {x y : Int32} (hd : decode M.2.1 pc = .ok (.iand, 1)) (kk : Rn w M (pc + 1) ls (.int (x &&& y) :: st) σ Post) : Rn w M pc ls (.int y :: .int x :: st) σ Post := by
  intro p l e s m args below meth c D T ad A F H locs larr hP hS hL
  exact lv_iand F.1 F.2.1 hd (kk p l e s m args below meth c D T ad A F H locs larr hP hS hL)

theorem r_idiv {x y : Int32} (hd : decode M.2.1 pc = .ok (.idiv, 1)) (hne : ¬ y = 0) (kk : Rn w M (pc + 1) ls (.int (x / y) :: st) σ Post) : Rn w M pc ls (.int y :: .int x :: st) σ Post := by
  intro p l e s m args below meth c D T ad A F H locs larr hP hS hL
  exact lv_idiv F.1 F.2.1 hd hne (kk p l e s m args below meth c D T ad A F H locs larr hP hS hL)

theorem r_irem {x y : Int32} (hd : decode M.2.1 pc = .ok (.irem, 1)) (hne : ¬ y = 0) (kk : Rn w M (pc + 1) ls (.int (x - x / y * y) :: st) σ Post) : Rn w M pc ls (.int y :: .int x :: st) σ Post := by
  intro p l e s m args below meth c D T ad A F H locs larr hP hS hL
  exact lv_irem F.1 F.2.1 hd hne (kk p l e s m args below meth c D T ad A F H locs larr hP hS hL)

theorem r_ladd {x y : Int64} (hd : decode M.2.1 pc = .ok (.ladd, 1)) (kk : Rn w M (pc + 1) ls (.long (x + y) :: st) σ Post) : Rn w M pc ls (.long y :: .long x :: st) σ Post := by
  intro p l e s m args below meth c D T ad A F H locs larr hP hS hL
  exact lv_ladd F.1 F.2.1 hd (kk p l e s m args below meth c D T ad A F H locs larr hP hS hL)

theorem r_lsub {x y : Int64} (hd : decode M.2.1 pc = .ok (.lsub, 1)) (kk : Rn w M (pc + 1) ls (.long (x - y) :: st) σ Post) : Rn w M pc ls (.long y :: .long x :: st) σ Post := by
  intro p l e s m args below meth c D T ad A F H locs larr hP hS hL
  exact lv_lsub F.1 F.2.1 hd (kk p l e s m args below meth c D T ad A F H locs larr hP hS hL)

theorem r_lmul {x y : Int64} (hd : decode M.2.1 pc = .ok (.lmul, 1)) (kk : Rn w M (pc + 1) ls (.long (x * y) :: st) σ Post) : Rn w M pc ls (.long y :: .long x :: st) σ Post := by
  intro p l e s m args below meth c D T ad A F H locs larr hP hS hL
  exact lv_lmul F.1 F.2.1 hd (kk p l e s m args below meth c D T ad A F H locs larr hP hS hL)

theorem r_ldiv {x y : Int64} (hd : decode M.2.1 pc = .ok (.ldiv, 1)) (hne : ¬ y = 0) (kk : Rn w M (pc + 1) ls (.long (x / y) :: st) σ Post) : Rn w M pc ls (.long y :: .long x :: st) σ Post := by
  intro p l e s m args below meth c D T ad A F H locs larr hP hS hL
  exact lv_ldiv F.1 F.2.1 hd hne (kk p l e s m args below meth c D T ad A F H locs larr hP hS hL)

theorem r_lrem {x y : Int64} (hd : decode M.2.1 pc = .ok (.lrem, 1)) (hne : ¬ y = 0) (kk : Rn w M (pc + 1) ls (.long (x - x / y * y) :: st) σ Post) : Rn w M pc ls (.long y :: .long x :: st) σ Post := by
  intro p l e s m args below meth c D T ad A F H locs larr hP hS hL
  exact lv_lrem F.1 F.2.1 hd hne (kk p l e s m args below meth c D T ad A F H locs larr hP hS hL)

theorem r_lcmp {x y : Int64} (hd : decode M.2.1 pc = .ok (.lcmp, 1)) (kk : Rn w M (pc + 1) ls (.int (lg_cmp x y) :: st) σ Post) : Rn w M pc ls (.long y :: .long x :: st) σ Post := by
  intro p l e s m args below meth c D T ad A F H locs larr hP hS hL
  exact W.lcmp F.1 F.2.1 hd (kk p l e s m args below meth c D T ad A F H locs larr hP hS hL)

theorem r_iushr {x y v : Int32} (hd : decode M.2.1 pc = .ok (.iushr, 1)) (hv : (x.toUInt32 >>> (y.toUInt32 &&& Int32.toUInt32 31)).toInt32 = v) (kk : Rn w M (pc + 1) ls (.int v :: st) σ Post) : Rn w M pc ls (.int y :: .int x :: st) σ Post := by
  intro p l e s m args below meth c D T ad A F H locs larr hP hS hL
  exact lv_iushr F.1 F.2.1 hd hv (kk p l e s m args below meth c D T ad A F H locs larr hP hS hL)

theorem r_i2l {x : Int32} (hd : decode M.2.1 pc = .ok (.i2l, 1)) (kk : Rn w M (pc + 1) ls (.long x.toInt64 :: st) σ Post) : Rn w M pc ls (.int x :: st) σ Post := by
  intro p l e s m args below meth c D T ad A F H locs larr hP hS hL
  exact lv_i2l F.1 F.2.1 hd rfl (kk p l e s m args below meth c D T ad A F H locs larr hP hS hL)

theorem r_i2b {x : Int32} (hd : decode M.2.1 pc = .ok (.i2b, 1)) (kk : Rn w M (pc + 1) ls (.int x.toInt8.toInt32 :: st) σ Post) : Rn w M pc ls (.int x :: st) σ Post := by
  intro p l e s m args below meth c D T ad A F H locs larr hP hS hL
  exact lv_i2b F.1 F.2.1 hd rfl (kk p l e s m args below meth c D T ad A F H locs larr hP hS hL)

theorem r_i2s {x : Int32} (hd : decode M.2.1 pc = .ok (.i2s, 1)) (kk : Rn w M (pc + 1) ls (.int x.toInt16.toInt32 :: st) σ Post) : Rn w M pc ls (.int x :: st) σ Post := by
  intro p l e s m args below meth c D T ad A F H locs larr hP hS hL
  exact lv_i2s F.1 F.2.1 hd rfl (kk p l e s m args below meth c D T ad A F H locs larr hP hS hL)

theorem r_dup {v : Value} (hd : decode M.2.1 pc = .ok (.dup, 1)) (hv : v.category = 1) (kk : Rn w M (pc + 1) ls (v :: v :: st) σ Post) : Rn w M pc ls (v :: st) σ Post := by
  intro p l e s m args below meth c D T ad A F H locs larr hP hS hL
  exact lv_dup F.1 F.2.1 hd (by rw [rcv_cat]; exact hv) (kk p l e s m args below meth c D T ad A F H locs larr hP hS hL)

theorem r_dup2 {v u : Value} (hd : decode M.2.1 pc = .ok (.dup2, 1)) (hv : v.category = 1) (hu : u.category = 1) (kk : Rn w M (pc + 1) ls (v :: u :: v :: u :: st) σ Post) : Rn w M pc ls (v :: u :: st) σ Post := by
  intro p l e s m args below meth c D T ad A F H locs larr hP hS hL
  exact lv_dup2_11 F.1 F.2.1 hd (by rw [rcv_cat]; exact hv) (by rw [rcv_cat]; exact hu) (kk p l e s m args below meth c D T ad A F H locs larr hP hS hL)

theorem r_pop {v : Value} (hd : decode M.2.1 pc = .ok (.pop, 1)) (hv : v.category = 1) (kk : Rn w M (pc + 1) ls (st) σ Post) : Rn w M pc ls (v :: st) σ Post := by
  intro p l e s m args below meth c D T ad A F H locs larr hP hS hL
  exact lv_pop F.1 F.2.1 hd (by rw [rcv_cat]; exact hv) (kk p l e s m args below meth c D T ad A F H locs larr hP hS hL)

theorem r_if_eq {x : Int32} {off : Int} (tgt : Nat) (hd : decode M.2.1 pc = .ok (.ifCond .eq off, 3)) (ht : (pc : Int) + off = (tgt : Int)) (kt : x = 0 → Rn w M tgt ls st σ Post) (kf : ¬ x = 0 → Rn w M (pc + 3) ls st σ Post) : Rn w M pc ls (.int x :: st) σ Post := by
  intro p l e s m args below meth c D T ad A F H locs larr hP hS hL
  exact lv_if_eq F.1 F.2.1 hd ht (fun q => kt q p l e s m args below meth c D T ad A F H locs larr hP hS hL) (fun q => kf q p l e s m args below meth c D T ad A F H locs larr hP hS hL)

theorem r_icmp_eq {x y : Int32} {off : Int} (tgt : Nat) (hd : decode M.2.1 pc = .ok (.if_icmp .eq off, 3)) (ht : (pc : Int) + off = (tgt : Int)) (kt : x = y → Rn w M tgt ls st σ Post) (kf : ¬ x = y → Rn w M (pc + 3) ls st σ Post) : Rn w M pc ls (.int y :: .int x :: st) σ Post := by
  intro p l e s m args below meth c D T ad A F H locs larr hP hS hL
  exact lv_icmp_eq F.1 F.2.1 hd ht (fun q => kt q p l e s m args below meth c D T ad A F H locs larr hP hS hL) (fun q => kf q p l e s m args below meth c D T ad A F H locs larr hP hS hL)

theorem r_if_ne {x : Int32} {off : Int} (tgt : Nat) (hd : decode M.2.1 pc = .ok (.ifCond .ne off, 3)) (ht : (pc : Int) + off = (tgt : Int)) (kt : ¬ x = 0 → Rn w M tgt ls st σ Post) (kf : x = 0 → Rn w M (pc + 3) ls st σ Post) : Rn w M pc ls (.int x :: st) σ Post := by
  intro p l e s m args below meth c D T ad A F H locs larr hP hS hL
  exact lv_if_ne F.1 F.2.1 hd ht (fun q => kt q p l e s m args below meth c D T ad A F H locs larr hP hS hL) (fun q => kf q p l e s m args below meth c D T ad A F H locs larr hP hS hL)

theorem r_icmp_ne {x y : Int32} {off : Int} (tgt : Nat) (hd : decode M.2.1 pc = .ok (.if_icmp .ne off, 3)) (ht : (pc : Int) + off = (tgt : Int)) (kt : ¬ x = y → Rn w M tgt ls st σ Post) (kf : x = y → Rn w M (pc + 3) ls st σ Post) : Rn w M pc ls (.int y :: .int x :: st) σ Post := by
  intro p l e s m args below meth c D T ad A F H locs larr hP hS hL
  exact lv_icmp_ne F.1 F.2.1 hd ht (fun q => kt q p l e s m args below meth c D T ad A F H locs larr hP hS hL) (fun q => kf q p l e s m args below meth c D T ad A F H locs larr hP hS hL)

theorem r_if_lt {x : Int32} {off : Int} (tgt : Nat) (hd : decode M.2.1 pc = .ok (.ifCond .lt off, 3)) (ht : (pc : Int) + off = (tgt : Int)) (kt : x < 0 → Rn w M tgt ls st σ Post) (kf : ¬ x < 0 → Rn w M (pc + 3) ls st σ Post) : Rn w M pc ls (.int x :: st) σ Post := by
  intro p l e s m args below meth c D T ad A F H locs larr hP hS hL
  exact lv_if_lt F.1 F.2.1 hd ht (fun q => kt q p l e s m args below meth c D T ad A F H locs larr hP hS hL) (fun q => kf q p l e s m args below meth c D T ad A F H locs larr hP hS hL)

theorem r_icmp_lt {x y : Int32} {off : Int} (tgt : Nat) (hd : decode M.2.1 pc = .ok (.if_icmp .lt off, 3)) (ht : (pc : Int) + off = (tgt : Int)) (kt : x < y → Rn w M tgt ls st σ Post) (kf : ¬ x < y → Rn w M (pc + 3) ls st σ Post) : Rn w M pc ls (.int y :: .int x :: st) σ Post := by
  intro p l e s m args below meth c D T ad A F H locs larr hP hS hL
  exact lv_icmp_lt F.1 F.2.1 hd ht (fun q => kt q p l e s m args below meth c D T ad A F H locs larr hP hS hL) (fun q => kf q p l e s m args below meth c D T ad A F H locs larr hP hS hL)

theorem r_if_ge {x : Int32} {off : Int} (tgt : Nat) (hd : decode M.2.1 pc = .ok (.ifCond .ge off, 3)) (ht : (pc : Int) + off = (tgt : Int)) (kt : 0 ≤ x → Rn w M tgt ls st σ Post) (kf : ¬ 0 ≤ x → Rn w M (pc + 3) ls st σ Post) : Rn w M pc ls (.int x :: st) σ Post := by
  intro p l e s m args below meth c D T ad A F H locs larr hP hS hL
  exact lv_if_ge F.1 F.2.1 hd ht (fun q => kt q p l e s m args below meth c D T ad A F H locs larr hP hS hL) (fun q => kf q p l e s m args below meth c D T ad A F H locs larr hP hS hL)

theorem r_icmp_ge {x y : Int32} {off : Int} (tgt : Nat) (hd : decode M.2.1 pc = .ok (.if_icmp .ge off, 3)) (ht : (pc : Int) + off = (tgt : Int)) (kt : y ≤ x → Rn w M tgt ls st σ Post) (kf : ¬ y ≤ x → Rn w M (pc + 3) ls st σ Post) : Rn w M pc ls (.int y :: .int x :: st) σ Post := by
  intro p l e s m args below meth c D T ad A F H locs larr hP hS hL
  exact lv_icmp_ge F.1 F.2.1 hd ht (fun q => kt q p l e s m args below meth c D T ad A F H locs larr hP hS hL) (fun q => kf q p l e s m args below meth c D T ad A F H locs larr hP hS hL)

theorem r_if_gt {x : Int32} {off : Int} (tgt : Nat) (hd : decode M.2.1 pc = .ok (.ifCond .gt off, 3)) (ht : (pc : Int) + off = (tgt : Int)) (kt : 0 < x → Rn w M tgt ls st σ Post) (kf : ¬ 0 < x → Rn w M (pc + 3) ls st σ Post) : Rn w M pc ls (.int x :: st) σ Post := by
  intro p l e s m args below meth c D T ad A F H locs larr hP hS hL
  exact lv_if_gt F.1 F.2.1 hd ht (fun q => kt q p l e s m args below meth c D T ad A F H locs larr hP hS hL) (fun q => kf q p l e s m args below meth c D T ad A F H locs larr hP hS hL)

theorem r_icmp_gt {x y : Int32} {off : Int} (tgt : Nat) (hd : decode M.2.1 pc = .ok (.if_icmp .gt off, 3)) (ht : (pc : Int) + off = (tgt : Int)) (kt : y < x → Rn w M tgt ls st σ Post) (kf : ¬ y < x → Rn w M (pc + 3) ls st σ Post) : Rn w M pc ls (.int y :: .int x :: st) σ Post := by
  intro p l e s m args below meth c D T ad A F H locs larr hP hS hL
  exact lv_icmp_gt F.1 F.2.1 hd ht (fun q => kt q p l e s m args below meth c D T ad A F H locs larr hP hS hL) (fun q => kf q p l e s m args below meth c D T ad A F H locs larr hP hS hL)

theorem r_if_le {x : Int32} {off : Int} (tgt : Nat) (hd : decode M.2.1 pc = .ok (.ifCond .le off, 3)) (ht : (pc : Int) + off = (tgt : Int)) (kt : x ≤ 0 → Rn w M tgt ls st σ Post) (kf : ¬ x ≤ 0 → Rn w M (pc + 3) ls st σ Post) : Rn w M pc ls (.int x :: st) σ Post := by
  intro p l e s m args below meth c D T ad A F H locs larr hP hS hL
  exact lv_if_le F.1 F.2.1 hd ht (fun q => kt q p l e s m args below meth c D T ad A F H locs larr hP hS hL) (fun q => kf q p l e s m args below meth c D T ad A F H locs larr hP hS hL)

theorem r_icmp_le {x y : Int32} {off : Int} (tgt : Nat) (hd : decode M.2.1 pc = .ok (.if_icmp .le off, 3)) (ht : (pc : Int) + off = (tgt : Int)) (kt : x ≤ y → Rn w M tgt ls st σ Post) (kf : ¬ x ≤ y → Rn w M (pc + 3) ls st σ Post) : Rn w M pc ls (.int y :: .int x :: st) σ Post := by
  intro p l e s m args below meth c D T ad A F H locs larr hP hS hL
  exact lv_icmp_le F.1 F.2.1 hd ht (fun q => kt q p l e s m args below meth c D T ad A F H locs larr hP hS hL) (fun q => kf q p l e s m args below meth c D T ad A F H locs larr hP hS hL)

theorem r_goto {off : Int} (tgt : Nat) (hd : decode M.2.1 pc = .ok (.goto off, 3)) (ht : (pc : Int) + off = (tgt : Int)) (kk : Rn w M tgt ls (st) σ Post) : Rn w M pc ls (st) σ Post := by
  intro p l e s m args below meth c D T ad A F H locs larr hP hS hL
  exact lv_goto F.1 F.2.1 hd ht (kk p l e s m args below meth c D T ad A F H locs larr hP hS hL)

theorem r_ifnull {x : Nat} {off : Int} (hd : decode M.2.1 pc = .ok (.ifnull off, 3)) (kk : Rn w M (pc + 3) ls (st) σ Post) : Rn w M pc ls (.ref x :: st) σ Post := by
  intro p l e s m args below meth c D T ad A F H locs larr hP hS hL
  exact lv_ifnull F.1 F.2.1 hd (kk p l e s m args below meth c D T ad A F H locs larr hP hS hL)

theorem r_ifnullN {off : Int} (tgt : Nat) (hd : decode M.2.1 pc = .ok (.ifnull off, 3)) (ht : (pc : Int) + off = (tgt : Int)) (kk : Rn w M tgt ls (st) σ Post) : Rn w M pc ls (.null :: st) σ Post := by
  intro p l e s m args below meth c D T ad A F H locs larr hP hS hL
  exact lv_ifnullN F.1 F.2.1 hd ht (kk p l e s m args below meth c D T ad A F H locs larr hP hS hL)

theorem r_ifnonnull {x : Nat} {off : Int} (tgt : Nat) (hd : decode M.2.1 pc = .ok (.ifnonnull off, 3)) (ht : (pc : Int) + off = (tgt : Int)) (kk : Rn w M tgt ls (st) σ Post) : Rn w M pc ls (.ref x :: st) σ Post := by
  intro p l e s m args below meth c D T ad A F H locs larr hP hS hL
  exact lv_ifnonnull F.1 F.2.1 hd ht (kk p l e s m args below meth c D T ad A F H locs larr hP hS hL)

theorem r_ifnonnullN {off : Int} (hd : decode M.2.1 pc = .ok (.ifnonnull off, 3)) (kk : Rn w M (pc + 3) ls (st) σ Post) : Rn w M pc ls (.null :: st) σ Post := by
  intro p l e s m args below meth c D T ad A F H locs larr hP hS hL
  exact lv_ifnonnullN F.1 F.2.1 hd (kk p l e s m args below meth c D T ad A F H locs larr hP hS hL)

theorem r_tableIn {dflt lo hi off : Int} {offs : Array Int} {len : Nat} {x : Int32} (tgt : Nat) (hd : decode M.2.1 pc = .ok (.tableswitch dflt lo hi offs, len)) (h1 : ¬ x.toInt < lo) (h2 : ¬ hi < x.toInt) (ho : offs[(x.toInt - lo).toNat]? = some off) (ht : (pc : Int) + off = (tgt : Int)) (kk : Rn w M tgt ls st σ Post) : Rn w M pc ls (.int x :: st) σ Post := by
  intro p l e s m args below meth c D T ad A F H locs larr hP hS hL
  exact lv_tableIn F.1 F.2.1 hd h1 h2 ho ht (kk p l e s m args below meth c D T ad A F H locs larr hP hS hL)

theorem r_tableOut {dflt lo hi : Int} {offs : Array Int} {len : Nat} {x : Int32} (tgt : Nat) (hd : decode M.2.1 pc = .ok (.tableswitch dflt lo hi offs, len)) (h1 : x.toInt < lo ∨ hi < x.toInt) (ht : (pc : Int) + dflt = (tgt : Int)) (kk : Rn w M tgt ls st σ Post) : Rn w M pc ls (.int x :: st) σ Post := by
  intro p l e s m args below meth c D T ad A F H locs larr hP hS hL
  exact lv_tableOut F.1 F.2.1 hd h1 ht (kk p l e s m args below meth c D T ad A F H locs larr hP hS hL)

theorem rl_c_ob {w : rl_W} {T : Nat → ClassId} {ad : Nat → Nat} {σ : rl_S} {k ci : Nat} {fs : List (Option Value)} (h : w.2.1 k = .inr (.inl (ci, fs))) : rl_c w T ad σ k = .inr (ci, rl_ob ad fs (σ k)) := by simp only [rl_c, h]
theorem rl_c_ar {w : rl_W} {T : Nat → ClassId} {ad : Nat → Nat} {σ : rl_S} {k t n : Nat} (h : w.2.1 k = .inl (t, n)) : rl_c w T ad σ k = .inl (T t, (n, .inl (fun i => iI (σ k i)))) := by simp only [rl_c, h]
theorem rl_c_rr {w : rl_W} {T : Nat → ClassId} {ad : Nat → Nat} {σ : rl_S} {k t : Nat} {rs : List Nat} (h : w.2.1 k = .inr (.inr (t, rs))) : rl_c w T ad σ k = .inl (T t, (rs.length, .inr (.inr (.inr (.inr (fun i => (rs[i]?).map ad)))))) := by simp only [rl_c, h]
theorem sup_ne (σ : rl_S) {k a : Nat} (i : Nat) (x : Int) (h : a ≠ k) : sup σ k i x a = σ a := by simp [sup, h]
theorem sup_self (σ : rl_S) (k i : Nat) (x : Int) : sup σ k i x k = (fun j => if j = i then x else σ k j) := by simp [sup]
theorem sup_upd (σ : rl_S) (k i : Nat) (x : Int) : (fun j => iI (sup σ k i x k j)) = upd (fun j => iI (σ k j)) i (iI x) := by
  funext j
  by_cases h : j = i <;> simp [sup, upd, h]

theorem r_get {k ci j idx : Nat} {fs : List (Option Value)} {v : Value} (hf : rl_FL M.1.cls idx ci j) (hd : decode M.2.1 pc = .ok (.getfield idx, 3)) (hk : k < w.1) (hw : w.2.1 k = .inr (.inl (ci, fs))) (hv : rl_fv fs j (σ k) = some v) (kk : Rn w M (pc + 3) ls (v :: st) σ Post) : Rn w M pc ls (.ref k :: st) σ Post := by
  intro p l e s m args below meth c D T ad A F H locs larr hP hS hL
  obtain ⟨C, T0, N, ty0, ⟨hc, hin, hty, hnm⟩, hj, hlk⟩ := hf
  have he := rl_w_get w T ad σ hk
  rw [rl_c_ob hw] at he
  exact va_get (D := D) (ci := ci) (C := C) (T := T0) (N := N) F.1 F.2.1 F.2.2.2.1 (fun q h => List.mem_cons_of_mem _ (hin q h)) F.2.2.2.2.1 F.2.2.2.2.2.2.2.1 hP k he hc j hj (F.2.2.2.1 _ (List.mem_cons_of_mem _ hlk)) (fun _ h => h) (by rw [rl_ob_get, hv]; rfl) hd (kk p l e s m args below meth c D T ad A F H locs larr hP hS hL)

theorem r_put {k ci j idx : Nat} {ty : FieldType} {fs : List (Option Value)} {x : Int} (hf : rl_FP M.1.cls idx ci j ty) (hd : decode M.2.1 pc = .ok (.putfield idx, 3)) (hk : k < w.1) (hw : w.2.1 k = .inr (.inl (ci, fs))) (hj0 : fs[j]? = some none) (hn : narrow ty (.int (iI x)) = .int (iI x)) (hfit : fits ty (.int (iI x)) = true) (kk : Rn w M (pc + 3) ls st (sup σ k j x) Post) : Rn w M pc ls (.int (iI x) :: .ref k :: st) σ Post := by
  intro p l e s m args below meth c D T ad A F H locs larr hP hS hL
  obtain ⟨C, T0, N, ty0, ⟨hc, hin, hty, hnm⟩, hj, hlk, hfin, hpd⟩ := hf
  have he := rl_w_get w T ad σ hk
  rw [rl_c_ob hw] at he
  refine va_put (D := D) (ci := ci) (C := C) (T := T0) (N := N) F.1 F.2.1 F.2.2.2.1 (fun q h => List.mem_cons_of_mem _ (hin q h)) ty0 hty hnm F.2.2.2.2.1 F.2.2.2.2.2.2.2.1 hP (F.2.2.2.2.2.2.2.2.1 σ) hS k he hc j hj (F.2.2.2.1 _ (List.mem_cons_of_mem _ hlk)) (fun _ h => h) hfin hpd hn hfit (by simp only [rl_ob, List.length_mapIdx]; exact (List.getElem?_eq_some_iff.mp hj0).1) hd (fun H1 locs1 hP1 _ hS1 => ?_)
  have hP1 : va_P D vwCl (List.set (rl_w w T ad σ) k (ad k, .inr (ci, (rl_ob ad fs (σ k)).set j (.int (iI x))))) H1 := hP1
  rw [rl_ob_set ad fs j (σ k) x hj0, rl_w_set w T ad σ (sup σ k j x) hk (by rw [rl_c_ob hw, sup_self]) (fun a h => sup_ne σ j x h)] at hP1
  exact kk p l e s m args below meth c D T ad A F H1 locs1 larr hP1 hS1 hL

theorem r_iald {k t n : Nat} {i : Int32} (hd : decode M.2.1 pc = .ok (.iaload, 1)) (hk : k < w.1) (hw : w.2.1 k = .inl (t, n)) (ht : w.2.2.1[t]? = some .int) (hin : vp_in i n) (kk : Rn w M (pc + 1) ls (.int (iI (σ k i.toNatClampNeg)) :: st) σ Post) : Rn w M pc ls (.int i :: .ref k :: st) σ Post := by
  intro p l e s m args below meth c D T ad A F H locs larr hP hS hL
  have he := rl_w_get w T ad σ hk
  rw [rl_c_ar hw] at he
  exact va_iald F.1 F.2.1 F.2.2.2.2.2.2.2.1 hP k t he (rl_ty_get w T ht) hin hd (kk p l e s m args below meth c D T ad A F H locs larr hP hS hL)

theorem r_zald {k t n : Nat} {i : Int32} (hd : decode M.2.1 pc = .ok (.baload, 1)) (hk : k < w.1) (hw : w.2.1 k = .inl (t, n)) (ht : w.2.2.1[t]? = some .boolean) (hin : vp_in i n) (kk : Rn w M (pc + 1) ls (.int (iI (σ k i.toNatClampNeg)) :: st) σ Post) : Rn w M pc ls (.int i :: .ref k :: st) σ Post := by
  intro p l e s m args below meth c D T ad A F H locs larr hP hS hL
  have he := rl_w_get w T ad σ hk
  rw [rl_c_ar hw] at he
  exact va_zald F.1 F.2.1 F.2.2.2.2.2.2.2.1 hP k t he (rl_ty_get w T ht) hin hd (kk p l e s m args below meth c D T ad A F H locs larr hP hS hL)

theorem r_iast {k t n : Nat} {i : Int32} {x : Int} (hd : decode M.2.1 pc = .ok (.iastore, 1)) (hk : k < w.1) (hw : w.2.1 k = .inl (t, n)) (ht : w.2.2.1[t]? = some .int) (hin : vp_in i n) (kk : Rn w M (pc + 1) ls st (sup σ k i.toNatClampNeg x) Post) : Rn w M pc ls (.int (iI x) :: .int i :: .ref k :: st) σ Post := by
  intro p l e s m args below meth c D T ad A F H locs larr hP hS hL
  have he := rl_w_get w T ad σ hk
  rw [rl_c_ar hw] at he
  refine va_iast F.1 F.2.1 F.2.2.2.2.2.2.2.1 hP (F.2.2.2.2.2.2.2.2.1 σ) hS k t he (rl_ty_get w T ht) hin hd (fun H1 locs1 hP1 _ hS1 => ?_)
  rw [rl_w_set w T ad σ (sup σ k i.toNatClampNeg x) hk (by rw [rl_c_ar hw, sup_upd]) (fun a h => sup_ne σ _ x h)] at hP1
  exact kk p l e s m args below meth c D T ad A F H1 locs1 larr hP1 hS1 hL

theorem r_zast {k t n : Nat} {i : Int32} {x : Int} (hd : decode M.2.1 pc = .ok (.bastore, 1)) (hk : k < w.1) (hw : w.2.1 k = .inl (t, n)) (ht : w.2.2.1[t]? = some .boolean) (hin : vp_in i n) (hx : vp_nar .boolean (iI x) = iI x) (kk : Rn w M (pc + 1) ls st (sup σ k i.toNatClampNeg x) Post) : Rn w M pc ls (.int (iI x) :: .int i :: .ref k :: st) σ Post := by
  intro p l e s m args below meth c D T ad A F H locs larr hP hS hL
  have he := rl_w_get w T ad σ hk
  rw [rl_c_ar hw] at he
  refine va_zast F.1 F.2.1 F.2.2.2.2.2.2.2.1 hP (F.2.2.2.2.2.2.2.2.1 σ) hS k t he (rl_ty_get w T ht) hin hd (fun H1 locs1 hP1 _ hS1 => ?_)
  rw [hx, rl_w_set w T ad σ (sup σ k i.toNatClampNeg x) hk (by rw [rl_c_ar hw, sup_upd]) (fun a h => sup_ne σ _ _ h)] at hP1
  exact kk p l e s m args below meth c D T ad A F H1 locs1 larr hP1 hS1 hL

theorem r_alen {k t n : Nat} {ty : FieldType} {v : Int32} (hd : decode M.2.1 pc = .ok (.arraylength, 1)) (hk : k < w.1) (hw : w.2.1 k = .inl (t, n)) (ht : w.2.2.1[t]? = some ty) (hv : Int32.ofNat n = v) (kk : Rn w M (pc + 1) ls (.int v :: st) σ Post) : Rn w M pc ls (.ref k :: st) σ Post := by
  intro p l e s m args below meth c D T ad A F H locs larr hP hS hL
  have he := rl_w_get w T ad σ hk
  rw [rl_c_ar hw] at he
  exact va_alen F.1 F.2.1 F.2.2.2.2.2.2.2.1 hP k t he (rl_ty_get w T ht) hv hd (kk p l e s m args below meth c D T ad A F H locs larr hP hS hL)

theorem r_alenQ {k t : Nat} {rs : List Nat} {ty : FieldType} {v : Int32} (hd : decode M.2.1 pc = .ok (.arraylength, 1)) (hk : k < w.1) (hw : w.2.1 k = .inr (.inr (t, rs))) (ht : w.2.2.1[t]? = some ty) (hv : Int32.ofNat rs.length = v) (kk : Rn w M (pc + 1) ls (.int v :: st) σ Post) : Rn w M pc ls (.ref k :: st) σ Post := by
  intro p l e s m args below meth c D T ad A F H locs larr hP hS hL
  have he := rl_w_get w T ad σ hk
  rw [rl_c_rr hw] at he
  exact va_alen F.1 F.2.1 F.2.2.2.2.2.2.2.1 hP k t he (rl_ty_get w T ht) hv hd (kk p l e s m args below meth c D T ad A F H locs larr hP hS hL)

theorem r_aald {k t q : Nat} {rs : List Nat} {C : String} {i : Int32} (hd : decode M.2.1 pc = .ok (.aaload, 1)) (hk : k < w.1) (hw : w.2.1 k = .inr (.inr (t, rs))) (ht : w.2.2.1[t]? = some (.object C)) (hin : vp_in i rs.length) (hq : rs[i.toNatClampNeg]? = some q) (kk : Rn w M (pc + 1) ls (.ref q :: st) σ Post) : Rn w M pc ls (.int i :: .ref k :: st) σ Post := by
  intro p l e s m args below meth c D T ad A F H locs larr hP hS hL
  have he := rl_w_get w T ad σ hk
  rw [rl_c_rr hw] at he
  refine va_aldq F.1 F.2.1 F.2.2.2.2.2.2.2.1 hP k t he (rl_ty_get w T ht) hin hd ?_
  rw [hq]
  exact kk p l e s m args below meth c D T ad A F H locs larr hP hS hL

theorem r_gets {C n ref : String} {k len idx : Nat} {f : Nat → Int32} (hq : (C, n, k, len, f) ∈ w.2.2.2) (hw : Cond.fieldLink M.1.cls idx C n "[I" ∈ rl_T) (hd : decode M.2.1 pc = .ok (.getstatic idx, 3)) (kk : Rn w M (pc + 3) ls (.ref k :: st) σ Post) : Rn w M pc ls st σ Post := by
  intro p l e s m args below meth c D T ad A F H locs larr hP hS hL
  exact va_gets F.1 F.2.1 (F.2.2.2.2.2.2.2.2.2 _ hq).1 hS F.2.2.2.2.1 (F.2.2.2.1 _ (List.mem_cons_of_mem _ hw)) (fun _ h => h) hd (kk p l e s m args below meth c D T ad A F H locs larr hP hS hL)

theorem r_tald {C n : String} {k len : Nat} {f : Nat → Int32} {i : Int32} (hq : (C, n, k, len, f) ∈ w.2.2.2) (hd : decode M.2.1 pc = .ok (.iaload, 1)) (hin : vp_in i len) (kk : Rn w M (pc + 1) ls (.int (f i.toNatClampNeg) :: st) σ Post) : Rn w M pc ls (.int i :: .ref k :: st) σ Post := by
  intro p l e s m args below meth c D T ad A F H locs larr hP hS hL
  exact va_ti F.1 F.2.1 (F.2.2.2.2.2.2.2.2.2 _ hq).2 hS hin rfl hd (kk p l e s m args below meth c D T ad A F H locs larr hP hS hL)

theorem r_tlen {C n : String} {k len : Nat} {f : Nat → Int32} {v : Int32} (hq : (C, n, k, len, f) ∈ w.2.2.2) (hd : decode M.2.1 pc = .ok (.arraylength, 1)) (hv : Int32.ofNat len = v) (kk : Rn w M (pc + 1) ls (.int v :: st) σ Post) : Rn w M pc ls (.ref k :: st) σ Post := by
  intro p l e s m args below meth c D T ad A F H locs larr hP hS hL
  exact va_tlen F.1 F.2.1 (F.2.2.2.2.2.2.2.2.2 _ hq).2 hS hv hd (kk p l e s m args below meth c D T ad A F H locs larr hP hS hL)

theorem r_mmin {x y : Int32} {idx : Nat} (hw : Cond.methodLink M.1.cls idx Lib.Math.min.name ∈ rl_T ∧ Cond.static Lib.Math.min.name ∈ rl_T ∧ Cond.initialized "java/lang/Math" ∈ rl_T ∧ Cond.code Lib.Math.min.name Lib.Math.min.code 2 (some .int) ∈ rl_T) (hd : decode M.2.1 pc = .ok (.invokestatic idx, 3)) (hd1 : 1 ≤ M.2.2.2.2) (hr : (st.map fun v => v.category).sum ≤ 8) (kk : Rn w M (pc + 3) ls (.int (if y < x then y else x) :: st) σ Post) : Rn w M pc ls (.int y :: .int x :: st) σ Post := by
  intro p l e s m args below meth c D T ad A F H locs larr hP hS hL
  have hin : ∀ {q : Cond}, q ∈ rl_T → q.before args s = true := fun h => F.2.2.2.1 _ (List.mem_cons_of_mem _ h)
  have hs : ((st.map (rcv ad)).map fun v => v.category).sum = (st.map fun v => v.category).sum := by simp [List.map_map, Function.comp_def, rcv_cat]
  exact va_mmin F.1 F.2.1 (F.2.2.2.2.2.2.1.trans hL.1.symm) F.2.2.2.2.1 (hin hw.1) (hin hw.2.1) (hin hw.2.2.1) (hin hw.2.2.2) hd1 (by rw [hs]; show _ ≤ 32 * M.2.2.2.2; omega) (Nat.le_refl _) (Nat.le_refl _) hd (kk p l e s m args below meth c D T ad A F H locs larr hP hS hL)

theorem r_mmax {x y : Int32} {idx : Nat} (hw : Cond.methodLink M.1.cls idx Lib.Math.max.name ∈ rl_T ∧ Cond.static Lib.Math.max.name ∈ rl_T ∧ Cond.initialized "java/lang/Math" ∈ rl_T ∧ Cond.code Lib.Math.max.name Lib.Math.max.code 2 (some .int) ∈ rl_T) (hd : decode M.2.1 pc = .ok (.invokestatic idx, 3)) (hd1 : 1 ≤ M.2.2.2.2) (hr : (st.map fun v => v.category).sum ≤ 8) (kk : Rn w M (pc + 3) ls (.int (if x < y then y else x) :: st) σ Post) : Rn w M pc ls (.int y :: .int x :: st) σ Post := by
  intro p l e s m args below meth c D T ad A F H locs larr hP hS hL
  have hin : ∀ {q : Cond}, q ∈ rl_T → q.before args s = true := fun h => F.2.2.2.1 _ (List.mem_cons_of_mem _ h)
  have hs : ((st.map (rcv ad)).map fun v => v.category).sum = (st.map fun v => v.category).sum := by simp [List.map_map, Function.comp_def, rcv_cat]
  exact va_mmax F.1 F.2.1 (F.2.2.2.2.2.2.1.trans hL.1.symm) F.2.2.2.2.1 (hin hw.1) (hin hw.2.1) (hin hw.2.2.1) (hin hw.2.2.2) hd1 (by rw [hs]; show _ ≤ 32 * M.2.2.2.2; omega) (Nat.le_refl _) (Nat.le_refl _) hd (kk p l e s m args below meth c D T ad A F H locs larr hP hS hL)

theorem r_mabs {x : Int32} {idx : Nat} (hw : Cond.methodLink M.1.cls idx Lib.Math.abs.name ∈ rl_T ∧ Cond.static Lib.Math.abs.name ∈ rl_T ∧ Cond.initialized "java/lang/Math" ∈ rl_T ∧ Cond.code Lib.Math.abs.name Lib.Math.abs.code 1 (some .int) ∈ rl_T) (hd : decode M.2.1 pc = .ok (.invokestatic idx, 3)) (hd1 : 1 ≤ M.2.2.2.2) (hr : (st.map fun v => v.category).sum ≤ 8) (kk : Rn w M (pc + 3) ls (.int (if 0 ≤ x then x else 0 - x) :: st) σ Post) : Rn w M pc ls (.int x :: st) σ Post := by
  intro p l e s m args below meth c D T ad A F H locs larr hP hS hL
  have hin : ∀ {q : Cond}, q ∈ rl_T → q.before args s = true := fun h => F.2.2.2.1 _ (List.mem_cons_of_mem _ h)
  have hs : ((st.map (rcv ad)).map fun v => v.category).sum = (st.map fun v => v.category).sum := by simp [List.map_map, Function.comp_def, rcv_cat]
  exact va_mabs F.1 F.2.1 (F.2.2.2.2.2.2.1.trans hL.1.symm) F.2.2.2.2.1 (hin hw.1) (hin hw.2.1) (hin hw.2.2.1) (hin hw.2.2.2) hd1 (by rw [hs]; show _ ≤ 32 * M.2.2.2.2; omega) (Nat.le_refl _) (Nat.le_refl _) hd (kk p l e s m args below meth c D T ad A F H locs larr hP hS hL)

theorem r_iret {x : Int32} (hr : M.2.2.2.1 = some .int) (hd : decode M.2.1 pc = .ok (.ireturn, 1)) (hp : Post (some (.int x)) σ) : Rn w M pc ls [.int x] σ Post := by
  intro p l e s m args below meth c D T ad A F H locs larr hP hS hL
  exact W.iret F.1 F.2.1 (F.2.2.1.trans hr) (fun t ht hW => ⟨⟨some (.int x), σ, rfl, hp, by rw [ht]; exact hP, va_K.moved hW.alike F.2.2.2.2.2.2.2.1, F.2.2.2.2.2.2.2.2.1, by rw [ht]; exact rl_Z.go hW.alike F.2.2.2.2.2.2.2.2.2 hS.2.1⟩, hS.F ht⟩) hS.2.2 hd F.2.2.2.2.2.1

theorem r_zret {x : Int32} (hr : M.2.2.2.1 = some .boolean) (hd : decode M.2.1 pc = .ok (.ireturn, 1)) (hn : narrow .boolean (.int x) = .int x) (hp : Post (some (.int x)) σ) : Rn w M pc ls [.int x] σ Post := by
  intro p l e s m args below meth c D T ad A F H locs larr hP hS hL
  exact W.zret F.1 F.2.1 (F.2.2.1.trans hr) hn (fun t ht hW => ⟨⟨some (.int x), σ, rfl, hp, by rw [ht]; exact hP, va_K.moved hW.alike F.2.2.2.2.2.2.2.1, F.2.2.2.2.2.2.2.2.1, by rw [ht]; exact rl_Z.go hW.alike F.2.2.2.2.2.2.2.2.2 hS.2.1⟩, hS.F ht⟩) hS.2.2 hd F.2.2.2.2.2.1

theorem r_lret {x : Int64} (hr : M.2.2.2.1 = some .long) (hd : decode M.2.1 pc = .ok (.lreturn, 1)) (hp : Post (some (.long x)) σ) : Rn w M pc ls [.long x] σ Post := by
  intro p l e s m args below meth c D T ad A F H locs larr hP hS hL
  exact W.lret F.1 F.2.1 (F.2.2.1.trans hr) (fun t ht hW => ⟨⟨some (.long x), σ, rfl, hp, by rw [ht]; exact hP, va_K.moved hW.alike F.2.2.2.2.2.2.2.1, F.2.2.2.2.2.2.2.2.1, by rw [ht]; exact rl_Z.go hW.alike F.2.2.2.2.2.2.2.2.2 hS.2.1⟩, hS.F ht⟩) hS.2.2 hd F.2.2.2.2.2.1

theorem r_vret (hr : M.2.2.2.1 = none) (hd : decode M.2.1 pc = .ok (.return_, 1)) (hp : Post (none) σ) : Rn w M pc ls [] σ Post := by
  intro p l e s m args below meth c D T ad A F H locs larr hP hS hL
  exact W.vret F.1 F.2.1 (F.2.2.1.trans hr) (fun t ht hW => ⟨⟨none, σ, rfl, hp, by rw [ht]; exact hP, va_K.moved hW.alike F.2.2.2.2.2.2.2.1, F.2.2.2.2.2.2.2.2.1, by rw [ht]; exact rl_Z.go hW.alike F.2.2.2.2.2.2.2.2.2 hS.2.1⟩, hS.F ht⟩) hS.2.2 hd F.2.2.2.2.2.1

theorem r_aret {x : Nat} {C : String} (hr : M.2.2.2.1 = some (.object C)) (hd : decode M.2.1 pc = .ok (.areturn, 1)) (hp : Post (some (.ref x)) σ) : Rn w M pc ls [.ref x] σ Post := by
  intro p l e s m args below meth c D T ad A F H locs larr hP hS hL
  exact W.aret F.1 F.2.1 (F.2.2.1.trans hr) (Or.inl ⟨_, rfl⟩) (Or.inr ⟨_, rfl⟩) (fun t ht hW => ⟨⟨some (.ref x), σ, rfl, hp, by rw [ht]; exact hP, va_K.moved hW.alike F.2.2.2.2.2.2.2.1, F.2.2.2.2.2.2.2.2.1, by rw [ht]; exact rl_Z.go hW.alike F.2.2.2.2.2.2.2.2.2 hS.2.1⟩, hS.F ht⟩) hS.2.2 hd F.2.2.2.2.2.1

theorem r_aretN {C : String} (hr : M.2.2.2.1 = some (.object C)) (hd : decode M.2.1 pc = .ok (.areturn, 1)) (hp : Post (some .null) σ) : Rn w M pc ls [.null] σ Post := by
  intro p l e s m args below meth c D T ad A F H locs larr hP hS hL
  exact W.aret F.1 F.2.1 (F.2.2.1.trans hr) (Or.inl ⟨_, rfl⟩) (Or.inl rfl) (fun t ht hW => ⟨⟨some .null, σ, rfl, hp, by rw [ht]; exact hP, va_K.moved hW.alike F.2.2.2.2.2.2.2.1, F.2.2.2.2.2.2.2.2.1, by rw [ht]; exact rl_Z.go hW.alike F.2.2.2.2.2.2.2.2.2 hS.2.1⟩, hS.F ht⟩) hS.2.2 hd F.2.2.2.2.2.1

theorem rl_go {Post' : Option Value → rl_S → Prop} {p : Program} {l : Launch} {e : Env} {s : State} {m : MethodId} {args : Array Value} {below : List Frame} {meth : Method} {c : Code} {D : va_G} {T : Nat → ClassId} {ad : Nat → Nat} {A : Nat → Prop} (F : rl_F w M p s m args meth c D T ad A) {H : Heap} {locs : List Loc} {larr : Array Slot} (hS : va_S A s.heap H locs) (hL : rl_L larr M.2.2.1 ad ls) {st0 : List Value} {av : Array Value}
    (run : va_Run p l e (rl_R M.2.2.2.2) s m args below meth c H locs 0 0 0 0 (F0 m pc larr st0) (st.map (rcv ad)) (rl_Q w D T ad A Post' av) A)
    (kk : ∀ r σ1, Post' r σ1 → Rn w M (pc + 3) ls (r.toList ++ st) σ1 Post) :
    W p l e (rl_R M.2.2.2.2) s m args below meth c H locs 0 0 (MQ below (rl_Q w D T ad A Post) args s 0 0 A) (F0 m pc larr st0) := by
  intro U hU X
  obtain ⟨v, st₀, t, U', L, h0, X', hL', e1, e2, ⟨⟨r, σ1, hv, hp, hw1⟩, hz, hk⟩, stp⟩ := run U hU X
  cases hv
  rw [h0] at hz hk
  have hw2 : va_P D vwCl (rl_w w T ad σ1) U'.heap := by rw [e1]; exact hw1.1
  have hS1 : va_S A s.heap U'.heap (locs ++ L) := ⟨Nat.le_trans hS.1 (by rw [e1]; exact hz), fun q h1 h2 => by rw [e1, hk q (Nat.lt_of_lt_of_le h1 hS.1) h2]; exact hS.2.1 q h1 h2, fun q hq => by
    rcases List.mem_append.mp hq with h | h
    · exact hS.2.2 q h
    · exact hL' q h⟩
  obtain ⟨t2, a1, b1⟩ := kk r σ1 hp p l e s m args below meth c D T ad A F U'.heap (locs ++ L) larr hw2 hS1 hL U' rfl X'
  refine ⟨t2, stp t2 ?_, b1⟩
  have he : (r.map (rcv ad)).toList ++ st.map (rcv ad) = (r.toList ++ st).map (rcv ad) := by cases r <;> simp
  rw [he]
  exact a1

theorem rl_blind {w : rl_W} {D : va_G} {T : Nat → ClassId} {ad : Nat → Nat} {A : Nat → Prop} {σ : rl_S} (av : List Value) : FrameBlind (va_Pc av (fun U => rl_H w D T ad A σ U)) := fun a U g mk q =>
  ⟨q.1, q.2.1, va_K.moved (u := U) (U := U.calling g mk a) (Vm.Alike.refl U.vm) q.2.2.1, q.2.2.2.1, rl_Z.go (u := U) (U := U.calling g mk a) (Vm.Alike.refl U.vm) q.2.2.2.2 (fun _ _ _ => rfl)⟩

set_option maxHeartbeats 1000000 in
theorem r_callV {M' : rl_M} {k ci idx n : Nat} {as stk : List Value} {fs : List (Option Value)} {Post' : Option Value → rl_S → Prop} (hct : Ct w M' (.ref k :: as) σ Post') (hv : rl_CV M.1.cls idx M' n) (hd : decode M.2.1 pc = .ok (.invokevirtual idx, 3)) (hk : k < w.1) (hw : w.2.1 k = .inr (.inl (ci, fs))) (hcl : ∃ T N, vwCl[ci]? = some (M'.1.cls, T, N)) (hdep : M'.2.2.2.2 + 1 ≤ M.2.2.2.2) (hml : M'.2.2.1 ≤ 13) (hn : as.length = n) (hst : stk = as.reverse ++ .ref k :: st) (hr : (st.map fun v => v.category).sum ≤ 8)
    (kk : ∀ r σ1, Post' r σ1 → Rn w M (pc + 3) ls (r.toList ++ st) σ1 Post) : Rn w M pc ls stk σ Post := by
  intro p l e s m args below meth c D T ad A F H locs larr hP hS hL
  obtain ⟨hc1, hlk, hin, hse, hini, hpl, hpd⟩ := hv
  obtain ⟨T0, N0, hcl⟩ := hcl
  have hb : ∀ {q : Cond}, q ∈ rl_T → q.before args s = true := fun h => F.2.2.2.1 _ (List.mem_cons_of_mem _ h)
  have he := rl_w_get w T ad σ hk
  rw [rl_c_ob hw] at he
  have hs : ((st.map (rcv ad)).map fun v => v.category).sum = (st.map fun v => v.category).sum := by simp [List.map_map, Function.comp_def, rcv_cat]
  have cw : CallW (rl_R M.2.2.2.2) s args M.1.cls M'.1.cls idx M'.1 M'.2.1 M'.2.2.1 M'.2.2.2.1 (rl_ws M') (rl_R M'.2.2.2.2) 0 0 n :=
    ⟨callB_of n F.2.2.2.1 (rl_goodM hc1) rfl rfl rfl (hb hini) (hb hlk) ⟨hpl.1, hpl.2, hpd⟩ ⟨hdep, by show 8 + (_ + 11) + 32 * M'.2.2.2.2 ≤ 32 * M.2.2.2.2; omega⟩, hb hin, hb hse⟩
  have run := va_runV (p := p) (l := l) (e := e) (R := rl_R M.2.2.2.2) (s := s) (m := m) (args := args) (below := below) (meth := meth) (c := c) (H := H) (locs := locs) (cells := 0) (slots := 0) (g := F0 m pc larr ((as.map (rcv ad)).reverse ++ .ref (ad k) :: st.map (rcv ad))) (rest := st.map (rcv ad)) (As := as.map (rcv ad)) (nL := M.2.2.1) (Ts := rl_ws M)
    ⟨F.1, F.2.1, F.2.2.2.2.2.2.1, F.2.2.2.2.1, F.2.2.2.1⟩ (hct l D T ad A) cw
    ⟨rl_blind _, va_recv F.2.2.2.2.2.2.2.1 hP hcl he, fun U hU hW => ⟨rfl, by rw [hU]; exact hP, va_K.moved hW.alike F.2.2.2.2.2.2.2.1, F.2.2.2.2.2.2.2.2.1, by rw [hU]; exact rl_Z.go hW.alike F.2.2.2.2.2.2.2.2.2 hS.2.1⟩⟩
    rfl (by rw [List.length_map]; exact hn) hL.1 rfl (lv_room (by rw [hs]; exact hr)) hd ⟨Nat.le_refl _, Nat.le_refl _⟩
  have := rl_go F hS hL run kk
  rw [hst]
  simpa only [List.map_append, List.map_reverse, List.map_cons, rcv] using this

set_option maxHeartbeats 1000000 in
theorem r_callS {M' : rl_M} {idx n : Nat} {as stk : List Value} {Post' : Option Value → rl_S → Prop} (hct : Ct w M' as σ Post') (hv : rl_CS M.1.cls idx M' n) (hd : decode M.2.1 pc = .ok (.invokestatic idx, 3)) (hdep : M'.2.2.2.2 + 1 ≤ M.2.2.2.2) (hml : M'.2.2.1 ≤ 13) (hn : as.length = n) (hst : stk = as.reverse ++ st) (hr : (st.map fun v => v.category).sum ≤ 8)
    (kk : ∀ r σ1, Post' r σ1 → Rn w M (pc + 3) ls (r.toList ++ st) σ1 Post) : Rn w M pc ls stk σ Post := by
  intro p l e s m args below meth c D T ad A F H locs larr hP hS hL
  obtain ⟨hc1, hlk, hsta, hini, hpl, hpd⟩ := hv
  have hb : ∀ {q : Cond}, q ∈ rl_T → q.before args s = true := fun h => F.2.2.2.1 _ (List.mem_cons_of_mem _ h)
  have hs : ((st.map (rcv ad)).map fun v => v.category).sum = (st.map fun v => v.category).sum := by simp [List.map_map, Function.comp_def, rcv_cat]
  have cb : CallB (rl_R M.2.2.2.2) s args M.1.cls idx M'.1 M'.2.1 M'.2.2.1 M'.2.2.2.1 (rl_ws M') (rl_R M'.2.2.2.2) 0 0 n :=
    callB_of n F.2.2.2.1 (rl_goodM hc1) rfl rfl rfl (hb hini) (hb hlk) ⟨hpl.1, hpl.2, hpd⟩ ⟨hdep, by show 8 + (_ + 11) + 32 * M'.2.2.2.2 ≤ 32 * M.2.2.2.2; omega⟩
  have run := va_runS (p := p) (l := l) (e := e) (R := rl_R M.2.2.2.2) (s := s) (m := m) (args := args) (below := below) (meth := meth) (c := c) (H := H) (locs := locs) (cells := 0) (slots := 0) (g := F0 m pc larr ((as.map (rcv ad)).reverse ++ st.map (rcv ad))) (rest := st.map (rcv ad)) (As := as.map (rcv ad)) (nL := M.2.2.1) (Ts := rl_ws M)
    ⟨F.1, F.2.1, F.2.2.2.2.2.2.1, F.2.2.2.2.1, F.2.2.2.1⟩ (hct l D T ad A) ⟨cb, hb hsta⟩
    ⟨rl_blind _, fun U hU hW => ⟨rfl, by rw [hU]; exact hP, va_K.moved hW.alike F.2.2.2.2.2.2.2.1, F.2.2.2.2.2.2.2.2.1, by rw [hU]; exact rl_Z.go hW.alike F.2.2.2.2.2.2.2.2.2 hS.2.1⟩⟩
    rfl (by rw [List.length_map]; exact hn) hL.1 rfl (lv_room (by rw [hs]; exact hr)) hd ⟨Nat.le_refl _, Nat.le_refl _⟩
  have := rl_go F hS hL run kk
  rw [hst]
  simpa only [List.map_append, List.map_reverse] using this

end RL
end
section
/-! rows over integers -/
theorem iI_add (a b : Int) : iI a + iI b = iI (a + b) := (Int32.ofInt_add a b).symm
theorem iI_sub (a b : Int) : iI a - iI b = iI (a - b) := (Int32.ofInt_sub a b).symm
theorem iI_mul (a b : Int) : iI a * iI b = iI (a * b) := (Int32.ofInt_mul a b).symm
theorem iI_toInt {a : Int} (h : -2147483648 ≤ a ∧ a < 2147483648) : (iI a).toInt = a := Int32.toInt_ofInt_of_le (by simpa using h.1) (by simpa using h.2)
theorem iI_of (x : Int32) : iI x.toInt = x := Int32.ofInt_toInt x
theorem iI_lt {a b : Int} (ha : -2147483648 ≤ a ∧ a < 2147483648) (hb : -2147483648 ≤ b ∧ b < 2147483648) : iI a < iI b ↔ a < b := by
  rw [Int32.lt_iff_toInt_lt, iI_toInt ha, iI_toInt hb]
theorem iI_le {a b : Int} (ha : -2147483648 ≤ a ∧ a < 2147483648) (hb : -2147483648 ≤ b ∧ b < 2147483648) : iI a ≤ iI b ↔ a ≤ b := by
  rw [Int32.le_iff_toInt_le, iI_toInt ha, iI_toInt hb]
theorem iI_eq {a b : Int} (ha : -2147483648 ≤ a ∧ a < 2147483648) (hb : -2147483648 ≤ b ∧ b < 2147483648) : iI a = iI b ↔ a = b := by
  rw [← Int32.toInt_inj, iI_toInt ha, iI_toInt hb]
theorem iI_nat (n : Nat) : iI (n : Int) = nI n := by
  show Int32.ofInt (n : Int) = Int32.ofNat n
  first | exact Int32.ofInt_natCast n | exact Int32.ofInt_eq_ofNat | simp
theorem iI_clamp {a : Int} (ha : 0 ≤ a ∧ a < 2147483648) : (iI a).toNatClampNeg = a.toNat := by
  show (iI a).toInt.toNat = a.toNat
  rw [iI_toInt ⟨by omega, ha.2⟩]
theorem iI_in {a : Int} {n : Nat} (h0 : 0 ≤ a) (h1 : a < n) (hn : n < 2147483648) : vp_in (iI a) n := vp_in_iff.mpr (by rw [iI_toInt ⟨by omega, by omega⟩]; exact ⟨h0, h1⟩)
theorem iI_div {a b : Int} (ha : 0 ≤ a ∧ a < 2147483648) (hb : 0 < b ∧ b < 2147483648) : iI a / iI b = iI (a / b) := by
  obtain ⟨n, rfl⟩ := Int.eq_ofNat_of_zero_le ha.1
  obtain ⟨m, rfl⟩ := Int.eq_ofNat_of_zero_le (show 0 ≤ b by omega)
  rw [iI_nat, iI_nat, pk_div (by omega) (by omega) (by omega), ← iI_nat]
  rfl
theorem iI_rem {a b : Int} (ha : 0 ≤ a ∧ a < 2147483648) (hb : 0 < b ∧ b < 2147483648) : iI a - iI a / iI b * iI b = iI (a % b) := by
  obtain ⟨n, rfl⟩ := Int.eq_ofNat_of_zero_le ha.1
  obtain ⟨m, rfl⟩ := Int.eq_ofNat_of_zero_le (show 0 ≤ b by omega)
  rw [iI_nat, iI_nat, pk_rem (by omega) (by omega) (by omega), ← iI_nat]
  rfl
def b8 (z : Int) : Int := (iI z).toInt8.toInt32.toInt
def s16 (z : Int) : Int := (iI z).toInt16.toInt32.toInt
def us16 (z : Int) : Int := ((iI z).toUInt32 >>> ((iI 16).toUInt32 &&& Int32.toUInt32 31)).toInt32.toInt
/-- contracts: a pure answer; an int; nothing; a long; a cell or null -/
abbrev pR (v : Value) (σ : rl_S) : Option Value → rl_S → Prop := fun r σ' => r = some v ∧ σ' = σ
abbrev qI (P : Int → rl_S → Prop) : Option Value → rl_S → Prop := fun r σ' => ∃ z : Int, r = some (.int (iI z)) ∧ P z σ'
abbrev qL (P : Int64 → rl_S → Prop) : Option Value → rl_S → Prop := fun r σ' => ∃ z : Int64, r = some (.long z) ∧ P z σ'
abbrev qV (P : rl_S → Prop) : Option Value → rl_S → Prop := fun r σ' => r = none ∧ P σ'
section RI
variable {w : rl_W} {M : rl_M} {pc : Nat} {ls st : List Value} {σ : rl_S} {Post : Option Value → rl_S → Prop}
theorem i_const {n : Int} (hd : decode M.2.1 pc = .ok (.iconst n, 1)) (kk : Rn w M (pc + 1) ls (.int (iI n) :: st) σ Post) : Rn w M pc ls st σ Post := r_iconst hd rfl kk
theorem i_bipush {n : Int} (hd : decode M.2.1 pc = .ok (.bipush n, 2)) (hv : (Int8.ofInt n).toInt32 = iI n) (kk : Rn w M (pc + 2) ls (.int (iI n) :: st) σ Post) : Rn w M pc ls st σ Post := r_bipush hd hv kk
theorem i_sipush {n : Int} (hd : decode M.2.1 pc = .ok (.sipush n, 3)) (hv : (Int16.ofInt n).toInt32 = iI n) (kk : Rn w M (pc + 3) ls (.int (iI n) :: st) σ Post) : Rn w M pc ls st σ Post := r_sipush hd hv kk
theorem i_iinc {i : Nat} {n a : Int} (hd : decode M.2.1 pc = .ok (.iinc i n, 3)) (hl : ls[i]? = some (.int (iI a))) (hn : i < M.2.2.1) (kk : Rn w M (pc + 3) (rl_s1 ls i (.int (iI (a + n)))) st σ Post) : Rn w M pc ls st σ Post := r_iinc hd hl (iI_add a n) hn kk
theorem i_iadd {a b : Int} (hd : decode M.2.1 pc = .ok (.iadd, 1)) (kk : Rn w M (pc + 1) ls (.int (iI (a + b)) :: st) σ Post) : Rn w M pc ls (.int (iI b) :: .int (iI a) :: st) σ Post := r_iadd hd (by rw [iI_add]; exact kk)
theorem i_isub {a b : Int} (hd : decode M.2.1 pc = .ok (.isub, 1)) (kk : Rn w M (pc + 1) ls (.int (iI (a - b)) :: st) σ Post) : Rn w M pc ls (.int (iI b) :: .int (iI a) :: st) σ Post := r_isub hd (by rw [iI_sub]; exact kk)
theorem i_imul {a b : Int} (hd : decode M.2.1 pc = .ok (.imul, 1)) (kk : Rn w M (pc + 1) ls (.int (iI (a * b)) :: st) σ Post) : Rn w M pc ls (.int (iI b) :: .int (iI a) :: st) σ Post := r_imul hd (by rw [iI_mul]; exact kk)
theorem iI_ne0 {b : Int} (hb : 0 < b ∧ b < 2147483648) : ¬ iI b = 0 := by
  intro h
  have h2 : (iI b).toInt = (0 : Int32).toInt := by rw [h]
  rw [iI_toInt ⟨by omega, hb.2⟩] at h2
  have : (0 : Int32).toInt = 0 := by decide
  omega
theorem i_idiv {a b : Int} (hd : decode M.2.1 pc = .ok (.idiv, 1)) (ha : 0 ≤ a ∧ a < 2147483648) (hb : 0 < b ∧ b < 2147483648) (kk : Rn w M (pc + 1) ls (.int (iI (a / b)) :: st) σ Post) : Rn w M pc ls (.int (iI b) :: .int (iI a) :: st) σ Post := r_idiv hd (iI_ne0 hb) (by rw [iI_div ha hb]; exact kk)
theorem i_irem {a b : Int} (hd : decode M.2.1 pc = .ok (.irem, 1)) (ha : 0 ≤ a ∧ a < 2147483648) (hb : 0 < b ∧ b < 2147483648) (kk : Rn w M (pc + 1) ls (.int (iI (a % b)) :: st) σ Post) : Rn w M pc ls (.int (iI b) :: .int (iI a) :: st) σ Post := r_irem hd (iI_ne0 hb) (by rw [iI_rem ha hb]; exact kk)
theorem i_i2b {a : Int} (hd : decode M.2.1 pc = .ok (.i2b, 1)) (kk : Rn w M (pc + 1) ls (.int (iI (b8 a)) :: st) σ Post) : Rn w M pc ls (.int (iI a) :: st) σ Post := r_i2b hd (by rw [← iI_of (iI a).toInt8.toInt32]; exact kk)
theorem i_i2s {a : Int} (hd : decode M.2.1 pc = .ok (.i2s, 1)) (kk : Rn w M (pc + 1) ls (.int (iI (s16 a)) :: st) σ Post) : Rn w M pc ls (.int (iI a) :: st) σ Post := r_i2s hd (by rw [← iI_of (iI a).toInt16.toInt32]; exact kk)
theorem i_iushr16 {a : Int} (hd : decode M.2.1 pc = .ok (.iushr, 1)) (kk : Rn w M (pc + 1) ls (.int (iI (us16 a)) :: st) σ Post) : Rn w M pc ls (.int (iI 16) :: .int (iI a) :: st) σ Post := r_iushr hd rfl (by unfold us16 at kk; rw [iI_of] at kk; exact kk)
theorem i_ald {k t n : Nat} {z : Int} (hd : decode M.2.1 pc = .ok (.iaload, 1)) (hk : k < w.1) (hw : w.2.1 k = .inl (t, n)) (ht : w.2.2.1[t]? = some .int) (hin : 0 ≤ z ∧ z < (n : Int)) (hn : n < 2147483648) (kk : Rn w M (pc + 1) ls (.int (iI (σ k z.toNat)) :: st) σ Post) : Rn w M pc ls (.int (iI z) :: .ref k :: st) σ Post := r_iald hd hk hw ht (iI_in hin.1 hin.2 hn) (by rw [iI_clamp ⟨hin.1, by omega⟩]; exact kk)
theorem i_zld {k t n : Nat} {z : Int} (hd : decode M.2.1 pc = .ok (.baload, 1)) (hk : k < w.1) (hw : w.2.1 k = .inl (t, n)) (ht : w.2.2.1[t]? = some .boolean) (hin : 0 ≤ z ∧ z < (n : Int)) (hn : n < 2147483648) (kk : Rn w M (pc + 1) ls (.int (iI (σ k z.toNat)) :: st) σ Post) : Rn w M pc ls (.int (iI z) :: .ref k :: st) σ Post := r_zald hd hk hw ht (iI_in hin.1 hin.2 hn) (by rw [iI_clamp ⟨hin.1, by omega⟩]; exact kk)
theorem i_ast {k t n : Nat} {z x : Int} (hd : decode M.2.1 pc = .ok (.iastore, 1)) (hk : k < w.1) (hw : w.2.1 k = .inl (t, n)) (ht : w.2.2.1[t]? = some .int) (hin : 0 ≤ z ∧ z < (n : Int)) (hn : n < 2147483648) (kk : Rn w M (pc + 1) ls st (sup σ k z.toNat x) Post) : Rn w M pc ls (.int (iI x) :: .int (iI z) :: .ref k :: st) σ Post := r_iast hd hk hw ht (iI_in hin.1 hin.2 hn) (by rw [iI_clamp ⟨hin.1, by omega⟩]; exact kk)
theorem i_zst {k t n : Nat} {z x : Int} (hd : decode M.2.1 pc = .ok (.bastore, 1)) (hk : k < w.1) (hw : w.2.1 k = .inl (t, n)) (ht : w.2.2.1[t]? = some .boolean) (hin : 0 ≤ z ∧ z < (n : Int)) (hn : n < 2147483648) (hx : vp_nar .boolean (iI x) = iI x) (kk : Rn w M (pc + 1) ls st (sup σ k z.toNat x) Post) : Rn w M pc ls (.int (iI x) :: .int (iI z) :: .ref k :: st) σ Post := r_zast hd hk hw ht (iI_in hin.1 hin.2 hn) hx (by rw [iI_clamp ⟨hin.1, by omega⟩]; exact kk)
theorem i_alen {k t n : Nat} {ty : FieldType} (hd : decode M.2.1 pc = .ok (.arraylength, 1)) (hk : k < w.1) (hw : w.2.1 k = .inl (t, n)) (ht : w.2.2.1[t]? = some ty) (kk : Rn w M (pc + 1) ls (.int (iI (n : Int)) :: st) σ Post) : Rn w M pc ls (.ref k :: st) σ Post := r_alen hd hk hw ht (iI_nat n).symm kk
theorem i_alenQ {k t : Nat} {rs : List Nat} {ty : FieldType} (hd : decode M.2.1 pc = .ok (.arraylength, 1)) (hk : k < w.1) (hw : w.2.1 k = .inr (.inr (t, rs))) (ht : w.2.2.1[t]? = some ty) (kk : Rn w M (pc + 1) ls (.int (iI (rs.length : Int)) :: st) σ Post) : Rn w M pc ls (.ref k :: st) σ Post := r_alenQ hd hk hw ht (iI_nat _).symm kk
theorem i_aald {k t q : Nat} {rs : List Nat} {C : String} {z : Int} (hd : decode M.2.1 pc = .ok (.aaload, 1)) (hk : k < w.1) (hw : w.2.1 k = .inr (.inr (t, rs))) (ht : w.2.2.1[t]? = some (.object C)) (hin : 0 ≤ z ∧ z < (rs.length : Int)) (hn : rs.length < 2147483648) (hq : rs[z.toNat]? = some q) (kk : Rn w M (pc + 1) ls (.ref q :: st) σ Post) : Rn w M pc ls (.int (iI z) :: .ref k :: st) σ Post := r_aald hd hk hw ht (iI_in hin.1 hin.2 hn) (by rw [iI_clamp ⟨hin.1, by omega⟩]; exact hq) kk
theorem i_tald {C n : String} {k len : Nat} {f : Nat → Int32} {z : Int} (hq : (C, n, k, len, f) ∈ w.2.2.2) (hd : decode M.2.1 pc = .ok (.iaload, 1)) (hin : 0 ≤ z ∧ z < (len : Int)) (hn : len < 2147483648) (kk : Rn w M (pc + 1) ls (.int (f z.toNat) :: st) σ Post) : Rn w M pc ls (.int (iI z) :: .ref k :: st) σ Post := r_tald hq hd (iI_in hin.1 hin.2 hn) (by rw [iI_clamp ⟨hin.1, by omega⟩]; exact kk)
theorem i_tlen {C n : String} {k len : Nat} {f : Nat → Int32} (hq : (C, n, k, len, f) ∈ w.2.2.2) (hd : decode M.2.1 pc = .ok (.arraylength, 1)) (kk : Rn w M (pc + 1) ls (.int (iI (len : Int)) :: st) σ Post) : Rn w M pc ls (.ref k :: st) σ Post := r_tlen hq hd (iI_nat _).symm kk
theorem i_put {k ci j idx : Nat} {fs : List (Option Value)} {x : Int} (hf : rl_FP M.1.cls idx ci j .int) (hd : decode M.2.1 pc = .ok (.putfield idx, 3)) (hk : k < w.1) (hw : w.2.1 k = .inr (.inl (ci, fs))) (hj0 : fs[j]? = some none) (kk : Rn w M (pc + 3) ls st (sup σ k j x) Post) : Rn w M pc ls (.int (iI x) :: .ref k :: st) σ Post := r_put hf hd hk hw hj0 rfl rfl kk
theorem i_icmp_eq {a b off : Int} (tgt : Nat) (hd : decode M.2.1 pc = .ok (.if_icmp .eq off, 3)) (ht : (pc : Int) + off = (tgt : Int)) (ha : -2147483648 ≤ a ∧ a < 2147483648) (hb : -2147483648 ≤ b ∧ b < 2147483648) (kt : a = b → Rn w M tgt ls st σ Post) (kf : ¬ a = b → Rn w M (pc + 3) ls st σ Post) : Rn w M pc ls (.int (iI b) :: .int (iI a) :: st) σ Post := r_icmp_eq tgt hd ht (fun q => kt ((iI_eq ha hb).mp q)) (fun q => kf (fun z => q ((iI_eq ha hb).mpr z)))
theorem i_if_eq {a off : Int} (tgt : Nat) (hd : decode M.2.1 pc = .ok (.ifCond .eq off, 3)) (ht : (pc : Int) + off = (tgt : Int)) (ha : -2147483648 ≤ a ∧ a < 2147483648) (kt : a = 0 → Rn w M tgt ls st σ Post) (kf : ¬ a = 0 → Rn w M (pc + 3) ls st σ Post) : Rn w M pc ls (.int (iI a) :: st) σ Post := r_if_eq tgt hd ht (fun q => kt ((iI_eq ha (show -2147483648 ≤ (0 : Int) ∧ (0 : Int) < 2147483648 by decide)).mp q)) (fun q => kf (fun z => q ((iI_eq ha (show -2147483648 ≤ (0 : Int) ∧ (0 : Int) < 2147483648 by decide)).mpr z)))
theorem i_icmp_ne {a b off : Int} (tgt : Nat) (hd : decode M.2.1 pc = .ok (.if_icmp .ne off, 3)) (ht : (pc : Int) + off = (tgt : Int)) (ha : -2147483648 ≤ a ∧ a < 2147483648) (hb : -2147483648 ≤ b ∧ b < 2147483648) (kt : ¬ a = b → Rn w M tgt ls st σ Post) (kf : a = b → Rn w M (pc + 3) ls st σ Post) : Rn w M pc ls (.int (iI b) :: .int (iI a) :: st) σ Post := r_icmp_ne tgt hd ht (fun q => kt (fun z => q ((iI_eq ha hb).mpr z))) (fun q => kf ((iI_eq ha hb).mp q))
theorem i_if_ne {a off : Int} (tgt : Nat) (hd : decode M.2.1 pc = .ok (.ifCond .ne off, 3)) (ht : (pc : Int) + off = (tgt : Int)) (ha : -2147483648 ≤ a ∧ a < 2147483648) (kt : ¬ a = 0 → Rn w M tgt ls st σ Post) (kf : a = 0 → Rn w M (pc + 3) ls st σ Post) : Rn w M pc ls (.int (iI a) :: st) σ Post := r_if_ne tgt hd ht (fun q => kt (fun z => q ((iI_eq ha (show -2147483648 ≤ (0 : Int) ∧ (0 : Int) < 2147483648 by decide)).mpr z))) (fun q => kf ((iI_eq ha (show -2147483648 ≤ (0 : Int) ∧ (0 : Int) < 2147483648 by decide)).mp q))
theorem i_icmp_lt {a b off : Int} (tgt : Nat) (hd : decode M.2.1 pc = .ok (.if_icmp .lt off, 3)) (ht : (pc : Int) + off = (tgt : Int)) (ha : -2147483648 ≤ a ∧ a < 2147483648) (hb : -2147483648 ≤ b ∧ b < 2147483648) (kt : a < b → Rn w M tgt ls st σ Post) (kf : ¬ a < b → Rn w M (pc + 3) ls st σ Post) : Rn w M pc ls (.int (iI b) :: .int (iI a) :: st) σ Post := r_icmp_lt tgt hd ht (fun q => kt ((iI_lt ha hb).mp q)) (fun q => kf (fun z => q ((iI_lt ha hb).mpr z)))
theorem i_if_lt {a off : Int} (tgt : Nat) (hd : decode M.2.1 pc = .ok (.ifCond .lt off, 3)) (ht : (pc : Int) + off = (tgt : Int)) (ha : -2147483648 ≤ a ∧ a < 2147483648) (kt : a < 0 → Rn w M tgt ls st σ Post) (kf : ¬ a < 0 → Rn w M (pc + 3) ls st σ Post) : Rn w M pc ls (.int (iI a) :: st) σ Post := r_if_lt tgt hd ht (fun q => kt ((iI_lt ha (show -2147483648 ≤ (0 : Int) ∧ (0 : Int) < 2147483648 by decide)).mp q)) (fun q => kf (fun z => q ((iI_lt ha (show -2147483648 ≤ (0 : Int) ∧ (0 : Int) < 2147483648 by decide)).mpr z)))
theorem i_icmp_ge {a b off : Int} (tgt : Nat) (hd : decode M.2.1 pc = .ok (.if_icmp .ge off, 3)) (ht : (pc : Int) + off = (tgt : Int)) (ha : -2147483648 ≤ a ∧ a < 2147483648) (hb : -2147483648 ≤ b ∧ b < 2147483648) (kt : b ≤ a → Rn w M tgt ls st σ Post) (kf : ¬ b ≤ a → Rn w M (pc + 3) ls st σ Post) : Rn w M pc ls (.int (iI b) :: .int (iI a) :: st) σ Post := r_icmp_ge tgt hd ht (fun q => kt ((iI_le hb ha).mp q)) (fun q => kf (fun z => q ((iI_le hb ha).mpr z)))
theorem i_if_ge {a off : Int} (tgt : Nat) (hd : decode M.2.1 pc = .ok (.ifCond .ge off, 3)) (ht : (pc : Int) + off = (tgt : Int)) (ha : -2147483648 ≤ a ∧ a < 2147483648) (kt : 0 ≤ a → Rn w M tgt ls st σ Post) (kf : ¬ 0 ≤ a → Rn w M (pc + 3) ls st σ Post) : Rn w M pc ls (.int (iI a) :: st) σ Post := r_if_ge tgt hd ht (fun q => kt ((iI_le (show -2147483648 ≤ (0 : Int) ∧ (0 : Int) < 2147483648 by decide) ha).mp q)) (fun q => kf (fun z => q ((iI_le (show -2147483648 ≤ (0 : Int) ∧ (0 : Int) < 2147483648 by decide) ha).mpr z)))
theorem i_icmp_gt {a b off : Int} (tgt : Nat) (hd : decode M.2.1 pc = .ok (.if_icmp .gt off, 3)) (ht : (pc : Int) + off = (tgt : Int)) (ha : -2147483648 ≤ a ∧ a < 2147483648) (hb : -2147483648 ≤ b ∧ b < 2147483648) (kt : b < a → Rn w M tgt ls st σ Post) (kf : ¬ b < a → Rn w M (pc + 3) ls st σ Post) : Rn w M pc ls (.int (iI b) :: .int (iI a) :: st) σ Post := r_icmp_gt tgt hd ht (fun q => kt ((iI_lt hb ha).mp q)) (fun q => kf (fun z => q ((iI_lt hb ha).mpr z)))
theorem i_if_gt {a off : Int} (tgt : Nat) (hd : decode M.2.1 pc = .ok (.ifCond .gt off, 3)) (ht : (pc : Int) + off = (tgt : Int)) (ha : -2147483648 ≤ a ∧ a < 2147483648) (kt : 0 < a → Rn w M tgt ls st σ Post) (kf : ¬ 0 < a → Rn w M (pc + 3) ls st σ Post) : Rn w M pc ls (.int (iI a) :: st) σ Post := r_if_gt tgt hd ht (fun q => kt ((iI_lt (show -2147483648 ≤ (0 : Int) ∧ (0 : Int) < 2147483648 by decide) ha).mp q)) (fun q => kf (fun z => q ((iI_lt (show -2147483648 ≤ (0 : Int) ∧ (0 : Int) < 2147483648 by decide) ha).mpr z)))
theorem i_icmp_le {a b off : Int} (tgt : Nat) (hd : decode M.2.1 pc = .ok (.if_icmp .le off, 3)) (ht : (pc : Int) + off = (tgt : Int)) (ha : -2147483648 ≤ a ∧ a < 2147483648) (hb : -2147483648 ≤ b ∧ b < 2147483648) (kt : a ≤ b → Rn w M tgt ls st σ Post) (kf : ¬ a ≤ b → Rn w M (pc + 3) ls st σ Post) : Rn w M pc ls (.int (iI b) :: .int (iI a) :: st) σ Post := r_icmp_le tgt hd ht (fun q => kt ((iI_le ha hb).mp q)) (fun q => kf (fun z => q ((iI_le ha hb).mpr z)))
theorem i_if_le {a off : Int} (tgt : Nat) (hd : decode M.2.1 pc = .ok (.ifCond .le off, 3)) (ht : (pc : Int) + off = (tgt : Int)) (ha : -2147483648 ≤ a ∧ a < 2147483648) (kt : a ≤ 0 → Rn w M tgt ls st σ Post) (kf : ¬ a ≤ 0 → Rn w M (pc + 3) ls st σ Post) : Rn w M pc ls (.int (iI a) :: st) σ Post := r_if_le tgt hd ht (fun q => kt ((iI_le ha (show -2147483648 ≤ (0 : Int) ∧ (0 : Int) < 2147483648 by decide)).mp q)) (fun q => kf (fun z => q ((iI_le ha (show -2147483648 ≤ (0 : Int) ∧ (0 : Int) < 2147483648 by decide)).mpr z)))
theorem i_cvP {M' : rl_M} {k ci idx n : Nat} {as stk : List Value} {fs : List (Option Value)} {v : Value} (hct : Ct w M' (.ref k :: as) σ (pR v σ)) (hv : rl_CV M.1.cls idx M' n) (hd : decode M.2.1 pc = .ok (.invokevirtual idx, 3)) (hk : k < w.1) (hw : w.2.1 k = .inr (.inl (ci, fs))) (hcl : ∃ T N, vwCl[ci]? = some (M'.1.cls, T, N)) (hdep : M'.2.2.2.2 + 1 ≤ M.2.2.2.2) (hml : M'.2.2.1 ≤ 13) (hn : as.length = n) (hst : stk = as.reverse ++ .ref k :: st) (hr : (st.map fun v => v.category).sum ≤ 8) (kk : Rn w M (pc + 3) ls (v :: st) σ Post) : Rn w M pc ls stk σ Post := r_callV hct hv hd hk hw hcl hdep hml hn hst hr (fun r σ1 h => by obtain ⟨rfl, rfl⟩ := h; exact kk)
theorem i_csP {M' : rl_M} {idx n : Nat} {as stk : List Value} {v : Value} (hct : Ct w M' as σ (pR v σ)) (hv : rl_CS M.1.cls idx M' n) (hd : decode M.2.1 pc = .ok (.invokestatic idx, 3)) (hdep : M'.2.2.2.2 + 1 ≤ M.2.2.2.2) (hml : M'.2.2.1 ≤ 13) (hn : as.length = n) (hst : stk = as.reverse ++ st) (hr : (st.map fun v => v.category).sum ≤ 8) (kk : Rn w M (pc + 3) ls (v :: st) σ Post) : Rn w M pc ls stk σ Post := r_callS hct hv hd hdep hml hn hst hr (fun r σ1 h => by obtain ⟨rfl, rfl⟩ := h; exact kk)
theorem i_cvI {M' : rl_M} {k ci idx n : Nat} {as stk : List Value} {fs : List (Option Value)} {P : Int → rl_S → Prop} (hct : Ct w M' (.ref k :: as) σ (qI P)) (hv : rl_CV M.1.cls idx M' n) (hd : decode M.2.1 pc = .ok (.invokevirtual idx, 3)) (hk : k < w.1) (hw : w.2.1 k = .inr (.inl (ci, fs))) (hcl : ∃ T N, vwCl[ci]? = some (M'.1.cls, T, N)) (hdep : M'.2.2.2.2 + 1 ≤ M.2.2.2.2) (hml : M'.2.2.1 ≤ 13) (hn : as.length = n) (hst : stk = as.reverse ++ .ref k :: st) (hr : (st.map fun v => v.category).sum ≤ 8) (kk : ∀ z σ1, P z σ1 → Rn w M (pc + 3) ls (.int (iI z) :: st) σ1 Post) : Rn w M pc ls stk σ Post := r_callV hct hv hd hk hw hcl hdep hml hn hst hr (fun r σ1 h => by obtain ⟨z, rfl, h⟩ := h; exact kk z σ1 h)
theorem i_csI {M' : rl_M} {idx n : Nat} {as stk : List Value} {P : Int → rl_S → Prop} (hct : Ct w M' as σ (qI P)) (hv : rl_CS M.1.cls idx M' n) (hd : decode M.2.1 pc = .ok (.invokestatic idx, 3)) (hdep : M'.2.2.2.2 + 1 ≤ M.2.2.2.2) (hml : M'.2.2.1 ≤ 13) (hn : as.length = n) (hst : stk = as.reverse ++ st) (hr : (st.map fun v => v.category).sum ≤ 8) (kk : ∀ z σ1, P z σ1 → Rn w M (pc + 3) ls (.int (iI z) :: st) σ1 Post) : Rn w M pc ls stk σ Post := r_callS hct hv hd hdep hml hn hst hr (fun r σ1 h => by obtain ⟨z, rfl, h⟩ := h; exact kk z σ1 h)
theorem i_cvL {M' : rl_M} {k ci idx n : Nat} {as stk : List Value} {fs : List (Option Value)} {P : Int64 → rl_S → Prop} (hct : Ct w M' (.ref k :: as) σ (qL P)) (hv : rl_CV M.1.cls idx M' n) (hd : decode M.2.1 pc = .ok (.invokevirtual idx, 3)) (hk : k < w.1) (hw : w.2.1 k = .inr (.inl (ci, fs))) (hcl : ∃ T N, vwCl[ci]? = some (M'.1.cls, T, N)) (hdep : M'.2.2.2.2 + 1 ≤ M.2.2.2.2) (hml : M'.2.2.1 ≤ 13) (hn : as.length = n) (hst : stk = as.reverse ++ .ref k :: st) (hr : (st.map fun v => v.category).sum ≤ 8) (kk : ∀ z σ1, P z σ1 → Rn w M (pc + 3) ls (.long z :: st) σ1 Post) : Rn w M pc ls stk σ Post := r_callV hct hv hd hk hw hcl hdep hml hn hst hr (fun r σ1 h => by obtain ⟨z, rfl, h⟩ := h; exact kk z σ1 h)
theorem i_csL {M' : rl_M} {idx n : Nat} {as stk : List Value} {P : Int64 → rl_S → Prop} (hct : Ct w M' as σ (qL P)) (hv : rl_CS M.1.cls idx M' n) (hd : decode M.2.1 pc = .ok (.invokestatic idx, 3)) (hdep : M'.2.2.2.2 + 1 ≤ M.2.2.2.2) (hml : M'.2.2.1 ≤ 13) (hn : as.length = n) (hst : stk = as.reverse ++ st) (hr : (st.map fun v => v.category).sum ≤ 8) (kk : ∀ z σ1, P z σ1 → Rn w M (pc + 3) ls (.long z :: st) σ1 Post) : Rn w M pc ls stk σ Post := r_callS hct hv hd hdep hml hn hst hr (fun r σ1 h => by obtain ⟨z, rfl, h⟩ := h; exact kk z σ1 h)
theorem i_cvV {M' : rl_M} {k ci idx n : Nat} {as stk : List Value} {fs : List (Option Value)} {P : rl_S → Prop} (hct : Ct w M' (.ref k :: as) σ (qV P)) (hv : rl_CV M.1.cls idx M' n) (hd : decode M.2.1 pc = .ok (.invokevirtual idx, 3)) (hk : k < w.1) (hw : w.2.1 k = .inr (.inl (ci, fs))) (hcl : ∃ T N, vwCl[ci]? = some (M'.1.cls, T, N)) (hdep : M'.2.2.2.2 + 1 ≤ M.2.2.2.2) (hml : M'.2.2.1 ≤ 13) (hn : as.length = n) (hst : stk = as.reverse ++ .ref k :: st) (hr : (st.map fun v => v.category).sum ≤ 8) (kk : ∀ σ1, P σ1 → Rn w M (pc + 3) ls st σ1 Post) : Rn w M pc ls stk σ Post := r_callV hct hv hd hk hw hcl hdep hml hn hst hr (fun r σ1 h => by obtain ⟨rfl, h⟩ := h; exact kk σ1 h)
theorem i_csV {M' : rl_M} {idx n : Nat} {as stk : List Value} {P : rl_S → Prop} (hct : Ct w M' as σ (qV P)) (hv : rl_CS M.1.cls idx M' n) (hd : decode M.2.1 pc = .ok (.invokestatic idx, 3)) (hdep : M'.2.2.2.2 + 1 ≤ M.2.2.2.2) (hml : M'.2.2.1 ≤ 13) (hn : as.length = n) (hst : stk = as.reverse ++ st) (hr : (st.map fun v => v.category).sum ≤ 8) (kk : ∀ σ1, P σ1 → Rn w M (pc + 3) ls st σ1 Post) : Rn w M pc ls stk σ Post := r_callS hct hv hd hdep hml hn hst hr (fun r σ1 h => by obtain ⟨rfl, h⟩ := h; exact kk σ1 h)
end RI
end
section
theorem kkX0 : rl_K 0 RX0 TX0 5 tyX0 := ⟨rfl, by decide +kernel, tyX0_ok, nmX0⟩
theorem plX0 : plainName RX0 = true := by decide +kernel
theorem kkX1 : rl_K 1 RX1 TX1 1 tyX1 := ⟨rfl, by decide +kernel, tyX1_ok, nmX1⟩
theorem plX1 : plainName RX1 = true := by decide +kernel
theorem kkX2 : rl_K 2 RX2 TX2 6 tyX2 := ⟨rfl, by decide +kernel, tyX2_ok, nmX2⟩
theorem plX2 : plainName RX2 = true := by decide +kernel
theorem kkX3 : rl_K 3 RX3 TX3 1 tyX3 := ⟨rfl, by decide +kernel, tyX3_ok, nmX3⟩
theorem plX3 : plainName RX3 = true := by decide +kernel
theorem kkX4 : rl_K 4 RX4 TX4 4 tyX4 := ⟨rfl, by decide +kernel, tyX4_ok, nmX4⟩
theorem plX4 : plainName RX4 = true := by decide +kernel
theorem kkX5 : rl_K 5 RX5 TX5 3 tyX5 := ⟨rfl, by decide +kernel, tyX5_ok, nmX5⟩
theorem plX5 : plainName RX5 = true := by decide +kernel
theorem kkX6 : rl_K 6 RX6 TX6 3 tyX6 := ⟨rfl, by decide +kernel, tyX6_ok, nmX6⟩
theorem plX6 : plainName RX6 = true := by decide +kernel
theorem kkX7 : rl_K 7 RX7 TX7 8 tyX7 := ⟨rfl, by decide +kernel, tyX7_ok, nmX7⟩
theorem plX7 : plainName RX7 = true := by decide +kernel
theorem kkX8 : rl_K 8 RX8 TX8 10 tyX8 := ⟨rfl, by decide +kernel, tyX8_ok, nmX8⟩
theorem plX8 : plainName RX8 = true := by decide +kernel
theorem kkX9 : rl_K 9 RX9 TX9 22 tyX9 := ⟨rfl, by decide +kernel, tyX9_ok, nmX9⟩
theorem plX9 : plainName RX9 = true := by decide +kernel
abbrev mX0_goFrom : rl_M := (yX0_goFrom, cX0_goFrom, 5, none, 2)
abbrev mX0_rungHeight : rl_M := (yX0_rungHeight, cX0_rungHeight, 2, (some .int), 1)
abbrev mX1_draw : rl_M := (yX1_draw, cX1_draw, 2, (some .int), 0)
abbrev mX2_alone : rl_M := (yX2_alone, cX2_alone, 5, (some .int), 1)
abbrev mX2_beginAt : rl_M := (yX2_beginAt, cX2_beginAt, 3, none, 3)
abbrev mX2_beginOf : rl_M := (yX2_beginOf, cX2_beginOf, 2, (some .int), 0)
abbrev mX2_crestFrom : rl_M := (yX2_crestFrom, cX2_crestFrom, 5, (some .int), 1)
abbrev mX2_crestsInAll : rl_M := (yX2_crestsInAll, cX2_crestsInAll, 3, (some .int), 1)
abbrev mX2_cutByLee : rl_M := (yX2_cutByLee, cX2_cutByLee, 4, (some .int), 0)
abbrev mX2_greatestHeight : rl_M := (yX2_greatestHeight, cX2_greatestHeight, 1, (some .int), 2)
abbrev mX2_greatestHeightUpTo : rl_M := (yX2_greatestHeightUpTo, cX2_greatestHeightUpTo, 7, (some .int), 1)
abbrev mX2_heightAt : rl_M := (yX2_heightAt, cX2_heightAt, 2, (some .int), 0)
abbrev mX2_heightWith : rl_M := (yX2_heightWith, cX2_heightWith, 5, (some .int), 2)
abbrev mX2_heightWithoutLee : rl_M := (yX2_heightWithoutLee, cX2_heightWithoutLee, 2, (some .int), 0)
abbrev mX2_highestCrestFrom : rl_M := (yX2_highestCrestFrom, cX2_highestCrestFrom, 6, (some .int), 2)
abbrev mX2_leastHeight : rl_M := (yX2_leastHeight, cX2_leastHeight, 5, (some .int), 1)
abbrev mX2_lullFrom : rl_M := (yX2_lullFrom, cX2_lullFrom, 7, (some .int), 2)
abbrev mX2_moveAt : rl_M := (yX2_moveAt, cX2_moveAt, 4, (some .int), 0)
abbrev mX2_putLee : rl_M := (yX2_putLee, cX2_putLee, 3, none, 3)
abbrev mX2_renew : rl_M := (yX2_renew, cX2_renew, 4, none, 2)
abbrev mX2_savedByLee : rl_M := (yX2_savedByLee, cX2_savedByLee, 4, (some .int), 2)
abbrev mX2_spread : rl_M := (yX2_spread, cX2_spread, 8, (some .int), 1)
abbrev mX3_allows : rl_M := (yX3_allows, cX3_allows, 3, (some .boolean), 0)
abbrev mX3_change : rl_M := (yX3_change, cX3_change, 3, none, 0)
abbrev mX3_of : rl_M := (yX3_of, cX3_of, 2, (some .int), 0)
abbrev mX4_become : rl_M := (yX4_become, cX4_become, 4, none, 0)
abbrev mX4_holds : rl_M := (yX4_holds, cX4_holds, 3, (some .boolean), 0)
abbrev mX4_itemAt : rl_M := (yX4_itemAt, cX4_itemAt, 2, (some .int), 0)
abbrev mX4_narrow : rl_M := (yX4_narrow, cX4_narrow, 2, (some .int), 0)
abbrev mX4_store : rl_M := (yX4_store, cX4_store, 3, none, 1)
abbrev mX4_take : rl_M := (yX4_take, cX4_take, 7, none, 2)
abbrev mX4_troubleAt : rl_M := (yX4_troubleAt, cX4_troubleAt, 3, (some .int), 0)
abbrev mX5_leanAt : rl_M := (yX5_leanAt, cX5_leanAt, 3, (some .int), 0)
abbrev mX5_notOutFrom : rl_M := (yX5_notOutFrom, cX5_notOutFrom, 3, (some .int), 1)
abbrev mX5_renew : rl_M := (yX5_renew, cX5_renew, 1, none, 1)
abbrev mX6_append : rl_M := (yX6_append, cX6_append, 3, none, 0)
abbrev mX6_heightOf : rl_M := (yX6_heightOf, cX6_heightOf, 2, (some .int), 0)
abbrev mX6_tenthOf : rl_M := (yX6_tenthOf, cX6_tenthOf, 2, (some .int), 0)
abbrev mX7_append : rl_M := (yX7_append, cX7_append, 2, none, 5)
abbrev mX7_byteAt : rl_M := (yX7_byteAt, cX7_byteAt, 2, (some .int), 0)
abbrev mX7_firstFault : rl_M := (yX7_firstFault, cX7_firstFault, 2, (some .int), 3)
abbrev mX7_goesOn : rl_M := (yX7_goesOn, cX7_goesOn, 2, (some .boolean), 2)
abbrev mX7_heightOf : rl_M := (yX7_heightOf, cX7_heightOf, 2, (some .int), 0)
abbrev mX7_heightsTogether : rl_M := (yX7_heightsTogether, cX7_heightsTogether, 3, (some .int), 1)
abbrev mX7_isFull : rl_M := (yX7_isFull, cX7_isFull, 1, (some .boolean), 0)
abbrev mX7_lengthOf : rl_M := (yX7_lengthOf, cX7_lengthOf, 2, (some .int), 0)
abbrev mX7_shorten : rl_M := (yX7_shorten, cX7_shorten, 2, none, 5)
abbrev mX7_twoFiguresAt : rl_M := (yX7_twoFiguresAt, cX7_twoFiguresAt, 2, (some .int), 1)
abbrev mX7_understand : rl_M := (yX7_understand, cX7_understand, 3, none, 4)
abbrev mX8_allSeenComesOut : rl_M := (yX8_allSeenComesOut, cX8_allSeenComesOut, 4, (some .boolean), 3)
abbrev mX8_bangs : rl_M := (yX8_bangs, cX8_bangs, 2, (some .int), 3)
abbrev mX8_begins : rl_M := (yX8_begins, cX8_begins, 4, (some .int), 4)
abbrev mX8_best : rl_M := (yX8_best, cX8_best, 10, (some .int), 4)
abbrev mX8_call : rl_M := (yX8_call, cX8_call, 5, (some .int), 5)
abbrev mX8_chance : rl_M := (yX8_chance, cX8_chance, 6, (some .long), 3)
abbrev mX8_climb : rl_M := (yX8_climb, cX8_climb, 2, (some .int), 3)
abbrev mX8_copy : rl_M := (yX8_copy, cX8_copy, 8, (some .int), 3)
abbrev mX8_count : rl_M := (yX8_count, cX8_count, 2, (some .int), 3)
abbrev mX8_crest : rl_M := (yX8_crest, cX8_crest, 3, (some .int), 2)
abbrev mX8_digest : rl_M := (yX8_digest, cX8_digest, 5, (some .long), 6)
abbrev mX8_distanceToFoot : rl_M := (yX8_distanceToFoot, cX8_distanceToFoot, 2, (some .int), 1)
abbrev mX8_does : rl_M := (yX8_does, cX8_does, 2, (some .int), 1)
abbrev mX8_down : rl_M := (yX8_down, cX8_down, 7, (some .int), 2)
abbrev mX8_fall : rl_M := (yX8_fall, cX8_fall, 2, (some .int), 3)
abbrev mX8_fault : rl_M := (yX8_fault, cX8_fault, 3, (some .int), 1)
abbrev mX8_find : rl_M := (yX8_find, cX8_find, 2, (some .int), 0)
abbrev mX8_forget : rl_M := (yX8_forget, cX8_forget, 2, (some .int), 0)
abbrev mX8_get : rl_M := (yX8_get, cX8_get, 6, (some .int), 1)
abbrev mX8_getsUp : rl_M := (yX8_getsUp, cX8_getsUp, 3, (some .boolean), 3)
abbrev mX8_high : rl_M := (yX8_high, cX8_high, 2, (some .int), 1)
abbrev mX8_isEither : rl_M := (yX8_isEither, cX8_isEither, 1, (some .boolean), 0)
abbrev mX8_isForm : rl_M := (yX8_isForm, cX8_isForm, 1, (some .boolean), 0)
abbrev mX8_isSpan : rl_M := (yX8_isSpan, cX8_isSpan, 1, (some .boolean), 0)
abbrev mX8_isSwell : rl_M := (yX8_isSwell, cX8_isSwell, 2, (some .boolean), 0)
abbrev mX8_isTenth : rl_M := (yX8_isTenth, cX8_isTenth, 1, (some .boolean), 0)
abbrev mX8_ladder : rl_M := (yX8_ladder, cX8_ladder, 5, (some .int), 2)
abbrev mX8_leans : rl_M := (yX8_leans, cX8_leans, 2, (some .int), 1)
abbrev mX8_learn : rl_M := (yX8_learn, cX8_learn, 5, (some .int), 4)
abbrev mX8_lee : rl_M := (yX8_lee, cX8_lee, 4, (some .int), 4)
abbrev mX8_lose : rl_M := (yX8_lose, cX8_lose, 3, (some .int), 1)
abbrev mX8_lull : rl_M := (yX8_lull, cX8_lull, 5, (some .int), 3)
abbrev mX8_nextStep : rl_M := (yX8_nextStep, cX8_nextStep, 4, (some .int), 2)
abbrev mX8_night : rl_M := (yX8_night, cX8_night, 7, (some .int), 4)
abbrev mX8_oddsToFall : rl_M := (yX8_oddsToFall, cX8_oddsToFall, 3, (some .int), 2)
abbrev mX8_put : rl_M := (yX8_put, cX8_put, 7, (some .int), 2)
abbrev mX8_read : rl_M := (yX8_read, cX8_read, 5, (some .int), 2)
abbrev mX8_roll : rl_M := (yX8_roll, cX8_roll, 2, (some .int), 1)
abbrev mX8_safe : rl_M := (yX8_safe, cX8_safe, 8, (some .long), 4)
abbrev mX8_saves : rl_M := (yX8_saves, cX8_saves, 1, (some .int), 3)
abbrev mX8_seen : rl_M := (yX8_seen, cX8_seen, 3, (some .int), 1)
abbrev mX8_set : rl_M := (yX8_set, cX8_set, 4, (some .int), 1)
abbrev mX8_seventh : rl_M := (yX8_seventh, cX8_seventh, 2, (some .int), 3)
abbrev mX8_sheet : rl_M := (yX8_sheet, cX8_sheet, 5, (some .int), 1)
abbrev mX8_sheetOf : rl_M := (yX8_sheetOf, cX8_sheetOf, 2, (some (.object "RopeLadder$Sheet")), 0)
abbrev mX8_spanEnd : rl_M := (yX8_spanEnd, cX8_spanEnd, 2, (some .int), 1)
abbrev mX8_step : rl_M := (yX8_step, cX8_step, 2, (some .int), 2)
abbrev mX8_stepAt : rl_M := (yX8_stepAt, cX8_stepAt, 2, (some .int), 1)
abbrev mX8_swell : rl_M := (yX8_swell, cX8_swell, 3, (some .int), 1)
abbrev mX8_takeUpTexts : rl_M := (yX8_takeUpTexts, cX8_takeUpTexts, 1, none, 3)
abbrev mX8_textOf : rl_M := (yX8_textOf, cX8_textOf, 2, (some (.object "RopeLadder$Text")), 0)
abbrev mX8_type : rl_M := (yX8_type, cX8_type, 4, (some .int), 6)
abbrev mX8_undo : rl_M := (yX8_undo, cX8_undo, 3, (some .int), 6)
abbrev mX8_wipe : rl_M := (yX8_wipe, cX8_wipe, 4, (some .int), 6)
abbrev mX8_write : rl_M := (yX8_write, cX8_write, 6, (some .int), 2)
abbrev mX9_bangs : rl_M := (yX9_bangs, cX9_bangs, 2, (some .int), 8)
abbrev mX9_bangsOf : rl_M := (yX9_bangsOf, cX9_bangsOf, 3, (some .int), 7)
abbrev mX9_begins : rl_M := (yX9_begins, cX9_begins, 4, (some .int), 1)
abbrev mX9_best : rl_M := (yX9_best, cX9_best, 3, (some .int), 7)
abbrev mX9_bestOf : rl_M := (yX9_bestOf, cX9_bestOf, 9, (some .int), 6)
abbrev mX9_call : rl_M := (yX9_call, cX9_call, 3, (some .int), 8)
abbrev mX9_callOf : rl_M := (yX9_callOf, cX9_callOf, 4, (some .int), 7)
abbrev mX9_climb : rl_M := (yX9_climb, cX9_climb, 2, (some .int), 7)
abbrev mX9_climbOf : rl_M := (yX9_climbOf, cX9_climbOf, 2, (some .int), 6)
abbrev mX9_climbs : rl_M := (yX9_climbs, cX9_climbs, 4, (some .int), 1)
abbrev mX9_copy : rl_M := (yX9_copy, cX9_copy, 7, (some .int), 2)
abbrev mX9_count : rl_M := (yX9_count, cX9_count, 2, (some .int), 7)
abbrev mX9_crest : rl_M := (yX9_crest, cX9_crest, 3, (some .int), 7)
abbrev mX9_crestOf : rl_M := (yX9_crestOf, cX9_crestOf, 5, (some .int), 6)
abbrev mX9_digest : rl_M := (yX9_digest, cX9_digest, 4, (some .long), 9)
abbrev mX9_does : rl_M := (yX9_does, cX9_does, 2, (some .int), 7)
abbrev mX9_doesNow : rl_M := (yX9_doesNow, cX9_doesNow, 2, (some .int), 0)
abbrev mX9_doesOf : rl_M := (yX9_doesOf, cX9_doesOf, 2, (some .int), 6)
abbrev mX9_down : rl_M := (yX9_down, cX9_down, 4, (some .int), 7)
abbrev mX9_downOf : rl_M := (yX9_downOf, cX9_downOf, 9, (some .int), 6)
abbrev mX9_fall : rl_M := (yX9_fall, cX9_fall, 2, (some .int), 7)
abbrev mX9_fallNow : rl_M := (yX9_fallNow, cX9_fallNow, 4, (some .int), 2)
abbrev mX9_fallOf : rl_M := (yX9_fallOf, cX9_fallOf, 2, (some .int), 6)
abbrev mX9_fault : rl_M := (yX9_fault, cX9_fault, 2, (some .int), 4)
abbrev mX9_faultOf : rl_M := (yX9_faultOf, cX9_faultOf, 4, (some .int), 3)
abbrev mX9_figureAt : rl_M := (yX9_figureAt, cX9_figureAt, 4, (some .int), 1)
abbrev mX9_forget : rl_M := (yX9_forget, cX9_forget, 2, (some .int), 0)
abbrev mX9_get : rl_M := (yX9_get, cX9_get, 5, (some .int), 2)
abbrev mX9_high : rl_M := (yX9_high, cX9_high, 2, (some .int), 6)
abbrev mX9_highBy : rl_M := (yX9_highBy, cX9_highBy, 2, (some .int), 1)
abbrev mX9_highOf : rl_M := (yX9_highOf, cX9_highOf, 1, (some .int), 0)
abbrev mX9_highOfTenth : rl_M := (yX9_highOfTenth, cX9_highOfTenth, 2, (some .int), 5)
abbrev mX9_in : rl_M := (yX9_in, cX9_in, 3, (some .boolean), 0)
abbrev mX9_isLee : rl_M := (yX9_isLee, cX9_isLee, 2, (some .boolean), 0)
abbrev mX9_isMany : rl_M := (yX9_isMany, cX9_isMany, 1, (some .boolean), 1)
abbrev mX9_isSheet : rl_M := (yX9_isSheet, cX9_isSheet, 1, (some .boolean), 1)
abbrev mX9_isSwell : rl_M := (yX9_isSwell, cX9_isSwell, 2, (some .boolean), 5)
abbrev mX9_isTenth : rl_M := (yX9_isTenth, cX9_isTenth, 1, (some .boolean), 1)
abbrev mX9_isText : rl_M := (yX9_isText, cX9_isText, 1, (some .boolean), 1)
abbrev mX9_keep : rl_M := (yX9_keep, cX9_keep, 4, none, 0)
abbrev mX9_lacks : rl_M := (yX9_lacks, cX9_lacks, 4, (some .int), 1)
abbrev mX9_ladder : rl_M := (yX9_ladder, cX9_ladder, 3, (some .int), 7)
abbrev mX9_ladderOf : rl_M := (yX9_ladderOf, cX9_ladderOf, 8, (some .int), 6)
abbrev mX9_lays : rl_M := (yX9_lays, cX9_lays, 2, none, 5)
abbrev mX9_leans : rl_M := (yX9_leans, cX9_leans, 2, (some .int), 6)
abbrev mX9_leansNow : rl_M := (yX9_leansNow, cX9_leansNow, 3, (some .int), 0)
abbrev mX9_leansOf : rl_M := (yX9_leansOf, cX9_leansOf, 2, (some .int), 5)
abbrev mX9_learn : rl_M := (yX9_learn, cX9_learn, 3, (some .int), 6)
abbrev mX9_learnOf : rl_M := (yX9_learnOf, cX9_learnOf, 9, (some .int), 5)
abbrev mX9_lee : rl_M := (yX9_lee, cX9_lee, 4, (some .int), 2)
abbrev mX9_lose : rl_M := (yX9_lose, cX9_lose, 2, (some .int), 2)
abbrev mX9_lot : rl_M := (yX9_lot, cX9_lot, 2, (some .int), 0)
abbrev mX9_lowOf : rl_M := (yX9_lowOf, cX9_lowOf, 1, (some .int), 0)
abbrev mX9_lowest : rl_M := (yX9_lowest, cX9_lowest, 11, (some .long), 0)
abbrev mX9_lull : rl_M := (yX9_lull, cX9_lull, 4, (some .int), 7)
abbrev mX9_lullOf : rl_M := (yX9_lullOf, cX9_lullOf, 10, (some .int), 6)
abbrev mX9_meets : rl_M := (yX9_meets, cX9_meets, 2, (some .int), 0)
abbrev mX9_nextCrest : rl_M := (yX9_nextCrest, cX9_nextCrest, 3, (some .int), 1)
abbrev mX9_night : rl_M := (yX9_night, cX9_night, 3, (some .int), 7)
abbrev mX9_nightOf : rl_M := (yX9_nightOf, cX9_nightOf, 11, (some .int), 6)
abbrev mX9_no : rl_M := (yX9_no, cX9_no, 1, (some .long), 0)
abbrev mX9_power : rl_M := (yX9_power, cX9_power, 5, (some .long), 0)
abbrev mX9_put : rl_M := (yX9_put, cX9_put, 6, (some .int), 2)
abbrev mX9_rawHigh : rl_M := (yX9_rawHigh, cX9_rawHigh, 5, (some .int), 0)
abbrev mX9_read : rl_M := (yX9_read, cX9_read, 3, (some .int), 3)
abbrev mX9_reads : rl_M := (yX9_reads, cX9_reads, 2, none, 4)
abbrev mX9_readsText : rl_M := (yX9_readsText, cX9_readsText, 7, (some .int), 2)
abbrev mX9_roll : rl_M := (yX9_roll, cX9_roll, 2, (some .int), 6)
abbrev mX9_rollOf : rl_M := (yX9_rollOf, cX9_rollOf, 2, (some .int), 5)
abbrev mX9_safe : rl_M := (yX9_safe, cX9_safe, 3, (some .long), 7)
abbrev mX9_safeNow : rl_M := (yX9_safeNow, cX9_safeNow, 3, (some .long), 3)
abbrev mX9_safeOf : rl_M := (yX9_safeOf, cX9_safeOf, 3, (some .long), 6)
abbrev mX9_saves : rl_M := (yX9_saves, cX9_saves, 1, (some .int), 7)
abbrev mX9_savesNow : rl_M := (yX9_savesNow, cX9_savesNow, 4, (some .int), 6)
abbrev mX9_seen : rl_M := (yX9_seen, cX9_seen, 3, (some .int), 2)
abbrev mX9_set : rl_M := (yX9_set, cX9_set, 4, (some .int), 1)
abbrev mX9_seventh : rl_M := (yX9_seventh, cX9_seventh, 2, (some .int), 7)
abbrev mX9_seventhOf : rl_M := (yX9_seventhOf, cX9_seventhOf, 7, (some .int), 6)
abbrev mX9_sheet : rl_M := (yX9_sheet, cX9_sheet, 5, (some .int), 2)
abbrev mX9_step : rl_M := (yX9_step, cX9_step, 2, (some .int), 7)
abbrev mX9_stepNow : rl_M := (yX9_stepNow, cX9_stepNow, 2, (some .int), 1)
abbrev mX9_stepOf : rl_M := (yX9_stepOf, cX9_stepOf, 2, (some .int), 6)
abbrev mX9_sumOf : rl_M := (yX9_sumOf, cX9_sumOf, 5, (some .int), 6)
abbrev mX9_swell : rl_M := (yX9_swell, cX9_swell, 3, (some .int), 6)
abbrev mX9_tenthDigest : rl_M := (yX9_tenthDigest, cX9_tenthDigest, 6, (some .long), 8)
abbrev mX9_type : rl_M := (yX9_type, cX9_type, 3, (some .int), 2)
abbrev mX9_undo : rl_M := (yX9_undo, cX9_undo, 2, (some .int), 2)
abbrev mX9_wipe : rl_M := (yX9_wipe, cX9_wipe, 3, (some .int), 2)
abbrev mX9_write : rl_M := (yX9_write, cX9_write, 4, (some .int), 6)
theorem lmL_13 : rl_CV RL 13 mX8_type 2 := ⟨rl_in 283 (by decide +kernel) rfl, rl_in 280 (by decide +kernel) rfl, rl_in 281 (by decide +kernel) rfl, rl_in 282 (by decide +kernel) rfl, rl_in 64 (by decide +kernel) rfl, ⟨by decide +kernel, by decide +kernel⟩, by decide +kernel⟩
theorem lmL_17 : rl_CV RL 17 mX9_type 2 := ⟨rl_in 835 (by decide +kernel) rfl, rl_in 832 (by decide +kernel) rfl, rl_in 833 (by decide +kernel) rfl, rl_in 834 (by decide +kernel) rfl, rl_in 73 (by decide +kernel) rfl, ⟨by decide +kernel, by decide +kernel⟩, by decide +kernel⟩
theorem lmL_18 : rl_CV RL 18 mX8_wipe 1 := ⟨rl_in 356 (by decide +kernel) rfl, rl_in 353 (by decide +kernel) rfl, rl_in 354 (by decide +kernel) rfl, rl_in 355 (by decide +kernel) rfl, rl_in 64 (by decide +kernel) rfl, ⟨by decide +kernel, by decide +kernel⟩, by decide +kernel⟩
theorem lmL_22 : rl_CV RL 22 mX9_wipe 1 := ⟨rl_in 845 (by decide +kernel) rfl, rl_in 842 (by decide +kernel) rfl, rl_in 843 (by decide +kernel) rfl, rl_in 844 (by decide +kernel) rfl, rl_in 73 (by decide +kernel) rfl, ⟨by decide +kernel, by decide +kernel⟩, by decide +kernel⟩
theorem lmL_23 : rl_CV RL 23 mX8_undo 1 := ⟨rl_in 364 (by decide +kernel) rfl, rl_in 361 (by decide +kernel) rfl, rl_in 362 (by decide +kernel) rfl, rl_in 363 (by decide +kernel) rfl, rl_in 64 (by decide +kernel) rfl, ⟨by decide +kernel, by decide +kernel⟩, by decide +kernel⟩
theorem lmL_26 : rl_CV RL 26 mX9_undo 1 := ⟨rl_in 849 (by decide +kernel) rfl, rl_in 846 (by decide +kernel) rfl, rl_in 847 (by decide +kernel) rfl, rl_in 848 (by decide +kernel) rfl, rl_in 73 (by decide +kernel) rfl, ⟨by decide +kernel, by decide +kernel⟩, by decide +kernel⟩
theorem lmL_27 : rl_CV RL 27 mX8_fault 1 := ⟨rl_in 368 (by decide +kernel) rfl, rl_in 365 (by decide +kernel) rfl, rl_in 366 (by decide +kernel) rfl, rl_in 367 (by decide +kernel) rfl, rl_in 64 (by decide +kernel) rfl, ⟨by decide +kernel, by decide +kernel⟩, by decide +kernel⟩
theorem lmL_30 : rl_CV RL 30 mX9_fault 1 := ⟨rl_in 853 (by decide +kernel) rfl, rl_in 850 (by decide +kernel) rfl, rl_in 851 (by decide +kernel) rfl, rl_in 852 (by decide +kernel) rfl, rl_in 73 (by decide +kernel) rfl, ⟨by decide +kernel, by decide +kernel⟩, by decide +kernel⟩
theorem lmL_31 : rl_CV RL 31 mX8_swell 2 := ⟨rl_in 372 (by decide +kernel) rfl, rl_in 369 (by decide +kernel) rfl, rl_in 370 (by decide +kernel) rfl, rl_in 371 (by decide +kernel) rfl, rl_in 64 (by decide +kernel) rfl, ⟨by decide +kernel, by decide +kernel⟩, by decide +kernel⟩
theorem lmL_34 : rl_CV RL 34 mX9_swell 2 := ⟨rl_in 869 (by decide +kernel) rfl, rl_in 866 (by decide +kernel) rfl, rl_in 867 (by decide +kernel) rfl, rl_in 868 (by decide +kernel) rfl, rl_in 73 (by decide +kernel) rfl, ⟨by decide +kernel, by decide +kernel⟩, by decide +kernel⟩
theorem lmL_35 : rl_CV RL 35 mX8_roll 1 := ⟨rl_in 385 (by decide +kernel) rfl, rl_in 382 (by decide +kernel) rfl, rl_in 383 (by decide +kernel) rfl, rl_in 384 (by decide +kernel) rfl, rl_in 64 (by decide +kernel) rfl, ⟨by decide +kernel, by decide +kernel⟩, by decide +kernel⟩
theorem lmL_38 : rl_CV RL 38 mX9_roll 1 := ⟨rl_in 881 (by decide +kernel) rfl, rl_in 878 (by decide +kernel) rfl, rl_in 879 (by decide +kernel) rfl, rl_in 880 (by decide +kernel) rfl, rl_in 73 (by decide +kernel) rfl, ⟨by decide +kernel, by decide +kernel⟩, by decide +kernel⟩
theorem lmL_39 : rl_CV RL 39 mX8_begins 2 := ⟨rl_in 389 (by decide +kernel) rfl, rl_in 386 (by decide +kernel) rfl, rl_in 387 (by decide +kernel) rfl, rl_in 388 (by decide +kernel) rfl, rl_in 64 (by decide +kernel) rfl, ⟨by decide +kernel, by decide +kernel⟩, by decide +kernel⟩
theorem lmL_42 : rl_CV RL 42 mX9_begins 2 := ⟨rl_in 889 (by decide +kernel) rfl, rl_in 886 (by decide +kernel) rfl, rl_in 887 (by decide +kernel) rfl, rl_in 888 (by decide +kernel) rfl, rl_in 73 (by decide +kernel) rfl, ⟨by decide +kernel, by decide +kernel⟩, by decide +kernel⟩
theorem lmL_43 : rl_CV RL 43 mX8_lee 2 := ⟨rl_in 399 (by decide +kernel) rfl, rl_in 396 (by decide +kernel) rfl, rl_in 397 (by decide +kernel) rfl, rl_in 398 (by decide +kernel) rfl, rl_in 64 (by decide +kernel) rfl, ⟨by decide +kernel, by decide +kernel⟩, by decide +kernel⟩
theorem lmL_46 : rl_CV RL 46 mX9_lee 2 := ⟨rl_in 893 (by decide +kernel) rfl, rl_in 890 (by decide +kernel) rfl, rl_in 891 (by decide +kernel) rfl, rl_in 892 (by decide +kernel) rfl, rl_in 73 (by decide +kernel) rfl, ⟨by decide +kernel, by decide +kernel⟩, by decide +kernel⟩
theorem lmL_47 : rl_CV RL 47 mX8_set 2 := ⟨rl_in 410 (by decide +kernel) rfl, rl_in 407 (by decide +kernel) rfl, rl_in 408 (by decide +kernel) rfl, rl_in 409 (by decide +kernel) rfl, rl_in 64 (by decide +kernel) rfl, ⟨by decide +kernel, by decide +kernel⟩, by decide +kernel⟩
theorem lmL_50 : rl_CV RL 50 mX9_set 2 := ⟨rl_in 900 (by decide +kernel) rfl, rl_in 897 (by decide +kernel) rfl, rl_in 898 (by decide +kernel) rfl, rl_in 899 (by decide +kernel) rfl, rl_in 73 (by decide +kernel) rfl, ⟨by decide +kernel, by decide +kernel⟩, by decide +kernel⟩
theorem lmL_51 : rl_CV RL 51 mX8_high 1 := ⟨rl_in 430 (by decide +kernel) rfl, rl_in 427 (by decide +kernel) rfl, rl_in 428 (by decide +kernel) rfl, rl_in 429 (by decide +kernel) rfl, rl_in 64 (by decide +kernel) rfl, ⟨by decide +kernel, by decide +kernel⟩, by decide +kernel⟩
theorem lmL_54 : rl_CV RL 54 mX9_high 1 := ⟨rl_in 910 (by decide +kernel) rfl, rl_in 907 (by decide +kernel) rfl, rl_in 908 (by decide +kernel) rfl, rl_in 909 (by decide +kernel) rfl, rl_in 73 (by decide +kernel) rfl, ⟨by decide +kernel, by decide +kernel⟩, by decide +kernel⟩
theorem lmL_55 : rl_CV RL 55 mX8_does 1 := ⟨rl_in 438 (by decide +kernel) rfl, rl_in 435 (by decide +kernel) rfl, rl_in 436 (by decide +kernel) rfl, rl_in 437 (by decide +kernel) rfl, rl_in 64 (by decide +kernel) rfl, ⟨by decide +kernel, by decide +kernel⟩, by decide +kernel⟩
theorem lmL_58 : rl_CV RL 58 mX9_does 1 := ⟨rl_in 930 (by decide +kernel) rfl, rl_in 927 (by decide +kernel) rfl, rl_in 928 (by decide +kernel) rfl, rl_in 929 (by decide +kernel) rfl, rl_in 73 (by decide +kernel) rfl, ⟨by decide +kernel, by decide +kernel⟩, by decide +kernel⟩
theorem lmL_59 : rl_CV RL 59 mX8_leans 1 := ⟨rl_in 446 (by decide +kernel) rfl, rl_in 443 (by decide +kernel) rfl, rl_in 444 (by decide +kernel) rfl, rl_in 445 (by decide +kernel) rfl, rl_in 64 (by decide +kernel) rfl, ⟨by decide +kernel, by decide +kernel⟩, by decide +kernel⟩
theorem lmL_62 : rl_CV RL 62 mX9_leans 1 := ⟨rl_in 946 (by decide +kernel) rfl, rl_in 943 (by decide +kernel) rfl, rl_in 944 (by decide +kernel) rfl, rl_in 945 (by decide +kernel) rfl, rl_in 73 (by decide +kernel) rfl, ⟨by decide +kernel, by decide +kernel⟩, by decide +kernel⟩
theorem lmL_63 : rl_CV RL 63 mX8_crest 2 := ⟨rl_in 454 (by decide +kernel) rfl, rl_in 451 (by decide +kernel) rfl, rl_in 452 (by decide +kernel) rfl, rl_in 453 (by decide +kernel) rfl, rl_in 64 (by decide +kernel) rfl, ⟨by decide +kernel, by decide +kernel⟩, by decide +kernel⟩
theorem lmL_66 : rl_CV RL 66 mX9_crest 2 := ⟨rl_in 958 (by decide +kernel) rfl, rl_in 955 (by decide +kernel) rfl, rl_in 956 (by decide +kernel) rfl, rl_in 957 (by decide +kernel) rfl, rl_in 73 (by decide +kernel) rfl, ⟨by decide +kernel, by decide +kernel⟩, by decide +kernel⟩
theorem lmL_67 : rl_CV RL 67 mX8_seventh 1 := ⟨rl_in 463 (by decide +kernel) rfl, rl_in 460 (by decide +kernel) rfl, rl_in 461 (by decide +kernel) rfl, rl_in 462 (by decide +kernel) rfl, rl_in 64 (by decide +kernel) rfl, ⟨by decide +kernel, by decide +kernel⟩, by decide +kernel⟩
theorem lmL_70 : rl_CV RL 70 mX9_seventh 1 := ⟨rl_in 970 (by decide +kernel) rfl, rl_in 967 (by decide +kernel) rfl, rl_in 968 (by decide +kernel) rfl, rl_in 969 (by decide +kernel) rfl, rl_in 73 (by decide +kernel) rfl, ⟨by decide +kernel, by decide +kernel⟩, by decide +kernel⟩
theorem lmL_71 : rl_CV RL 71 mX8_lull 3 := ⟨rl_in 473 (by decide +kernel) rfl, rl_in 470 (by decide +kernel) rfl, rl_in 471 (by decide +kernel) rfl, rl_in 472 (by decide +kernel) rfl, rl_in 64 (by decide +kernel) rfl, ⟨by decide +kernel, by decide +kernel⟩, by decide +kernel⟩
theorem lmL_75 : rl_CV RL 75 mX9_lull 3 := ⟨rl_in 978 (by decide +kernel) rfl, rl_in 975 (by decide +kernel) rfl, rl_in 976 (by decide +kernel) rfl, rl_in 977 (by decide +kernel) rfl, rl_in 73 (by decide +kernel) rfl, ⟨by decide +kernel, by decide +kernel⟩, by decide +kernel⟩
theorem lmL_76 : rl_CV RL 76 mX8_step 1 := ⟨rl_in 494 (by decide +kernel) rfl, rl_in 491 (by decide +kernel) rfl, rl_in 492 (by decide +kernel) rfl, rl_in 493 (by decide +kernel) rfl, rl_in 64 (by decide +kernel) rfl, ⟨by decide +kernel, by decide +kernel⟩, by decide +kernel⟩
theorem lmL_79 : rl_CV RL 79 mX9_step 1 := ⟨rl_in 989 (by decide +kernel) rfl, rl_in 986 (by decide +kernel) rfl, rl_in 987 (by decide +kernel) rfl, rl_in 988 (by decide +kernel) rfl, rl_in 73 (by decide +kernel) rfl, ⟨by decide +kernel, by decide +kernel⟩, by decide +kernel⟩
theorem lmL_80 : rl_CV RL 80 mX8_fall 1 := ⟨rl_in 502 (by decide +kernel) rfl, rl_in 499 (by decide +kernel) rfl, rl_in 500 (by decide +kernel) rfl, rl_in 501 (by decide +kernel) rfl, rl_in 64 (by decide +kernel) rfl, ⟨by decide +kernel, by decide +kernel⟩, by decide +kernel⟩
theorem lmL_83 : rl_CV RL 83 mX9_fall 1 := ⟨rl_in 1001 (by decide +kernel) rfl, rl_in 998 (by decide +kernel) rfl, rl_in 999 (by decide +kernel) rfl, rl_in 1000 (by decide +kernel) rfl, rl_in 73 (by decide +kernel) rfl, ⟨by decide +kernel, by decide +kernel⟩, by decide +kernel⟩
theorem lmL_84 : rl_CV RL 84 mX8_climb 1 := ⟨rl_in 511 (by decide +kernel) rfl, rl_in 508 (by decide +kernel) rfl, rl_in 509 (by decide +kernel) rfl, rl_in 510 (by decide +kernel) rfl, rl_in 64 (by decide +kernel) rfl, ⟨by decide +kernel, by decide +kernel⟩, by decide +kernel⟩
theorem lmL_87 : rl_CV RL 87 mX9_climb 1 := ⟨rl_in 1013 (by decide +kernel) rfl, rl_in 1010 (by decide +kernel) rfl, rl_in 1011 (by decide +kernel) rfl, rl_in 1012 (by decide +kernel) rfl, rl_in 73 (by decide +kernel) rfl, ⟨by decide +kernel, by decide +kernel⟩, by decide +kernel⟩
theorem lmL_88 : rl_CV RL 88 mX8_bangs 1 := ⟨rl_in 531 (by decide +kernel) rfl, rl_in 528 (by decide +kernel) rfl, rl_in 529 (by decide +kernel) rfl, rl_in 530 (by decide +kernel) rfl, rl_in 64 (by decide +kernel) rfl, ⟨by decide +kernel, by decide +kernel⟩, by decide +kernel⟩
theorem lmL_91 : rl_CV RL 91 mX9_bangs 1 := ⟨rl_in 1025 (by decide +kernel) rfl, rl_in 1022 (by decide +kernel) rfl, rl_in 1023 (by decide +kernel) rfl, rl_in 1024 (by decide +kernel) rfl, rl_in 73 (by decide +kernel) rfl, ⟨by decide +kernel, by decide +kernel⟩, by decide +kernel⟩
theorem lmL_92 : rl_CV RL 92 mX8_safe 2 := ⟨rl_in 535 (by decide +kernel) rfl, rl_in 532 (by decide +kernel) rfl, rl_in 533 (by decide +kernel) rfl, rl_in 534 (by decide +kernel) rfl, rl_in 64 (by decide +kernel) rfl, ⟨by decide +kernel, by decide +kernel⟩, by decide +kernel⟩
theorem lmL_96 : rl_CV RL 96 mX9_safe 2 := ⟨rl_in 1033 (by decide +kernel) rfl, rl_in 1030 (by decide +kernel) rfl, rl_in 1031 (by decide +kernel) rfl, rl_in 1032 (by decide +kernel) rfl, rl_in 73 (by decide +kernel) rfl, ⟨by decide +kernel, by decide +kernel⟩, by decide +kernel⟩
theorem lmL_97 : rl_CV RL 97 mX8_best 2 := ⟨rl_in 547 (by decide +kernel) rfl, rl_in 544 (by decide +kernel) rfl, rl_in 545 (by decide +kernel) rfl, rl_in 546 (by decide +kernel) rfl, rl_in 64 (by decide +kernel) rfl, ⟨by decide +kernel, by decide +kernel⟩, by decide +kernel⟩
theorem lmL_100 : rl_CV RL 100 mX9_best 2 := ⟨rl_in 1055 (by decide +kernel) rfl, rl_in 1052 (by decide +kernel) rfl, rl_in 1053 (by decide +kernel) rfl, rl_in 1054 (by decide +kernel) rfl, rl_in 73 (by decide +kernel) rfl, ⟨by decide +kernel, by decide +kernel⟩, by decide +kernel⟩
theorem lmL_101 : rl_CV RL 101 mX8_call 2 := ⟨rl_in 554 (by decide +kernel) rfl, rl_in 551 (by decide +kernel) rfl, rl_in 552 (by decide +kernel) rfl, rl_in 553 (by decide +kernel) rfl, rl_in 64 (by decide +kernel) rfl, ⟨by decide +kernel, by decide +kernel⟩, by decide +kernel⟩
theorem lmL_104 : rl_CV RL 104 mX9_call 2 := ⟨rl_in 1063 (by decide +kernel) rfl, rl_in 1060 (by decide +kernel) rfl, rl_in 1061 (by decide +kernel) rfl, rl_in 1062 (by decide +kernel) rfl, rl_in 73 (by decide +kernel) rfl, ⟨by decide +kernel, by decide +kernel⟩, by decide +kernel⟩
theorem lmL_105 : rl_CV RL 105 mX8_down 3 := ⟨rl_in 559 (by decide +kernel) rfl, rl_in 556 (by decide +kernel) rfl, rl_in 557 (by decide +kernel) rfl, rl_in 558 (by decide +kernel) rfl, rl_in 64 (by decide +kernel) rfl, ⟨by decide +kernel, by decide +kernel⟩, by decide +kernel⟩
theorem lmL_108 : rl_CV RL 108 mX9_down 3 := ⟨rl_in 1071 (by decide +kernel) rfl, rl_in 1068 (by decide +kernel) rfl, rl_in 1069 (by decide +kernel) rfl, rl_in 1070 (by decide +kernel) rfl, rl_in 73 (by decide +kernel) rfl, ⟨by decide +kernel, by decide +kernel⟩, by decide +kernel⟩
theorem lmL_109 : rl_CV RL 109 mX8_saves 0 := ⟨rl_in 570 (by decide +kernel) rfl, rl_in 567 (by decide +kernel) rfl, rl_in 568 (by decide +kernel) rfl, rl_in 569 (by decide +kernel) rfl, rl_in 64 (by decide +kernel) rfl, ⟨by decide +kernel, by decide +kernel⟩, by decide +kernel⟩
theorem lmL_113 : rl_CV RL 113 mX9_saves 0 := ⟨rl_in 1079 (by decide +kernel) rfl, rl_in 1076 (by decide +kernel) rfl, rl_in 1077 (by decide +kernel) rfl, rl_in 1078 (by decide +kernel) rfl, rl_in 73 (by decide +kernel) rfl, ⟨by decide +kernel, by decide +kernel⟩, by decide +kernel⟩
theorem lmL_114 : rl_CV RL 114 mX8_ladder 2 := ⟨rl_in 586 (by decide +kernel) rfl, rl_in 583 (by decide +kernel) rfl, rl_in 584 (by decide +kernel) rfl, rl_in 585 (by decide +kernel) rfl, rl_in 64 (by decide +kernel) rfl, ⟨by decide +kernel, by decide +kernel⟩, by decide +kernel⟩
theorem lmL_117 : rl_CV RL 117 mX9_ladder 2 := ⟨rl_in 1087 (by decide +kernel) rfl, rl_in 1084 (by decide +kernel) rfl, rl_in 1085 (by decide +kernel) rfl, rl_in 1086 (by decide +kernel) rfl, rl_in 73 (by decide +kernel) rfl, ⟨by decide +kernel, by decide +kernel⟩, by decide +kernel⟩
theorem lmL_118 : rl_CV RL 118 mX8_seen 2 := ⟨rl_in 595 (by decide +kernel) rfl, rl_in 592 (by decide +kernel) rfl, rl_in 593 (by decide +kernel) rfl, rl_in 594 (by decide +kernel) rfl, rl_in 64 (by decide +kernel) rfl, ⟨by decide +kernel, by decide +kernel⟩, by decide +kernel⟩
theorem lmL_121 : rl_CV RL 121 mX9_seen 2 := ⟨rl_in 1095 (by decide +kernel) rfl, rl_in 1092 (by decide +kernel) rfl, rl_in 1093 (by decide +kernel) rfl, rl_in 1094 (by decide +kernel) rfl, rl_in 73 (by decide +kernel) rfl, ⟨by decide +kernel, by decide +kernel⟩, by decide +kernel⟩
theorem lmL_122 : rl_CV RL 122 mX8_forget 0 := ⟨rl_in 603 (by decide +kernel) rfl, rl_in 600 (by decide +kernel) rfl, rl_in 601 (by decide +kernel) rfl, rl_in 602 (by decide +kernel) rfl, rl_in 64 (by decide +kernel) rfl, ⟨by decide +kernel, by decide +kernel⟩, by decide +kernel⟩
theorem lmL_125 : rl_CV RL 125 mX9_forget 0 := ⟨rl_in 1099 (by decide +kernel) rfl, rl_in 1096 (by decide +kernel) rfl, rl_in 1097 (by decide +kernel) rfl, rl_in 1098 (by decide +kernel) rfl, rl_in 73 (by decide +kernel) rfl, ⟨by decide +kernel, by decide +kernel⟩, by decide +kernel⟩
theorem lmL_126 : rl_CV RL 126 mX8_read 1 := ⟨rl_in 607 (by decide +kernel) rfl, rl_in 604 (by decide +kernel) rfl, rl_in 605 (by decide +kernel) rfl, rl_in 606 (by decide +kernel) rfl, rl_in 64 (by decide +kernel) rfl, ⟨by decide +kernel, by decide +kernel⟩, by decide +kernel⟩
theorem lmL_129 : rl_CV RL 129 mX9_read 1 := ⟨rl_in 1103 (by decide +kernel) rfl, rl_in 1100 (by decide +kernel) rfl, rl_in 1101 (by decide +kernel) rfl, rl_in 1102 (by decide +kernel) rfl, rl_in 73 (by decide +kernel) rfl, ⟨by decide +kernel, by decide +kernel⟩, by decide +kernel⟩
theorem lmL_130 : rl_CV RL 130 mX8_learn 2 := ⟨rl_in 624 (by decide +kernel) rfl, rl_in 621 (by decide +kernel) rfl, rl_in 622 (by decide +kernel) rfl, rl_in 623 (by decide +kernel) rfl, rl_in 64 (by decide +kernel) rfl, ⟨by decide +kernel, by decide +kernel⟩, by decide +kernel⟩
theorem lmL_133 : rl_CV RL 133 mX9_learn 2 := ⟨rl_in 1115 (by decide +kernel) rfl, rl_in 1112 (by decide +kernel) rfl, rl_in 1113 (by decide +kernel) rfl, rl_in 1114 (by decide +kernel) rfl, rl_in 73 (by decide +kernel) rfl, ⟨by decide +kernel, by decide +kernel⟩, by decide +kernel⟩
theorem lmL_134 : rl_CV RL 134 mX8_night 2 := ⟨rl_in 644 (by decide +kernel) rfl, rl_in 641 (by decide +kernel) rfl, rl_in 642 (by decide +kernel) rfl, rl_in 643 (by decide +kernel) rfl, rl_in 64 (by decide +kernel) rfl, ⟨by decide +kernel, by decide +kernel⟩, by decide +kernel⟩
theorem lmL_137 : rl_CV RL 137 mX9_night 2 := ⟨rl_in 1123 (by decide +kernel) rfl, rl_in 1120 (by decide +kernel) rfl, rl_in 1121 (by decide +kernel) rfl, rl_in 1122 (by decide +kernel) rfl, rl_in 73 (by decide +kernel) rfl, ⟨by decide +kernel, by decide +kernel⟩, by decide +kernel⟩
theorem lmL_138 : rl_CV RL 138 mX8_sheet 3 := ⟨rl_in 661 (by decide +kernel) rfl, rl_in 658 (by decide +kernel) rfl, rl_in 659 (by decide +kernel) rfl, rl_in 660 (by decide +kernel) rfl, rl_in 64 (by decide +kernel) rfl, ⟨by decide +kernel, by decide +kernel⟩, by decide +kernel⟩
theorem lmL_141 : rl_CV RL 141 mX9_sheet 3 := ⟨rl_in 1136 (by decide +kernel) rfl, rl_in 1133 (by decide +kernel) rfl, rl_in 1134 (by decide +kernel) rfl, rl_in 1135 (by decide +kernel) rfl, rl_in 73 (by decide +kernel) rfl, ⟨by decide +kernel, by decide +kernel⟩, by decide +kernel⟩
theorem lmL_142 : rl_CV RL 142 mX8_lose 1 := ⟨rl_in 672 (by decide +kernel) rfl, rl_in 669 (by decide +kernel) rfl, rl_in 670 (by decide +kernel) rfl, rl_in 671 (by decide +kernel) rfl, rl_in 64 (by decide +kernel) rfl, ⟨by decide +kernel, by decide +kernel⟩, by decide +kernel⟩
theorem lmL_145 : rl_CV RL 145 mX9_lose 1 := ⟨rl_in 1140 (by decide +kernel) rfl, rl_in 1137 (by decide +kernel) rfl, rl_in 1138 (by decide +kernel) rfl, rl_in 1139 (by decide +kernel) rfl, rl_in 73 (by decide +kernel) rfl, ⟨by decide +kernel, by decide +kernel⟩, by decide +kernel⟩
theorem lmL_146 : rl_CV RL 146 mX8_put 4 := ⟨rl_in 676 (by decide +kernel) rfl, rl_in 673 (by decide +kernel) rfl, rl_in 674 (by decide +kernel) rfl, rl_in 675 (by decide +kernel) rfl, rl_in 64 (by decide +kernel) rfl, ⟨by decide +kernel, by decide +kernel⟩, by decide +kernel⟩
theorem lmL_150 : rl_CV RL 150 mX9_put 4 := ⟨rl_in 1144 (by decide +kernel) rfl, rl_in 1141 (by decide +kernel) rfl, rl_in 1142 (by decide +kernel) rfl, rl_in 1143 (by decide +kernel) rfl, rl_in 73 (by decide +kernel) rfl, ⟨by decide +kernel, by decide +kernel⟩, by decide +kernel⟩
theorem lmL_151 : rl_CV RL 151 mX8_get 3 := ⟨rl_in 692 (by decide +kernel) rfl, rl_in 689 (by decide +kernel) rfl, rl_in 690 (by decide +kernel) rfl, rl_in 691 (by decide +kernel) rfl, rl_in 64 (by decide +kernel) rfl, ⟨by decide +kernel, by decide +kernel⟩, by decide +kernel⟩
theorem lmL_154 : rl_CV RL 154 mX9_get 3 := ⟨rl_in 1156 (by decide +kernel) rfl, rl_in 1153 (by decide +kernel) rfl, rl_in 1154 (by decide +kernel) rfl, rl_in 1155 (by decide +kernel) rfl, rl_in 73 (by decide +kernel) rfl, ⟨by decide +kernel, by decide +kernel⟩, by decide +kernel⟩
theorem lmL_155 : rl_CV RL 155 mX8_copy 5 := ⟨rl_in 697 (by decide +kernel) rfl, rl_in 694 (by decide +kernel) rfl, rl_in 695 (by decide +kernel) rfl, rl_in 696 (by decide +kernel) rfl, rl_in 64 (by decide +kernel) rfl, ⟨by decide +kernel, by decide +kernel⟩, by decide +kernel⟩
theorem lmL_159 : rl_CV RL 159 mX9_copy 5 := ⟨rl_in 1161 (by decide +kernel) rfl, rl_in 1158 (by decide +kernel) rfl, rl_in 1159 (by decide +kernel) rfl, rl_in 1160 (by decide +kernel) rfl, rl_in 73 (by decide +kernel) rfl, ⟨by decide +kernel, by decide +kernel⟩, by decide +kernel⟩
theorem lmL_160 : rl_CV RL 160 mX8_write 2 := ⟨rl_in 711 (by decide +kernel) rfl, rl_in 708 (by decide +kernel) rfl, rl_in 709 (by decide +kernel) rfl, rl_in 710 (by decide +kernel) rfl, rl_in 64 (by decide +kernel) rfl, ⟨by decide +kernel, by decide +kernel⟩, by decide +kernel⟩
theorem lmL_163 : rl_CV RL 163 mX9_write 2 := ⟨rl_in 1165 (by decide +kernel) rfl, rl_in 1162 (by decide +kernel) rfl, rl_in 1163 (by decide +kernel) rfl, rl_in 1164 (by decide +kernel) rfl, rl_in 73 (by decide +kernel) rfl, ⟨by decide +kernel, by decide +kernel⟩, by decide +kernel⟩
theorem lmL_164 : rl_CV RL 164 mX8_count 1 := ⟨rl_in 715 (by decide +kernel) rfl, rl_in 712 (by decide +kernel) rfl, rl_in 713 (by decide +kernel) rfl, rl_in 714 (by decide +kernel) rfl, rl_in 64 (by decide +kernel) rfl, ⟨by decide +kernel, by decide +kernel⟩, by decide +kernel⟩
theorem lmL_167 : rl_CV RL 167 mX9_count 1 := ⟨rl_in 1169 (by decide +kernel) rfl, rl_in 1166 (by decide +kernel) rfl, rl_in 1167 (by decide +kernel) rfl, rl_in 1168 (by decide +kernel) rfl, rl_in 73 (by decide +kernel) rfl, ⟨by decide +kernel, by decide +kernel⟩, by decide +kernel⟩
theorem lmL_168 : rl_CV RL 168 mX8_digest 0 := ⟨rl_in 732 (by decide +kernel) rfl, rl_in 729 (by decide +kernel) rfl, rl_in 730 (by decide +kernel) rfl, rl_in 731 (by decide +kernel) rfl, rl_in 64 (by decide +kernel) rfl, ⟨by decide +kernel, by decide +kernel⟩, by decide +kernel⟩
theorem lmL_172 : rl_CV RL 172 mX9_digest 0 := ⟨rl_in 1177 (by decide +kernel) rfl, rl_in 1174 (by decide +kernel) rfl, rl_in 1175 (by decide +kernel) rfl, rl_in 1176 (by decide +kernel) rfl, rl_in 73 (by decide +kernel) rfl, ⟨by decide +kernel, by decide +kernel⟩, by decide +kernel⟩
theorem lmX0_32 : rl_CV RX0 32 mX3_of 1 := ⟨rl_in 422 (by decide +kernel) rfl, rl_in 516 (by decide +kernel) rfl, rl_in 420 (by decide +kernel) rfl, rl_in 421 (by decide +kernel) rfl, rl_in 68 (by decide +kernel) rfl, ⟨by decide +kernel, by decide +kernel⟩, by decide +kernel⟩
theorem lmX0_36 : rl_CV RX0 36 mX5_notOutFrom 1 := ⟨rl_in 520 (by decide +kernel) rfl, rl_in 517 (by decide +kernel) rfl, rl_in 518 (by decide +kernel) rfl, rl_in 519 (by decide +kernel) rfl, rl_in 67 (by decide +kernel) rfl, ⟨by decide +kernel, by decide +kernel⟩, by decide +kernel⟩
theorem lmX0_41 : rl_CV RX0 41 mX2_heightAt 1 := ⟨rl_in 434 (by decide +kernel) rfl, rl_in 522 (by decide +kernel) rfl, rl_in 432 (by decide +kernel) rfl, rl_in 433 (by decide +kernel) rfl, rl_in 66 (by decide +kernel) rfl, ⟨by decide +kernel, by decide +kernel⟩, by decide +kernel⟩
theorem lmX0_46 : rl_CV RX0 46 mX0_rungHeight 1 := ⟨rl_in 526 (by decide +kernel) rfl, rl_in 523 (by decide +kernel) rfl, rl_in 525 (by decide +kernel) rfl, rl_in 12 (by decide +kernel) rfl, rl_in 69 (by decide +kernel) rfl, ⟨by decide +kernel, by decide +kernel⟩, by decide +kernel⟩
theorem lmX0_49 : rl_CV RX0 49 mX5_leanAt 1 := ⟨rl_in 450 (by decide +kernel) rfl, rl_in 527 (by decide +kernel) rfl, rl_in 448 (by decide +kernel) rfl, rl_in 449 (by decide +kernel) rfl, rl_in 67 (by decide +kernel) rfl, ⟨by decide +kernel, by decide +kernel⟩, by decide +kernel⟩
theorem lmX2_25 : rl_CV RX2 25 mX2_renew 0 := ⟨rl_in 323 (by decide +kernel) rfl, rl_in 395 (by decide +kernel) rfl, rl_in 321 (by decide +kernel) rfl, rl_in 322 (by decide +kernel) rfl, rl_in 66 (by decide +kernel) rfl, ⟨by decide +kernel, by decide +kernel⟩, by decide +kernel⟩
theorem lmX2_40 : rl_CV RX2 40 mX7_lengthOf 1 := ⟨rl_in 327 (by decide +kernel) rfl, rl_in 324 (by decide +kernel) rfl, rl_in 325 (by decide +kernel) rfl, rl_in 326 (by decide +kernel) rfl, rl_in 65 (by decide +kernel) rfl, ⟨by decide +kernel, by decide +kernel⟩, by decide +kernel⟩
theorem lmX2_44 : rl_CV RX2 44 mX2_alone 3 := ⟨rl_in 331 (by decide +kernel) rfl, rl_in 328 (by decide +kernel) rfl, rl_in 330 (by decide +kernel) rfl, rl_in 7 (by decide +kernel) rfl, rl_in 66 (by decide +kernel) rfl, ⟨by decide +kernel, by decide +kernel⟩, by decide +kernel⟩
theorem lmX2_48 : rl_CV RX2 48 mX2_cutByLee 2 := ⟨rl_in 346 (by decide +kernel) rfl, rl_in 343 (by decide +kernel) rfl, rl_in 345 (by decide +kernel) rfl, rl_in 8 (by decide +kernel) rfl, rl_in 66 (by decide +kernel) rfl, ⟨by decide +kernel, by decide +kernel⟩, by decide +kernel⟩
theorem lmX2_52 : rl_CV RX2 52 mX2_beginOf 1 := ⟨rl_in 335 (by decide +kernel) rfl, rl_in 332 (by decide +kernel) rfl, rl_in 333 (by decide +kernel) rfl, rl_in 334 (by decide +kernel) rfl, rl_in 66 (by decide +kernel) rfl, ⟨by decide +kernel, by decide +kernel⟩, by decide +kernel⟩
theorem lmX2_55 : rl_CV RX2 55 mX7_heightOf 1 := ⟨rl_in 339 (by decide +kernel) rfl, rl_in 336 (by decide +kernel) rfl, rl_in 337 (by decide +kernel) rfl, rl_in 338 (by decide +kernel) rfl, rl_in 65 (by decide +kernel) rfl, ⟨by decide +kernel, by decide +kernel⟩, by decide +kernel⟩
theorem lmX2_58 : Cond.methodLink RX2 58 Lib.Math.min.name ∈ rl_T ∧ Cond.static Lib.Math.min.name ∈ rl_T ∧ Cond.initialized "java/lang/Math" ∈ rl_T ∧ Cond.code Lib.Math.min.name Lib.Math.min.code 2 (some .int) ∈ rl_T := ⟨rl_in 340 (by decide +kernel) rfl, rl_in 341 (by decide +kernel) rfl, rl_in 74 (by decide +kernel) rfl, rl_in 342 (by decide +kernel) rfl⟩
theorem lmX2_63 : rl_CV RX2 63 mX2_heightWithoutLee 1 := ⟨rl_in 578 (by decide +kernel) rfl, rl_in 575 (by decide +kernel) rfl, rl_in 577 (by decide +kernel) rfl, rl_in 15 (by decide +kernel) rfl, rl_in 66 (by decide +kernel) rfl, ⟨by decide +kernel, by decide +kernel⟩, by decide +kernel⟩
theorem lmX2_66 : rl_CV RX2 66 mX2_moveAt 1 := ⟨rl_in 442 (by decide +kernel) rfl, rl_in 459 (by decide +kernel) rfl, rl_in 440 (by decide +kernel) rfl, rl_in 441 (by decide +kernel) rfl, rl_in 66 (by decide +kernel) rfl, ⟨by decide +kernel, by decide +kernel⟩, by decide +kernel⟩
theorem lmX2_69 : rl_CV RX2 69 mX2_crestFrom 2 := ⟨rl_in 458 (by decide +kernel) rfl, rl_in 468 (by decide +kernel) rfl, rl_in 456 (by decide +kernel) rfl, rl_in 457 (by decide +kernel) rfl, rl_in 66 (by decide +kernel) rfl, ⟨by decide +kernel, by decide +kernel⟩, by decide +kernel⟩
theorem lmX2_72 : rl_CV RX2 72 mX2_heightAt 1 := ⟨rl_in 434 (by decide +kernel) rfl, rl_in 469 (by decide +kernel) rfl, rl_in 432 (by decide +kernel) rfl, rl_in 433 (by decide +kernel) rfl, rl_in 66 (by decide +kernel) rfl, ⟨by decide +kernel, by decide +kernel⟩, by decide +kernel⟩
theorem lmX2_78 : rl_CV RX2 78 mX2_spread 3 := ⟨rl_in 485 (by decide +kernel) rfl, rl_in 482 (by decide +kernel) rfl, rl_in 483 (by decide +kernel) rfl, rl_in 484 (by decide +kernel) rfl, rl_in 66 (by decide +kernel) rfl, ⟨by decide +kernel, by decide +kernel⟩, by decide +kernel⟩
theorem lmX2_81 : Cond.methodLink RX2 81 Lib.Math.max.name ∈ rl_T ∧ Cond.static Lib.Math.max.name ∈ rl_T ∧ Cond.initialized "java/lang/Math" ∈ rl_T ∧ Cond.code Lib.Math.max.name Lib.Math.max.code 2 (some .int) ∈ rl_T := ⟨rl_in 486 (by decide +kernel) rfl, rl_in 487 (by decide +kernel) rfl, rl_in 74 (by decide +kernel) rfl, rl_in 488 (by decide +kernel) rfl⟩
theorem lmX2_84 : rl_CV RX2 84 mX2_greatestHeightUpTo 3 := ⟨rl_in 582 (by decide +kernel) rfl, rl_in 579 (by decide +kernel) rfl, rl_in 580 (by decide +kernel) rfl, rl_in 581 (by decide +kernel) rfl, rl_in 66 (by decide +kernel) rfl, ⟨by decide +kernel, by decide +kernel⟩, by decide +kernel⟩
theorem lmX4_26 : rl_CV RX4 26 mX4_narrow 1 := ⟨rl_in 688 (by decide +kernel) rfl, rl_in 685 (by decide +kernel) rfl, rl_in 687 (by decide +kernel) rfl, rl_in 21 (by decide +kernel) rfl, rl_in 72 (by decide +kernel) rfl, ⟨by decide +kernel, by decide +kernel⟩, by decide +kernel⟩
theorem lmX4_30 : rl_CV RX4 30 mX4_itemAt 1 := ⟨rl_in 619 (by decide +kernel) rfl, rl_in 706 (by decide +kernel) rfl, rl_in 617 (by decide +kernel) rfl, rl_in 618 (by decide +kernel) rfl, rl_in 72 (by decide +kernel) rfl, ⟨by decide +kernel, by decide +kernel⟩, by decide +kernel⟩
theorem lmX4_33 : rl_CV RX4 33 mX4_store 2 := ⟨rl_in 684 (by decide +kernel) rfl, rl_in 707 (by decide +kernel) rfl, rl_in 682 (by decide +kernel) rfl, rl_in 683 (by decide +kernel) rfl, rl_in 72 (by decide +kernel) rfl, ⟨by decide +kernel, by decide +kernel⟩, by decide +kernel⟩
theorem lmX5_15 : rl_CV RX5 15 mX7_heightOf 1 := ⟨rl_in 339 (by decide +kernel) rfl, rl_in 351 (by decide +kernel) rfl, rl_in 337 (by decide +kernel) rfl, rl_in 338 (by decide +kernel) rfl, rl_in 65 (by decide +kernel) rfl, ⟨by decide +kernel, by decide +kernel⟩, by decide +kernel⟩
theorem lmX5_25 : rl_CV RX5 25 mX7_lengthOf 1 := ⟨rl_in 327 (by decide +kernel) rfl, rl_in 352 (by decide +kernel) rfl, rl_in 325 (by decide +kernel) rfl, rl_in 326 (by decide +kernel) rfl, rl_in 65 (by decide +kernel) rfl, ⟨by decide +kernel, by decide +kernel⟩, by decide +kernel⟩
theorem lmX5_31 : rl_CV RX5 31 mX5_leanAt 1 := ⟨rl_in 450 (by decide +kernel) rfl, rl_in 521 (by decide +kernel) rfl, rl_in 448 (by decide +kernel) rfl, rl_in 449 (by decide +kernel) rfl, rl_in 67 (by decide +kernel) rfl, ⟨by decide +kernel, by decide +kernel⟩, by decide +kernel⟩
theorem lmX7_34 : rl_CV RX7 34 mX7_understand 0 := ⟨rl_in 299 (by decide +kernel) rfl, rl_in 296 (by decide +kernel) rfl, rl_in 298 (by decide +kernel) rfl, rl_in 1 (by decide +kernel) rfl, rl_in 65 (by decide +kernel) rfl, ⟨by decide +kernel, by decide +kernel⟩, by decide +kernel⟩
theorem lmX7_40 : rl_CV RX7 40 mX7_heightOf 1 := ⟨rl_in 339 (by decide +kernel) rfl, rl_in 720 (by decide +kernel) rfl, rl_in 337 (by decide +kernel) rfl, rl_in 338 (by decide +kernel) rfl, rl_in 65 (by decide +kernel) rfl, ⟨by decide +kernel, by decide +kernel⟩, by decide +kernel⟩
theorem lmX7_44 : rl_CV RX7 44 mX7_firstFault 0 := ⟨rl_in 303 (by decide +kernel) rfl, rl_in 300 (by decide +kernel) rfl, rl_in 302 (by decide +kernel) rfl, rl_in 2 (by decide +kernel) rfl, rl_in 65 (by decide +kernel) rfl, ⟨by decide +kernel, by decide +kernel⟩, by decide +kernel⟩
theorem lmX7_48 : rl_CV RX7 48 mX7_byteAt 1 := ⟨rl_in 311 (by decide +kernel) rfl, rl_in 308 (by decide +kernel) rfl, rl_in 310 (by decide +kernel) rfl, rl_in 4 (by decide +kernel) rfl, rl_in 65 (by decide +kernel) rfl, ⟨by decide +kernel, by decide +kernel⟩, by decide +kernel⟩
theorem lmX7_51 : rl_CV RX7 51 mX7_twoFiguresAt 1 := ⟨rl_in 315 (by decide +kernel) rfl, rl_in 312 (by decide +kernel) rfl, rl_in 314 (by decide +kernel) rfl, rl_in 5 (by decide +kernel) rfl, rl_in 65 (by decide +kernel) rfl, ⟨by decide +kernel, by decide +kernel⟩, by decide +kernel⟩
theorem lmX7_54 : rl_CV RX7 54 mX7_goesOn 1 := ⟨rl_in 307 (by decide +kernel) rfl, rl_in 304 (by decide +kernel) rfl, rl_in 306 (by decide +kernel) rfl, rl_in 3 (by decide +kernel) rfl, rl_in 65 (by decide +kernel) rfl, ⟨by decide +kernel, by decide +kernel⟩, by decide +kernel⟩
theorem lmX8_76 : rl_CV RX8 76 mX8_textOf 1 := ⟨rl_in 287 (by decide +kernel) rfl, rl_in 284 (by decide +kernel) rfl, rl_in 286 (by decide +kernel) rfl, rl_in 0 (by decide +kernel) rfl, rl_in 64 (by decide +kernel) rfl, ⟨by decide +kernel, by decide +kernel⟩, by decide +kernel⟩
theorem lmX8_80 : rl_CV RX8 80 mX7_isFull 0 := ⟨rl_in 291 (by decide +kernel) rfl, rl_in 288 (by decide +kernel) rfl, rl_in 289 (by decide +kernel) rfl, rl_in 290 (by decide +kernel) rfl, rl_in 65 (by decide +kernel) rfl, ⟨by decide +kernel, by decide +kernel⟩, by decide +kernel⟩
theorem lmX8_84 : rl_CV RX8 84 mX7_append 1 := ⟨rl_in 295 (by decide +kernel) rfl, rl_in 292 (by decide +kernel) rfl, rl_in 293 (by decide +kernel) rfl, rl_in 294 (by decide +kernel) rfl, rl_in 65 (by decide +kernel) rfl, ⟨by decide +kernel, by decide +kernel⟩, by decide +kernel⟩
theorem lmX8_88 : rl_CV RX8 88 mX8_takeUpTexts 0 := ⟨rl_in 319 (by decide +kernel) rfl, rl_in 316 (by decide +kernel) rfl, rl_in 318 (by decide +kernel) rfl, rl_in 6 (by decide +kernel) rfl, rl_in 64 (by decide +kernel) rfl, ⟨by decide +kernel, by decide +kernel⟩, by decide +kernel⟩
theorem lmX8_95 : rl_CV RX8 95 mX7_shorten 1 := ⟨rl_in 360 (by decide +kernel) rfl, rl_in 357 (by decide +kernel) rfl, rl_in 358 (by decide +kernel) rfl, rl_in 359 (by decide +kernel) rfl, rl_in 65 (by decide +kernel) rfl, ⟨by decide +kernel, by decide +kernel⟩, by decide +kernel⟩
theorem lmX8_101 : rl_CV RX8 101 mX8_isSwell 1 := ⟨rl_in 376 (by decide +kernel) rfl, rl_in 373 (by decide +kernel) rfl, rl_in 375 (by decide +kernel) rfl, rl_in 9 (by decide +kernel) rfl, rl_in 64 (by decide +kernel) rfl, ⟨by decide +kernel, by decide +kernel⟩, by decide +kernel⟩
theorem lmX8_105 : rl_CS RX8 105 mX8_isEither 1 := ⟨rl_in 379 (by decide +kernel) rfl, rl_in 377 (by decide +kernel) rfl, rl_in 378 (by decide +kernel) rfl, rl_in 64 (by decide +kernel) rfl, ⟨by decide +kernel, by decide +kernel⟩, by decide +kernel⟩
theorem lmX8_108 : rl_CV RX8 108 mX7_heightOf 1 := ⟨rl_in 339 (by decide +kernel) rfl, rl_in 380 (by decide +kernel) rfl, rl_in 337 (by decide +kernel) rfl, rl_in 338 (by decide +kernel) rfl, rl_in 65 (by decide +kernel) rfl, ⟨by decide +kernel, by decide +kernel⟩, by decide +kernel⟩
theorem lmX8_112 : rl_CV RX8 112 mX7_lengthOf 1 := ⟨rl_in 327 (by decide +kernel) rfl, rl_in 381 (by decide +kernel) rfl, rl_in 325 (by decide +kernel) rfl, rl_in 326 (by decide +kernel) rfl, rl_in 65 (by decide +kernel) rfl, ⟨by decide +kernel, by decide +kernel⟩, by decide +kernel⟩
theorem lmX8_118 : rl_CV RX8 118 mX2_beginOf 1 := ⟨rl_in 335 (by decide +kernel) rfl, rl_in 390 (by decide +kernel) rfl, rl_in 333 (by decide +kernel) rfl, rl_in 334 (by decide +kernel) rfl, rl_in 66 (by decide +kernel) rfl, ⟨by decide +kernel, by decide +kernel⟩, by decide +kernel⟩
theorem lmX8_121 : rl_CV RX8 121 mX2_beginAt 2 := ⟨rl_in 394 (by decide +kernel) rfl, rl_in 391 (by decide +kernel) rfl, rl_in 392 (by decide +kernel) rfl, rl_in 393 (by decide +kernel) rfl, rl_in 66 (by decide +kernel) rfl, ⟨by decide +kernel, by decide +kernel⟩, by decide +kernel⟩
theorem lmX8_124 : rl_CS RX8 124 mX8_isTenth 1 := ⟨rl_in 402 (by decide +kernel) rfl, rl_in 400 (by decide +kernel) rfl, rl_in 401 (by decide +kernel) rfl, rl_in 64 (by decide +kernel) rfl, ⟨by decide +kernel, by decide +kernel⟩, by decide +kernel⟩
theorem lmX8_133 : rl_CV RX8 133 mX2_putLee 2 := ⟨rl_in 406 (by decide +kernel) rfl, rl_in 403 (by decide +kernel) rfl, rl_in 404 (by decide +kernel) rfl, rl_in 405 (by decide +kernel) rfl, rl_in 66 (by decide +kernel) rfl, ⟨by decide +kernel, by decide +kernel⟩, by decide +kernel⟩
theorem lmX8_136 : rl_CV RX8 136 mX3_allows 2 := ⟨rl_in 414 (by decide +kernel) rfl, rl_in 411 (by decide +kernel) rfl, rl_in 412 (by decide +kernel) rfl, rl_in 413 (by decide +kernel) rfl, rl_in 68 (by decide +kernel) rfl, ⟨by decide +kernel, by decide +kernel⟩, by decide +kernel⟩
theorem lmX8_140 : rl_CV RX8 140 mX3_of 1 := ⟨rl_in 422 (by decide +kernel) rfl, rl_in 419 (by decide +kernel) rfl, rl_in 420 (by decide +kernel) rfl, rl_in 421 (by decide +kernel) rfl, rl_in 68 (by decide +kernel) rfl, ⟨by decide +kernel, by decide +kernel⟩, by decide +kernel⟩
theorem lmX8_143 : rl_CV RX8 143 mX3_change 2 := ⟨rl_in 426 (by decide +kernel) rfl, rl_in 423 (by decide +kernel) rfl, rl_in 424 (by decide +kernel) rfl, rl_in 425 (by decide +kernel) rfl, rl_in 68 (by decide +kernel) rfl, ⟨by decide +kernel, by decide +kernel⟩, by decide +kernel⟩
theorem lmX8_146 : rl_CV RX8 146 mX2_heightAt 1 := ⟨rl_in 434 (by decide +kernel) rfl, rl_in 431 (by decide +kernel) rfl, rl_in 432 (by decide +kernel) rfl, rl_in 433 (by decide +kernel) rfl, rl_in 66 (by decide +kernel) rfl, ⟨by decide +kernel, by decide +kernel⟩, by decide +kernel⟩
theorem lmX8_149 : rl_CV RX8 149 mX2_moveAt 1 := ⟨rl_in 442 (by decide +kernel) rfl, rl_in 439 (by decide +kernel) rfl, rl_in 440 (by decide +kernel) rfl, rl_in 441 (by decide +kernel) rfl, rl_in 66 (by decide +kernel) rfl, ⟨by decide +kernel, by decide +kernel⟩, by decide +kernel⟩
theorem lmX8_152 : rl_CV RX8 152 mX5_leanAt 1 := ⟨rl_in 450 (by decide +kernel) rfl, rl_in 447 (by decide +kernel) rfl, rl_in 448 (by decide +kernel) rfl, rl_in 449 (by decide +kernel) rfl, rl_in 67 (by decide +kernel) rfl, ⟨by decide +kernel, by decide +kernel⟩, by decide +kernel⟩
theorem lmX8_155 : rl_CV RX8 155 mX2_crestFrom 2 := ⟨rl_in 458 (by decide +kernel) rfl, rl_in 455 (by decide +kernel) rfl, rl_in 456 (by decide +kernel) rfl, rl_in 457 (by decide +kernel) rfl, rl_in 66 (by decide +kernel) rfl, ⟨by decide +kernel, by decide +kernel⟩, by decide +kernel⟩
theorem lmX8_159 : rl_CV RX8 159 mX2_highestCrestFrom 1 := ⟨rl_in 467 (by decide +kernel) rfl, rl_in 464 (by decide +kernel) rfl, rl_in 465 (by decide +kernel) rfl, rl_in 466 (by decide +kernel) rfl, rl_in 66 (by decide +kernel) rfl, ⟨by decide +kernel, by decide +kernel⟩, by decide +kernel⟩
theorem lmX8_162 : rl_CS RX8 162 mX8_isSpan 1 := ⟨rl_in 476 (by decide +kernel) rfl, rl_in 474 (by decide +kernel) rfl, rl_in 475 (by decide +kernel) rfl, rl_in 64 (by decide +kernel) rfl, ⟨by decide +kernel, by decide +kernel⟩, by decide +kernel⟩
theorem lmX8_165 : rl_CV RX8 165 mX2_lullFrom 2 := ⟨rl_in 480 (by decide +kernel) rfl, rl_in 477 (by decide +kernel) rfl, rl_in 478 (by decide +kernel) rfl, rl_in 479 (by decide +kernel) rfl, rl_in 66 (by decide +kernel) rfl, ⟨by decide +kernel, by decide +kernel⟩, by decide +kernel⟩
theorem lmX8_169 : rl_CV RX8 169 mX2_spread 3 := ⟨rl_in 485 (by decide +kernel) rfl, rl_in 490 (by decide +kernel) rfl, rl_in 483 (by decide +kernel) rfl, rl_in 484 (by decide +kernel) rfl, rl_in 66 (by decide +kernel) rfl, ⟨by decide +kernel, by decide +kernel⟩, by decide +kernel⟩
theorem lmX8_173 : rl_CV RX8 173 mX8_stepAt 1 := ⟨rl_in 498 (by decide +kernel) rfl, rl_in 495 (by decide +kernel) rfl, rl_in 497 (by decide +kernel) rfl, rl_in 10 (by decide +kernel) rfl, rl_in 64 (by decide +kernel) rfl, ⟨by decide +kernel, by decide +kernel⟩, by decide +kernel⟩
theorem lmX8_176 : rl_CV RX8 176 mX8_oddsToFall 1 := ⟨rl_in 506 (by decide +kernel) rfl, rl_in 503 (by decide +kernel) rfl, rl_in 505 (by decide +kernel) rfl, rl_in 11 (by decide +kernel) rfl, rl_in 64 (by decide +kernel) rfl, ⟨by decide +kernel, by decide +kernel⟩, by decide +kernel⟩
theorem lmX8_179 : rl_CV RX8 179 mX0_goFrom 1 := ⟨rl_in 515 (by decide +kernel) rfl, rl_in 512 (by decide +kernel) rfl, rl_in 513 (by decide +kernel) rfl, rl_in 514 (by decide +kernel) rfl, rl_in 69 (by decide +kernel) rfl, ⟨by decide +kernel, by decide +kernel⟩, by decide +kernel⟩
theorem lmX8_192 : rl_CV RX8 192 mX8_chance 1 := ⟨rl_in 540 (by decide +kernel) rfl, rl_in 537 (by decide +kernel) rfl, rl_in 539 (by decide +kernel) rfl, rl_in 13 (by decide +kernel) rfl, rl_in 64 (by decide +kernel) rfl, ⟨by decide +kernel, by decide +kernel⟩, by decide +kernel⟩
theorem lmX8_200 : rl_CS RX8 200 mX8_spanEnd 2 := ⟨rl_in 550 (by decide +kernel) rfl, rl_in 548 (by decide +kernel) rfl, rl_in 549 (by decide +kernel) rfl, rl_in 64 (by decide +kernel) rfl, ⟨by decide +kernel, by decide +kernel⟩, by decide +kernel⟩
theorem lmX8_203 : rl_CV RX8 203 mX8_best 2 := ⟨rl_in 547 (by decide +kernel) rfl, rl_in 555 (by decide +kernel) rfl, rl_in 545 (by decide +kernel) rfl, rl_in 546 (by decide +kernel) rfl, rl_in 64 (by decide +kernel) rfl, ⟨by decide +kernel, by decide +kernel⟩, by decide +kernel⟩
theorem lmX8_206 : rl_CV RX8 206 mX8_distanceToFoot 1 := ⟨rl_in 563 (by decide +kernel) rfl, rl_in 560 (by decide +kernel) rfl, rl_in 562 (by decide +kernel) rfl, rl_in 14 (by decide +kernel) rfl, rl_in 64 (by decide +kernel) rfl, ⟨by decide +kernel, by decide +kernel⟩, by decide +kernel⟩
theorem lmX8_209 : rl_CV RX8 209 mX2_savedByLee 0 := ⟨rl_in 574 (by decide +kernel) rfl, rl_in 571 (by decide +kernel) rfl, rl_in 572 (by decide +kernel) rfl, rl_in 573 (by decide +kernel) rfl, rl_in 66 (by decide +kernel) rfl, ⟨by decide +kernel, by decide +kernel⟩, by decide +kernel⟩
theorem lmX8_213 : rl_CV RX8 213 mX2_leastHeight 2 := ⟨rl_in 590 (by decide +kernel) rfl, rl_in 587 (by decide +kernel) rfl, rl_in 588 (by decide +kernel) rfl, rl_in 589 (by decide +kernel) rfl, rl_in 66 (by decide +kernel) rfl, ⟨by decide +kernel, by decide +kernel⟩, by decide +kernel⟩
theorem lmX8_216 : Cond.methodLink RX8 216 Lib.Math.min.name ∈ rl_T ∧ Cond.static Lib.Math.min.name ∈ rl_T ∧ Cond.initialized "java/lang/Math" ∈ rl_T ∧ Cond.code Lib.Math.min.name Lib.Math.min.code 2 (some .int) ∈ rl_T := ⟨rl_in 507 (by decide +kernel) rfl, rl_in 341 (by decide +kernel) rfl, rl_in 74 (by decide +kernel) rfl, rl_in 342 (by decide +kernel) rfl⟩
theorem lmX8_221 : rl_CV RX8 221 mX2_greatestHeightUpTo 3 := ⟨rl_in 582 (by decide +kernel) rfl, rl_in 591 (by decide +kernel) rfl, rl_in 580 (by decide +kernel) rfl, rl_in 581 (by decide +kernel) rfl, rl_in 66 (by decide +kernel) rfl, ⟨by decide +kernel, by decide +kernel⟩, by decide +kernel⟩
theorem lmX8_225 : rl_CV RX8 225 mX6_append 2 := ⟨rl_in 599 (by decide +kernel) rfl, rl_in 596 (by decide +kernel) rfl, rl_in 597 (by decide +kernel) rfl, rl_in 598 (by decide +kernel) rfl, rl_in 70 (by decide +kernel) rfl, ⟨by decide +kernel, by decide +kernel⟩, by decide +kernel⟩
theorem lmX8_227 : rl_CV RX8 227 mX8_sheetOf 1 := ⟨rl_in 611 (by decide +kernel) rfl, rl_in 608 (by decide +kernel) rfl, rl_in 610 (by decide +kernel) rfl, rl_in 16 (by decide +kernel) rfl, rl_in 64 (by decide +kernel) rfl, ⟨by decide +kernel, by decide +kernel⟩, by decide +kernel⟩
theorem lmX8_235 : rl_CV RX8 235 mX8_find 1 := ⟨rl_in 615 (by decide +kernel) rfl, rl_in 612 (by decide +kernel) rfl, rl_in 614 (by decide +kernel) rfl, rl_in 17 (by decide +kernel) rfl, rl_in 64 (by decide +kernel) rfl, ⟨by decide +kernel, by decide +kernel⟩, by decide +kernel⟩
theorem lmX8_239 : rl_CV RX8 239 mX4_itemAt 1 := ⟨rl_in 619 (by decide +kernel) rfl, rl_in 616 (by decide +kernel) rfl, rl_in 617 (by decide +kernel) rfl, rl_in 618 (by decide +kernel) rfl, rl_in 72 (by decide +kernel) rfl, ⟨by decide +kernel, by decide +kernel⟩, by decide +kernel⟩
theorem lmX8_242 : rl_CV RX8 242 mX8_seen 2 := ⟨rl_in 595 (by decide +kernel) rfl, rl_in 620 (by decide +kernel) rfl, rl_in 593 (by decide +kernel) rfl, rl_in 594 (by decide +kernel) rfl, rl_in 64 (by decide +kernel) rfl, ⟨by decide +kernel, by decide +kernel⟩, by decide +kernel⟩
theorem lmX8_245 : rl_CV RX8 245 mX8_allSeenComesOut 2 := ⟨rl_in 628 (by decide +kernel) rfl, rl_in 625 (by decide +kernel) rfl, rl_in 627 (by decide +kernel) rfl, rl_in 18 (by decide +kernel) rfl, rl_in 64 (by decide +kernel) rfl, ⟨by decide +kernel, by decide +kernel⟩, by decide +kernel⟩
theorem lmX8_251 : rl_CV RX8 251 mX8_nextStep 1 := ⟨rl_in 648 (by decide +kernel) rfl, rl_in 645 (by decide +kernel) rfl, rl_in 647 (by decide +kernel) rfl, rl_in 19 (by decide +kernel) rfl, rl_in 64 (by decide +kernel) rfl, ⟨by decide +kernel, by decide +kernel⟩, by decide +kernel⟩
theorem lmX8_254 : rl_CV RX8 254 mX8_getsUp 1 := ⟨rl_in 657 (by decide +kernel) rfl, rl_in 654 (by decide +kernel) rfl, rl_in 656 (by decide +kernel) rfl, rl_in 20 (by decide +kernel) rfl, rl_in 64 (by decide +kernel) rfl, ⟨by decide +kernel, by decide +kernel⟩, by decide +kernel⟩
theorem lmX8_257 : rl_CS RX8 257 mX8_isForm 1 := ⟨rl_in 664 (by decide +kernel) rfl, rl_in 662 (by decide +kernel) rfl, rl_in 663 (by decide +kernel) rfl, rl_in 64 (by decide +kernel) rfl, ⟨by decide +kernel, by decide +kernel⟩, by decide +kernel⟩
theorem lmX8_260 : rl_CV RX8 260 mX4_become 2 := ⟨rl_in 668 (by decide +kernel) rfl, rl_in 665 (by decide +kernel) rfl, rl_in 666 (by decide +kernel) rfl, rl_in 667 (by decide +kernel) rfl, rl_in 72 (by decide +kernel) rfl, ⟨by decide +kernel, by decide +kernel⟩, by decide +kernel⟩
theorem lmX8_263 : rl_CV RX8 263 mX4_troubleAt 2 := ⟨rl_in 680 (by decide +kernel) rfl, rl_in 677 (by decide +kernel) rfl, rl_in 678 (by decide +kernel) rfl, rl_in 679 (by decide +kernel) rfl, rl_in 72 (by decide +kernel) rfl, ⟨by decide +kernel, by decide +kernel⟩, by decide +kernel⟩
theorem lmX8_266 : rl_CV RX8 266 mX4_store 2 := ⟨rl_in 684 (by decide +kernel) rfl, rl_in 681 (by decide +kernel) rfl, rl_in 682 (by decide +kernel) rfl, rl_in 683 (by decide +kernel) rfl, rl_in 72 (by decide +kernel) rfl, ⟨by decide +kernel, by decide +kernel⟩, by decide +kernel⟩
theorem lmX8_273 : rl_CV RX8 273 mX4_holds 2 := ⟨rl_in 701 (by decide +kernel) rfl, rl_in 698 (by decide +kernel) rfl, rl_in 699 (by decide +kernel) rfl, rl_in 700 (by decide +kernel) rfl, rl_in 72 (by decide +kernel) rfl, ⟨by decide +kernel, by decide +kernel⟩, by decide +kernel⟩
theorem lmX8_276 : rl_CV RX8 276 mX4_take 4 := ⟨rl_in 705 (by decide +kernel) rfl, rl_in 702 (by decide +kernel) rfl, rl_in 703 (by decide +kernel) rfl, rl_in 704 (by decide +kernel) rfl, rl_in 72 (by decide +kernel) rfl, ⟨by decide +kernel, by decide +kernel⟩, by decide +kernel⟩
theorem lmX8_280 : rl_CV RX8 280 mX7_heightsTogether 0 := ⟨rl_in 719 (by decide +kernel) rfl, rl_in 716 (by decide +kernel) rfl, rl_in 717 (by decide +kernel) rfl, rl_in 718 (by decide +kernel) rfl, rl_in 65 (by decide +kernel) rfl, ⟨by decide +kernel, by decide +kernel⟩, by decide +kernel⟩
theorem lmX8_283 : rl_CV RX8 283 mX2_crestsInAll 0 := ⟨rl_in 724 (by decide +kernel) rfl, rl_in 721 (by decide +kernel) rfl, rl_in 722 (by decide +kernel) rfl, rl_in 723 (by decide +kernel) rfl, rl_in 66 (by decide +kernel) rfl, ⟨by decide +kernel, by decide +kernel⟩, by decide +kernel⟩
theorem lmX8_286 : rl_CV RX8 286 mX2_greatestHeight 0 := ⟨rl_in 728 (by decide +kernel) rfl, rl_in 725 (by decide +kernel) rfl, rl_in 726 (by decide +kernel) rfl, rl_in 727 (by decide +kernel) rfl, rl_in 66 (by decide +kernel) rfl, ⟨by decide +kernel, by decide +kernel⟩, by decide +kernel⟩
theorem lmX8_296 : rl_CV RX8 296 mX8_count 1 := ⟨rl_in 715 (by decide +kernel) rfl, rl_in 735 (by decide +kernel) rfl, rl_in 713 (by decide +kernel) rfl, rl_in 714 (by decide +kernel) rfl, rl_in 64 (by decide +kernel) rfl, ⟨by decide +kernel, by decide +kernel⟩, by decide +kernel⟩
theorem lmX8_299 : rl_CV RX8 299 mX8_fault 1 := ⟨rl_in 368 (by decide +kernel) rfl, rl_in 736 (by decide +kernel) rfl, rl_in 366 (by decide +kernel) rfl, rl_in 367 (by decide +kernel) rfl, rl_in 64 (by decide +kernel) rfl, ⟨by decide +kernel, by decide +kernel⟩, by decide +kernel⟩
theorem lmX8_302 : rl_CV RX8 302 mX8_swell 2 := ⟨rl_in 372 (by decide +kernel) rfl, rl_in 737 (by decide +kernel) rfl, rl_in 370 (by decide +kernel) rfl, rl_in 371 (by decide +kernel) rfl, rl_in 64 (by decide +kernel) rfl, ⟨by decide +kernel, by decide +kernel⟩, by decide +kernel⟩
theorem lmX8_305 : rl_CV RX8 305 mX8_learn 2 := ⟨rl_in 624 (by decide +kernel) rfl, rl_in 738 (by decide +kernel) rfl, rl_in 622 (by decide +kernel) rfl, rl_in 623 (by decide +kernel) rfl, rl_in 64 (by decide +kernel) rfl, ⟨by decide +kernel, by decide +kernel⟩, by decide +kernel⟩
theorem lmX8_308 : rl_CV RX8 308 mX8_roll 1 := ⟨rl_in 385 (by decide +kernel) rfl, rl_in 739 (by decide +kernel) rfl, rl_in 383 (by decide +kernel) rfl, rl_in 384 (by decide +kernel) rfl, rl_in 64 (by decide +kernel) rfl, ⟨by decide +kernel, by decide +kernel⟩, by decide +kernel⟩
theorem lmX8_315 : rl_CV RX8 315 mX8_high 1 := ⟨rl_in 430 (by decide +kernel) rfl, rl_in 742 (by decide +kernel) rfl, rl_in 428 (by decide +kernel) rfl, rl_in 429 (by decide +kernel) rfl, rl_in 64 (by decide +kernel) rfl, ⟨by decide +kernel, by decide +kernel⟩, by decide +kernel⟩
theorem lmX8_318 : rl_CV RX8 318 mX8_does 1 := ⟨rl_in 438 (by decide +kernel) rfl, rl_in 743 (by decide +kernel) rfl, rl_in 436 (by decide +kernel) rfl, rl_in 437 (by decide +kernel) rfl, rl_in 64 (by decide +kernel) rfl, ⟨by decide +kernel, by decide +kernel⟩, by decide +kernel⟩
theorem lmX8_321 : rl_CV RX8 321 mX8_leans 1 := ⟨rl_in 446 (by decide +kernel) rfl, rl_in 744 (by decide +kernel) rfl, rl_in 444 (by decide +kernel) rfl, rl_in 445 (by decide +kernel) rfl, rl_in 64 (by decide +kernel) rfl, ⟨by decide +kernel, by decide +kernel⟩, by decide +kernel⟩
theorem lmX8_324 : rl_CV RX8 324 mX8_crest 2 := ⟨rl_in 454 (by decide +kernel) rfl, rl_in 745 (by decide +kernel) rfl, rl_in 452 (by decide +kernel) rfl, rl_in 453 (by decide +kernel) rfl, rl_in 64 (by decide +kernel) rfl, ⟨by decide +kernel, by decide +kernel⟩, by decide +kernel⟩
theorem lmX8_327 : rl_CV RX8 327 mX8_seventh 1 := ⟨rl_in 463 (by decide +kernel) rfl, rl_in 746 (by decide +kernel) rfl, rl_in 461 (by decide +kernel) rfl, rl_in 462 (by decide +kernel) rfl, rl_in 64 (by decide +kernel) rfl, ⟨by decide +kernel, by decide +kernel⟩, by decide +kernel⟩
theorem lmX8_330 : rl_CV RX8 330 mX8_lull 3 := ⟨rl_in 473 (by decide +kernel) rfl, rl_in 747 (by decide +kernel) rfl, rl_in 471 (by decide +kernel) rfl, rl_in 472 (by decide +kernel) rfl, rl_in 64 (by decide +kernel) rfl, ⟨by decide +kernel, by decide +kernel⟩, by decide +kernel⟩
theorem lmX8_333 : rl_CV RX8 333 mX8_step 1 := ⟨rl_in 494 (by decide +kernel) rfl, rl_in 748 (by decide +kernel) rfl, rl_in 492 (by decide +kernel) rfl, rl_in 493 (by decide +kernel) rfl, rl_in 64 (by decide +kernel) rfl, ⟨by decide +kernel, by decide +kernel⟩, by decide +kernel⟩
theorem lmX8_336 : rl_CV RX8 336 mX8_fall 1 := ⟨rl_in 502 (by decide +kernel) rfl, rl_in 749 (by decide +kernel) rfl, rl_in 500 (by decide +kernel) rfl, rl_in 501 (by decide +kernel) rfl, rl_in 64 (by decide +kernel) rfl, ⟨by decide +kernel, by decide +kernel⟩, by decide +kernel⟩
theorem lmX8_339 : rl_CV RX8 339 mX8_climb 1 := ⟨rl_in 511 (by decide +kernel) rfl, rl_in 750 (by decide +kernel) rfl, rl_in 509 (by decide +kernel) rfl, rl_in 510 (by decide +kernel) rfl, rl_in 64 (by decide +kernel) rfl, ⟨by decide +kernel, by decide +kernel⟩, by decide +kernel⟩
theorem lmX8_342 : rl_CV RX8 342 mX8_bangs 1 := ⟨rl_in 531 (by decide +kernel) rfl, rl_in 751 (by decide +kernel) rfl, rl_in 529 (by decide +kernel) rfl, rl_in 530 (by decide +kernel) rfl, rl_in 64 (by decide +kernel) rfl, ⟨by decide +kernel, by decide +kernel⟩, by decide +kernel⟩
theorem lmX8_345 : rl_CV RX8 345 mX8_safe 2 := ⟨rl_in 535 (by decide +kernel) rfl, rl_in 752 (by decide +kernel) rfl, rl_in 533 (by decide +kernel) rfl, rl_in 534 (by decide +kernel) rfl, rl_in 64 (by decide +kernel) rfl, ⟨by decide +kernel, by decide +kernel⟩, by decide +kernel⟩
theorem lmX8_349 : rl_CV RX8 349 mX8_call 2 := ⟨rl_in 554 (by decide +kernel) rfl, rl_in 753 (by decide +kernel) rfl, rl_in 552 (by decide +kernel) rfl, rl_in 553 (by decide +kernel) rfl, rl_in 64 (by decide +kernel) rfl, ⟨by decide +kernel, by decide +kernel⟩, by decide +kernel⟩
theorem lmX8_352 : rl_CV RX8 352 mX8_down 3 := ⟨rl_in 559 (by decide +kernel) rfl, rl_in 754 (by decide +kernel) rfl, rl_in 557 (by decide +kernel) rfl, rl_in 558 (by decide +kernel) rfl, rl_in 64 (by decide +kernel) rfl, ⟨by decide +kernel, by decide +kernel⟩, by decide +kernel⟩
theorem lmX8_355 : rl_CV RX8 355 mX8_ladder 2 := ⟨rl_in 586 (by decide +kernel) rfl, rl_in 755 (by decide +kernel) rfl, rl_in 584 (by decide +kernel) rfl, rl_in 585 (by decide +kernel) rfl, rl_in 64 (by decide +kernel) rfl, ⟨by decide +kernel, by decide +kernel⟩, by decide +kernel⟩
theorem lmX8_358 : rl_CV RX8 358 mX8_saves 0 := ⟨rl_in 570 (by decide +kernel) rfl, rl_in 756 (by decide +kernel) rfl, rl_in 568 (by decide +kernel) rfl, rl_in 569 (by decide +kernel) rfl, rl_in 64 (by decide +kernel) rfl, ⟨by decide +kernel, by decide +kernel⟩, by decide +kernel⟩
theorem lmX8_361 : rl_CV RX8 361 mX8_night 2 := ⟨rl_in 644 (by decide +kernel) rfl, rl_in 757 (by decide +kernel) rfl, rl_in 642 (by decide +kernel) rfl, rl_in 643 (by decide +kernel) rfl, rl_in 64 (by decide +kernel) rfl, ⟨by decide +kernel, by decide +kernel⟩, by decide +kernel⟩
theorem lmX8_364 : rl_CV RX8 364 mX2_renew 0 := ⟨rl_in 323 (by decide +kernel) rfl, rl_in 320 (by decide +kernel) rfl, rl_in 321 (by decide +kernel) rfl, rl_in 322 (by decide +kernel) rfl, rl_in 66 (by decide +kernel) rfl, ⟨by decide +kernel, by decide +kernel⟩, by decide +kernel⟩
theorem lmX8_367 : rl_CV RX8 367 mX5_renew 0 := ⟨rl_in 350 (by decide +kernel) rfl, rl_in 347 (by decide +kernel) rfl, rl_in 348 (by decide +kernel) rfl, rl_in 349 (by decide +kernel) rfl, rl_in 67 (by decide +kernel) rfl, ⟨by decide +kernel, by decide +kernel⟩, by decide +kernel⟩
theorem lmX8_370 : Cond.methodLink RX8 370 Lib.Math.abs.name ∈ rl_T ∧ Cond.static Lib.Math.abs.name ∈ rl_T ∧ Cond.initialized "java/lang/Math" ∈ rl_T ∧ Cond.code Lib.Math.abs.name Lib.Math.abs.code 1 (some .int) ∈ rl_T := ⟨rl_in 564 (by decide +kernel) rfl, rl_in 565 (by decide +kernel) rfl, rl_in 74 (by decide +kernel) rfl, rl_in 566 (by decide +kernel) rfl⟩
theorem lmX8_373 : rl_CV RX8 373 mX6_tenthOf 1 := ⟨rl_in 632 (by decide +kernel) rfl, rl_in 629 (by decide +kernel) rfl, rl_in 630 (by decide +kernel) rfl, rl_in 631 (by decide +kernel) rfl, rl_in 70 (by decide +kernel) rfl, ⟨by decide +kernel, by decide +kernel⟩, by decide +kernel⟩
theorem lmX8_376 : rl_CV RX8 376 mX2_heightWith 3 := ⟨rl_in 636 (by decide +kernel) rfl, rl_in 633 (by decide +kernel) rfl, rl_in 634 (by decide +kernel) rfl, rl_in 635 (by decide +kernel) rfl, rl_in 66 (by decide +kernel) rfl, ⟨by decide +kernel, by decide +kernel⟩, by decide +kernel⟩
theorem lmX8_379 : rl_CV RX8 379 mX6_heightOf 1 := ⟨rl_in 640 (by decide +kernel) rfl, rl_in 637 (by decide +kernel) rfl, rl_in 638 (by decide +kernel) rfl, rl_in 639 (by decide +kernel) rfl, rl_in 70 (by decide +kernel) rfl, ⟨by decide +kernel, by decide +kernel⟩, by decide +kernel⟩
theorem lmX8_380 : rl_CV RX8 380 mX1_draw 1 := ⟨rl_in 652 (by decide +kernel) rfl, rl_in 649 (by decide +kernel) rfl, rl_in 650 (by decide +kernel) rfl, rl_in 651 (by decide +kernel) rfl, rl_in 71 (by decide +kernel) rfl, ⟨by decide +kernel, by decide +kernel⟩, by decide +kernel⟩
theorem lmX9_55 : rl_CS RX9 55 mX9_in 3 := ⟨rl_in 841 (by decide +kernel) rfl, rl_in 839 (by decide +kernel) rfl, rl_in 840 (by decide +kernel) rfl, rl_in 73 (by decide +kernel) rfl, ⟨by decide +kernel, by decide +kernel⟩, by decide +kernel⟩
theorem lmX9_59 : rl_CS RX9 59 mX9_isText 1 := ⟨rl_in 838 (by decide +kernel) rfl, rl_in 836 (by decide +kernel) rfl, rl_in 837 (by decide +kernel) rfl, rl_in 73 (by decide +kernel) rfl, ⟨by decide +kernel, by decide +kernel⟩, by decide +kernel⟩
theorem lmX9_70 : rl_CV RX9 70 mX9_figureAt 2 := ⟨rl_in 865 (by decide +kernel) rfl, rl_in 862 (by decide +kernel) rfl, rl_in 864 (by decide +kernel) rfl, rl_in 24 (by decide +kernel) rfl, rl_in 73 (by decide +kernel) rfl, ⟨by decide +kernel, by decide +kernel⟩, by decide +kernel⟩
theorem lmX9_74 : rl_CV RX9 74 mX9_readsText 1 := ⟨rl_in 861 (by decide +kernel) rfl, rl_in 858 (by decide +kernel) rfl, rl_in 860 (by decide +kernel) rfl, rl_in 23 (by decide +kernel) rfl, rl_in 73 (by decide +kernel) rfl, ⟨by decide +kernel, by decide +kernel⟩, by decide +kernel⟩
theorem lmX9_78 : rl_CV RX9 78 mX9_faultOf 1 := ⟨rl_in 857 (by decide +kernel) rfl, rl_in 854 (by decide +kernel) rfl, rl_in 856 (by decide +kernel) rfl, rl_in 22 (by decide +kernel) rfl, rl_in 73 (by decide +kernel) rfl, ⟨by decide +kernel, by decide +kernel⟩, by decide +kernel⟩
theorem lmX9_81 : rl_CV RX9 81 mX9_reads 0 := ⟨rl_in 877 (by decide +kernel) rfl, rl_in 874 (by decide +kernel) rfl, rl_in 876 (by decide +kernel) rfl, rl_in 26 (by decide +kernel) rfl, rl_in 73 (by decide +kernel) rfl, ⟨by decide +kernel, by decide +kernel⟩, by decide +kernel⟩
theorem lmX9_84 : rl_CV RX9 84 mX9_isSwell 1 := ⟨rl_in 873 (by decide +kernel) rfl, rl_in 870 (by decide +kernel) rfl, rl_in 872 (by decide +kernel) rfl, rl_in 25 (by decide +kernel) rfl, rl_in 73 (by decide +kernel) rfl, ⟨by decide +kernel, by decide +kernel⟩, by decide +kernel⟩
theorem lmX9_87 : rl_CV RX9 87 mX9_rollOf 1 := ⟨rl_in 885 (by decide +kernel) rfl, rl_in 882 (by decide +kernel) rfl, rl_in 884 (by decide +kernel) rfl, rl_in 27 (by decide +kernel) rfl, rl_in 73 (by decide +kernel) rfl, ⟨by decide +kernel, by decide +kernel⟩, by decide +kernel⟩
theorem lmX9_90 : rl_CS RX9 90 mX9_isTenth 1 := ⟨rl_in 896 (by decide +kernel) rfl, rl_in 894 (by decide +kernel) rfl, rl_in 895 (by decide +kernel) rfl, rl_in 73 (by decide +kernel) rfl, ⟨by decide +kernel, by decide +kernel⟩, by decide +kernel⟩
theorem lmX9_99 : rl_CS RX9 99 mX9_lowOf 1 := ⟨rl_in 903 (by decide +kernel) rfl, rl_in 901 (by decide +kernel) rfl, rl_in 902 (by decide +kernel) rfl, rl_in 73 (by decide +kernel) rfl, ⟨by decide +kernel, by decide +kernel⟩, by decide +kernel⟩
theorem lmX9_102 : rl_CS RX9 102 mX9_highOf 1 := ⟨rl_in 906 (by decide +kernel) rfl, rl_in 904 (by decide +kernel) rfl, rl_in 905 (by decide +kernel) rfl, rl_in 73 (by decide +kernel) rfl, ⟨by decide +kernel, by decide +kernel⟩, by decide +kernel⟩
theorem lmX9_105 : rl_CV RX9 105 mX9_isLee 1 := ⟨rl_in 922 (by decide +kernel) rfl, rl_in 919 (by decide +kernel) rfl, rl_in 921 (by decide +kernel) rfl, rl_in 30 (by decide +kernel) rfl, rl_in 73 (by decide +kernel) rfl, ⟨by decide +kernel, by decide +kernel⟩, by decide +kernel⟩
theorem lmX9_108 : rl_CV RX9 108 mX9_rawHigh 1 := ⟨rl_in 926 (by decide +kernel) rfl, rl_in 923 (by decide +kernel) rfl, rl_in 925 (by decide +kernel) rfl, rl_in 31 (by decide +kernel) rfl, rl_in 73 (by decide +kernel) rfl, ⟨by decide +kernel, by decide +kernel⟩, by decide +kernel⟩
theorem lmX9_111 : rl_CV RX9 111 mX9_highBy 1 := ⟨rl_in 918 (by decide +kernel) rfl, rl_in 915 (by decide +kernel) rfl, rl_in 917 (by decide +kernel) rfl, rl_in 29 (by decide +kernel) rfl, rl_in 73 (by decide +kernel) rfl, ⟨by decide +kernel, by decide +kernel⟩, by decide +kernel⟩
theorem lmX9_114 : rl_CV RX9 114 mX9_highOfTenth 1 := ⟨rl_in 914 (by decide +kernel) rfl, rl_in 911 (by decide +kernel) rfl, rl_in 913 (by decide +kernel) rfl, rl_in 28 (by decide +kernel) rfl, rl_in 73 (by decide +kernel) rfl, ⟨by decide +kernel, by decide +kernel⟩, by decide +kernel⟩
theorem lmX9_117 : rl_CV RX9 117 mX9_lays 0 := ⟨rl_in 938 (by decide +kernel) rfl, rl_in 935 (by decide +kernel) rfl, rl_in 937 (by decide +kernel) rfl, rl_in 33 (by decide +kernel) rfl, rl_in 73 (by decide +kernel) rfl, ⟨by decide +kernel, by decide +kernel⟩, by decide +kernel⟩
theorem lmX9_120 : rl_CV RX9 120 mX9_doesNow 1 := ⟨rl_in 942 (by decide +kernel) rfl, rl_in 939 (by decide +kernel) rfl, rl_in 941 (by decide +kernel) rfl, rl_in 34 (by decide +kernel) rfl, rl_in 73 (by decide +kernel) rfl, ⟨by decide +kernel, by decide +kernel⟩, by decide +kernel⟩
theorem lmX9_123 : rl_CV RX9 123 mX9_doesOf 1 := ⟨rl_in 934 (by decide +kernel) rfl, rl_in 931 (by decide +kernel) rfl, rl_in 933 (by decide +kernel) rfl, rl_in 32 (by decide +kernel) rfl, rl_in 73 (by decide +kernel) rfl, ⟨by decide +kernel, by decide +kernel⟩, by decide +kernel⟩
theorem lmX9_126 : rl_CV RX9 126 mX9_leansNow 1 := ⟨rl_in 954 (by decide +kernel) rfl, rl_in 951 (by decide +kernel) rfl, rl_in 953 (by decide +kernel) rfl, rl_in 36 (by decide +kernel) rfl, rl_in 73 (by decide +kernel) rfl, ⟨by decide +kernel, by decide +kernel⟩, by decide +kernel⟩
theorem lmX9_129 : rl_CV RX9 129 mX9_leansOf 1 := ⟨rl_in 950 (by decide +kernel) rfl, rl_in 947 (by decide +kernel) rfl, rl_in 949 (by decide +kernel) rfl, rl_in 35 (by decide +kernel) rfl, rl_in 73 (by decide +kernel) rfl, ⟨by decide +kernel, by decide +kernel⟩, by decide +kernel⟩
theorem lmX9_132 : rl_CV RX9 132 mX9_nextCrest 1 := ⟨rl_in 966 (by decide +kernel) rfl, rl_in 963 (by decide +kernel) rfl, rl_in 965 (by decide +kernel) rfl, rl_in 38 (by decide +kernel) rfl, rl_in 73 (by decide +kernel) rfl, ⟨by decide +kernel, by decide +kernel⟩, by decide +kernel⟩
theorem lmX9_135 : rl_CV RX9 135 mX9_crestOf 2 := ⟨rl_in 962 (by decide +kernel) rfl, rl_in 959 (by decide +kernel) rfl, rl_in 961 (by decide +kernel) rfl, rl_in 37 (by decide +kernel) rfl, rl_in 73 (by decide +kernel) rfl, ⟨by decide +kernel, by decide +kernel⟩, by decide +kernel⟩
theorem lmX9_138 : rl_CV RX9 138 mX9_seventhOf 1 := ⟨rl_in 974 (by decide +kernel) rfl, rl_in 971 (by decide +kernel) rfl, rl_in 973 (by decide +kernel) rfl, rl_in 39 (by decide +kernel) rfl, rl_in 73 (by decide +kernel) rfl, ⟨by decide +kernel, by decide +kernel⟩, by decide +kernel⟩
theorem lmX9_141 : rl_CS RX9 141 mX9_isMany 1 := ⟨rl_in 981 (by decide +kernel) rfl, rl_in 979 (by decide +kernel) rfl, rl_in 980 (by decide +kernel) rfl, rl_in 73 (by decide +kernel) rfl, ⟨by decide +kernel, by decide +kernel⟩, by decide +kernel⟩
theorem lmX9_144 : rl_CV RX9 144 mX9_lullOf 3 := ⟨rl_in 985 (by decide +kernel) rfl, rl_in 982 (by decide +kernel) rfl, rl_in 984 (by decide +kernel) rfl, rl_in 40 (by decide +kernel) rfl, rl_in 73 (by decide +kernel) rfl, ⟨by decide +kernel, by decide +kernel⟩, by decide +kernel⟩
theorem lmX9_148 : rl_CV RX9 148 mX9_stepNow 1 := ⟨rl_in 997 (by decide +kernel) rfl, rl_in 994 (by decide +kernel) rfl, rl_in 996 (by decide +kernel) rfl, rl_in 42 (by decide +kernel) rfl, rl_in 73 (by decide +kernel) rfl, ⟨by decide +kernel, by decide +kernel⟩, by decide +kernel⟩
theorem lmX9_151 : rl_CV RX9 151 mX9_stepOf 1 := ⟨rl_in 993 (by decide +kernel) rfl, rl_in 990 (by decide +kernel) rfl, rl_in 992 (by decide +kernel) rfl, rl_in 41 (by decide +kernel) rfl, rl_in 73 (by decide +kernel) rfl, ⟨by decide +kernel, by decide +kernel⟩, by decide +kernel⟩
theorem lmX9_154 : rl_CV RX9 154 mX9_fallNow 1 := ⟨rl_in 1009 (by decide +kernel) rfl, rl_in 1006 (by decide +kernel) rfl, rl_in 1008 (by decide +kernel) rfl, rl_in 44 (by decide +kernel) rfl, rl_in 73 (by decide +kernel) rfl, ⟨by decide +kernel, by decide +kernel⟩, by decide +kernel⟩
theorem lmX9_157 : rl_CV RX9 157 mX9_fallOf 1 := ⟨rl_in 1005 (by decide +kernel) rfl, rl_in 1002 (by decide +kernel) rfl, rl_in 1004 (by decide +kernel) rfl, rl_in 43 (by decide +kernel) rfl, rl_in 73 (by decide +kernel) rfl, ⟨by decide +kernel, by decide +kernel⟩, by decide +kernel⟩
theorem lmX9_163 : rl_CV RX9 163 mX9_climbs 1 := ⟨rl_in 1021 (by decide +kernel) rfl, rl_in 1018 (by decide +kernel) rfl, rl_in 1020 (by decide +kernel) rfl, rl_in 46 (by decide +kernel) rfl, rl_in 73 (by decide +kernel) rfl, ⟨by decide +kernel, by decide +kernel⟩, by decide +kernel⟩
theorem lmX9_166 : rl_CV RX9 166 mX9_climbOf 1 := ⟨rl_in 1017 (by decide +kernel) rfl, rl_in 1014 (by decide +kernel) rfl, rl_in 1016 (by decide +kernel) rfl, rl_in 45 (by decide +kernel) rfl, rl_in 73 (by decide +kernel) rfl, ⟨by decide +kernel, by decide +kernel⟩, by decide +kernel⟩
theorem lmX9_169 : rl_CV RX9 169 mX9_bangsOf 1 := ⟨rl_in 1029 (by decide +kernel) rfl, rl_in 1026 (by decide +kernel) rfl, rl_in 1028 (by decide +kernel) rfl, rl_in 47 (by decide +kernel) rfl, rl_in 73 (by decide +kernel) rfl, ⟨by decide +kernel, by decide +kernel⟩, by decide +kernel⟩
theorem lmX9_172 : rl_CS RX9 172 mX9_power 2 := ⟨rl_in 1044 (by decide +kernel) rfl, rl_in 1042 (by decide +kernel) rfl, rl_in 1043 (by decide +kernel) rfl, rl_in 73 (by decide +kernel) rfl, ⟨by decide +kernel, by decide +kernel⟩, by decide +kernel⟩
theorem lmX9_176 : rl_CV RX9 176 mX9_safeNow 1 := ⟨rl_in 1041 (by decide +kernel) rfl, rl_in 1038 (by decide +kernel) rfl, rl_in 1040 (by decide +kernel) rfl, rl_in 49 (by decide +kernel) rfl, rl_in 73 (by decide +kernel) rfl, ⟨by decide +kernel, by decide +kernel⟩, by decide +kernel⟩
theorem lmX9_180 : rl_CS RX9 180 mX9_lowest 3 := ⟨rl_in 1047 (by decide +kernel) rfl, rl_in 1045 (by decide +kernel) rfl, rl_in 1046 (by decide +kernel) rfl, rl_in 73 (by decide +kernel) rfl, ⟨by decide +kernel, by decide +kernel⟩, by decide +kernel⟩
theorem lmX9_184 : rl_CV RX9 184 mX9_safeOf 2 := ⟨rl_in 1037 (by decide +kernel) rfl, rl_in 1034 (by decide +kernel) rfl, rl_in 1036 (by decide +kernel) rfl, rl_in 48 (by decide +kernel) rfl, rl_in 73 (by decide +kernel) rfl, ⟨by decide +kernel, by decide +kernel⟩, by decide +kernel⟩
theorem lmX9_187 : rl_CS RX9 187 mX9_no 1 := ⟨rl_in 1050 (by decide +kernel) rfl, rl_in 1048 (by decide +kernel) rfl, rl_in 1049 (by decide +kernel) rfl, rl_in 73 (by decide +kernel) rfl, ⟨by decide +kernel, by decide +kernel⟩, by decide +kernel⟩
theorem lmX9_190 : rl_CV RX9 190 mX9_bestOf 2 := ⟨rl_in 1059 (by decide +kernel) rfl, rl_in 1056 (by decide +kernel) rfl, rl_in 1058 (by decide +kernel) rfl, rl_in 50 (by decide +kernel) rfl, rl_in 73 (by decide +kernel) rfl, ⟨by decide +kernel, by decide +kernel⟩, by decide +kernel⟩
theorem lmX9_193 : rl_CV RX9 193 mX9_callOf 2 := ⟨rl_in 1067 (by decide +kernel) rfl, rl_in 1064 (by decide +kernel) rfl, rl_in 1066 (by decide +kernel) rfl, rl_in 51 (by decide +kernel) rfl, rl_in 73 (by decide +kernel) rfl, ⟨by decide +kernel, by decide +kernel⟩, by decide +kernel⟩
theorem lmX9_196 : rl_CV RX9 196 mX9_downOf 3 := ⟨rl_in 1075 (by decide +kernel) rfl, rl_in 1072 (by decide +kernel) rfl, rl_in 1074 (by decide +kernel) rfl, rl_in 52 (by decide +kernel) rfl, rl_in 73 (by decide +kernel) rfl, ⟨by decide +kernel, by decide +kernel⟩, by decide +kernel⟩
theorem lmX9_199 : rl_CV RX9 199 mX9_savesNow 0 := ⟨rl_in 1083 (by decide +kernel) rfl, rl_in 1080 (by decide +kernel) rfl, rl_in 1082 (by decide +kernel) rfl, rl_in 53 (by decide +kernel) rfl, rl_in 73 (by decide +kernel) rfl, ⟨by decide +kernel, by decide +kernel⟩, by decide +kernel⟩
theorem lmX9_203 : rl_CV RX9 203 mX9_ladderOf 2 := ⟨rl_in 1091 (by decide +kernel) rfl, rl_in 1088 (by decide +kernel) rfl, rl_in 1090 (by decide +kernel) rfl, rl_in 54 (by decide +kernel) rfl, rl_in 73 (by decide +kernel) rfl, ⟨by decide +kernel, by decide +kernel⟩, by decide +kernel⟩
theorem lmX9_209 : rl_CS RX9 209 mX9_isSheet 1 := ⟨rl_in 1106 (by decide +kernel) rfl, rl_in 1104 (by decide +kernel) rfl, rl_in 1105 (by decide +kernel) rfl, rl_in 73 (by decide +kernel) rfl, ⟨by decide +kernel, by decide +kernel⟩, by decide +kernel⟩
theorem lmX9_212 : rl_CV RX9 212 mX9_meets 1 := ⟨rl_in 1110 (by decide +kernel) rfl, rl_in 1107 (by decide +kernel) rfl, rl_in 1109 (by decide +kernel) rfl, rl_in 55 (by decide +kernel) rfl, rl_in 73 (by decide +kernel) rfl, ⟨by decide +kernel, by decide +kernel⟩, by decide +kernel⟩
theorem lmX9_215 : rl_CV RX9 215 mX9_seen 2 := ⟨rl_in 1095 (by decide +kernel) rfl, rl_in 1111 (by decide +kernel) rfl, rl_in 1093 (by decide +kernel) rfl, rl_in 1094 (by decide +kernel) rfl, rl_in 73 (by decide +kernel) rfl, ⟨by decide +kernel, by decide +kernel⟩, by decide +kernel⟩
theorem lmX9_218 : rl_CV RX9 218 mX9_learnOf 2 := ⟨rl_in 1119 (by decide +kernel) rfl, rl_in 1116 (by decide +kernel) rfl, rl_in 1118 (by decide +kernel) rfl, rl_in 56 (by decide +kernel) rfl, rl_in 73 (by decide +kernel) rfl, ⟨by decide +kernel, by decide +kernel⟩, by decide +kernel⟩
theorem lmX9_225 : rl_CV RX9 225 mX9_lot 1 := ⟨rl_in 1131 (by decide +kernel) rfl, rl_in 1128 (by decide +kernel) rfl, rl_in 1130 (by decide +kernel) rfl, rl_in 58 (by decide +kernel) rfl, rl_in 73 (by decide +kernel) rfl, ⟨by decide +kernel, by decide +kernel⟩, by decide +kernel⟩
theorem lmX9_228 : rl_CV RX9 228 mX9_nightOf 2 := ⟨rl_in 1127 (by decide +kernel) rfl, rl_in 1124 (by decide +kernel) rfl, rl_in 1126 (by decide +kernel) rfl, rl_in 57 (by decide +kernel) rfl, rl_in 73 (by decide +kernel) rfl, ⟨by decide +kernel, by decide +kernel⟩, by decide +kernel⟩
theorem lmX9_234 : rl_CV RX9 234 mX9_lacks 3 := ⟨rl_in 1148 (by decide +kernel) rfl, rl_in 1145 (by decide +kernel) rfl, rl_in 1147 (by decide +kernel) rfl, rl_in 59 (by decide +kernel) rfl, rl_in 73 (by decide +kernel) rfl, ⟨by decide +kernel, by decide +kernel⟩, by decide +kernel⟩
theorem lmX9_237 : rl_CV RX9 237 mX9_keep 3 := ⟨rl_in 1152 (by decide +kernel) rfl, rl_in 1149 (by decide +kernel) rfl, rl_in 1151 (by decide +kernel) rfl, rl_in 60 (by decide +kernel) rfl, rl_in 73 (by decide +kernel) rfl, ⟨by decide +kernel, by decide +kernel⟩, by decide +kernel⟩
theorem lmX9_242 : rl_CV RX9 242 mX9_sumOf 1 := ⟨rl_in 1173 (by decide +kernel) rfl, rl_in 1170 (by decide +kernel) rfl, rl_in 1172 (by decide +kernel) rfl, rl_in 61 (by decide +kernel) rfl, rl_in 73 (by decide +kernel) rfl, ⟨by decide +kernel, by decide +kernel⟩, by decide +kernel⟩
theorem lmX9_249 : rl_CV RX9 249 mX9_count 1 := ⟨rl_in 1169 (by decide +kernel) rfl, rl_in 1180 (by decide +kernel) rfl, rl_in 1167 (by decide +kernel) rfl, rl_in 1168 (by decide +kernel) rfl, rl_in 73 (by decide +kernel) rfl, ⟨by decide +kernel, by decide +kernel⟩, by decide +kernel⟩
theorem lmX9_252 : rl_CV RX9 252 mX9_tenthDigest 2 := ⟨rl_in 1184 (by decide +kernel) rfl, rl_in 1181 (by decide +kernel) rfl, rl_in 1183 (by decide +kernel) rfl, rl_in 62 (by decide +kernel) rfl, rl_in 73 (by decide +kernel) rfl, ⟨by decide +kernel, by decide +kernel⟩, by decide +kernel⟩
theorem lfX0_9 : rl_FL RX0 9 0 3 := ⟨_, _, _, _, kkX0, by decide, rl_in 183 (by decide +kernel) rfl⟩
theorem lpX0_9 : rl_FP RX0 9 0 3 .int := ⟨_, _, _, _, kkX0, by decide, rl_in 183 (by decide +kernel) rfl, rfl, by decide +kernel⟩
theorem lfX0_15 : rl_FL RX0 15 0 0 := ⟨_, _, _, _, kkX0, by decide, rl_in 180 (by decide +kernel) rfl⟩
theorem lfX0_19 : rl_FL RX0 19 0 1 := ⟨_, _, _, _, kkX0, by decide, rl_in 181 (by decide +kernel) rfl⟩
theorem lfX0_23 : rl_FL RX0 23 0 2 := ⟨_, _, _, _, kkX0, by decide, rl_in 182 (by decide +kernel) rfl⟩
theorem lfX0_27 : rl_FL RX0 27 0 4 := ⟨_, _, _, _, kkX0, by decide, rl_in 185 (by decide +kernel) rfl⟩
theorem lpX0_27 : rl_FP RX0 27 0 4 .int := ⟨_, _, _, _, kkX0, by decide, rl_in 185 (by decide +kernel) rfl, rfl, by decide +kernel⟩
theorem lfX1_8 : rl_FL RX1 8 1 0 := ⟨_, _, _, _, kkX1, by decide, rl_in 221 (by decide +kernel) rfl⟩
theorem lpX1_8 : rl_FP RX1 8 1 0 .int := ⟨_, _, _, _, kkX1, by decide, rl_in 221 (by decide +kernel) rfl, rfl, by decide +kernel⟩
theorem lfX2_9 : rl_FL RX2 9 2 1 := ⟨_, _, _, _, kkX2, by decide, rl_in 126 (by decide +kernel) rfl⟩
theorem lfX2_15 : rl_FL RX2 15 2 2 := ⟨_, _, _, _, kkX2, by decide, rl_in 127 (by decide +kernel) rfl⟩
theorem lfX2_18 : rl_FL RX2 18 2 3 := ⟨_, _, _, _, kkX2, by decide, rl_in 128 (by decide +kernel) rfl⟩
theorem lfX2_21 : rl_FL RX2 21 2 0 := ⟨_, _, _, _, kkX2, by decide, rl_in 125 (by decide +kernel) rfl⟩
theorem lfX2_28 : rl_FL RX2 28 2 4 := ⟨_, _, _, _, kkX2, by decide, rl_in 129 (by decide +kernel) rfl⟩
theorem lpX2_28 : rl_FP RX2 28 2 4 .int := ⟨_, _, _, _, kkX2, by decide, rl_in 129 (by decide +kernel) rfl, rfl, by decide +kernel⟩
theorem lfX2_32 : rl_FL RX2 32 2 5 := ⟨_, _, _, _, kkX2, by decide, rl_in 131 (by decide +kernel) rfl⟩
theorem lpX2_32 : rl_FP RX2 32 2 5 .int := ⟨_, _, _, _, kkX2, by decide, rl_in 131 (by decide +kernel) rfl, rfl, by decide +kernel⟩
theorem lfX2_35 : rl_FL RX2 35 7 7 := ⟨_, _, _, _, kkX7, by decide, rl_in 98 (by decide +kernel) rfl⟩
theorem lpX2_35 : rl_FP RX2 35 7 7 .int := ⟨_, _, _, _, kkX7, by decide, rl_in 98 (by decide +kernel) rfl, rfl, by decide +kernel⟩
theorem lfX3_13 : rl_FL RX3 13 3 0 := ⟨_, _, _, _, kkX3, by decide, rl_in 170 (by decide +kernel) rfl⟩
theorem lfX4_9 : rl_FL RX4 9 4 0 := ⟨_, _, _, _, kkX4, by decide, rl_in 233 (by decide +kernel) rfl⟩
theorem lfX4_15 : rl_FL RX4 15 4 1 := ⟨_, _, _, _, kkX4, by decide, rl_in 234 (by decide +kernel) rfl⟩
theorem lpX4_15 : rl_FP RX4 15 4 1 .boolean := ⟨_, _, _, _, kkX4, by decide, rl_in 234 (by decide +kernel) rfl, rfl, by decide +kernel⟩
theorem lfX4_19 : rl_FL RX4 19 4 2 := ⟨_, _, _, _, kkX4, by decide, rl_in 236 (by decide +kernel) rfl⟩
theorem lpX4_19 : rl_FP RX4 19 4 2 .int := ⟨_, _, _, _, kkX4, by decide, rl_in 236 (by decide +kernel) rfl, rfl, by decide +kernel⟩
theorem lfX4_23 : rl_FL RX4 23 4 3 := ⟨_, _, _, _, kkX4, by decide, rl_in 238 (by decide +kernel) rfl⟩
theorem lpX4_23 : rl_FP RX4 23 4 3 .int := ⟨_, _, _, _, kkX4, by decide, rl_in 238 (by decide +kernel) rfl, rfl, by decide +kernel⟩
theorem lfX5_9 : rl_FL RX5 9 5 0 := ⟨_, _, _, _, kkX5, by decide, rl_in 152 (by decide +kernel) rfl⟩
theorem lfX5_21 : rl_FL RX5 21 5 1 := ⟨_, _, _, _, kkX5, by decide, rl_in 153 (by decide +kernel) rfl⟩
theorem lpX5_21 : rl_FP RX5 21 5 1 .int := ⟨_, _, _, _, kkX5, by decide, rl_in 153 (by decide +kernel) rfl, rfl, by decide +kernel⟩
theorem lfX5_28 : rl_FL RX5 28 5 2 := ⟨_, _, _, _, kkX5, by decide, rl_in 154 (by decide +kernel) rfl⟩
theorem lpX5_28 : rl_FP RX5 28 5 2 .int := ⟨_, _, _, _, kkX5, by decide, rl_in 154 (by decide +kernel) rfl, rfl, by decide +kernel⟩
theorem lfX6_9 : rl_FL RX6 9 6 0 := ⟨_, _, _, _, kkX6, by decide, rl_in 204 (by decide +kernel) rfl⟩
theorem lfX6_15 : rl_FL RX6 15 6 1 := ⟨_, _, _, _, kkX6, by decide, rl_in 205 (by decide +kernel) rfl⟩
theorem lfX6_18 : rl_FL RX6 18 6 2 := ⟨_, _, _, _, kkX6, by decide, rl_in 206 (by decide +kernel) rfl⟩
theorem lpX6_18 : rl_FP RX6 18 6 2 .int := ⟨_, _, _, _, kkX6, by decide, rl_in 206 (by decide +kernel) rfl, rfl, by decide +kernel⟩
theorem lfX7_9 : rl_FL RX7 9 7 2 := ⟨_, _, _, _, kkX7, by decide, rl_in 91 (by decide +kernel) rfl⟩
theorem lfX7_15 : rl_FL RX7 15 7 3 := ⟨_, _, _, _, kkX7, by decide, rl_in 92 (by decide +kernel) rfl⟩
theorem lfX7_18 : rl_FL RX7 18 7 4 := ⟨_, _, _, _, kkX7, by decide, rl_in 93 (by decide +kernel) rfl⟩
theorem lfX7_21 : rl_FL RX7 21 7 6 := ⟨_, _, _, _, kkX7, by decide, rl_in 96 (by decide +kernel) rfl⟩
theorem lpX7_21 : rl_FP RX7 21 7 6 .int := ⟨_, _, _, _, kkX7, by decide, rl_in 96 (by decide +kernel) rfl, rfl, by decide +kernel⟩
theorem lfX7_25 : rl_FL RX7 25 7 0 := ⟨_, _, _, _, kkX7, by decide, rl_in 89 (by decide +kernel) rfl⟩
theorem lfX7_28 : rl_FL RX7 28 7 1 := ⟨_, _, _, _, kkX7, by decide, rl_in 90 (by decide +kernel) rfl⟩
theorem lfX7_31 : rl_FL RX7 31 7 5 := ⟨_, _, _, _, kkX7, by decide, rl_in 94 (by decide +kernel) rfl⟩
theorem lpX7_31 : rl_FP RX7 31 7 5 .int := ⟨_, _, _, _, kkX7, by decide, rl_in 94 (by decide +kernel) rfl, rfl, by decide +kernel⟩
theorem lfX7_37 : rl_FL RX7 37 7 7 := ⟨_, _, _, _, kkX7, by decide, rl_in 99 (by decide +kernel) rfl⟩
theorem lpX7_37 : rl_FP RX7 37 7 7 .int := ⟨_, _, _, _, kkX7, by decide, rl_in 99 (by decide +kernel) rfl, rfl, by decide +kernel⟩
theorem lfX8_16 : rl_FL RX8 16 8 0 := ⟨_, _, _, _, kkX8, by decide, rl_in 249 (by decide +kernel) rfl⟩
theorem lfX8_20 : rl_FL RX8 20 8 1 := ⟨_, _, _, _, kkX8, by decide, rl_in 250 (by decide +kernel) rfl⟩
theorem lfX8_28 : rl_FL RX8 28 8 2 := ⟨_, _, _, _, kkX8, by decide, rl_in 251 (by decide +kernel) rfl⟩
theorem lfX8_35 : rl_FL RX8 35 8 3 := ⟨_, _, _, _, kkX8, by decide, rl_in 252 (by decide +kernel) rfl⟩
theorem lfX8_42 : rl_FL RX8 42 8 4 := ⟨_, _, _, _, kkX8, by decide, rl_in 253 (by decide +kernel) rfl⟩
theorem lfX8_51 : rl_FL RX8 51 8 5 := ⟨_, _, _, _, kkX8, by decide, rl_in 254 (by decide +kernel) rfl⟩
theorem lfX8_58 : rl_FL RX8 58 8 6 := ⟨_, _, _, _, kkX8, by decide, rl_in 255 (by decide +kernel) rfl⟩
theorem lfX8_65 : rl_FL RX8 65 8 7 := ⟨_, _, _, _, kkX8, by decide, rl_in 256 (by decide +kernel) rfl⟩
theorem lfX8_71 : rl_FL RX8 71 8 8 := ⟨_, _, _, _, kkX8, by decide, rl_in 257 (by decide +kernel) rfl⟩
theorem lfX8_91 : rl_FL RX8 91 7 5 := ⟨_, _, _, _, kkX7, by decide, rl_in 95 (by decide +kernel) rfl⟩
theorem lpX8_91 : rl_FP RX8 91 7 5 .int := ⟨_, _, _, _, kkX7, by decide, rl_in 95 (by decide +kernel) rfl, rfl, by decide +kernel⟩
theorem lfX8_98 : rl_FL RX8 98 7 6 := ⟨_, _, _, _, kkX7, by decide, rl_in 97 (by decide +kernel) rfl⟩
theorem lpX8_98 : rl_FP RX8 98 7 6 .int := ⟨_, _, _, _, kkX7, by decide, rl_in 97 (by decide +kernel) rfl, rfl, by decide +kernel⟩
theorem lfX8_115 : rl_FL RX8 115 7 7 := ⟨_, _, _, _, kkX7, by decide, rl_in 100 (by decide +kernel) rfl⟩
theorem lpX8_115 : rl_FP RX8 115 7 7 .int := ⟨_, _, _, _, kkX7, by decide, rl_in 100 (by decide +kernel) rfl, rfl, by decide +kernel⟩
theorem lfX8_127 : rl_FL RX8 127 2 4 := ⟨_, _, _, _, kkX2, by decide, rl_in 130 (by decide +kernel) rfl⟩
theorem lpX8_127 : rl_FP RX8 127 2 4 .int := ⟨_, _, _, _, kkX2, by decide, rl_in 130 (by decide +kernel) rfl, rfl, by decide +kernel⟩
theorem lfX8_130 : rl_FL RX8 130 2 5 := ⟨_, _, _, _, kkX2, by decide, rl_in 132 (by decide +kernel) rfl⟩
theorem lpX8_130 : rl_FP RX8 130 2 5 .int := ⟨_, _, _, _, kkX2, by decide, rl_in 132 (by decide +kernel) rfl, rfl, by decide +kernel⟩
theorem lfX8_182 : rl_FL RX8 182 0 3 := ⟨_, _, _, _, kkX0, by decide, rl_in 184 (by decide +kernel) rfl⟩
theorem lpX8_182 : rl_FP RX8 182 0 3 .int := ⟨_, _, _, _, kkX0, by decide, rl_in 184 (by decide +kernel) rfl, rfl, by decide +kernel⟩
theorem lfX8_185 : rl_FL RX8 185 0 4 := ⟨_, _, _, _, kkX0, by decide, rl_in 186 (by decide +kernel) rfl⟩
theorem lpX8_185 : rl_FP RX8 185 0 4 .int := ⟨_, _, _, _, kkX0, by decide, rl_in 186 (by decide +kernel) rfl, rfl, by decide +kernel⟩
theorem lfX8_224 : rl_FL RX8 224 6 2 := ⟨_, _, _, _, kkX6, by decide, rl_in 207 (by decide +kernel) rfl⟩
theorem lpX8_224 : rl_FP RX8 224 6 2 .int := ⟨_, _, _, _, kkX6, by decide, rl_in 207 (by decide +kernel) rfl, rfl, by decide +kernel⟩
theorem lfX8_231 : rl_FL RX8 231 4 1 := ⟨_, _, _, _, kkX4, by decide, rl_in 235 (by decide +kernel) rfl⟩
theorem lpX8_231 : rl_FP RX8 231 4 1 .boolean := ⟨_, _, _, _, kkX4, by decide, rl_in 235 (by decide +kernel) rfl, rfl, by decide +kernel⟩
theorem lfX8_238 : rl_FL RX8 238 4 3 := ⟨_, _, _, _, kkX4, by decide, rl_in 239 (by decide +kernel) rfl⟩
theorem lpX8_238 : rl_FP RX8 238 4 3 .int := ⟨_, _, _, _, kkX4, by decide, rl_in 239 (by decide +kernel) rfl, rfl, by decide +kernel⟩
theorem lfX8_248 : rl_FL RX8 248 1 0 := ⟨_, _, _, _, kkX1, by decide, rl_in 222 (by decide +kernel) rfl⟩
theorem lpX8_248 : rl_FP RX8 248 1 0 .int := ⟨_, _, _, _, kkX1, by decide, rl_in 222 (by decide +kernel) rfl, rfl, by decide +kernel⟩
theorem lfX8_270 : rl_FL RX8 270 4 2 := ⟨_, _, _, _, kkX4, by decide, rl_in 237 (by decide +kernel) rfl⟩
theorem lpX8_270 : rl_FP RX8 270 4 2 .int := ⟨_, _, _, _, kkX4, by decide, rl_in 237 (by decide +kernel) rfl, rfl, by decide +kernel⟩
theorem lfX8_289 : rl_FL RX8 289 8 9 := ⟨_, _, _, _, kkX8, by decide, rl_in 258 (by decide +kernel) rfl⟩
theorem lpX8_289 : rl_FP RX8 289 8 9 .int := ⟨_, _, _, _, kkX8, by decide, rl_in 258 (by decide +kernel) rfl, rfl, by decide +kernel⟩
theorem lfX9_7 : rl_FL RX9 7 9 0 := ⟨_, _, _, _, kkX9, by decide, rl_in 764 (by decide +kernel) rfl⟩
theorem lfX9_13 : rl_FL RX9 13 9 1 := ⟨_, _, _, _, kkX9, by decide, rl_in 765 (by decide +kernel) rfl⟩
theorem lfX9_16 : rl_FL RX9 16 9 3 := ⟨_, _, _, _, kkX9, by decide, rl_in 767 (by decide +kernel) rfl⟩
theorem lfX9_19 : rl_FL RX9 19 9 4 := ⟨_, _, _, _, kkX9, by decide, rl_in 768 (by decide +kernel) rfl⟩
theorem lfX9_22 : rl_FL RX9 22 9 6 := ⟨_, _, _, _, kkX9, by decide, rl_in 770 (by decide +kernel) rfl⟩
theorem lfX9_25 : rl_FL RX9 25 9 9 := ⟨_, _, _, _, kkX9, by decide, rl_in 773 (by decide +kernel) rfl⟩
theorem lfX9_28 : rl_FL RX9 28 9 10 := ⟨_, _, _, _, kkX9, by decide, rl_in 774 (by decide +kernel) rfl⟩
theorem lfX9_31 : rl_FL RX9 31 9 13 := ⟨_, _, _, _, kkX9, by decide, rl_in 777 (by decide +kernel) rfl⟩
theorem lfX9_34 : rl_FL RX9 34 9 14 := ⟨_, _, _, _, kkX9, by decide, rl_in 778 (by decide +kernel) rfl⟩
theorem lfX9_37 : rl_FL RX9 37 9 16 := ⟨_, _, _, _, kkX9, by decide, rl_in 780 (by decide +kernel) rfl⟩
theorem lfX9_41 : rl_FL RX9 41 9 17 := ⟨_, _, _, _, kkX9, by decide, rl_in 781 (by decide +kernel) rfl⟩
theorem lfX9_44 : rl_FL RX9 44 9 18 := ⟨_, _, _, _, kkX9, by decide, rl_in 782 (by decide +kernel) rfl⟩
theorem lfX9_47 : rl_FL RX9 47 9 19 := ⟨_, _, _, _, kkX9, by decide, rl_in 783 (by decide +kernel) rfl⟩
theorem lfX9_50 : rl_FL RX9 50 9 20 := ⟨_, _, _, _, kkX9, by decide, rl_in 784 (by decide +kernel) rfl⟩
theorem lfX9_63 : rl_FL RX9 63 9 2 := ⟨_, _, _, _, kkX9, by decide, rl_in 766 (by decide +kernel) rfl⟩
theorem lpX9_63 : rl_FP RX9 63 9 2 .int := ⟨_, _, _, _, kkX9, by decide, rl_in 766 (by decide +kernel) rfl, rfl, by decide +kernel⟩
theorem lfX9_67 : rl_FL RX9 67 9 5 := ⟨_, _, _, _, kkX9, by decide, rl_in 769 (by decide +kernel) rfl⟩
theorem lpX9_67 : rl_FP RX9 67 9 5 .int := ⟨_, _, _, _, kkX9, by decide, rl_in 769 (by decide +kernel) rfl, rfl, by decide +kernel⟩
theorem lfX9_93 : rl_FL RX9 93 9 7 := ⟨_, _, _, _, kkX9, by decide, rl_in 771 (by decide +kernel) rfl⟩
theorem lpX9_93 : rl_FP RX9 93 9 7 .int := ⟨_, _, _, _, kkX9, by decide, rl_in 771 (by decide +kernel) rfl, rfl, by decide +kernel⟩
theorem lfX9_96 : rl_FL RX9 96 9 8 := ⟨_, _, _, _, kkX9, by decide, rl_in 772 (by decide +kernel) rfl⟩
theorem lpX9_96 : rl_FP RX9 96 9 8 .int := ⟨_, _, _, _, kkX9, by decide, rl_in 772 (by decide +kernel) rfl, rfl, by decide +kernel⟩
theorem lfX9_160 : rl_FL RX9 160 9 11 := ⟨_, _, _, _, kkX9, by decide, rl_in 775 (by decide +kernel) rfl⟩
theorem lpX9_160 : rl_FP RX9 160 9 11 .int := ⟨_, _, _, _, kkX9, by decide, rl_in 775 (by decide +kernel) rfl, rfl, by decide +kernel⟩
theorem lfX9_206 : rl_FL RX9 206 9 12 := ⟨_, _, _, _, kkX9, by decide, rl_in 776 (by decide +kernel) rfl⟩
theorem lpX9_206 : rl_FP RX9 206 9 12 .int := ⟨_, _, _, _, kkX9, by decide, rl_in 776 (by decide +kernel) rfl, rfl, by decide +kernel⟩
theorem lfX9_222 : rl_FL RX9 222 9 15 := ⟨_, _, _, _, kkX9, by decide, rl_in 779 (by decide +kernel) rfl⟩
theorem lpX9_222 : rl_FP RX9 222 9 15 .int := ⟨_, _, _, _, kkX9, by decide, rl_in 779 (by decide +kernel) rfl, rfl, by decide +kernel⟩
theorem lfX9_231 : rl_FL RX9 231 9 21 := ⟨_, _, _, _, kkX9, by decide, rl_in 785 (by decide +kernel) rfl⟩
theorem lpX9_231 : rl_FP RX9 231 9 21 .int := ⟨_, _, _, _, kkX9, by decide, rl_in 785 (by decide +kernel) rfl, rfl, by decide +kernel⟩
theorem lsX8_311 : Cond.fieldLink RX8 311 "RopeLadder" "DIGEST_TENTHS" "[I" ∈ rl_T := rl_in 740 (by decide +kernel) rfl
theorem lsX3_7 : Cond.fieldLink RX3 7 "RopeLadder$Settings" "FIRST" "[I" ∈ rl_T := rl_in 168 (by decide +kernel) rfl
theorem lsX3_16 : Cond.fieldLink RX3 16 "RopeLadder$Settings" "LEAST" "[I" ∈ rl_T := rl_in 415 (by decide +kernel) rfl
theorem lsX3_19 : Cond.fieldLink RX3 19 "RopeLadder$Settings" "MOST" "[I" ∈ rl_T := rl_in 417 (by decide +kernel) rfl
theorem lcX8_168 : Cond.constant RX8 168 (2147483647) ∈ rl_T := rl_in 489 (by decide +kernel) rfl
theorem lcX8_269 : Cond.constant RX8 269 (-2147483648) ∈ rl_T := rl_in 693 (by decide +kernel) rfl
theorem lcX1_7 : Cond.constant RX1 7 (1103515245) ∈ rl_T := rl_in 653 (by decide +kernel) rfl
theorem lcX2_77 : Cond.constant RX2 77 (2147483647) ∈ rl_T := rl_in 481 (by decide +kernel) rfl
theorem lcX9_221 : Cond.constant RX9 221 (1103515245) ∈ rl_T := rl_in 1132 (by decide +kernel) rfl
theorem lcX9_241 : Cond.constant RX9 241 (-2147483648) ∈ rl_T := rl_in 1157 (by decide +kernel) rfl
theorem lcX8_190 : Cond.constantLong RX8 190 (-9223372036854775806) ∈ rl_T := rl_in 536 (by decide +kernel) rfl
theorem lcX8_196 : Cond.constantLong RX8 196 (4503599627370496) ∈ rl_T := rl_in 542 (by decide +kernel) rfl
theorem lcX8_198 : Cond.constantLong RX8 198 (2) ∈ rl_T := rl_in 543 (by decide +kernel) rfl
theorem lcX8_292 : Cond.constantLong RX8 292 (17) ∈ rl_T := rl_in 733 (by decide +kernel) rfl
theorem lcX8_294 : Cond.constantLong RX8 294 (31) ∈ rl_T := rl_in 734 (by decide +kernel) rfl
theorem lcX8_368 : Cond.constantLong RX8 368 (16) ∈ rl_T := rl_in 541 (by decide +kernel) rfl
theorem lcX9_53 : Cond.constantLong RX9 53 (-9223372036854775808) ∈ rl_T := rl_in 1051 (by decide +kernel) rfl
theorem lcX9_245 : Cond.constantLong RX9 245 (31) ∈ rl_T := rl_in 1179 (by decide +kernel) rfl
theorem lcX9_247 : Cond.constantLong RX9 247 (17) ∈ rl_T := rl_in 1178 (by decide +kernel) rfl
/-- what the static rows hold -/
def zLEAST (j : Nat) : Int := [0, 1, 1, 0, 0, 0, 0, 0, 0, 0, 1, 0].getD j 0
def zMOST (j : Nat) : Int := [999, 12, 30, 99, 16, 16, 16, 16, 16, 16, 9, 9].getD j 0
def zTENTHS (j : Nat) : Int := [0, 1, 37, 200, 399].getD j 0
/-- the world of one RopeLadder: 0 itself; 1 to 4 the first text (bytes, heights, lengths), 5 to 8 the second; 9 to 12 the sea (begins, withoutLee, heights); 13 the ship; 14, 15 the settings; 16 the climb; 17 to 19 what was seen; 20 the lots; 21 the row of sheets; 22 to 29 each sheet and its items -/
def cWf (k : Nat) : rl_D := match k with
  | 0 => .inr (.inl (8, [some (.ref 1), some (.ref 5), some (.ref 9), some (.ref 13), some (.ref 14), some (.ref 16), some (.ref 17), some (.ref 20), some (.ref 21), none]))
  | 1 => .inr (.inl (7, [some (.int 23), some (.int 6), some (.ref 2), some (.ref 3), some (.ref 4), none, none, none]))
  | 2 => .inl (0, 23)
  | 3 => .inl (0, 6)
  | 4 => .inl (0, 6)
  | 5 => .inr (.inl (7, [some (.int 3), some (.int 1), some (.ref 6), some (.ref 7), some (.ref 8), none, none, none]))
  | 6 => .inl (0, 23)
  | 7 => .inl (0, 6)
  | 8 => .inl (0, 6)
  | 9 => .inr (.inl (2, [some (.ref 1), some (.ref 10), some (.ref 11), some (.ref 12), none, none]))
  | 10 => .inl (0, 6)
  | 11 => .inl (0, 400)
  | 12 => .inl (0, 400)
  | 13 => .inr (.inl (5, [some (.ref 5), none, none]))
  | 14 => .inr (.inl (3, [some (.ref 15)]))
  | 15 => .inl (0, 12)
  | 16 => .inr (.inl (0, [some (.ref 9), some (.ref 13), some (.ref 14), none, none]))
  | 17 => .inr (.inl (6, [some (.ref 18), some (.ref 19), none]))
  | 18 => .inl (0, 8)
  | 19 => .inl (0, 8)
  | 20 => .inr (.inl (1, [none]))
  | 21 => .inr (.inr (1, [22, 24, 26, 28]))
  | 22 => .inr (.inl (4, [some (.ref 23), none, none, none]))
  | 24 => .inr (.inl (4, [some (.ref 25), none, none, none]))
  | 26 => .inr (.inl (4, [some (.ref 27), none, none, none]))
  | 28 => .inr (.inl (4, [some (.ref 29), none, none, none]))
  | _ => .inl (0, 48)
def cW : rl_W := (30, cWf, [.int, .object "RopeLadder$Sheet"], [("RopeLadder$Settings", "LEAST", 30, 12, fun j => iI (zLEAST j)), ("RopeLadder$Settings", "MOST", 31, 12, fun j => iI (zMOST j)), ("RopeLadder", "DIGEST_TENTHS", 32, 5, fun j => iI (zTENTHS j))])
/-- the world of one RopeLadderModel: 0 itself; its rows in the order of its fields -/
def mWf (k : Nat) : rl_D := match k with
  | 0 => .inr (.inl (9, [some (.ref 1), some (.ref 2), none, some (.ref 3), some (.ref 4), none, some (.ref 5), none, none, some (.ref 6), some (.ref 7), none, none, some (.ref 8), some (.ref 9), none, some (.ref 10), some (.ref 11), some (.ref 12), some (.ref 13), some (.ref 14), none]))
  | 1 => .inl (0, 2)
  | 2 => .inl (0, 46)
  | 3 => .inl (0, 8)
  | 4 => .inl (0, 8)
  | 5 => .inl (0, 6)
  | 6 => .inl (0, 12)
  | 7 => .inl (0, 400)
  | 8 => .inl (0, 8)
  | 9 => .inl (0, 8)
  | 10 => .inl (1, 4)
  | 11 => .inl (0, 4)
  | 12 => .inl (0, 4)
  | 13 => .inl (0, 192)
  | _ => .inl (0, 48)
def mW : rl_W := (15, mWf, [.int, .boolean], [])
end
section
theorem zin_LEAST : ("RopeLadder$Settings", "LEAST", 30, 12, fun j => iI (zLEAST j)) ∈ cW.2.2.2 := List.mem_cons_self
theorem zin_MOST : ("RopeLadder$Settings", "MOST", 31, 12, fun j => iI (zMOST j)) ∈ cW.2.2.2 := List.mem_cons_of_mem _ List.mem_cons_self
theorem zin_TENTHS : ("RopeLadder", "DIGEST_TENTHS", 32, 5, fun j => iI (zTENTHS j)) ∈ cW.2.2.2 := List.mem_cons_of_mem _ (List.mem_cons_of_mem _ List.mem_cons_self)
section RM
variable {w : rl_W} {M : rl_M} {pc : Nat} {ls st : List Value} {σ : rl_S} {Post : Option Value → rl_S → Prop}
theorem i_ldc {n : Nat} {v : Int32} (hw : Cond.constant M.1.cls n v ∈ rl_T) (hd : decode M.2.1 pc = .ok (.ldc n, 2)) (kk : Rn w M (pc + 2) ls (.int (iI v.toInt) :: st) σ Post) : Rn w M pc ls st σ Post := r_ldc hd hw (by rw [iI_of] at kk; exact kk)
theorem i_ldcw {n : Nat} {v : Int32} (hw : Cond.constant M.1.cls n v ∈ rl_T) (hd : decode M.2.1 pc = .ok (.ldc_w n, 3)) (kk : Rn w M (pc + 3) ls (.int (iI v.toInt) :: st) σ Post) : Rn w M pc ls st σ Post := r_ldcw hd hw (by rw [iI_of] at kk; exact kk)
theorem i_mmin {a b : Int} {idx : Nat} (hw : Cond.methodLink M.1.cls idx Lib.Math.min.name ∈ rl_T ∧ Cond.static Lib.Math.min.name ∈ rl_T ∧ Cond.initialized "java/lang/Math" ∈ rl_T ∧ Cond.code Lib.Math.min.name Lib.Math.min.code 2 (some .int) ∈ rl_T) (hd : decode M.2.1 pc = .ok (.invokestatic idx, 3)) (hd1 : 1 ≤ M.2.2.2.2) (hr : (st.map fun v => v.category).sum ≤ 8) (ha : -2147483648 ≤ a ∧ a < 2147483648) (hb : -2147483648 ≤ b ∧ b < 2147483648) (kk : Rn w M (pc + 3) ls (.int (iI (min a b)) :: st) σ Post) : Rn w M pc ls (.int (iI b) :: .int (iI a) :: st) σ Post := by
  refine r_mmin hw hd hd1 hr ?_
  have : (if iI b < iI a then iI b else iI a) = iI (min a b) := by
    by_cases h : b < a
    · rw [if_pos ((iI_lt hb ha).mpr h)]; congr 1; omega
    · rw [if_neg (fun z => h ((iI_lt hb ha).mp z))]; congr 1; omega
  rw [this]; exact kk
theorem i_mmax {a b : Int} {idx : Nat} (hw : Cond.methodLink M.1.cls idx Lib.Math.max.name ∈ rl_T ∧ Cond.static Lib.Math.max.name ∈ rl_T ∧ Cond.initialized "java/lang/Math" ∈ rl_T ∧ Cond.code Lib.Math.max.name Lib.Math.max.code 2 (some .int) ∈ rl_T) (hd : decode M.2.1 pc = .ok (.invokestatic idx, 3)) (hd1 : 1 ≤ M.2.2.2.2) (hr : (st.map fun v => v.category).sum ≤ 8) (ha : -2147483648 ≤ a ∧ a < 2147483648) (hb : -2147483648 ≤ b ∧ b < 2147483648) (kk : Rn w M (pc + 3) ls (.int (iI (max a b)) :: st) σ Post) : Rn w M pc ls (.int (iI b) :: .int (iI a) :: st) σ Post := by
  refine r_mmax hw hd hd1 hr ?_
  have : (if iI a < iI b then iI b else iI a) = iI (max a b) := by
    by_cases h : a < b
    · rw [if_pos ((iI_lt ha hb).mpr h)]; congr 1; omega
    · rw [if_neg (fun z => h ((iI_lt ha hb).mp z))]; congr 1; omega
  rw [this]; exact kk
theorem i_mabs {a : Int} {idx : Nat} (hw : Cond.methodLink M.1.cls idx Lib.Math.abs.name ∈ rl_T ∧ Cond.static Lib.Math.abs.name ∈ rl_T ∧ Cond.initialized "java/lang/Math" ∈ rl_T ∧ Cond.code Lib.Math.abs.name Lib.Math.abs.code 1 (some .int) ∈ rl_T) (hd : decode M.2.1 pc = .ok (.invokestatic idx, 3)) (hd1 : 1 ≤ M.2.2.2.2) (hr : (st.map fun v => v.category).sum ≤ 8) (ha : -2147483648 ≤ a ∧ a < 2147483648) (kk : Rn w M (pc + 3) ls (.int (iI (max a (-a))) :: st) σ Post) : Rn w M pc ls (.int (iI a) :: st) σ Post := by
  refine r_mabs hw hd hd1 hr ?_
  have h0 : (0 : Int32) = iI 0 := rfl
  have : (if 0 ≤ iI a then iI a else 0 - iI a) = iI (max a (-a)) := by
    by_cases h : 0 ≤ a
    · rw [if_pos (by rw [h0]; exact (iI_le (by decide) ha).mpr h)]; congr 1; omega
    · rw [if_neg (by rw [h0]; exact fun z => h ((iI_le (by decide) ha).mp z)), h0, iI_sub]; congr 1; omega
  rw [this]; exact kk
end RM
/-! what the document asks, over integers: the sea -/
def tri (x l : Int) : Int := min x (l - x)
def mv (h : Int → Int) (t : Int) : Int := if t ≤ 0 ∨ 399 ≤ t then 0 else if h (t + 1) < h t then (if h (t - 1) ≤ h t then 1 else 3) else if h t < h (t + 1) then 2 else 0
theorem mv_bd (h : Int → Int) (t : Int) : 0 ≤ mv h t ∧ mv h t ≤ 3 := by
  unfold mv
  repeat' split
  all_goals decide
def cr (h : Int → Int) : Nat → Int → Int → Int
  | 0, _, _ => -1
  | n + 1, t, k => if mv h t = 1 then (if k = 1 then t else cr h n (t + 1) (k - 1)) else cr h n (t + 1) k
def cF (h : Int → Int) (t k : Int) : Int := cr h (400 - t).toNat t k
theorem cr_bd (h : Int → Int) : ∀ (n : Nat) (t k : Int), cr h n t k = -1 ∨ (t ≤ cr h n t k ∧ cr h n t k < t + n)
  | 0, t, k => Or.inl rfl
  | n + 1, t, k => by
    have i1 := cr_bd h n (t + 1) (k - 1)
    have i2 := cr_bd h n (t + 1) k
    simp only [cr]
    split
    · split
      · right; omega
      · omega
    · omega
theorem cF_bd (h : Int → Int) {t : Int} (k : Int) (h0 : 0 ≤ t) (h1 : t ≤ 400) : cF h t k = -1 ∨ (t ≤ cF h t k ∧ cF h t k < 400) := by
  have := cr_bd h (400 - t).toNat t k
  unfold cF
  omega
def sv (h : Int → Int) : Nat → Int → Int → Int → Int → Int
  | 0, _, _, place, _ => place
  | m + 1, k, t, place, hi => if t = -1 then place else if place = -1 ∨ hi < h t then sv h m (k + 1) (cF h (t + 1) 1) k (h t) else sv h m (k + 1) (cF h (t + 1) 1) place hi
def cnt (h : Int → Int) : Nat → Int → Int
  | 0, _ => 0
  | n + 1, t => (if mv h t = 1 then 1 else 0) + cnt h n (t + 1)
theorem cnt_bd (h : Int → Int) : ∀ (n : Nat) (t : Int), 0 ≤ cnt h n t ∧ cnt h n t ≤ n
  | 0, t => by simp [cnt]
  | n + 1, t => by
    have := cnt_bd h n (t + 1)
    simp only [cnt]
    split <;> omega
/-- least and greatest of n + 1 heights from a on -/
def lo (h : Int → Int) : Nat → Int → Int
  | 0, a => h a
  | n + 1, a => min (lo h n a) (h (a + (n + 1 : Nat)))
def hg (h : Int → Int) : Nat → Int → Int
  | 0, a => h a
  | n + 1, a => max (hg h n a) (h (a + (n + 1 : Nat)))
def spr (h : Int → Int) (n : Nat) (a : Int) : Int := hg h n a - lo h n a
theorem lo_mono (h : Int → Int) (a : Int) : ∀ (n m : Nat), lo h (n + m) a ≤ lo h n a
  | n, 0 => Int.le_refl _
  | n, m + 1 => by
    have := lo_mono h a n m
    show min (lo h (n + m) a) _ ≤ _
    omega
theorem hg_mono (h : Int → Int) (a : Int) : ∀ (n m : Nat), hg h n a ≤ hg h (n + m) a
  | n, 0 => Int.le_refl _
  | n, m + 1 => by
    have := hg_mono h a n m
    show _ ≤ max (hg h (n + m) a) _
    omega
theorem spr_mono (h : Int → Int) (a : Int) (n m : Nat) : spr h n a ≤ spr h (n + m) a := by
  have := lo_mono h a n m
  have := hg_mono h a n m
  unfold spr
  omega
/-- heights as they are kept: of 400 tenths, each from 0 to 3000 -/
def HB (h : Int → Int) : Prop := ∀ z : Int, 0 ≤ z → z < 400 → 0 ≤ h z ∧ h z ≤ 3000
theorem lo_bd {h : Int → Int} (hb : HB h) : ∀ (n : Nat) (a : Int), 0 ≤ a → a + n < 400 → 0 ≤ lo h n a ∧ lo h n a ≤ 3000
  | 0, a, h0, h1 => hb a h0 (by omega)
  | n + 1, a, h0, h1 => by
    have := lo_bd hb n a h0 (by omega)
    have := hb (a + (n + 1 : Nat)) (by omega) (by omega)
    simp only [lo]
    omega
theorem hg_bd {h : Int → Int} (hb : HB h) : ∀ (n : Nat) (a : Int), 0 ≤ a → a + n < 400 → 0 ≤ hg h n a ∧ hg h n a ≤ 3000
  | 0, a, h0, h1 => hb a h0 (by omega)
  | n + 1, a, h0, h1 => by
    have := hg_bd hb n a h0 (by omega)
    have := hb (a + (n + 1 : Nat)) (by omega) (by omega)
    simp only [hg]
    omega
theorem lo_hg (h : Int → Int) : ∀ (n : Nat) (a : Int), lo h n a ≤ hg h n a
  | 0, a => Int.le_refl _
  | n + 1, a => by
    have := lo_hg h n a
    simp only [lo, hg]
    omega
/-- the greatest height not above a limit, from acc on -/
def gh (h : Int → Int) (lim : Int) : Nat → Int → Int → Int
  | 0, _, acc => acc
  | n + 1, t, acc => gh h lim n (t + 1) (if h t ≤ lim ∧ acc < h t then h t else acc)
theorem gh_bd {h : Int → Int} (hb : HB h) (lim : Int) : ∀ (n : Nat) (t acc : Int), 0 ≤ t → t + n ≤ 400 → 0 ≤ acc → acc ≤ 3000 → 0 ≤ gh h lim n t acc ∧ gh h lim n t acc ≤ 3000
  | 0, t, acc, h0, h1, h2, h3 => ⟨h2, h3⟩
  | n + 1, t, acc, h0, h1, h2, h3 => by
    have := hb t h0 (by omega)
    simp only [gh]
    split
    · exact gh_bd hb lim n (t + 1) _ (by omega) (by omega) (by omega) (by omega)
    · exact gh_bd hb lim n (t + 1) _ (by omega) (by omega) (by omega) (by omega)
def mxU (f : Int → Int) : Nat → Int → Int → Int
  | 0, _, acc => acc
  | n + 1, t, acc => mxU f n (t + 1) (max acc (f t))
theorem mxU_bd {h : Int → Int} (hb : HB h) : ∀ (n : Nat) (t acc : Int), 0 ≤ t → t + n ≤ 400 → 0 ≤ acc → acc ≤ 3000 → 0 ≤ mxU h n t acc ∧ mxU h n t acc ≤ 3000
  | 0, t, acc, h0, h1, h2, h3 => ⟨h2, h3⟩
  | n + 1, t, acc, h0, h1, h2, h3 => by
    have := hb t h0 (by omega)
    simp only [mxU]
    exact mxU_bd hb n (t + 1) _ (by omega) (by omega) (by omega) (by omega)
theorem gh_mxU {h : Int → Int} (hb : HB h) {lim : Int} (hl : 3000 ≤ lim) : ∀ (n : Nat) (t acc : Int), 0 ≤ t → t + n ≤ 400 → gh h lim n t acc = mxU h n t acc
  | 0, t, acc, h0, h1 => rfl
  | n + 1, t, acc, h0, h1 => by
    have := hb t h0 (by omega)
    simp only [gh, mxU]
    rw [gh_mxU hb hl n (t + 1) _ (by omega) (by omega)]
    congr 1
    split <;> omega
/-- lulls: the first of the least, s the spread from a tenth on -/
def lu (s : Int → Int) : Nat → Int → Int → Int → Int × Int
  | 0, _, b, l => (b, l)
  | n + 1, t, b, l => if b = -1 ∨ s t < l then lu s n (t + 1) t (s t) else lu s n (t + 1) b l
/-- heights by the swells: H heights, L lengths, P begins -/
def rawU (H L P : Int → Int) (t : Int) : Nat → Int
  | 0 => 0
  | n + 1 => rawU H L P t n + H n * tri ((t + P n) % L n) (L n)
def hiF (r : Int → Int) (a m : Int) (t : Int) : Int := if a ≤ t ∧ t < a + m then r t / 2 else r t
end
section
def ob (x : Bool) : Int := bif x then 1 else 0
theorem ob_bd (x : Bool) : 0 ≤ ob x ∧ ob x ≤ 1 := by cases x <;> decide
theorem ob_t {x : Bool} (h : ¬ ob x = 0) : x = true := by cases x <;> first | rfl | exact absurd rfl h
theorem ob_f {x : Bool} (h : ob x = 0) : x = false := by cases x <;> first | rfl | cases h
theorem sup_at (σ : rl_S) (k i : Nat) (x : Int) (a j : Nat) : sup σ k i x a j = if a = k then (if j = i then x else σ k j) else σ a j := by
  unfold sup
  split <;> rfl
theorem sup_h (σ : rl_S) (k i : Nat) (x : Int) : sup σ k i x k i = x := by simp [sup]
theorem sup_i (σ : rl_S) (k i : Nat) (x : Int) {j : Nat} (h : j ≠ i) : sup σ k i x k j = σ k j := by simp [sup, h]
theorem sup_k (σ : rl_S) (k i : Nat) (x : Int) {a : Nat} (j : Nat) (h : a ≠ k) : sup σ k i x a j = σ a j := by simp [sup, h]
/-! a text of swells: bytes b, most m, n bytes -/
def two (b : Int → Int) (k : Int) : Int := 10 * (b k - 48) + (b (k + 1) - 48)
def okA (b : Int → Int) (m k : Int) : Bool :=
  if k % 4 = 3 then decide (b k = 59) else decide (48 ≤ b k) && decide (b k ≤ 57) && (if k % 4 = 0 then decide (k / 4 < m) else if k % 4 = 1 then true else decide (2 ≤ two b (k - 1)))
def flt (b : Int → Int) (m n : Int) : Nat → Int → Int
  | 0, _ => if n = 0 ∨ n % 4 = 3 then -1 else n
  | f + 1, k => if okA b m k = true then flt b m n f (k + 1) else k
def fF (b : Int → Int) (m n : Int) : Int := flt b m n n.toNat 0
def nF (b : Int → Int) (m n : Int) : Int := if fF b m n = -1 then (n + 1) / 4 else 0
theorem flt_bd (b : Int → Int) (m n : Int) : ∀ (f : Nat) (k : Int), 0 ≤ k → k + f = n → -1 ≤ flt b m n f k ∧ flt b m n f k ≤ n
  | 0, k, h0, h1 => by
    simp only [flt]
    split <;> omega
  | f + 1, k, h0, h1 => by
    have := flt_bd b m n f (k + 1) (by omega) (by omega)
    simp only [flt]
    split <;> omega
theorem fF_bd (b : Int → Int) (m : Int) {n : Int} (h : 0 ≤ n) : -1 ≤ fF b m n ∧ fF b m n ≤ n := flt_bd b m n n.toNat 0 (by omega) (by omega)
theorem nF_bd (b : Int → Int) (m : Int) {n : Int} (h : 0 ≤ n) : 0 ≤ nF b m n ∧ 4 * nF b m n ≤ n + 1 := by
  unfold nF
  split <;> omega
def hF (b : Int → Int) (N s : Int) : Int := if s < N then b (4 * s) - 48 else 0
def lF (b : Int → Int) (N s : Int) : Int := if s < N then two b (4 * s + 1) else 0
/-- the bytes that text B keeps -/
def SB (B : Nat) (σ : rl_S) (b : Int → Int) : Prop := ∀ z : Int, 0 ≤ z → z < 23 → σ B z.toNat = b z
def BB (b : Int → Int) : Prop := ∀ z : Int, 0 ≤ z → z < 23 → 0 ≤ b z ∧ b z ≤ 255
def S6 (B : Nat) (σ : rl_S) (f : Int → Int) : Prop := ∀ z : Int, 0 ≤ z → z < 6 → σ B z.toNat = f z
def B6 (f : Int → Int) : Prop := ∀ z : Int, 0 ≤ z → z < 6 → 0 ≤ f z ∧ f z ≤ 99
theorem row_up {σ : rl_S} {B : Nat} {k v : Int} {f : Int → Int} (h : ∀ z : Int, 0 ≤ z → z < k → σ B z.toNat = f z) (hk : 0 ≤ k) (hv : v = f k) : ∀ z : Int, 0 ≤ z → z < k + 1 → sup σ B k.toNat v B z.toNat = f z := by
  intro z z0 z1
  by_cases hz : z = k
  · subst hz
    rw [sup_h, hv]
  · rw [sup_i _ _ _ _ (by omega)]
    exact h z z0 (by omega)
theorem row_o {σ : rl_S} {B C i : Nat} {k v : Int} {f : Int → Int} (h : ∀ z : Int, 0 ≤ z → z < k → σ B z.toNat = f z) (hB : B ≠ C) : ∀ z : Int, 0 ≤ z → z < k → sup σ C i v B z.toNat = f z := fun z z0 z1 => (sup_k _ _ _ _ _ hB).trans (h z z0 z1)
def sm (f : Int → Int) : Nat → Int
  | 0 => 0
  | n + 1 => sm f n + f n
theorem sm_bd {f : Int → Int} (h : B6 f) : ∀ n : Nat, n ≤ 6 → 0 ≤ sm f n ∧ sm f n ≤ 99 * n
  | 0, _ => by simp [sm]
  | n + 1, h1 => by
    have := sm_bd h n (by omega)
    have := h n (by omega) (by omega)
    simp only [sm]
    omega
def bUp (b : Int → Int) (k x : Int) : Int → Int := fun z => if z = k then x else b z

set_option maxRecDepth 20000 in
theorem c_byteAt_1 (σ : rl_S) (b : Int → Int) (hs : SB 2 σ b) (hb : BB b) (t : Int) (h0 : 0 ≤ t) (h1 : t < 23) : Ct cW mX7_byteAt [.ref 1, .int (iI t)] σ (pR (.int (iI (b t))) σ) := by
  refine Ct.of plX7 (Nat.le_of_ble_eq_true rfl) ?_
  refine r_iload_n dX7_byteAt_0 rfl ?_
  refine i_if_lt 22 dX7_byteAt_1 rfl ⟨by omega, by omega⟩ (fun q1 => ?_) (fun q1 => ?_)
  · exfalso
    omega
  · skip
    refine r_iload_n dX7_byteAt_4 rfl ?_
    refine r_aload_n dX7_byteAt_5 rfl ?_
    refine r_get (k := 1) lfX7_9 dX7_byteAt_6 (Nat.le_of_ble_eq_true rfl) rfl rfl ?_
    refine i_alen (k := 2) dX7_byteAt_9 (Nat.le_of_ble_eq_true rfl) rfl rfl ?_
    refine i_icmp_ge 22 dX7_byteAt_10 rfl ⟨by omega, by omega⟩ ⟨by omega, by omega⟩ (fun q10 => ?_) (fun q10 => ?_)
    · exfalso
      omega
    · skip
      refine r_aload_n dX7_byteAt_13 rfl ?_
      refine r_get (k := 1) lfX7_9 dX7_byteAt_14 (Nat.le_of_ble_eq_true rfl) rfl rfl ?_
      refine r_iload_n dX7_byteAt_17 rfl ?_
      refine i_ald (k := 2) dX7_byteAt_18 (Nat.le_of_ble_eq_true rfl) rfl rfl ⟨by omega, by omega⟩ (by decide) ?_
      refine r_goto 23 dX7_byteAt_19 rfl ?_
      refine r_iret rfl dX7_byteAt_23 ?_
      exact ⟨by rw [hs t h0 h1], rfl⟩

set_option maxRecDepth 20000 in
theorem c_two_1 (σ : rl_S) (b : Int → Int) (hs : SB 2 σ b) (hb : BB b) (t : Int) (h0 : 0 ≤ t) (h1 : t < 22) : Ct cW mX7_twoFiguresAt [.ref 1, .int (iI t)] σ (pR (.int (iI (two b t))) σ) := by
  refine Ct.of plX7 (Nat.le_of_ble_eq_true rfl) ?_
  refine i_bipush dX7_twoFiguresAt_0 (by decide) ?_
  refine r_aload_n dX7_twoFiguresAt_2 rfl ?_
  refine r_iload_n dX7_twoFiguresAt_3 rfl ?_
  refine i_cvP (c_byteAt_1 σ b hs hb t h0 (by omega)) lmX7_48 dX7_twoFiguresAt_4 (Nat.le_of_ble_eq_true rfl) rfl ⟨_, _, rfl⟩ (by decide) (by decide) rfl rfl (Nat.le_of_ble_eq_true rfl) ?_
  refine i_bipush dX7_twoFiguresAt_7 (by decide) ?_
  refine i_isub dX7_twoFiguresAt_9 ?_
  refine i_imul dX7_twoFiguresAt_10 ?_
  refine r_aload_n dX7_twoFiguresAt_11 rfl ?_
  refine r_iload_n dX7_twoFiguresAt_12 rfl ?_
  refine i_const dX7_twoFiguresAt_13 ?_
  refine i_iadd dX7_twoFiguresAt_14 ?_
  refine i_cvP (c_byteAt_1 σ b hs hb (t + 1) (by omega) (by omega)) lmX7_48 dX7_twoFiguresAt_15 (Nat.le_of_ble_eq_true rfl) rfl ⟨_, _, rfl⟩ (by decide) (by decide) rfl rfl (Nat.le_of_ble_eq_true rfl) ?_
  refine i_bipush dX7_twoFiguresAt_18 (by decide) ?_
  refine i_isub dX7_twoFiguresAt_20 ?_
  refine i_iadd dX7_twoFiguresAt_21 ?_
  refine r_iret rfl dX7_twoFiguresAt_22 ?_
  exact ⟨rfl, rfl⟩

set_option maxRecDepth 20000 in
theorem c_goesOn_1 (σ : rl_S) (b : Int → Int) (hs : SB 2 σ b) (hb : BB b) (t : Int) (h0 : 0 ≤ t) (h1 : t < 23) : Ct cW mX7_goesOn [.ref 1, .int (iI t)] σ (pR (.int (iI (ob (okA b 6 t)))) σ) := by
  refine Ct.of plX7 (Nat.le_of_ble_eq_true rfl) ?_
  have b0 := hb t h0 h1
  refine r_iload_n dX7_goesOn_0 rfl ?_
  refine i_const dX7_goesOn_1 ?_
  refine i_irem dX7_goesOn_2 ⟨by omega, by omega⟩ ⟨by omega, by omega⟩ ?_
  refine i_const dX7_goesOn_3 ?_
  refine i_icmp_ne 23 dX7_goesOn_4 rfl ⟨by omega, by omega⟩ ⟨by omega, by omega⟩ (fun q4 => ?_) (fun q4 => ?_)
  · skip
    refine r_aload_n dX7_goesOn_23 rfl ?_
    refine r_iload_n dX7_goesOn_24 rfl ?_
    refine i_cvP (c_byteAt_1 σ b hs hb t h0 h1) lmX7_48 dX7_goesOn_25 (Nat.le_of_ble_eq_true rfl) rfl ⟨_, _, rfl⟩ (by decide) (by decide) rfl rfl (Nat.le_of_ble_eq_true rfl) ?_
    refine i_bipush dX7_goesOn_28 (by decide) ?_
    refine i_icmp_lt 43 dX7_goesOn_30 rfl ⟨by omega, by omega⟩ ⟨by omega, by omega⟩ (fun q30 => ?_) (fun q30 => ?_)
    · skip
      refine i_const dX7_goesOn_43 ?_
      refine r_zret rfl dX7_goesOn_44 rfl ?_
      refine ⟨?_, rfl⟩
      first
        | (have e : okA b 6 t = true := by
            simp only [okA]
            (repeat (first | (rw [if_pos (by omega)]) | (rw [if_neg (by omega)])))
            simp only [Bool.and_eq_true, decide_eq_true_eq, and_true]
            omega
           rw [e]; rfl)
        | (have e : okA b 6 t = false := by
            simp only [okA]
            (repeat (first | (rw [if_pos (by omega)]) | (rw [if_neg (by omega)])))
            simp only [Bool.and_eq_false_iff, decide_eq_false_iff_not, Bool.true_eq_false, or_false]
            omega
           rw [e]; rfl)
    · skip
      refine r_aload_n dX7_goesOn_33 rfl ?_
      refine r_iload_n dX7_goesOn_34 rfl ?_
      refine i_cvP (c_byteAt_1 σ b hs hb t h0 h1) lmX7_48 dX7_goesOn_35 (Nat.le_of_ble_eq_true rfl) rfl ⟨_, _, rfl⟩ (by decide) (by decide) rfl rfl (Nat.le_of_ble_eq_true rfl) ?_
      refine i_bipush dX7_goesOn_38 (by decide) ?_
      refine i_icmp_le 45 dX7_goesOn_40 rfl ⟨by omega, by omega⟩ ⟨by omega, by omega⟩ (fun q40 => ?_) (fun q40 => ?_)
      · skip
        refine r_iload_n dX7_goesOn_45 rfl ?_
        refine i_const dX7_goesOn_46 ?_
        refine i_irem dX7_goesOn_47 ⟨by omega, by omega⟩ ⟨by omega, by omega⟩ ?_
        refine i_if_ne 67 dX7_goesOn_48 rfl ⟨by omega, by omega⟩ (fun q48 => ?_) (fun q48 => ?_)
        · skip
          refine r_iload_n dX7_goesOn_67 rfl ?_
          refine i_const dX7_goesOn_68 ?_
          refine i_irem dX7_goesOn_69 ⟨by omega, by omega⟩ ⟨by omega, by omega⟩ ?_
          refine i_const dX7_goesOn_70 ?_
          refine i_icmp_eq 85 dX7_goesOn_71 rfl ⟨by omega, by omega⟩ ⟨by omega, by omega⟩ (fun q71 => ?_) (fun q71 => ?_)
          · skip
            refine i_const dX7_goesOn_85 ?_
            refine r_goto 90 dX7_goesOn_86 rfl ?_
            refine r_zret rfl dX7_goesOn_90 rfl ?_
            refine ⟨?_, rfl⟩
            first
              | (have e : okA b 6 t = true := by
                  simp only [okA]
                  (repeat (first | (rw [if_pos (by omega)]) | (rw [if_neg (by omega)])))
                  simp only [Bool.and_eq_true, decide_eq_true_eq, and_true]
                  omega
                 rw [e]; rfl)
              | (have e : okA b 6 t = false := by
                  simp only [okA]
                  (repeat (first | (rw [if_pos (by omega)]) | (rw [if_neg (by omega)])))
                  simp only [Bool.and_eq_false_iff, decide_eq_false_iff_not, Bool.true_eq_false, or_false]
                  omega
                 rw [e]; rfl)
          · skip
            refine r_aload_n dX7_goesOn_74 rfl ?_
            refine r_iload_n dX7_goesOn_75 rfl ?_
            refine i_const dX7_goesOn_76 ?_
            refine i_isub dX7_goesOn_77 ?_
            have b1 := hb (t - 1) (by omega) (by omega)
            refine i_cvP (c_two_1 σ b hs hb (t - 1) (by omega) (by omega)) lmX7_51 dX7_goesOn_78 (Nat.le_of_ble_eq_true rfl) rfl ⟨_, _, rfl⟩ (by decide) (by decide) rfl rfl (Nat.le_of_ble_eq_true rfl) ?_
            have b2 : two b (t - 1) = 10 * (b (t - 1) - 48) + (b (t - 1 + 1) - 48) := rfl
            have b3 : t - 1 + 1 = t := by omega
            rw [b3] at b2
            refine i_const dX7_goesOn_81 ?_
            refine i_icmp_lt 89 dX7_goesOn_82 rfl ⟨by omega, by omega⟩ ⟨by omega, by omega⟩ (fun q82 => ?_) (fun q82 => ?_)
            · skip
              refine i_const dX7_goesOn_89 ?_
              refine r_zret rfl dX7_goesOn_90 rfl ?_
              refine ⟨?_, rfl⟩
              first
                | (have e : okA b 6 t = true := by
                    simp only [okA]
                    (repeat (first | (rw [if_pos (by omega)]) | (rw [if_neg (by omega)])))
                    simp only [Bool.and_eq_true, decide_eq_true_eq, and_true]
                    omega
                   rw [e]; rfl)
                | (have e : okA b 6 t = false := by
                    simp only [okA]
                    (repeat (first | (rw [if_pos (by omega)]) | (rw [if_neg (by omega)])))
                    simp only [Bool.and_eq_false_iff, decide_eq_false_iff_not, Bool.true_eq_false, or_false]
                    omega
                   rw [e]; rfl)
            · skip
              refine i_const dX7_goesOn_85 ?_
              refine r_goto 90 dX7_goesOn_86 rfl ?_
              refine r_zret rfl dX7_goesOn_90 rfl ?_
              refine ⟨?_, rfl⟩
              first
                | (have e : okA b 6 t = true := by
                    simp only [okA]
                    (repeat (first | (rw [if_pos (by omega)]) | (rw [if_neg (by omega)])))
                    simp only [Bool.and_eq_true, decide_eq_true_eq, and_true]
                    omega
                   rw [e]; rfl)
                | (have e : okA b 6 t = false := by
                    simp only [okA]
                    (repeat (first | (rw [if_pos (by omega)]) | (rw [if_neg (by omega)])))
                    simp only [Bool.and_eq_false_iff, decide_eq_false_iff_not, Bool.true_eq_false, or_false]
                    omega
                   rw [e]; rfl)
        · skip
          refine r_iload_n dX7_goesOn_51 rfl ?_
          refine i_const dX7_goesOn_52 ?_
          refine i_idiv dX7_goesOn_53 ⟨by omega, by omega⟩ ⟨by omega, by omega⟩ ?_
          refine r_aload_n dX7_goesOn_54 rfl ?_
          refine r_get (k := 1) lfX7_28 dX7_goesOn_55 (Nat.le_of_ble_eq_true rfl) rfl rfl ?_
          rw [show Value.int 6 = .int (iI 6) from rfl]
          refine i_icmp_ge 65 dX7_goesOn_58 rfl ⟨by omega, by omega⟩ ⟨by omega, by omega⟩ (fun q58 => ?_) (fun q58 => ?_)
          · skip
            refine i_const dX7_goesOn_65 ?_
            refine r_zret rfl dX7_goesOn_66 rfl ?_
            refine ⟨?_, rfl⟩
            first
              | (have e : okA b 6 t = true := by
                  simp only [okA]
                  (repeat (first | (rw [if_pos (by omega)]) | (rw [if_neg (by omega)])))
                  simp only [Bool.and_eq_true, decide_eq_true_eq, and_true]
                  omega
                 rw [e]; rfl)
              | (have e : okA b 6 t = false := by
                  simp only [okA]
                  (repeat (first | (rw [if_pos (by omega)]) | (rw [if_neg (by omega)])))
                  simp only [Bool.and_eq_false_iff, decide_eq_false_iff_not, Bool.true_eq_false, or_false]
                  omega
                 rw [e]; rfl)
          · skip
            refine i_const dX7_goesOn_61 ?_
            refine r_goto 66 dX7_goesOn_62 rfl ?_
            refine r_zret rfl dX7_goesOn_66 rfl ?_
            refine ⟨?_, rfl⟩
            first
              | (have e : okA b 6 t = true := by
                  simp only [okA]
                  (repeat (first | (rw [if_pos (by omega)]) | (rw [if_neg (by omega)])))
                  simp only [Bool.and_eq_true, decide_eq_true_eq, and_true]
                  omega
                 rw [e]; rfl)
              | (have e : okA b 6 t = false := by
                  simp only [okA]
                  (repeat (first | (rw [if_pos (by omega)]) | (rw [if_neg (by omega)])))
                  simp only [Bool.and_eq_false_iff, decide_eq_false_iff_not, Bool.true_eq_false, or_false]
                  omega
                 rw [e]; rfl)
      · skip
        refine i_const dX7_goesOn_43 ?_
        refine r_zret rfl dX7_goesOn_44 rfl ?_
        refine ⟨?_, rfl⟩
        first
          | (have e : okA b 6 t = true := by
              simp only [okA]
              (repeat (first | (rw [if_pos (by omega)]) | (rw [if_neg (by omega)])))
              simp only [Bool.and_eq_true, decide_eq_true_eq, and_true]
              omega
             rw [e]; rfl)
          | (have e : okA b 6 t = false := by
              simp only [okA]
              (repeat (first | (rw [if_pos (by omega)]) | (rw [if_neg (by omega)])))
              simp only [Bool.and_eq_false_iff, decide_eq_false_iff_not, Bool.true_eq_false, or_false]
              omega
             rw [e]; rfl)
  · skip
    refine r_aload_n dX7_goesOn_7 rfl ?_
    refine r_iload_n dX7_goesOn_8 rfl ?_
    refine i_cvP (c_byteAt_1 σ b hs hb t h0 h1) lmX7_48 dX7_goesOn_9 (Nat.le_of_ble_eq_true rfl) rfl ⟨_, _, rfl⟩ (by decide) (by decide) rfl rfl (Nat.le_of_ble_eq_true rfl) ?_
    refine i_bipush dX7_goesOn_12 (by decide) ?_
    refine i_icmp_ne 21 dX7_goesOn_14 rfl ⟨by omega, by omega⟩ ⟨by omega, by omega⟩ (fun q14 => ?_) (fun q14 => ?_)
    · skip
      refine i_const dX7_goesOn_21 ?_
      refine r_zret rfl dX7_goesOn_22 rfl ?_
      refine ⟨?_, rfl⟩
      first
        | (have e : okA b 6 t = true := by
            simp only [okA]
            (repeat (first | (rw [if_pos (by omega)]) | (rw [if_neg (by omega)])))
            simp only [Bool.and_eq_true, decide_eq_true_eq, and_true]
            omega
           rw [e]; rfl)
        | (have e : okA b 6 t = false := by
            simp only [okA]
            (repeat (first | (rw [if_pos (by omega)]) | (rw [if_neg (by omega)])))
            simp only [Bool.and_eq_false_iff, decide_eq_false_iff_not, Bool.true_eq_false, or_false]
            omega
           rw [e]; rfl)
    · skip
      refine i_const dX7_goesOn_17 ?_
      refine r_goto 22 dX7_goesOn_18 rfl ?_
      refine r_zret rfl dX7_goesOn_22 rfl ?_
      refine ⟨?_, rfl⟩
      first
        | (have e : okA b 6 t = true := by
            simp only [okA]
            (repeat (first | (rw [if_pos (by omega)]) | (rw [if_neg (by omega)])))
            simp only [Bool.and_eq_true, decide_eq_true_eq, and_true]
            omega
           rw [e]; rfl)
        | (have e : okA b 6 t = false := by
            simp only [okA]
            (repeat (first | (rw [if_pos (by omega)]) | (rw [if_neg (by omega)])))
            simp only [Bool.and_eq_false_iff, decide_eq_false_iff_not, Bool.true_eq_false, or_false]
            omega
           rw [e]; rfl)

theorem c_firstFault_l_1 (σ : rl_S) (b : Int → Int) (hs : SB 2 σ b) (hb : BB b) (n0 : 0 ≤ σ 1 5) (n1 : σ 1 5 ≤ 23) : ∀ (n : Nat) (k : Int), 0 ≤ k → k + n = σ 1 5 → ∀ z, z = flt b 6 (σ 1 5) n k → Rn cW mX7_firstFault 2 [.ref 1, .int (iI k)] [] σ (pR (.int (iI z)) σ) := by
  intro n
  induction n with
  | zero =>
    intro k h0 hk z hz
    simp only [flt] at hz
    refine r_iload_n dX7_firstFault_2 rfl ?_
    refine r_aload_n dX7_firstFault_3 rfl ?_
    refine r_get (k := 1) lfX7_31 dX7_firstFault_4 (Nat.le_of_ble_eq_true rfl) rfl rfl ?_
    refine i_icmp_ge 26 dX7_firstFault_7 rfl ⟨by omega, by omega⟩ ⟨by omega, by omega⟩ (fun q7 => ?_) (fun q7 => ?_)
    · skip
      refine r_aload_n dX7_firstFault_26 rfl ?_
      refine r_get (k := 1) lfX7_31 dX7_firstFault_27 (Nat.le_of_ble_eq_true rfl) rfl rfl ?_
      refine i_if_eq 43 dX7_firstFault_30 rfl ⟨by omega, by omega⟩ (fun q30 => ?_) (fun q30 => ?_)
      · skip
        refine i_const dX7_firstFault_43 ?_
        refine r_goto 51 dX7_firstFault_44 rfl ?_
        refine r_iret rfl dX7_firstFault_51 ?_
        exact ⟨by rw [hz]; (repeat (first | rfl | (rw [if_pos (by omega)]) | (rw [if_neg (by omega)]))), rfl⟩
      · skip
        refine r_aload_n dX7_firstFault_33 rfl ?_
        refine r_get (k := 1) lfX7_31 dX7_firstFault_34 (Nat.le_of_ble_eq_true rfl) rfl rfl ?_
        refine i_const dX7_firstFault_37 ?_
        refine i_irem dX7_firstFault_38 ⟨by omega, by omega⟩ ⟨by omega, by omega⟩ ?_
        refine i_const dX7_firstFault_39 ?_
        refine i_icmp_ne 47 dX7_firstFault_40 rfl ⟨by omega, by omega⟩ ⟨by omega, by omega⟩ (fun q40 => ?_) (fun q40 => ?_)
        · skip
          refine r_aload_n dX7_firstFault_47 rfl ?_
          refine r_get (k := 1) lfX7_31 dX7_firstFault_48 (Nat.le_of_ble_eq_true rfl) rfl rfl ?_
          refine r_iret rfl dX7_firstFault_51 ?_
          exact ⟨by rw [hz]; (repeat (first | rfl | (rw [if_pos (by omega)]) | (rw [if_neg (by omega)]))), rfl⟩
        · skip
          refine i_const dX7_firstFault_43 ?_
          refine r_goto 51 dX7_firstFault_44 rfl ?_
          refine r_iret rfl dX7_firstFault_51 ?_
          exact ⟨by rw [hz]; (repeat (first | rfl | (rw [if_pos (by omega)]) | (rw [if_neg (by omega)]))), rfl⟩
    · exfalso
      omega
  | succ n ih =>
    intro k h0 hk z hz
    have ho := ob_bd (okA b 6 k)
    simp only [flt] at hz
    refine r_iload_n dX7_firstFault_2 rfl ?_
    refine r_aload_n dX7_firstFault_3 rfl ?_
    refine r_get (k := 1) lfX7_31 dX7_firstFault_4 (Nat.le_of_ble_eq_true rfl) rfl rfl ?_
    refine i_icmp_ge 26 dX7_firstFault_7 rfl ⟨by omega, by omega⟩ ⟨by omega, by omega⟩ (fun q7 => ?_) (fun q7 => ?_)
    · exfalso
      omega
    · skip
      refine r_aload_n dX7_firstFault_10 rfl ?_
      refine r_iload_n dX7_firstFault_11 rfl ?_
      refine i_cvP (c_goesOn_1 σ b hs hb k h0 (by omega)) lmX7_54 dX7_firstFault_12 (Nat.le_of_ble_eq_true rfl) rfl ⟨_, _, rfl⟩ (by decide) (by decide) rfl rfl (Nat.le_of_ble_eq_true rfl) ?_
      refine i_if_ne 20 dX7_firstFault_15 rfl ⟨by omega, by omega⟩ (fun q15 => ?_) (fun q15 => ?_)
      · skip
        refine i_iinc dX7_firstFault_20 rfl (Nat.le_of_ble_eq_true rfl) ?_
        refine r_goto 2 dX7_firstFault_23 rfl ?_
        rw [if_pos (ob_t q15)] at hz
        exact ih (k + 1) (by omega) (by omega) z hz
      · skip
        refine r_iload_n dX7_firstFault_18 rfl ?_
        refine r_iret rfl dX7_firstFault_19 ?_
        rw [if_neg (by rw [ob_f q15]; decide)] at hz
        exact ⟨by rw [hz], rfl⟩

set_option maxRecDepth 20000 in
theorem c_firstFault_1 (σ : rl_S) (b : Int → Int) (hs : SB 2 σ b) (hb : BB b) (n0 : 0 ≤ σ 1 5) (n1 : σ 1 5 ≤ 23) : Ct cW mX7_firstFault [.ref 1] σ (pR (.int (iI (fF b 6 (σ 1 5)))) σ) := by
  refine Ct.of plX7 (Nat.le_of_ble_eq_true rfl) ?_
  refine i_const dX7_firstFault_0 ?_
  refine r_istore_n dX7_firstFault_1 (Nat.le_of_ble_eq_true rfl) ?_
  exact c_firstFault_l_1 σ b hs hb n0 n1 (σ 1 5).toNat 0 (by omega) (by omega) _ rfl

set_option maxRecDepth 20000 in
theorem c_heightOf_1 (σ : rl_S) (f : Int → Int) (hs : S6 3 σ f) (t : Int) (h0 : 0 ≤ t) (h1 : t < 6) : Ct cW mX7_heightOf [.ref 1, .int (iI t)] σ (pR (.int (iI (f t))) σ) := by
  refine Ct.of plX7 (Nat.le_of_ble_eq_true rfl) ?_
  refine r_iload_n dX7_heightOf_0 rfl ?_
  refine i_if_lt 22 dX7_heightOf_1 rfl ⟨by omega, by omega⟩ (fun q1 => ?_) (fun q1 => ?_)
  · exfalso
    omega
  · skip
    refine r_iload_n dX7_heightOf_4 rfl ?_
    refine r_aload_n dX7_heightOf_5 rfl ?_
    refine r_get (k := 1) lfX7_15 dX7_heightOf_6 (Nat.le_of_ble_eq_true rfl) rfl rfl ?_
    refine i_alen (k := 3) dX7_heightOf_9 (Nat.le_of_ble_eq_true rfl) rfl rfl ?_
    refine i_icmp_ge 22 dX7_heightOf_10 rfl ⟨by omega, by omega⟩ ⟨by omega, by omega⟩ (fun q10 => ?_) (fun q10 => ?_)
    · exfalso
      omega
    · skip
      refine r_aload_n dX7_heightOf_13 rfl ?_
      refine r_get (k := 1) lfX7_15 dX7_heightOf_14 (Nat.le_of_ble_eq_true rfl) rfl rfl ?_
      refine r_iload_n dX7_heightOf_17 rfl ?_
      refine i_ald (k := 3) dX7_heightOf_18 (Nat.le_of_ble_eq_true rfl) rfl rfl ⟨by omega, by omega⟩ (by decide) ?_
      refine r_goto 23 dX7_heightOf_19 rfl ?_
      refine r_iret rfl dX7_heightOf_23 ?_
      exact ⟨by rw [hs t h0 h1], rfl⟩

set_option maxRecDepth 20000 in
theorem c_lengthOf_1 (σ : rl_S) (f : Int → Int) (hs : S6 4 σ f) (t : Int) (h0 : 0 ≤ t) (h1 : t < 6) : Ct cW mX7_lengthOf [.ref 1, .int (iI t)] σ (pR (.int (iI (f t))) σ) := by
  refine Ct.of plX7 (Nat.le_of_ble_eq_true rfl) ?_
  refine r_iload_n dX7_lengthOf_0 rfl ?_
  refine i_if_lt 22 dX7_lengthOf_1 rfl ⟨by omega, by omega⟩ (fun q1 => ?_) (fun q1 => ?_)
  · exfalso
    omega
  · skip
    refine r_iload_n dX7_lengthOf_4 rfl ?_
    refine r_aload_n dX7_lengthOf_5 rfl ?_
    refine r_get (k := 1) lfX7_18 dX7_lengthOf_6 (Nat.le_of_ble_eq_true rfl) rfl rfl ?_
    refine i_alen (k := 4) dX7_lengthOf_9 (Nat.le_of_ble_eq_true rfl) rfl rfl ?_
    refine i_icmp_ge 22 dX7_lengthOf_10 rfl ⟨by omega, by omega⟩ ⟨by omega, by omega⟩ (fun q10 => ?_) (fun q10 => ?_)
    · exfalso
      omega
    · skip
      refine r_aload_n dX7_lengthOf_13 rfl ?_
      refine r_get (k := 1) lfX7_18 dX7_lengthOf_14 (Nat.le_of_ble_eq_true rfl) rfl rfl ?_
      refine r_iload_n dX7_lengthOf_17 rfl ?_
      refine i_ald (k := 4) dX7_lengthOf_18 (Nat.le_of_ble_eq_true rfl) rfl rfl ⟨by omega, by omega⟩ (by decide) ?_
      refine r_goto 23 dX7_lengthOf_19 rfl ?_
      refine r_iret rfl dX7_lengthOf_23 ?_
      exact ⟨by rw [hs t h0 h1], rfl⟩

set_option maxRecDepth 20000 in
theorem c_isFull_1 (σ : rl_S) (n0 : 0 ≤ σ 1 5) (n1 : σ 1 5 ≤ 23) : Ct cW mX7_isFull [.ref 1] σ (pR (.int (iI (ob (decide (23 ≤ σ 1 5))))) σ) := by
  refine Ct.of plX7 (Nat.le_of_ble_eq_true rfl) ?_
  refine r_aload_n dX7_isFull_0 rfl ?_
  refine r_get (k := 1) lfX7_31 dX7_isFull_1 (Nat.le_of_ble_eq_true rfl) rfl rfl ?_
  refine r_aload_n dX7_isFull_4 rfl ?_
  refine r_get (k := 1) lfX7_25 dX7_isFull_5 (Nat.le_of_ble_eq_true rfl) rfl rfl ?_
  rw [show Value.int 23 = .int (iI 23) from rfl]
  refine i_icmp_lt 15 dX7_isFull_8 rfl ⟨by omega, by omega⟩ ⟨by omega, by omega⟩ (fun q8 => ?_) (fun q8 => ?_)
  · skip
    refine i_const dX7_isFull_15 ?_
    refine r_zret rfl dX7_isFull_16 rfl ?_
    first
      | (refine ⟨?_, rfl⟩; rw [decide_eq_true (by omega)]; rfl)
      | (refine ⟨?_, rfl⟩; rw [decide_eq_false (by omega)]; rfl)
  · skip
    refine i_const dX7_isFull_11 ?_
    refine r_goto 16 dX7_isFull_12 rfl ?_
    refine r_zret rfl dX7_isFull_16 rfl ?_
    first
      | (refine ⟨?_, rfl⟩; rw [decide_eq_true (by omega)]; rfl)
      | (refine ⟨?_, rfl⟩; rw [decide_eq_false (by omega)]; rfl)

/-- what understanding a text does -/
def und_1 (σ : rl_S) (b : Int → Int) : rl_S → Prop := fun σ2 => σ2 1 6 = fF b 6 (σ 1 5) ∧ σ2 1 7 = nF b 6 (σ 1 5) ∧ S6 3 σ2 (hF b (nF b 6 (σ 1 5))) ∧ S6 4 σ2 (lF b (nF b 6 (σ 1 5))) ∧ ∀ k i, k ≠ 3 → k ≠ 4 → (k = 1 → i ≠ 6 ∧ i ≠ 7) → σ2 k i = σ k i
theorem c_understand_l_1 (σ : rl_S) (b : Int → Int) (hs : SB 2 σ b) (hb : BB b) (n0 : 0 ≤ σ 1 5) (n1 : σ 1 5 ≤ 23) (N : Int) (hN : N = nF b 6 (σ 1 5)) : ∀ (n : Nat) (k : Int) (lx : Value) (σ2 : rl_S), 0 ≤ k → k + n = 6 →
    σ2 1 6 = fF b 6 (σ 1 5) → σ2 1 7 = N → (∀ z : Int, 0 ≤ z → z < k → σ2 3 z.toNat = hF b N z) → (∀ z : Int, 0 ≤ z → z < k → σ2 4 z.toNat = lF b N z) → (∀ k i, k ≠ 3 → k ≠ 4 → (k = 1 → i ≠ 6 ∧ i ≠ 7) → σ2 k i = σ k i) →
    Rn cW mX7_understand 34 [.ref 1, .int (iI k), lx] [] σ2 (qV (und_1 σ b)) := by
  intro n
  induction n with
  | zero =>
    intro k lx σ2 h0 hk e6 e7 eh el eo
    refine r_iload_n dX7_understand_34 rfl ?_
    refine r_aload_n dX7_understand_35 rfl ?_
    refine r_get (k := 1) lfX7_15 dX7_understand_36 (Nat.le_of_ble_eq_true rfl) rfl rfl ?_
    refine i_alen (k := 3) dX7_understand_39 (Nat.le_of_ble_eq_true rfl) rfl rfl ?_
    refine i_icmp_ge 119 dX7_understand_40 rfl ⟨by omega, by omega⟩ ⟨by omega, by omega⟩ (fun q40 => ?_) (fun q40 => ?_)
    · skip
      refine r_vret rfl dX7_understand_119 ?_
      refine ⟨rfl, e6, by rw [e7, hN], fun z z0 z1 => ?_, fun z z0 z1 => ?_, eo⟩
      · rw [← hN]; exact eh z z0 (by omega)
      · rw [← hN]; exact el z z0 (by omega)
    · exfalso
      omega
  | succ n ih =>
    intro k lx σ2 h0 hk e6 e7 eh el eo
    have hnb := nF_bd b 6 n0
    rw [← hN] at hnb
    have hs2 : SB 2 σ2 b := fun z z0 z1 => by rw [eo 2 _ (by decide) (by decide) (fun q => absurd q (by decide))]; exact hs z z0 z1
    refine r_iload_n dX7_understand_34 rfl ?_
    refine r_aload_n dX7_understand_35 rfl ?_
    refine r_get (k := 1) lfX7_15 dX7_understand_36 (Nat.le_of_ble_eq_true rfl) rfl rfl ?_
    refine i_alen (k := 3) dX7_understand_39 (Nat.le_of_ble_eq_true rfl) rfl rfl ?_
    refine i_icmp_ge 119 dX7_understand_40 rfl ⟨by omega, by omega⟩ ⟨by omega, by omega⟩ (fun q40 => ?_) (fun q40 => ?_)
    · exfalso
      omega
    · skip
      refine r_iload_n dX7_understand_43 rfl ?_
      refine r_aload_n dX7_understand_44 rfl ?_
      refine r_get (k := 1) lfX7_18 dX7_understand_45 (Nat.le_of_ble_eq_true rfl) rfl rfl ?_
      refine i_alen (k := 4) dX7_understand_48 (Nat.le_of_ble_eq_true rfl) rfl rfl ?_
      refine i_icmp_ge 119 dX7_understand_49 rfl ⟨by omega, by omega⟩ ⟨by omega, by omega⟩ (fun q49 => ?_) (fun q49 => ?_)
      · exfalso
        omega
      · skip
        refine r_iload_n dX7_understand_52 rfl ?_
        refine r_aload_n dX7_understand_53 rfl ?_
        refine r_get (k := 1) lfX7_37 dX7_understand_54 (Nat.le_of_ble_eq_true rfl) rfl rfl ?_
        rw [e7]
        refine i_icmp_ge 64 dX7_understand_57 rfl ⟨by omega, by omega⟩ ⟨by omega, by omega⟩ (fun q57 => ?_) (fun q57 => ?_)
        · skip
          refine i_const dX7_understand_64 ?_
          refine r_istore_n dX7_understand_65 (Nat.le_of_ble_eq_true rfl) ?_
          refine r_aload_n dX7_understand_66 rfl ?_
          refine r_get (k := 1) lfX7_15 dX7_understand_67 (Nat.le_of_ble_eq_true rfl) rfl rfl ?_
          refine r_iload_n dX7_understand_70 rfl ?_
          refine r_iload_n dX7_understand_71 rfl ?_
          refine i_if_eq 88 dX7_understand_72 rfl ⟨by omega, by omega⟩ (fun q72 => ?_) (fun q72 => ?_)
          · skip
            refine i_const dX7_understand_88 ?_
            refine i_ast (k := 3) dX7_understand_89 (Nat.le_of_ble_eq_true rfl) rfl rfl ⟨by omega, by omega⟩ (by decide) ?_
            refine r_aload_n dX7_understand_90 rfl ?_
            refine r_get (k := 1) lfX7_18 dX7_understand_91 (Nat.le_of_ble_eq_true rfl) rfl rfl ?_
            refine r_iload_n dX7_understand_94 rfl ?_
            refine r_iload_n dX7_understand_95 rfl ?_
            refine i_if_eq 111 dX7_understand_96 rfl ⟨by omega, by omega⟩ (fun q96 => ?_) (fun q96 => ?_)
            · skip
              refine i_const dX7_understand_111 ?_
              refine i_ast (k := 4) dX7_understand_112 (Nat.le_of_ble_eq_true rfl) rfl rfl ⟨by omega, by omega⟩ (by decide) ?_
              refine i_iinc dX7_understand_113 rfl (Nat.le_of_ble_eq_true rfl) ?_
              refine r_goto 34 dX7_understand_116 rfl ?_
              exact ih (k + 1) _ _ (by omega) (by omega) (by rw [sup_k _ _ _ _ _ (show 1 ≠ 4 by decide), sup_k _ _ _ _ _ (show 1 ≠ 3 by decide)]; exact e6) (by rw [sup_k _ _ _ _ _ (show 1 ≠ 4 by decide), sup_k _ _ _ _ _ (show 1 ≠ 3 by decide)]; exact e7)
                (row_o (row_up eh h0 (by simp only [hF]; first | (rw [if_pos (by omega)]) | (rw [if_neg (by omega)]))) (by decide)) (row_up (row_o el (by decide)) h0 (by simp only [lF]; first | (rw [if_pos (by omega)]) | (rw [if_neg (by omega)])))
                (fun a i g1 g2 g3 => (sup_k _ _ _ _ _ g2).trans ((sup_k _ _ _ _ _ g1).trans (eo a i g1 g2 g3)))
            · exfalso
              omega
          · exfalso
            omega
        · skip
          refine i_const dX7_understand_60 ?_
          refine r_goto 65 dX7_understand_61 rfl ?_
          refine r_istore_n dX7_understand_65 (Nat.le_of_ble_eq_true rfl) ?_
          refine r_aload_n dX7_understand_66 rfl ?_
          refine r_get (k := 1) lfX7_15 dX7_understand_67 (Nat.le_of_ble_eq_true rfl) rfl rfl ?_
          refine r_iload_n dX7_understand_70 rfl ?_
          refine r_iload_n dX7_understand_71 rfl ?_
          refine i_if_eq 88 dX7_understand_72 rfl ⟨by omega, by omega⟩ (fun q72 => ?_) (fun q72 => ?_)
          · exfalso
            omega
          · skip
            refine r_aload_n dX7_understand_75 rfl ?_
            refine i_const dX7_understand_76 ?_
            refine r_iload_n dX7_understand_77 rfl ?_
            refine i_imul dX7_understand_78 ?_
            refine i_cvP (c_byteAt_1 σ2 b hs2 hb (4 * k) (by omega) (by omega)) lmX7_48 dX7_understand_79 (Nat.le_of_ble_eq_true rfl) rfl ⟨_, _, rfl⟩ (by decide) (by decide) rfl rfl (Nat.le_of_ble_eq_true rfl) ?_
            refine i_bipush dX7_understand_82 (by decide) ?_
            refine i_isub dX7_understand_84 ?_
            refine r_goto 89 dX7_understand_85 rfl ?_
            refine i_ast (k := 3) dX7_understand_89 (Nat.le_of_ble_eq_true rfl) rfl rfl ⟨by omega, by omega⟩ (by decide) ?_
            refine r_aload_n dX7_understand_90 rfl ?_
            refine r_get (k := 1) lfX7_18 dX7_understand_91 (Nat.le_of_ble_eq_true rfl) rfl rfl ?_
            refine r_iload_n dX7_understand_94 rfl ?_
            refine r_iload_n dX7_understand_95 rfl ?_
            refine i_if_eq 111 dX7_understand_96 rfl ⟨by omega, by omega⟩ (fun q96 => ?_) (fun q96 => ?_)
            · exfalso
              omega
            · skip
              refine r_aload_n dX7_understand_99 rfl ?_
              refine i_const dX7_understand_100 ?_
              refine r_iload_n dX7_understand_101 rfl ?_
              refine i_imul dX7_understand_102 ?_
              refine i_const dX7_understand_103 ?_
              refine i_iadd dX7_understand_104 ?_
              refine i_cvP (c_two_1 _ b (row_o hs2 (by decide)) hb (4 * k + 1) (by omega) (by omega)) lmX7_51 dX7_understand_105 (Nat.le_of_ble_eq_true rfl) rfl ⟨_, _, rfl⟩ (by decide) (by decide) rfl rfl (Nat.le_of_ble_eq_true rfl) ?_
              refine r_goto 112 dX7_understand_108 rfl ?_
              refine i_ast (k := 4) dX7_understand_112 (Nat.le_of_ble_eq_true rfl) rfl rfl ⟨by omega, by omega⟩ (by decide) ?_
              refine i_iinc dX7_understand_113 rfl (Nat.le_of_ble_eq_true rfl) ?_
              refine r_goto 34 dX7_understand_116 rfl ?_
              exact ih (k + 1) _ _ (by omega) (by omega) (by rw [sup_k _ _ _ _ _ (show 1 ≠ 4 by decide), sup_k _ _ _ _ _ (show 1 ≠ 3 by decide)]; exact e6) (by rw [sup_k _ _ _ _ _ (show 1 ≠ 4 by decide), sup_k _ _ _ _ _ (show 1 ≠ 3 by decide)]; exact e7)
                (row_o (row_up eh h0 (by simp only [hF]; first | (rw [if_pos (by omega)]) | (rw [if_neg (by omega)]))) (by decide)) (row_up (row_o el (by decide)) h0 (by simp only [lF]; first | (rw [if_pos (by omega)]) | (rw [if_neg (by omega)])))
                (fun a i g1 g2 g3 => (sup_k _ _ _ _ _ g2).trans ((sup_k _ _ _ _ _ g1).trans (eo a i g1 g2 g3)))

set_option maxRecDepth 20000 in
theorem c_understand_1 (σ : rl_S) (b : Int → Int) (hs : SB 2 σ b) (hb : BB b) (n0 : 0 ≤ σ 1 5) (n1 : σ 1 5 ≤ 23) : Ct cW mX7_understand [.ref 1] σ (qV (und_1 σ b)) := by
  refine Ct.of plX7 (Nat.le_of_ble_eq_true rfl) ?_
  have hf := fF_bd b 6 n0
  refine r_aload_n dX7_understand_0 rfl ?_
  refine r_aload_n dX7_understand_1 rfl ?_
  refine i_cvP (c_firstFault_1 σ b hs hb n0 n1) lmX7_44 dX7_understand_2 (Nat.le_of_ble_eq_true rfl) rfl ⟨_, _, rfl⟩ (by decide) (by decide) rfl rfl (Nat.le_of_ble_eq_true rfl) ?_
  refine i_put (k := 1) lpX7_21 dX7_understand_5 (Nat.le_of_ble_eq_true rfl) rfl rfl ?_
  refine r_aload_n dX7_understand_8 rfl ?_
  refine r_aload_n dX7_understand_9 rfl ?_
  refine r_get (k := 1) lfX7_21 dX7_understand_10 (Nat.le_of_ble_eq_true rfl) rfl rfl ?_
  rw [sup_h]
  refine i_const dX7_understand_13 ?_
  refine i_icmp_ne 28 dX7_understand_14 rfl ⟨by omega, by omega⟩ ⟨by omega, by omega⟩ (fun q14 => ?_) (fun q14 => ?_)
  · skip
    refine i_const dX7_understand_28 ?_
    refine i_put (k := 1) lpX7_37 dX7_understand_29 (Nat.le_of_ble_eq_true rfl) rfl rfl ?_
    refine i_const dX7_understand_32 ?_
    refine r_istore_n dX7_understand_33 (Nat.le_of_ble_eq_true rfl) ?_
    exact c_understand_l_1 σ b hs hb n0 n1 _ rfl 6 0 _ _ (by omega) (by omega) (by rw [sup_i _ _ _ _ (show (6 : Nat) ≠ 7 by decide), sup_h]) (by rw [sup_h]; unfold nF; first | (rw [if_pos q14]) | (rw [if_neg q14])) (fun z z0 z1 => absurd z1 (by omega)) (fun z z0 z1 => absurd z1 (by omega)) (fun a i g1 g2 g3 => by
        by_cases ha : a = 1
        · subst ha
          rw [sup_i _ _ _ _ (g3 rfl).2, sup_i _ _ _ _ (g3 rfl).1]
        · rw [sup_k _ _ _ _ _ ha, sup_k _ _ _ _ _ ha])
  · skip
    refine r_aload_n dX7_understand_17 rfl ?_
    refine r_get (k := 1) lfX7_31 dX7_understand_18 (Nat.le_of_ble_eq_true rfl) rfl rfl ?_
    refine i_const dX7_understand_21 ?_
    refine i_iadd dX7_understand_22 ?_
    refine i_const dX7_understand_23 ?_
    rw [sup_i _ _ _ _ (show (5 : Nat) ≠ 6 by decide)]
    refine i_idiv dX7_understand_24 ⟨by omega, by omega⟩ ⟨by omega, by omega⟩ ?_
    refine r_goto 29 dX7_understand_25 rfl ?_
    refine i_put (k := 1) lpX7_37 dX7_understand_29 (Nat.le_of_ble_eq_true rfl) rfl rfl ?_
    refine i_const dX7_understand_32 ?_
    refine r_istore_n dX7_understand_33 (Nat.le_of_ble_eq_true rfl) ?_
    exact c_understand_l_1 σ b hs hb n0 n1 _ rfl 6 0 _ _ (by omega) (by omega) (by rw [sup_i _ _ _ _ (show (6 : Nat) ≠ 7 by decide), sup_h]) (by rw [sup_h]; unfold nF; first | (rw [if_pos q14]) | (rw [if_neg q14])) (fun z z0 z1 => absurd z1 (by omega)) (fun z z0 z1 => absurd z1 (by omega)) (fun a i g1 g2 g3 => by
        by_cases ha : a = 1
        · subst ha
          rw [sup_i _ _ _ _ (g3 rfl).2, sup_i _ _ _ _ (g3 rfl).1]
        · rw [sup_k _ _ _ _ _ ha, sup_k _ _ _ _ _ ha])

set_option maxRecDepth 20000 in
theorem c_shorten_1 (σ : rl_S) (b : Int → Int) (hs : SB 2 σ b) (hb : BB b) (v : Int) (n0 : 0 ≤ v) (n1 : v ≤ 23) : Ct cW mX7_shorten [.ref 1, .int (iI v)] σ (qV (und_1 (sup σ 1 5 v) b)) := by
  refine Ct.of plX7 (Nat.le_of_ble_eq_true rfl) ?_
  refine r_aload_n dX7_shorten_0 rfl ?_
  refine r_iload_n dX7_shorten_1 rfl ?_
  refine i_put (k := 1) lpX7_31 dX7_shorten_2 (Nat.le_of_ble_eq_true rfl) rfl rfl ?_
  refine r_aload_n dX7_shorten_5 rfl ?_
  refine i_cvV (c_understand_1 _ b (fun z z0 z1 => (sup_k _ _ _ _ _ (by decide)).trans (hs z z0 z1)) hb (by rw [sup_h]; exact n0) (by rw [sup_h]; exact n1)) lmX7_34 dX7_shorten_6 (Nat.le_of_ble_eq_true rfl) rfl ⟨_, _, rfl⟩ (by decide) (by decide) rfl rfl (Nat.le_of_ble_eq_true rfl) (fun σ1 hu => ?_)
  refine r_vret rfl dX7_shorten_9 ?_
  exact ⟨rfl, hu⟩

set_option maxRecDepth 20000 in
theorem c_append_1 (σ : rl_S) (b : Int → Int) (hs : SB 2 σ b) (hb : BB b) (v : Int) (v0 : 0 ≤ v ∧ v ≤ 255) (n0 : 0 ≤ σ 1 5) (n1 : σ 1 5 < 23) : Ct cW mX7_append [.ref 1, .int (iI v)] σ (qV (und_1 (sup (sup σ 2 (σ 1 5).toNat v) 1 5 (σ 1 5 + 1)) (bUp b (σ 1 5) v))) := by
  refine Ct.of plX7 (Nat.le_of_ble_eq_true rfl) ?_
  refine r_aload_n dX7_append_0 rfl ?_
  refine r_get (k := 1) lfX7_31 dX7_append_1 (Nat.le_of_ble_eq_true rfl) rfl rfl ?_
  refine i_if_lt 43 dX7_append_4 rfl ⟨by omega, by omega⟩ (fun q4 => ?_) (fun q4 => ?_)
  · exfalso
    omega
  · skip
    refine r_aload_n dX7_append_7 rfl ?_
    refine r_get (k := 1) lfX7_31 dX7_append_8 (Nat.le_of_ble_eq_true rfl) rfl rfl ?_
    refine r_aload_n dX7_append_11 rfl ?_
    refine r_get (k := 1) lfX7_9 dX7_append_12 (Nat.le_of_ble_eq_true rfl) rfl rfl ?_
    refine i_alen (k := 2) dX7_append_15 (Nat.le_of_ble_eq_true rfl) rfl rfl ?_
    refine i_icmp_ge 43 dX7_append_16 rfl ⟨by omega, by omega⟩ ⟨by omega, by omega⟩ (fun q16 => ?_) (fun q16 => ?_)
    · exfalso
      omega
    · skip
      refine r_aload_n dX7_append_19 rfl ?_
      refine r_get (k := 1) lfX7_9 dX7_append_20 (Nat.le_of_ble_eq_true rfl) rfl rfl ?_
      refine r_aload_n dX7_append_23 rfl ?_
      refine r_get (k := 1) lfX7_31 dX7_append_24 (Nat.le_of_ble_eq_true rfl) rfl rfl ?_
      refine r_iload_n dX7_append_27 rfl ?_
      refine i_ast (k := 2) dX7_append_28 (Nat.le_of_ble_eq_true rfl) rfl rfl ⟨by omega, by omega⟩ (by decide) ?_
      refine r_aload_n dX7_append_29 rfl ?_
      refine r_dup dX7_append_30 rfl ?_
      refine r_get (k := 1) lfX7_31 dX7_append_31 (Nat.le_of_ble_eq_true rfl) rfl rfl ?_
      rw [sup_k _ _ _ _ _ (show 1 ≠ 2 by decide)]
      refine i_const dX7_append_34 ?_
      refine i_iadd dX7_append_35 ?_
      refine i_put (k := 1) lpX7_31 dX7_append_36 (Nat.le_of_ble_eq_true rfl) rfl rfl ?_
      refine r_aload_n dX7_append_39 rfl ?_
      refine i_cvV (c_understand_1 _ (bUp b (σ 1 5) v) (fun z z0 z1 => (sup_k _ _ _ _ _ (by decide)).trans (by
          unfold bUp
          by_cases hz : z = σ 1 5
          · rw [if_pos hz, hz, sup_h]
          · rw [if_neg hz, sup_i _ _ _ _ (by omega)]
            exact hs z z0 z1))
          (fun z z0 z1 => by
            unfold bUp
            by_cases hz : z = σ 1 5
            · rw [if_pos hz]; exact v0
            · rw [if_neg hz]; exact hb z z0 z1) (by rw [sup_h]; omega) (by rw [sup_h]; omega)) lmX7_34 dX7_append_40 (Nat.le_of_ble_eq_true rfl) rfl ⟨_, _, rfl⟩ (by decide) (by decide) rfl rfl (Nat.le_of_ble_eq_true rfl) (fun σ1 hu => ?_)
      refine r_vret rfl dX7_append_43 ?_
      exact ⟨rfl, hu⟩

set_option maxRecDepth 20000 in
theorem c_byteAt_5 (σ : rl_S) (b : Int → Int) (hs : SB 6 σ b) (hb : BB b) (t : Int) (h0 : 0 ≤ t) (h1 : t < 23) : Ct cW mX7_byteAt [.ref 5, .int (iI t)] σ (pR (.int (iI (b t))) σ) := by
  refine Ct.of plX7 (Nat.le_of_ble_eq_true rfl) ?_
  refine r_iload_n dX7_byteAt_0 rfl ?_
  refine i_if_lt 22 dX7_byteAt_1 rfl ⟨by omega, by omega⟩ (fun q1 => ?_) (fun q1 => ?_)
  · exfalso
    omega
  · skip
    refine r_iload_n dX7_byteAt_4 rfl ?_
    refine r_aload_n dX7_byteAt_5 rfl ?_
    refine r_get (k := 5) lfX7_9 dX7_byteAt_6 (Nat.le_of_ble_eq_true rfl) rfl rfl ?_
    refine i_alen (k := 6) dX7_byteAt_9 (Nat.le_of_ble_eq_true rfl) rfl rfl ?_
    refine i_icmp_ge 22 dX7_byteAt_10 rfl ⟨by omega, by omega⟩ ⟨by omega, by omega⟩ (fun q10 => ?_) (fun q10 => ?_)
    · exfalso
      omega
    · skip
      refine r_aload_n dX7_byteAt_13 rfl ?_
      refine r_get (k := 5) lfX7_9 dX7_byteAt_14 (Nat.le_of_ble_eq_true rfl) rfl rfl ?_
      refine r_iload_n dX7_byteAt_17 rfl ?_
      refine i_ald (k := 6) dX7_byteAt_18 (Nat.le_of_ble_eq_true rfl) rfl rfl ⟨by omega, by omega⟩ (by decide) ?_
      refine r_goto 23 dX7_byteAt_19 rfl ?_
      refine r_iret rfl dX7_byteAt_23 ?_
      exact ⟨by rw [hs t h0 h1], rfl⟩

set_option maxRecDepth 20000 in
theorem c_two_5 (σ : rl_S) (b : Int → Int) (hs : SB 6 σ b) (hb : BB b) (t : Int) (h0 : 0 ≤ t) (h1 : t < 22) : Ct cW mX7_twoFiguresAt [.ref 5, .int (iI t)] σ (pR (.int (iI (two b t))) σ) := by
  refine Ct.of plX7 (Nat.le_of_ble_eq_true rfl) ?_
  refine i_bipush dX7_twoFiguresAt_0 (by decide) ?_
  refine r_aload_n dX7_twoFiguresAt_2 rfl ?_
  refine r_iload_n dX7_twoFiguresAt_3 rfl ?_
  refine i_cvP (c_byteAt_5 σ b hs hb t h0 (by omega)) lmX7_48 dX7_twoFiguresAt_4 (Nat.le_of_ble_eq_true rfl) rfl ⟨_, _, rfl⟩ (by decide) (by decide) rfl rfl (Nat.le_of_ble_eq_true rfl) ?_
  refine i_bipush dX7_twoFiguresAt_7 (by decide) ?_
  refine i_isub dX7_twoFiguresAt_9 ?_
  refine i_imul dX7_twoFiguresAt_10 ?_
  refine r_aload_n dX7_twoFiguresAt_11 rfl ?_
  refine r_iload_n dX7_twoFiguresAt_12 rfl ?_
  refine i_const dX7_twoFiguresAt_13 ?_
  refine i_iadd dX7_twoFiguresAt_14 ?_
  refine i_cvP (c_byteAt_5 σ b hs hb (t + 1) (by omega) (by omega)) lmX7_48 dX7_twoFiguresAt_15 (Nat.le_of_ble_eq_true rfl) rfl ⟨_, _, rfl⟩ (by decide) (by decide) rfl rfl (Nat.le_of_ble_eq_true rfl) ?_
  refine i_bipush dX7_twoFiguresAt_18 (by decide) ?_
  refine i_isub dX7_twoFiguresAt_20 ?_
  refine i_iadd dX7_twoFiguresAt_21 ?_
  refine r_iret rfl dX7_twoFiguresAt_22 ?_
  exact ⟨rfl, rfl⟩

set_option maxRecDepth 20000 in
theorem c_goesOn_5 (σ : rl_S) (b : Int → Int) (hs : SB 6 σ b) (hb : BB b) (t : Int) (h0 : 0 ≤ t) (h1 : t < 23) : Ct cW mX7_goesOn [.ref 5, .int (iI t)] σ (pR (.int (iI (ob (okA b 1 t)))) σ) := by
  refine Ct.of plX7 (Nat.le_of_ble_eq_true rfl) ?_
  have b0 := hb t h0 h1
  refine r_iload_n dX7_goesOn_0 rfl ?_
  refine i_const dX7_goesOn_1 ?_
  refine i_irem dX7_goesOn_2 ⟨by omega, by omega⟩ ⟨by omega, by omega⟩ ?_
  refine i_const dX7_goesOn_3 ?_
  refine i_icmp_ne 23 dX7_goesOn_4 rfl ⟨by omega, by omega⟩ ⟨by omega, by omega⟩ (fun q4 => ?_) (fun q4 => ?_)
  · skip
    refine r_aload_n dX7_goesOn_23 rfl ?_
    refine r_iload_n dX7_goesOn_24 rfl ?_
    refine i_cvP (c_byteAt_5 σ b hs hb t h0 h1) lmX7_48 dX7_goesOn_25 (Nat.le_of_ble_eq_true rfl) rfl ⟨_, _, rfl⟩ (by decide) (by decide) rfl rfl (Nat.le_of_ble_eq_true rfl) ?_
    refine i_bipush dX7_goesOn_28 (by decide) ?_
    refine i_icmp_lt 43 dX7_goesOn_30 rfl ⟨by omega, by omega⟩ ⟨by omega, by omega⟩ (fun q30 => ?_) (fun q30 => ?_)
    · skip
      refine i_const dX7_goesOn_43 ?_
      refine r_zret rfl dX7_goesOn_44 rfl ?_
      refine ⟨?_, rfl⟩
      first
        | (have e : okA b 1 t = true := by
            simp only [okA]
            (repeat (first | (rw [if_pos (by omega)]) | (rw [if_neg (by omega)])))
            simp only [Bool.and_eq_true, decide_eq_true_eq, and_true]
            omega
           rw [e]; rfl)
        | (have e : okA b 1 t = false := by
            simp only [okA]
            (repeat (first | (rw [if_pos (by omega)]) | (rw [if_neg (by omega)])))
            simp only [Bool.and_eq_false_iff, decide_eq_false_iff_not, Bool.true_eq_false, or_false]
            omega
           rw [e]; rfl)
    · skip
      refine r_aload_n dX7_goesOn_33 rfl ?_
      refine r_iload_n dX7_goesOn_34 rfl ?_
      refine i_cvP (c_byteAt_5 σ b hs hb t h0 h1) lmX7_48 dX7_goesOn_35 (Nat.le_of_ble_eq_true rfl) rfl ⟨_, _, rfl⟩ (by decide) (by decide) rfl rfl (Nat.le_of_ble_eq_true rfl) ?_
      refine i_bipush dX7_goesOn_38 (by decide) ?_
      refine i_icmp_le 45 dX7_goesOn_40 rfl ⟨by omega, by omega⟩ ⟨by omega, by omega⟩ (fun q40 => ?_) (fun q40 => ?_)
      · skip
        refine r_iload_n dX7_goesOn_45 rfl ?_
        refine i_const dX7_goesOn_46 ?_
        refine i_irem dX7_goesOn_47 ⟨by omega, by omega⟩ ⟨by omega, by omega⟩ ?_
        refine i_if_ne 67 dX7_goesOn_48 rfl ⟨by omega, by omega⟩ (fun q48 => ?_) (fun q48 => ?_)
        · skip
          refine r_iload_n dX7_goesOn_67 rfl ?_
          refine i_const dX7_goesOn_68 ?_
          refine i_irem dX7_goesOn_69 ⟨by omega, by omega⟩ ⟨by omega, by omega⟩ ?_
          refine i_const dX7_goesOn_70 ?_
          refine i_icmp_eq 85 dX7_goesOn_71 rfl ⟨by omega, by omega⟩ ⟨by omega, by omega⟩ (fun q71 => ?_) (fun q71 => ?_)
          · skip
            refine i_const dX7_goesOn_85 ?_
            refine r_goto 90 dX7_goesOn_86 rfl ?_
            refine r_zret rfl dX7_goesOn_90 rfl ?_
            refine ⟨?_, rfl⟩
            first
              | (have e : okA b 1 t = true := by
                  simp only [okA]
                  (repeat (first | (rw [if_pos (by omega)]) | (rw [if_neg (by omega)])))
                  simp only [Bool.and_eq_true, decide_eq_true_eq, and_true]
                  omega
                 rw [e]; rfl)
              | (have e : okA b 1 t = false := by
                  simp only [okA]
                  (repeat (first | (rw [if_pos (by omega)]) | (rw [if_neg (by omega)])))
                  simp only [Bool.and_eq_false_iff, decide_eq_false_iff_not, Bool.true_eq_false, or_false]
                  omega
                 rw [e]; rfl)
          · skip
            refine r_aload_n dX7_goesOn_74 rfl ?_
            refine r_iload_n dX7_goesOn_75 rfl ?_
            refine i_const dX7_goesOn_76 ?_
            refine i_isub dX7_goesOn_77 ?_
            have b1 := hb (t - 1) (by omega) (by omega)
            refine i_cvP (c_two_5 σ b hs hb (t - 1) (by omega) (by omega)) lmX7_51 dX7_goesOn_78 (Nat.le_of_ble_eq_true rfl) rfl ⟨_, _, rfl⟩ (by decide) (by decide) rfl rfl (Nat.le_of_ble_eq_true rfl) ?_
            have b2 : two b (t - 1) = 10 * (b (t - 1) - 48) + (b (t - 1 + 1) - 48) := rfl
            have b3 : t - 1 + 1 = t := by omega
            rw [b3] at b2
            refine i_const dX7_goesOn_81 ?_
            refine i_icmp_lt 89 dX7_goesOn_82 rfl ⟨by omega, by omega⟩ ⟨by omega, by omega⟩ (fun q82 => ?_) (fun q82 => ?_)
            · skip
              refine i_const dX7_goesOn_89 ?_
              refine r_zret rfl dX7_goesOn_90 rfl ?_
              refine ⟨?_, rfl⟩
              first
                | (have e : okA b 1 t = true := by
                    simp only [okA]
                    (repeat (first | (rw [if_pos (by omega)]) | (rw [if_neg (by omega)])))
                    simp only [Bool.and_eq_true, decide_eq_true_eq, and_true]
                    omega
                   rw [e]; rfl)
                | (have e : okA b 1 t = false := by
                    simp only [okA]
                    (repeat (first | (rw [if_pos (by omega)]) | (rw [if_neg (by omega)])))
                    simp only [Bool.and_eq_false_iff, decide_eq_false_iff_not, Bool.true_eq_false, or_false]
                    omega
                   rw [e]; rfl)
            · skip
              refine i_const dX7_goesOn_85 ?_
              refine r_goto 90 dX7_goesOn_86 rfl ?_
              refine r_zret rfl dX7_goesOn_90 rfl ?_
              refine ⟨?_, rfl⟩
              first
                | (have e : okA b 1 t = true := by
                    simp only [okA]
                    (repeat (first | (rw [if_pos (by omega)]) | (rw [if_neg (by omega)])))
                    simp only [Bool.and_eq_true, decide_eq_true_eq, and_true]
                    omega
                   rw [e]; rfl)
                | (have e : okA b 1 t = false := by
                    simp only [okA]
                    (repeat (first | (rw [if_pos (by omega)]) | (rw [if_neg (by omega)])))
                    simp only [Bool.and_eq_false_iff, decide_eq_false_iff_not, Bool.true_eq_false, or_false]
                    omega
                   rw [e]; rfl)
        · skip
          refine r_iload_n dX7_goesOn_51 rfl ?_
          refine i_const dX7_goesOn_52 ?_
          refine i_idiv dX7_goesOn_53 ⟨by omega, by omega⟩ ⟨by omega, by omega⟩ ?_
          refine r_aload_n dX7_goesOn_54 rfl ?_
          refine r_get (k := 5) lfX7_28 dX7_goesOn_55 (Nat.le_of_ble_eq_true rfl) rfl rfl ?_
          rw [show Value.int 1 = .int (iI 1) from rfl]
          refine i_icmp_ge 65 dX7_goesOn_58 rfl ⟨by omega, by omega⟩ ⟨by omega, by omega⟩ (fun q58 => ?_) (fun q58 => ?_)
          · skip
            refine i_const dX7_goesOn_65 ?_
            refine r_zret rfl dX7_goesOn_66 rfl ?_
            refine ⟨?_, rfl⟩
            first
              | (have e : okA b 1 t = true := by
                  simp only [okA]
                  (repeat (first | (rw [if_pos (by omega)]) | (rw [if_neg (by omega)])))
                  simp only [Bool.and_eq_true, decide_eq_true_eq, and_true]
                  omega
                 rw [e]; rfl)
              | (have e : okA b 1 t = false := by
                  simp only [okA]
                  (repeat (first | (rw [if_pos (by omega)]) | (rw [if_neg (by omega)])))
                  simp only [Bool.and_eq_false_iff, decide_eq_false_iff_not, Bool.true_eq_false, or_false]
                  omega
                 rw [e]; rfl)
          · skip
            refine i_const dX7_goesOn_61 ?_
            refine r_goto 66 dX7_goesOn_62 rfl ?_
            refine r_zret rfl dX7_goesOn_66 rfl ?_
            refine ⟨?_, rfl⟩
            first
              | (have e : okA b 1 t = true := by
                  simp only [okA]
                  (repeat (first | (rw [if_pos (by omega)]) | (rw [if_neg (by omega)])))
                  simp only [Bool.and_eq_true, decide_eq_true_eq, and_true]
                  omega
                 rw [e]; rfl)
              | (have e : okA b 1 t = false := by
                  simp only [okA]
                  (repeat (first | (rw [if_pos (by omega)]) | (rw [if_neg (by omega)])))
                  simp only [Bool.and_eq_false_iff, decide_eq_false_iff_not, Bool.true_eq_false, or_false]
                  omega
                 rw [e]; rfl)
      · skip
        refine i_const dX7_goesOn_43 ?_
        refine r_zret rfl dX7_goesOn_44 rfl ?_
        refine ⟨?_, rfl⟩
        first
          | (have e : okA b 1 t = true := by
              simp only [okA]
              (repeat (first | (rw [if_pos (by omega)]) | (rw [if_neg (by omega)])))
              simp only [Bool.and_eq_true, decide_eq_true_eq, and_true]
              omega
             rw [e]; rfl)
          | (have e : okA b 1 t = false := by
              simp only [okA]
              (repeat (first | (rw [if_pos (by omega)]) | (rw [if_neg (by omega)])))
              simp only [Bool.and_eq_false_iff, decide_eq_false_iff_not, Bool.true_eq_false, or_false]
              omega
             rw [e]; rfl)
  · skip
    refine r_aload_n dX7_goesOn_7 rfl ?_
    refine r_iload_n dX7_goesOn_8 rfl ?_
    refine i_cvP (c_byteAt_5 σ b hs hb t h0 h1) lmX7_48 dX7_goesOn_9 (Nat.le_of_ble_eq_true rfl) rfl ⟨_, _, rfl⟩ (by decide) (by decide) rfl rfl (Nat.le_of_ble_eq_true rfl) ?_
    refine i_bipush dX7_goesOn_12 (by decide) ?_
    refine i_icmp_ne 21 dX7_goesOn_14 rfl ⟨by omega, by omega⟩ ⟨by omega, by omega⟩ (fun q14 => ?_) (fun q14 => ?_)
    · skip
      refine i_const dX7_goesOn_21 ?_
      refine r_zret rfl dX7_goesOn_22 rfl ?_
      refine ⟨?_, rfl⟩
      first
        | (have e : okA b 1 t = true := by
            simp only [okA]
            (repeat (first | (rw [if_pos (by omega)]) | (rw [if_neg (by omega)])))
            simp only [Bool.and_eq_true, decide_eq_true_eq, and_true]
            omega
           rw [e]; rfl)
        | (have e : okA b 1 t = false := by
            simp only [okA]
            (repeat (first | (rw [if_pos (by omega)]) | (rw [if_neg (by omega)])))
            simp only [Bool.and_eq_false_iff, decide_eq_false_iff_not, Bool.true_eq_false, or_false]
            omega
           rw [e]; rfl)
    · skip
      refine i_const dX7_goesOn_17 ?_
      refine r_goto 22 dX7_goesOn_18 rfl ?_
      refine r_zret rfl dX7_goesOn_22 rfl ?_
      refine ⟨?_, rfl⟩
      first
        | (have e : okA b 1 t = true := by
            simp only [okA]
            (repeat (first | (rw [if_pos (by omega)]) | (rw [if_neg (by omega)])))
            simp only [Bool.and_eq_true, decide_eq_true_eq, and_true]
            omega
           rw [e]; rfl)
        | (have e : okA b 1 t = false := by
            simp only [okA]
            (repeat (first | (rw [if_pos (by omega)]) | (rw [if_neg (by omega)])))
            simp only [Bool.and_eq_false_iff, decide_eq_false_iff_not, Bool.true_eq_false, or_false]
            omega
           rw [e]; rfl)

theorem c_firstFault_l_5 (σ : rl_S) (b : Int → Int) (hs : SB 6 σ b) (hb : BB b) (n0 : 0 ≤ σ 5 5) (n1 : σ 5 5 ≤ 23) : ∀ (n : Nat) (k : Int), 0 ≤ k → k + n = σ 5 5 → ∀ z, z = flt b 1 (σ 5 5) n k → Rn cW mX7_firstFault 2 [.ref 5, .int (iI k)] [] σ (pR (.int (iI z)) σ) := by
  intro n
  induction n with
  | zero =>
    intro k h0 hk z hz
    simp only [flt] at hz
    refine r_iload_n dX7_firstFault_2 rfl ?_
    refine r_aload_n dX7_firstFault_3 rfl ?_
    refine r_get (k := 5) lfX7_31 dX7_firstFault_4 (Nat.le_of_ble_eq_true rfl) rfl rfl ?_
    refine i_icmp_ge 26 dX7_firstFault_7 rfl ⟨by omega, by omega⟩ ⟨by omega, by omega⟩ (fun q7 => ?_) (fun q7 => ?_)
    · skip
      refine r_aload_n dX7_firstFault_26 rfl ?_
      refine r_get (k := 5) lfX7_31 dX7_firstFault_27 (Nat.le_of_ble_eq_true rfl) rfl rfl ?_
      refine i_if_eq 43 dX7_firstFault_30 rfl ⟨by omega, by omega⟩ (fun q30 => ?_) (fun q30 => ?_)
      · skip
        refine i_const dX7_firstFault_43 ?_
        refine r_goto 51 dX7_firstFault_44 rfl ?_
        refine r_iret rfl dX7_firstFault_51 ?_
        exact ⟨by rw [hz]; (repeat (first | rfl | (rw [if_pos (by omega)]) | (rw [if_neg (by omega)]))), rfl⟩
      · skip
        refine r_aload_n dX7_firstFault_33 rfl ?_
        refine r_get (k := 5) lfX7_31 dX7_firstFault_34 (Nat.le_of_ble_eq_true rfl) rfl rfl ?_
        refine i_const dX7_firstFault_37 ?_
        refine i_irem dX7_firstFault_38 ⟨by omega, by omega⟩ ⟨by omega, by omega⟩ ?_
        refine i_const dX7_firstFault_39 ?_
        refine i_icmp_ne 47 dX7_firstFault_40 rfl ⟨by omega, by omega⟩ ⟨by omega, by omega⟩ (fun q40 => ?_) (fun q40 => ?_)
        · skip
          refine r_aload_n dX7_firstFault_47 rfl ?_
          refine r_get (k := 5) lfX7_31 dX7_firstFault_48 (Nat.le_of_ble_eq_true rfl) rfl rfl ?_
          refine r_iret rfl dX7_firstFault_51 ?_
          exact ⟨by rw [hz]; (repeat (first | rfl | (rw [if_pos (by omega)]) | (rw [if_neg (by omega)]))), rfl⟩
        · skip
          refine i_const dX7_firstFault_43 ?_
          refine r_goto 51 dX7_firstFault_44 rfl ?_
          refine r_iret rfl dX7_firstFault_51 ?_
          exact ⟨by rw [hz]; (repeat (first | rfl | (rw [if_pos (by omega)]) | (rw [if_neg (by omega)]))), rfl⟩
    · exfalso
      omega
  | succ n ih =>
    intro k h0 hk z hz
    have ho := ob_bd (okA b 1 k)
    simp only [flt] at hz
    refine r_iload_n dX7_firstFault_2 rfl ?_
    refine r_aload_n dX7_firstFault_3 rfl ?_
    refine r_get (k := 5) lfX7_31 dX7_firstFault_4 (Nat.le_of_ble_eq_true rfl) rfl rfl ?_
    refine i_icmp_ge 26 dX7_firstFault_7 rfl ⟨by omega, by omega⟩ ⟨by omega, by omega⟩ (fun q7 => ?_) (fun q7 => ?_)
    · exfalso
      omega
    · skip
      refine r_aload_n dX7_firstFault_10 rfl ?_
      refine r_iload_n dX7_firstFault_11 rfl ?_
      refine i_cvP (c_goesOn_5 σ b hs hb k h0 (by omega)) lmX7_54 dX7_firstFault_12 (Nat.le_of_ble_eq_true rfl) rfl ⟨_, _, rfl⟩ (by decide) (by decide) rfl rfl (Nat.le_of_ble_eq_true rfl) ?_
      refine i_if_ne 20 dX7_firstFault_15 rfl ⟨by omega, by omega⟩ (fun q15 => ?_) (fun q15 => ?_)
      · skip
        refine i_iinc dX7_firstFault_20 rfl (Nat.le_of_ble_eq_true rfl) ?_
        refine r_goto 2 dX7_firstFault_23 rfl ?_
        rw [if_pos (ob_t q15)] at hz
        exact ih (k + 1) (by omega) (by omega) z hz
      · skip
        refine r_iload_n dX7_firstFault_18 rfl ?_
        refine r_iret rfl dX7_firstFault_19 ?_
        rw [if_neg (by rw [ob_f q15]; decide)] at hz
        exact ⟨by rw [hz], rfl⟩

set_option maxRecDepth 20000 in
theorem c_firstFault_5 (σ : rl_S) (b : Int → Int) (hs : SB 6 σ b) (hb : BB b) (n0 : 0 ≤ σ 5 5) (n1 : σ 5 5 ≤ 23) : Ct cW mX7_firstFault [.ref 5] σ (pR (.int (iI (fF b 1 (σ 5 5)))) σ) := by
  refine Ct.of plX7 (Nat.le_of_ble_eq_true rfl) ?_
  refine i_const dX7_firstFault_0 ?_
  refine r_istore_n dX7_firstFault_1 (Nat.le_of_ble_eq_true rfl) ?_
  exact c_firstFault_l_5 σ b hs hb n0 n1 (σ 5 5).toNat 0 (by omega) (by omega) _ rfl

set_option maxRecDepth 20000 in
theorem c_heightOf_5 (σ : rl_S) (f : Int → Int) (hs : S6 7 σ f) (t : Int) (h0 : 0 ≤ t) (h1 : t < 6) : Ct cW mX7_heightOf [.ref 5, .int (iI t)] σ (pR (.int (iI (f t))) σ) := by
  refine Ct.of plX7 (Nat.le_of_ble_eq_true rfl) ?_
  refine r_iload_n dX7_heightOf_0 rfl ?_
  refine i_if_lt 22 dX7_heightOf_1 rfl ⟨by omega, by omega⟩ (fun q1 => ?_) (fun q1 => ?_)
  · exfalso
    omega
  · skip
    refine r_iload_n dX7_heightOf_4 rfl ?_
    refine r_aload_n dX7_heightOf_5 rfl ?_
    refine r_get (k := 5) lfX7_15 dX7_heightOf_6 (Nat.le_of_ble_eq_true rfl) rfl rfl ?_
    refine i_alen (k := 7) dX7_heightOf_9 (Nat.le_of_ble_eq_true rfl) rfl rfl ?_
    refine i_icmp_ge 22 dX7_heightOf_10 rfl ⟨by omega, by omega⟩ ⟨by omega, by omega⟩ (fun q10 => ?_) (fun q10 => ?_)
    · exfalso
      omega
    · skip
      refine r_aload_n dX7_heightOf_13 rfl ?_
      refine r_get (k := 5) lfX7_15 dX7_heightOf_14 (Nat.le_of_ble_eq_true rfl) rfl rfl ?_
      refine r_iload_n dX7_heightOf_17 rfl ?_
      refine i_ald (k := 7) dX7_heightOf_18 (Nat.le_of_ble_eq_true rfl) rfl rfl ⟨by omega, by omega⟩ (by decide) ?_
      refine r_goto 23 dX7_heightOf_19 rfl ?_
      refine r_iret rfl dX7_heightOf_23 ?_
      exact ⟨by rw [hs t h0 h1], rfl⟩

set_option maxRecDepth 20000 in
theorem c_lengthOf_5 (σ : rl_S) (f : Int → Int) (hs : S6 8 σ f) (t : Int) (h0 : 0 ≤ t) (h1 : t < 6) : Ct cW mX7_lengthOf [.ref 5, .int (iI t)] σ (pR (.int (iI (f t))) σ) := by
  refine Ct.of plX7 (Nat.le_of_ble_eq_true rfl) ?_
  refine r_iload_n dX7_lengthOf_0 rfl ?_
  refine i_if_lt 22 dX7_lengthOf_1 rfl ⟨by omega, by omega⟩ (fun q1 => ?_) (fun q1 => ?_)
  · exfalso
    omega
  · skip
    refine r_iload_n dX7_lengthOf_4 rfl ?_
    refine r_aload_n dX7_lengthOf_5 rfl ?_
    refine r_get (k := 5) lfX7_18 dX7_lengthOf_6 (Nat.le_of_ble_eq_true rfl) rfl rfl ?_
    refine i_alen (k := 8) dX7_lengthOf_9 (Nat.le_of_ble_eq_true rfl) rfl rfl ?_
    refine i_icmp_ge 22 dX7_lengthOf_10 rfl ⟨by omega, by omega⟩ ⟨by omega, by omega⟩ (fun q10 => ?_) (fun q10 => ?_)
    · exfalso
      omega
    · skip
      refine r_aload_n dX7_lengthOf_13 rfl ?_
      refine r_get (k := 5) lfX7_18 dX7_lengthOf_14 (Nat.le_of_ble_eq_true rfl) rfl rfl ?_
      refine r_iload_n dX7_lengthOf_17 rfl ?_
      refine i_ald (k := 8) dX7_lengthOf_18 (Nat.le_of_ble_eq_true rfl) rfl rfl ⟨by omega, by omega⟩ (by decide) ?_
      refine r_goto 23 dX7_lengthOf_19 rfl ?_
      refine r_iret rfl dX7_lengthOf_23 ?_
      exact ⟨by rw [hs t h0 h1], rfl⟩

set_option maxRecDepth 20000 in
theorem c_isFull_5 (σ : rl_S) (n0 : 0 ≤ σ 5 5) (n1 : σ 5 5 ≤ 23) : Ct cW mX7_isFull [.ref 5] σ (pR (.int (iI (ob (decide (3 ≤ σ 5 5))))) σ) := by
  refine Ct.of plX7 (Nat.le_of_ble_eq_true rfl) ?_
  refine r_aload_n dX7_isFull_0 rfl ?_
  refine r_get (k := 5) lfX7_31 dX7_isFull_1 (Nat.le_of_ble_eq_true rfl) rfl rfl ?_
  refine r_aload_n dX7_isFull_4 rfl ?_
  refine r_get (k := 5) lfX7_25 dX7_isFull_5 (Nat.le_of_ble_eq_true rfl) rfl rfl ?_
  rw [show Value.int 3 = .int (iI 3) from rfl]
  refine i_icmp_lt 15 dX7_isFull_8 rfl ⟨by omega, by omega⟩ ⟨by omega, by omega⟩ (fun q8 => ?_) (fun q8 => ?_)
  · skip
    refine i_const dX7_isFull_15 ?_
    refine r_zret rfl dX7_isFull_16 rfl ?_
    first
      | (refine ⟨?_, rfl⟩; rw [decide_eq_true (by omega)]; rfl)
      | (refine ⟨?_, rfl⟩; rw [decide_eq_false (by omega)]; rfl)
  · skip
    refine i_const dX7_isFull_11 ?_
    refine r_goto 16 dX7_isFull_12 rfl ?_
    refine r_zret rfl dX7_isFull_16 rfl ?_
    first
      | (refine ⟨?_, rfl⟩; rw [decide_eq_true (by omega)]; rfl)
      | (refine ⟨?_, rfl⟩; rw [decide_eq_false (by omega)]; rfl)

/-- what understanding a text does -/
def und_5 (σ : rl_S) (b : Int → Int) : rl_S → Prop := fun σ2 => σ2 5 6 = fF b 1 (σ 5 5) ∧ σ2 5 7 = nF b 1 (σ 5 5) ∧ S6 7 σ2 (hF b (nF b 1 (σ 5 5))) ∧ S6 8 σ2 (lF b (nF b 1 (σ 5 5))) ∧ ∀ k i, k ≠ 7 → k ≠ 8 → (k = 5 → i ≠ 6 ∧ i ≠ 7) → σ2 k i = σ k i
theorem c_understand_l_5 (σ : rl_S) (b : Int → Int) (hs : SB 6 σ b) (hb : BB b) (n0 : 0 ≤ σ 5 5) (n1 : σ 5 5 ≤ 23) (N : Int) (hN : N = nF b 1 (σ 5 5)) : ∀ (n : Nat) (k : Int) (lx : Value) (σ2 : rl_S), 0 ≤ k → k + n = 6 →
    σ2 5 6 = fF b 1 (σ 5 5) → σ2 5 7 = N → (∀ z : Int, 0 ≤ z → z < k → σ2 7 z.toNat = hF b N z) → (∀ z : Int, 0 ≤ z → z < k → σ2 8 z.toNat = lF b N z) → (∀ k i, k ≠ 7 → k ≠ 8 → (k = 5 → i ≠ 6 ∧ i ≠ 7) → σ2 k i = σ k i) →
    Rn cW mX7_understand 34 [.ref 5, .int (iI k), lx] [] σ2 (qV (und_5 σ b)) := by
  intro n
  induction n with
  | zero =>
    intro k lx σ2 h0 hk e6 e7 eh el eo
    refine r_iload_n dX7_understand_34 rfl ?_
    refine r_aload_n dX7_understand_35 rfl ?_
    refine r_get (k := 5) lfX7_15 dX7_understand_36 (Nat.le_of_ble_eq_true rfl) rfl rfl ?_
    refine i_alen (k := 7) dX7_understand_39 (Nat.le_of_ble_eq_true rfl) rfl rfl ?_
    refine i_icmp_ge 119 dX7_understand_40 rfl ⟨by omega, by omega⟩ ⟨by omega, by omega⟩ (fun q40 => ?_) (fun q40 => ?_)
    · skip
      refine r_vret rfl dX7_understand_119 ?_
      refine ⟨rfl, e6, by rw [e7, hN], fun z z0 z1 => ?_, fun z z0 z1 => ?_, eo⟩
      · rw [← hN]; exact eh z z0 (by omega)
      · rw [← hN]; exact el z z0 (by omega)
    · exfalso
      omega
  | succ n ih =>
    intro k lx σ2 h0 hk e6 e7 eh el eo
    have hnb := nF_bd b 1 n0
    rw [← hN] at hnb
    have hs2 : SB 6 σ2 b := fun z z0 z1 => by rw [eo 6 _ (by decide) (by decide) (fun q => absurd q (by decide))]; exact hs z z0 z1
    refine r_iload_n dX7_understand_34 rfl ?_
    refine r_aload_n dX7_understand_35 rfl ?_
    refine r_get (k := 5) lfX7_15 dX7_understand_36 (Nat.le_of_ble_eq_true rfl) rfl rfl ?_
    refine i_alen (k := 7) dX7_understand_39 (Nat.le_of_ble_eq_true rfl) rfl rfl ?_
    refine i_icmp_ge 119 dX7_understand_40 rfl ⟨by omega, by omega⟩ ⟨by omega, by omega⟩ (fun q40 => ?_) (fun q40 => ?_)
    · exfalso
      omega
    · skip
      refine r_iload_n dX7_understand_43 rfl ?_
      refine r_aload_n dX7_understand_44 rfl ?_
      refine r_get (k := 5) lfX7_18 dX7_understand_45 (Nat.le_of_ble_eq_true rfl) rfl rfl ?_
      refine i_alen (k := 8) dX7_understand_48 (Nat.le_of_ble_eq_true rfl) rfl rfl ?_
      refine i_icmp_ge 119 dX7_understand_49 rfl ⟨by omega, by omega⟩ ⟨by omega, by omega⟩ (fun q49 => ?_) (fun q49 => ?_)
      · exfalso
        omega
      · skip
        refine r_iload_n dX7_understand_52 rfl ?_
        refine r_aload_n dX7_understand_53 rfl ?_
        refine r_get (k := 5) lfX7_37 dX7_understand_54 (Nat.le_of_ble_eq_true rfl) rfl rfl ?_
        rw [e7]
        refine i_icmp_ge 64 dX7_understand_57 rfl ⟨by omega, by omega⟩ ⟨by omega, by omega⟩ (fun q57 => ?_) (fun q57 => ?_)
        · skip
          refine i_const dX7_understand_64 ?_
          refine r_istore_n dX7_understand_65 (Nat.le_of_ble_eq_true rfl) ?_
          refine r_aload_n dX7_understand_66 rfl ?_
          refine r_get (k := 5) lfX7_15 dX7_understand_67 (Nat.le_of_ble_eq_true rfl) rfl rfl ?_
          refine r_iload_n dX7_understand_70 rfl ?_
          refine r_iload_n dX7_understand_71 rfl ?_
          refine i_if_eq 88 dX7_understand_72 rfl ⟨by omega, by omega⟩ (fun q72 => ?_) (fun q72 => ?_)
          · skip
            refine i_const dX7_understand_88 ?_
            refine i_ast (k := 7) dX7_understand_89 (Nat.le_of_ble_eq_true rfl) rfl rfl ⟨by omega, by omega⟩ (by decide) ?_
            refine r_aload_n dX7_understand_90 rfl ?_
            refine r_get (k := 5) lfX7_18 dX7_understand_91 (Nat.le_of_ble_eq_true rfl) rfl rfl ?_
            refine r_iload_n dX7_understand_94 rfl ?_
            refine r_iload_n dX7_understand_95 rfl ?_
            refine i_if_eq 111 dX7_understand_96 rfl ⟨by omega, by omega⟩ (fun q96 => ?_) (fun q96 => ?_)
            · skip
              refine i_const dX7_understand_111 ?_
              refine i_ast (k := 8) dX7_understand_112 (Nat.le_of_ble_eq_true rfl) rfl rfl ⟨by omega, by omega⟩ (by decide) ?_
              refine i_iinc dX7_understand_113 rfl (Nat.le_of_ble_eq_true rfl) ?_
              refine r_goto 34 dX7_understand_116 rfl ?_
              exact ih (k + 1) _ _ (by omega) (by omega) (by rw [sup_k _ _ _ _ _ (show 5 ≠ 8 by decide), sup_k _ _ _ _ _ (show 5 ≠ 7 by decide)]; exact e6) (by rw [sup_k _ _ _ _ _ (show 5 ≠ 8 by decide), sup_k _ _ _ _ _ (show 5 ≠ 7 by decide)]; exact e7)
                (row_o (row_up eh h0 (by simp only [hF]; first | (rw [if_pos (by omega)]) | (rw [if_neg (by omega)]))) (by decide)) (row_up (row_o el (by decide)) h0 (by simp only [lF]; first | (rw [if_pos (by omega)]) | (rw [if_neg (by omega)])))
                (fun a i g1 g2 g3 => (sup_k _ _ _ _ _ g2).trans ((sup_k _ _ _ _ _ g1).trans (eo a i g1 g2 g3)))
            · exfalso
              omega
          · exfalso
            omega
        · skip
          refine i_const dX7_understand_60 ?_
          refine r_goto 65 dX7_understand_61 rfl ?_
          refine r_istore_n dX7_understand_65 (Nat.le_of_ble_eq_true rfl) ?_
          refine r_aload_n dX7_understand_66 rfl ?_
          refine r_get (k := 5) lfX7_15 dX7_understand_67 (Nat.le_of_ble_eq_true rfl) rfl rfl ?_
          refine r_iload_n dX7_understand_70 rfl ?_
          refine r_iload_n dX7_understand_71 rfl ?_
          refine i_if_eq 88 dX7_understand_72 rfl ⟨by omega, by omega⟩ (fun q72 => ?_) (fun q72 => ?_)
          · exfalso
            omega
          · skip
            refine r_aload_n dX7_understand_75 rfl ?_
            refine i_const dX7_understand_76 ?_
            refine r_iload_n dX7_understand_77 rfl ?_
            refine i_imul dX7_understand_78 ?_
            refine i_cvP (c_byteAt_5 σ2 b hs2 hb (4 * k) (by omega) (by omega)) lmX7_48 dX7_understand_79 (Nat.le_of_ble_eq_true rfl) rfl ⟨_, _, rfl⟩ (by decide) (by decide) rfl rfl (Nat.le_of_ble_eq_true rfl) ?_
            refine i_bipush dX7_understand_82 (by decide) ?_
            refine i_isub dX7_understand_84 ?_
            refine r_goto 89 dX7_understand_85 rfl ?_
            refine i_ast (k := 7) dX7_understand_89 (Nat.le_of_ble_eq_true rfl) rfl rfl ⟨by omega, by omega⟩ (by decide) ?_
            refine r_aload_n dX7_understand_90 rfl ?_
            refine r_get (k := 5) lfX7_18 dX7_understand_91 (Nat.le_of_ble_eq_true rfl) rfl rfl ?_
            refine r_iload_n dX7_understand_94 rfl ?_
            refine r_iload_n dX7_understand_95 rfl ?_
            refine i_if_eq 111 dX7_understand_96 rfl ⟨by omega, by omega⟩ (fun q96 => ?_) (fun q96 => ?_)
            · exfalso
              omega
            · skip
              refine r_aload_n dX7_understand_99 rfl ?_
              refine i_const dX7_understand_100 ?_
              refine r_iload_n dX7_understand_101 rfl ?_
              refine i_imul dX7_understand_102 ?_
              refine i_const dX7_understand_103 ?_
              refine i_iadd dX7_understand_104 ?_
              refine i_cvP (c_two_5 _ b (row_o hs2 (by decide)) hb (4 * k + 1) (by omega) (by omega)) lmX7_51 dX7_understand_105 (Nat.le_of_ble_eq_true rfl) rfl ⟨_, _, rfl⟩ (by decide) (by decide) rfl rfl (Nat.le_of_ble_eq_true rfl) ?_
              refine r_goto 112 dX7_understand_108 rfl ?_
              refine i_ast (k := 8) dX7_understand_112 (Nat.le_of_ble_eq_true rfl) rfl rfl ⟨by omega, by omega⟩ (by decide) ?_
              refine i_iinc dX7_understand_113 rfl (Nat.le_of_ble_eq_true rfl) ?_
              refine r_goto 34 dX7_understand_116 rfl ?_
              exact ih (k + 1) _ _ (by omega) (by omega) (by rw [sup_k _ _ _ _ _ (show 5 ≠ 8 by decide), sup_k _ _ _ _ _ (show 5 ≠ 7 by decide)]; exact e6) (by rw [sup_k _ _ _ _ _ (show 5 ≠ 8 by decide), sup_k _ _ _ _ _ (show 5 ≠ 7 by decide)]; exact e7)
                (row_o (row_up eh h0 (by simp only [hF]; first | (rw [if_pos (by omega)]) | (rw [if_neg (by omega)]))) (by decide)) (row_up (row_o el (by decide)) h0 (by simp only [lF]; first | (rw [if_pos (by omega)]) | (rw [if_neg (by omega)])))
                (fun a i g1 g2 g3 => (sup_k _ _ _ _ _ g2).trans ((sup_k _ _ _ _ _ g1).trans (eo a i g1 g2 g3)))

set_option maxRecDepth 20000 in
theorem c_understand_5 (σ : rl_S) (b : Int → Int) (hs : SB 6 σ b) (hb : BB b) (n0 : 0 ≤ σ 5 5) (n1 : σ 5 5 ≤ 23) : Ct cW mX7_understand [.ref 5] σ (qV (und_5 σ b)) := by
  refine Ct.of plX7 (Nat.le_of_ble_eq_true rfl) ?_
  have hf := fF_bd b 1 n0
  refine r_aload_n dX7_understand_0 rfl ?_
  refine r_aload_n dX7_understand_1 rfl ?_
  refine i_cvP (c_firstFault_5 σ b hs hb n0 n1) lmX7_44 dX7_understand_2 (Nat.le_of_ble_eq_true rfl) rfl ⟨_, _, rfl⟩ (by decide) (by decide) rfl rfl (Nat.le_of_ble_eq_true rfl) ?_
  refine i_put (k := 5) lpX7_21 dX7_understand_5 (Nat.le_of_ble_eq_true rfl) rfl rfl ?_
  refine r_aload_n dX7_understand_8 rfl ?_
  refine r_aload_n dX7_understand_9 rfl ?_
  refine r_get (k := 5) lfX7_21 dX7_understand_10 (Nat.le_of_ble_eq_true rfl) rfl rfl ?_
  rw [sup_h]
  refine i_const dX7_understand_13 ?_
  refine i_icmp_ne 28 dX7_understand_14 rfl ⟨by omega, by omega⟩ ⟨by omega, by omega⟩ (fun q14 => ?_) (fun q14 => ?_)
  · skip
    refine i_const dX7_understand_28 ?_
    refine i_put (k := 5) lpX7_37 dX7_understand_29 (Nat.le_of_ble_eq_true rfl) rfl rfl ?_
    refine i_const dX7_understand_32 ?_
    refine r_istore_n dX7_understand_33 (Nat.le_of_ble_eq_true rfl) ?_
    exact c_understand_l_5 σ b hs hb n0 n1 _ rfl 6 0 _ _ (by omega) (by omega) (by rw [sup_i _ _ _ _ (show (6 : Nat) ≠ 7 by decide), sup_h]) (by rw [sup_h]; unfold nF; first | (rw [if_pos q14]) | (rw [if_neg q14])) (fun z z0 z1 => absurd z1 (by omega)) (fun z z0 z1 => absurd z1 (by omega)) (fun a i g1 g2 g3 => by
        by_cases ha : a = 5
        · subst ha
          rw [sup_i _ _ _ _ (g3 rfl).2, sup_i _ _ _ _ (g3 rfl).1]
        · rw [sup_k _ _ _ _ _ ha, sup_k _ _ _ _ _ ha])
  · skip
    refine r_aload_n dX7_understand_17 rfl ?_
    refine r_get (k := 5) lfX7_31 dX7_understand_18 (Nat.le_of_ble_eq_true rfl) rfl rfl ?_
    refine i_const dX7_understand_21 ?_
    refine i_iadd dX7_understand_22 ?_
    refine i_const dX7_understand_23 ?_
    rw [sup_i _ _ _ _ (show (5 : Nat) ≠ 6 by decide)]
    refine i_idiv dX7_understand_24 ⟨by omega, by omega⟩ ⟨by omega, by omega⟩ ?_
    refine r_goto 29 dX7_understand_25 rfl ?_
    refine i_put (k := 5) lpX7_37 dX7_understand_29 (Nat.le_of_ble_eq_true rfl) rfl rfl ?_
    refine i_const dX7_understand_32 ?_
    refine r_istore_n dX7_understand_33 (Nat.le_of_ble_eq_true rfl) ?_
    exact c_understand_l_5 σ b hs hb n0 n1 _ rfl 6 0 _ _ (by omega) (by omega) (by rw [sup_i _ _ _ _ (show (6 : Nat) ≠ 7 by decide), sup_h]) (by rw [sup_h]; unfold nF; first | (rw [if_pos q14]) | (rw [if_neg q14])) (fun z z0 z1 => absurd z1 (by omega)) (fun z z0 z1 => absurd z1 (by omega)) (fun a i g1 g2 g3 => by
        by_cases ha : a = 5
        · subst ha
          rw [sup_i _ _ _ _ (g3 rfl).2, sup_i _ _ _ _ (g3 rfl).1]
        · rw [sup_k _ _ _ _ _ ha, sup_k _ _ _ _ _ ha])

set_option maxRecDepth 20000 in
theorem c_shorten_5 (σ : rl_S) (b : Int → Int) (hs : SB 6 σ b) (hb : BB b) (v : Int) (n0 : 0 ≤ v) (n1 : v ≤ 23) : Ct cW mX7_shorten [.ref 5, .int (iI v)] σ (qV (und_5 (sup σ 5 5 v) b)) := by
  refine Ct.of plX7 (Nat.le_of_ble_eq_true rfl) ?_
  refine r_aload_n dX7_shorten_0 rfl ?_
  refine r_iload_n dX7_shorten_1 rfl ?_
  refine i_put (k := 5) lpX7_31 dX7_shorten_2 (Nat.le_of_ble_eq_true rfl) rfl rfl ?_
  refine r_aload_n dX7_shorten_5 rfl ?_
  refine i_cvV (c_understand_5 _ b (fun z z0 z1 => (sup_k _ _ _ _ _ (by decide)).trans (hs z z0 z1)) hb (by rw [sup_h]; exact n0) (by rw [sup_h]; exact n1)) lmX7_34 dX7_shorten_6 (Nat.le_of_ble_eq_true rfl) rfl ⟨_, _, rfl⟩ (by decide) (by decide) rfl rfl (Nat.le_of_ble_eq_true rfl) (fun σ1 hu => ?_)
  refine r_vret rfl dX7_shorten_9 ?_
  exact ⟨rfl, hu⟩

set_option maxRecDepth 20000 in
theorem c_append_5 (σ : rl_S) (b : Int → Int) (hs : SB 6 σ b) (hb : BB b) (v : Int) (v0 : 0 ≤ v ∧ v ≤ 255) (n0 : 0 ≤ σ 5 5) (n1 : σ 5 5 < 23) : Ct cW mX7_append [.ref 5, .int (iI v)] σ (qV (und_5 (sup (sup σ 6 (σ 5 5).toNat v) 5 5 (σ 5 5 + 1)) (bUp b (σ 5 5) v))) := by
  refine Ct.of plX7 (Nat.le_of_ble_eq_true rfl) ?_
  refine r_aload_n dX7_append_0 rfl ?_
  refine r_get (k := 5) lfX7_31 dX7_append_1 (Nat.le_of_ble_eq_true rfl) rfl rfl ?_
  refine i_if_lt 43 dX7_append_4 rfl ⟨by omega, by omega⟩ (fun q4 => ?_) (fun q4 => ?_)
  · exfalso
    omega
  · skip
    refine r_aload_n dX7_append_7 rfl ?_
    refine r_get (k := 5) lfX7_31 dX7_append_8 (Nat.le_of_ble_eq_true rfl) rfl rfl ?_
    refine r_aload_n dX7_append_11 rfl ?_
    refine r_get (k := 5) lfX7_9 dX7_append_12 (Nat.le_of_ble_eq_true rfl) rfl rfl ?_
    refine i_alen (k := 6) dX7_append_15 (Nat.le_of_ble_eq_true rfl) rfl rfl ?_
    refine i_icmp_ge 43 dX7_append_16 rfl ⟨by omega, by omega⟩ ⟨by omega, by omega⟩ (fun q16 => ?_) (fun q16 => ?_)
    · exfalso
      omega
    · skip
      refine r_aload_n dX7_append_19 rfl ?_
      refine r_get (k := 5) lfX7_9 dX7_append_20 (Nat.le_of_ble_eq_true rfl) rfl rfl ?_
      refine r_aload_n dX7_append_23 rfl ?_
      refine r_get (k := 5) lfX7_31 dX7_append_24 (Nat.le_of_ble_eq_true rfl) rfl rfl ?_
      refine r_iload_n dX7_append_27 rfl ?_
      refine i_ast (k := 6) dX7_append_28 (Nat.le_of_ble_eq_true rfl) rfl rfl ⟨by omega, by omega⟩ (by decide) ?_
      refine r_aload_n dX7_append_29 rfl ?_
      refine r_dup dX7_append_30 rfl ?_
      refine r_get (k := 5) lfX7_31 dX7_append_31 (Nat.le_of_ble_eq_true rfl) rfl rfl ?_
      rw [sup_k _ _ _ _ _ (show 5 ≠ 6 by decide)]
      refine i_const dX7_append_34 ?_
      refine i_iadd dX7_append_35 ?_
      refine i_put (k := 5) lpX7_31 dX7_append_36 (Nat.le_of_ble_eq_true rfl) rfl rfl ?_
      refine r_aload_n dX7_append_39 rfl ?_
      refine i_cvV (c_understand_5 _ (bUp b (σ 5 5) v) (fun z z0 z1 => (sup_k _ _ _ _ _ (by decide)).trans (by
          unfold bUp
          by_cases hz : z = σ 5 5
          · rw [if_pos hz, hz, sup_h]
          · rw [if_neg hz, sup_i _ _ _ _ (by omega)]
            exact hs z z0 z1))
          (fun z z0 z1 => by
            unfold bUp
            by_cases hz : z = σ 5 5
            · rw [if_pos hz]; exact v0
            · rw [if_neg hz]; exact hb z z0 z1) (by rw [sup_h]; omega) (by rw [sup_h]; omega)) lmX7_34 dX7_append_40 (Nat.le_of_ble_eq_true rfl) rfl ⟨_, _, rfl⟩ (by decide) (by decide) rfl rfl (Nat.le_of_ble_eq_true rfl) (fun σ1 hu => ?_)
      refine r_vret rfl dX7_append_43 ?_
      exact ⟨rfl, hu⟩

theorem c_heightsT_l (σ : rl_S) (f : Int → Int) (hs : S6 3 σ f) (hf : B6 f) (n0 : 0 ≤ σ 1 7) (n1 : σ 1 7 ≤ 6) : ∀ (n : Nat) (k : Int) (m : Nat), k = m → k + n = σ 1 7 → Rn cW mX7_heightsTogether 4 [.ref 1, .int (iI (sm f m)), .int (iI k)] [] σ (pR (.int (iI (sm f (σ 1 7).toNat))) σ) := by
  intro n
  induction n with
  | zero =>
    intro k m hm hk
    refine r_iload_n dX7_heightsTogether_4 rfl ?_
    refine r_aload_n dX7_heightsTogether_5 rfl ?_
    refine r_get (k := 1) lfX7_37 dX7_heightsTogether_6 (Nat.le_of_ble_eq_true rfl) rfl rfl ?_
    refine i_icmp_ge 26 dX7_heightsTogether_9 rfl ⟨by omega, by omega⟩ ⟨by omega, by omega⟩ (fun q9 => ?_) (fun q9 => ?_)
    · skip
      refine r_iload_n dX7_heightsTogether_26 rfl ?_
      refine r_iret rfl dX7_heightsTogether_27 ?_
      exact ⟨by rw [show (σ 1 7).toNat = m by omega], rfl⟩
    · exfalso
      omega
  | succ n ih =>
    intro k m hm hk
    have hb := sm_bd hf m (by omega)
    refine r_iload_n dX7_heightsTogether_4 rfl ?_
    refine r_aload_n dX7_heightsTogether_5 rfl ?_
    refine r_get (k := 1) lfX7_37 dX7_heightsTogether_6 (Nat.le_of_ble_eq_true rfl) rfl rfl ?_
    refine i_icmp_ge 26 dX7_heightsTogether_9 rfl ⟨by omega, by omega⟩ ⟨by omega, by omega⟩ (fun q9 => ?_) (fun q9 => ?_)
    · exfalso
      omega
    · skip
      refine r_iload_n dX7_heightsTogether_12 rfl ?_
      refine r_aload_n dX7_heightsTogether_13 rfl ?_
      refine r_iload_n dX7_heightsTogether_14 rfl ?_
      refine i_cvP (c_heightOf_1 σ f hs k (by omega) (by omega)) lmX7_40 dX7_heightsTogether_15 (Nat.le_of_ble_eq_true rfl) rfl ⟨_, _, rfl⟩ (by decide) (by decide) rfl rfl (Nat.le_of_ble_eq_true rfl) ?_
      refine i_iadd dX7_heightsTogether_18 ?_
      refine r_istore_n dX7_heightsTogether_19 (Nat.le_of_ble_eq_true rfl) ?_
      refine i_iinc dX7_heightsTogether_20 rfl (Nat.le_of_ble_eq_true rfl) ?_
      refine r_goto 4 dX7_heightsTogether_23 rfl ?_
      subst hm
      exact ih (m + 1) (m + 1) (by omega) (by omega)

set_option maxRecDepth 20000 in
theorem c_heightsT (σ : rl_S) (f : Int → Int) (hs : S6 3 σ f) (hf : B6 f) (n0 : 0 ≤ σ 1 7) (n1 : σ 1 7 ≤ 6) : Ct cW mX7_heightsTogether [.ref 1] σ (pR (.int (iI (sm f (σ 1 7).toNat))) σ) := by
  refine Ct.of plX7 (Nat.le_of_ble_eq_true rfl) ?_
  refine i_const dX7_heightsTogether_0 ?_
  refine r_istore_n dX7_heightsTogether_1 (Nat.le_of_ble_eq_true rfl) ?_
  refine i_const dX7_heightsTogether_2 ?_
  refine r_istore_n dX7_heightsTogether_3 (Nat.le_of_ble_eq_true rfl) ?_
  exact c_heightsT_l σ f hs hf n0 n1 (σ 1 7).toNat 0 0 rfl (by omega)
end
section
/-- the heights that the sea keeps -/
def SH (σ : rl_S) (h : Int → Int) : Prop := ∀ z : Int, 0 ≤ z → z < 400 → σ 12 z.toNat = h z
def SR (σ : rl_S) (h : Int → Int) : Prop := ∀ z : Int, 0 ≤ z → z < 400 → σ 11 z.toNat = h z

set_option maxRecDepth 20000 in
theorem c_heightAt (σ : rl_S) (h : Int → Int) (hh : SH σ h) (hb : HB h) (t : Int) (h0 : 0 ≤ t) (h1 : t < 400) : Ct cW mX2_heightAt [.ref 9, .int (iI t)] σ (pR (.int (iI (h t))) σ) := by
  refine Ct.of plX2 (Nat.le_of_ble_eq_true rfl) ?_
  refine r_iload_n dX2_heightAt_0 rfl ?_
  refine i_if_lt 22 dX2_heightAt_1 rfl ⟨by omega, by omega⟩ (fun q1 => ?_) (fun q1 => ?_)
  · exfalso
    omega
  · skip
    refine r_iload_n dX2_heightAt_4 rfl ?_
    refine r_aload_n dX2_heightAt_5 rfl ?_
    refine r_get (k := 9) lfX2_18 dX2_heightAt_6 (Nat.le_of_ble_eq_true rfl) rfl rfl ?_
    refine i_alen (k := 12) dX2_heightAt_9 (Nat.le_of_ble_eq_true rfl) rfl rfl ?_
    refine i_icmp_ge 22 dX2_heightAt_10 rfl ⟨by omega, by omega⟩ ⟨by omega, by omega⟩ (fun q10 => ?_) (fun q10 => ?_)
    · exfalso
      omega
    · skip
      refine r_aload_n dX2_heightAt_13 rfl ?_
      refine r_get (k := 9) lfX2_18 dX2_heightAt_14 (Nat.le_of_ble_eq_true rfl) rfl rfl ?_
      refine r_iload_n dX2_heightAt_17 rfl ?_
      refine i_ald (k := 12) dX2_heightAt_18 (Nat.le_of_ble_eq_true rfl) rfl rfl ⟨by omega, by omega⟩ (by decide) ?_
      refine r_goto 23 dX2_heightAt_19 rfl ?_
      refine r_iret rfl dX2_heightAt_23 ?_
      exact ⟨by rw [hh t h0 h1], rfl⟩

set_option maxRecDepth 20000 in
theorem c_heightWithoutLee (σ : rl_S) (h : Int → Int) (hh : SR σ h) (t : Int) (h0 : 0 ≤ t) (h1 : t < 400) : Ct cW mX2_heightWithoutLee [.ref 9, .int (iI t)] σ (pR (.int (iI (h t))) σ) := by
  refine Ct.of plX2 (Nat.le_of_ble_eq_true rfl) ?_
  refine r_iload_n dX2_heightWithoutLee_0 rfl ?_
  refine i_if_lt 22 dX2_heightWithoutLee_1 rfl ⟨by omega, by omega⟩ (fun q1 => ?_) (fun q1 => ?_)
  · exfalso
    omega
  · skip
    refine r_iload_n dX2_heightWithoutLee_4 rfl ?_
    refine r_aload_n dX2_heightWithoutLee_5 rfl ?_
    refine r_get (k := 9) lfX2_15 dX2_heightWithoutLee_6 (Nat.le_of_ble_eq_true rfl) rfl rfl ?_
    refine i_alen (k := 11) dX2_heightWithoutLee_9 (Nat.le_of_ble_eq_true rfl) rfl rfl ?_
    refine i_icmp_ge 22 dX2_heightWithoutLee_10 rfl ⟨by omega, by omega⟩ ⟨by omega, by omega⟩ (fun q10 => ?_) (fun q10 => ?_)
    · exfalso
      omega
    · skip
      refine r_aload_n dX2_heightWithoutLee_13 rfl ?_
      refine r_get (k := 9) lfX2_15 dX2_heightWithoutLee_14 (Nat.le_of_ble_eq_true rfl) rfl rfl ?_
      refine r_iload_n dX2_heightWithoutLee_17 rfl ?_
      refine i_ald (k := 11) dX2_heightWithoutLee_18 (Nat.le_of_ble_eq_true rfl) rfl rfl ⟨by omega, by omega⟩ (by decide) ?_
      refine r_goto 23 dX2_heightWithoutLee_19 rfl ?_
      refine r_iret rfl dX2_heightWithoutLee_23 ?_
      exact ⟨by rw [hh t h0 h1], rfl⟩

set_option maxRecDepth 20000 in
theorem c_beginOf (σ : rl_S) (f : Int → Int) (hs : S6 10 σ f) (t : Int) (h0 : 0 ≤ t) (h1 : t < 6) : Ct cW mX2_beginOf [.ref 9, .int (iI t)] σ (pR (.int (iI (f t))) σ) := by
  refine Ct.of plX2 (Nat.le_of_ble_eq_true rfl) ?_
  refine r_iload_n dX2_beginOf_0 rfl ?_
  refine i_if_lt 22 dX2_beginOf_1 rfl ⟨by omega, by omega⟩ (fun q1 => ?_) (fun q1 => ?_)
  · exfalso
    omega
  · skip
    refine r_iload_n dX2_beginOf_4 rfl ?_
    refine r_aload_n dX2_beginOf_5 rfl ?_
    refine r_get (k := 9) lfX2_9 dX2_beginOf_6 (Nat.le_of_ble_eq_true rfl) rfl rfl ?_
    refine i_alen (k := 10) dX2_beginOf_9 (Nat.le_of_ble_eq_true rfl) rfl rfl ?_
    refine i_icmp_ge 22 dX2_beginOf_10 rfl ⟨by omega, by omega⟩ ⟨by omega, by omega⟩ (fun q10 => ?_) (fun q10 => ?_)
    · exfalso
      omega
    · skip
      refine r_aload_n dX2_beginOf_13 rfl ?_
      refine r_get (k := 9) lfX2_9 dX2_beginOf_14 (Nat.le_of_ble_eq_true rfl) rfl rfl ?_
      refine r_iload_n dX2_beginOf_17 rfl ?_
      refine i_ald (k := 10) dX2_beginOf_18 (Nat.le_of_ble_eq_true rfl) rfl rfl ⟨by omega, by omega⟩ (by decide) ?_
      refine r_goto 23 dX2_beginOf_19 rfl ?_
      refine r_iret rfl dX2_beginOf_23 ?_
      exact ⟨by rw [hs t h0 h1], rfl⟩

set_option maxRecDepth 20000 in
theorem c_moveAt (σ : rl_S) (h : Int → Int) (hh : SH σ h) (hb : HB h) (t : Int) (h0 : 0 ≤ t) (h1 : t < 400) : Ct cW mX2_moveAt [.ref 9, .int (iI t)] σ (pR (.int (iI (mv h t))) σ) := by
  refine Ct.of plX2 (Nat.le_of_ble_eq_true rfl) ?_
  refine r_iload_n dX2_moveAt_0 rfl ?_
  refine i_if_le 15 dX2_moveAt_1 rfl ⟨by omega, by omega⟩ (fun q1 => ?_) (fun q1 => ?_)
  · skip
    refine i_const dX2_moveAt_15 ?_
    refine r_iret rfl dX2_moveAt_16 ?_
    refine ⟨?_, rfl⟩
    congr 2
    simp only [mv]
    (repeat (first | rfl | (rw [if_pos (by omega)]) | (rw [if_neg (by omega)])))
  · skip
    refine r_iload_n dX2_moveAt_4 rfl ?_
    refine r_aload_n dX2_moveAt_5 rfl ?_
    refine r_get (k := 9) lfX2_18 dX2_moveAt_6 (Nat.le_of_ble_eq_true rfl) rfl rfl ?_
    refine i_alen (k := 12) dX2_moveAt_9 (Nat.le_of_ble_eq_true rfl) rfl rfl ?_
    refine i_const dX2_moveAt_10 ?_
    refine i_isub dX2_moveAt_11 ?_
    refine i_icmp_lt 17 dX2_moveAt_12 rfl ⟨by omega, by omega⟩ ⟨by omega, by omega⟩ (fun q12 => ?_) (fun q12 => ?_)
    · skip
      have b1 := hb t (by omega) (by omega)
      have b2 := hb (t + 1) (by omega) (by omega)
      have b3 := hb (t - 1) (by omega) (by omega)
      refine r_aload_n dX2_moveAt_17 rfl ?_
      refine r_get (k := 9) lfX2_18 dX2_moveAt_18 (Nat.le_of_ble_eq_true rfl) rfl rfl ?_
      refine r_iload_n dX2_moveAt_21 rfl ?_
      refine i_ald (k := 12) dX2_moveAt_22 (Nat.le_of_ble_eq_true rfl) rfl rfl ⟨by omega, by omega⟩ (by decide) ?_
      rw [hh t (by omega) (by omega)]
      refine r_istore_n dX2_moveAt_23 (Nat.le_of_ble_eq_true rfl) ?_
      refine r_aload_n dX2_moveAt_24 rfl ?_
      refine r_get (k := 9) lfX2_18 dX2_moveAt_25 (Nat.le_of_ble_eq_true rfl) rfl rfl ?_
      refine r_iload_n dX2_moveAt_28 rfl ?_
      refine i_const dX2_moveAt_29 ?_
      refine i_iadd dX2_moveAt_30 ?_
      refine i_ald (k := 12) dX2_moveAt_31 (Nat.le_of_ble_eq_true rfl) rfl rfl ⟨by omega, by omega⟩ (by decide) ?_
      rw [hh (t + 1) (by omega) (by omega)]
      refine r_istore_n dX2_moveAt_32 (Nat.le_of_ble_eq_true rfl) ?_
      refine r_iload_n dX2_moveAt_33 rfl ?_
      refine r_iload_n dX2_moveAt_34 rfl ?_
      refine i_icmp_ge 56 dX2_moveAt_35 rfl ⟨by omega, by omega⟩ ⟨by omega, by omega⟩ (fun q35 => ?_) (fun q35 => ?_)
      · skip
        refine r_iload_n dX2_moveAt_56 rfl ?_
        refine r_iload_n dX2_moveAt_57 rfl ?_
        refine i_icmp_le 65 dX2_moveAt_58 rfl ⟨by omega, by omega⟩ ⟨by omega, by omega⟩ (fun q58 => ?_) (fun q58 => ?_)
        · skip
          refine i_const dX2_moveAt_65 ?_
          refine r_iret rfl dX2_moveAt_66 ?_
          refine ⟨?_, rfl⟩
          congr 2
          simp only [mv]
          (repeat (first | rfl | (rw [if_pos (by omega)]) | (rw [if_neg (by omega)])))
        · skip
          refine i_const dX2_moveAt_61 ?_
          refine r_goto 66 dX2_moveAt_62 rfl ?_
          refine r_iret rfl dX2_moveAt_66 ?_
          refine ⟨?_, rfl⟩
          congr 2
          simp only [mv]
          (repeat (first | rfl | (rw [if_pos (by omega)]) | (rw [if_neg (by omega)])))
      · skip
        refine r_aload_n dX2_moveAt_38 rfl ?_
        refine r_get (k := 9) lfX2_18 dX2_moveAt_39 (Nat.le_of_ble_eq_true rfl) rfl rfl ?_
        refine r_iload_n dX2_moveAt_42 rfl ?_
        refine i_const dX2_moveAt_43 ?_
        refine i_isub dX2_moveAt_44 ?_
        refine i_ald (k := 12) dX2_moveAt_45 (Nat.le_of_ble_eq_true rfl) rfl rfl ⟨by omega, by omega⟩ (by decide) ?_
        rw [hh (t - 1) (by omega) (by omega)]
        refine r_iload_n dX2_moveAt_46 rfl ?_
        refine i_icmp_gt 54 dX2_moveAt_47 rfl ⟨by omega, by omega⟩ ⟨by omega, by omega⟩ (fun q47 => ?_) (fun q47 => ?_)
        · skip
          refine i_const dX2_moveAt_54 ?_
          refine r_iret rfl dX2_moveAt_55 ?_
          refine ⟨?_, rfl⟩
          congr 2
          simp only [mv]
          (repeat (first | rfl | (rw [if_pos (by omega)]) | (rw [if_neg (by omega)])))
        · skip
          refine i_const dX2_moveAt_50 ?_
          refine r_goto 55 dX2_moveAt_51 rfl ?_
          refine r_iret rfl dX2_moveAt_55 ?_
          refine ⟨?_, rfl⟩
          congr 2
          simp only [mv]
          (repeat (first | rfl | (rw [if_pos (by omega)]) | (rw [if_neg (by omega)])))
    · skip
      refine i_const dX2_moveAt_15 ?_
      refine r_iret rfl dX2_moveAt_16 ?_
      refine ⟨?_, rfl⟩
      congr 2
      simp only [mv]
      (repeat (first | rfl | (rw [if_pos (by omega)]) | (rw [if_neg (by omega)])))

set_option maxRecDepth 20000 in
theorem c_crestFrom_l (σ : rl_S) (h : Int → Int) (hh : SH σ h) (hb : HB h) (a k0 : Int) (hk : 1 ≤ k0 ∧ k0 ≤ 1000) : ∀ (n : Nat) (t p : Int), 0 ≤ t → t + n = 400 → 0 ≤ p → p < k0 → ∀ z, z = cr h n t (k0 - p) → Rn cW mX2_crestFrom 5 [.ref 9, .int (iI a), .int (iI k0), .int (iI p), .int (iI t)] [] σ (pR (.int (iI z)) σ) := by
  intro n
  induction n with
  | zero =>
    intro t p h0 ht hp hp2 z hz
    refine r_iload dX2_crestFrom_5 rfl ?_
    refine r_aload_n dX2_crestFrom_7 rfl ?_
    refine r_get (k := 9) lfX2_18 dX2_crestFrom_8 (Nat.le_of_ble_eq_true rfl) rfl rfl ?_
    refine i_alen (k := 12) dX2_crestFrom_11 (Nat.le_of_ble_eq_true rfl) rfl rfl ?_
    refine i_icmp_ge 42 dX2_crestFrom_12 rfl ⟨by omega, by omega⟩ ⟨by omega, by omega⟩ (fun q12 => ?_) (fun q12 => ?_)
    · skip
      refine i_const dX2_crestFrom_42 ?_
      refine r_iret rfl dX2_crestFrom_43 ?_
      exact ⟨by rw [hz]; rfl, rfl⟩
    · exfalso
      omega
  | succ n ih =>
    intro t p h0 ht hp hp2 z hz
    have hm := mv_bd h t
    refine r_iload dX2_crestFrom_5 rfl ?_
    refine r_aload_n dX2_crestFrom_7 rfl ?_
    refine r_get (k := 9) lfX2_18 dX2_crestFrom_8 (Nat.le_of_ble_eq_true rfl) rfl rfl ?_
    refine i_alen (k := 12) dX2_crestFrom_11 (Nat.le_of_ble_eq_true rfl) rfl rfl ?_
    refine i_icmp_ge 42 dX2_crestFrom_12 rfl ⟨by omega, by omega⟩ ⟨by omega, by omega⟩ (fun q12 => ?_) (fun q12 => ?_)
    · exfalso
      omega
    · skip
      refine r_aload_n dX2_crestFrom_15 rfl ?_
      refine r_iload dX2_crestFrom_16 rfl ?_
      refine i_cvP (c_moveAt σ h hh hb t (by omega) (by omega)) lmX2_66 dX2_crestFrom_18 (Nat.le_of_ble_eq_true rfl) rfl ⟨_, _, rfl⟩ (by decide) (by decide) rfl rfl (Nat.le_of_ble_eq_true rfl) ?_
      refine i_const dX2_crestFrom_21 ?_
      refine i_icmp_ne 36 dX2_crestFrom_22 rfl ⟨by omega, by omega⟩ ⟨by omega, by omega⟩ (fun q22 => ?_) (fun q22 => ?_)
      · skip
        refine i_iinc dX2_crestFrom_36 rfl (Nat.le_of_ble_eq_true rfl) ?_
        refine r_goto 5 dX2_crestFrom_39 rfl ?_
        exact ih _ _ (by omega) (by omega) (by omega) (by omega) z (by rw [hz]; simp only [cr]; (repeat (first | rfl | (rw [if_pos (by omega)]) | (rw [if_neg (by omega)]))); all_goals (first | rfl | (congr 1; omega)))
      · skip
        refine i_iinc dX2_crestFrom_25 rfl (Nat.le_of_ble_eq_true rfl) ?_
        refine r_iload_n dX2_crestFrom_28 rfl ?_
        refine r_iload_n dX2_crestFrom_29 rfl ?_
        refine i_icmp_ne 36 dX2_crestFrom_30 rfl ⟨by omega, by omega⟩ ⟨by omega, by omega⟩ (fun q30 => ?_) (fun q30 => ?_)
        · skip
          refine i_iinc dX2_crestFrom_36 rfl (Nat.le_of_ble_eq_true rfl) ?_
          refine r_goto 5 dX2_crestFrom_39 rfl ?_
          exact ih _ _ (by omega) (by omega) (by omega) (by omega) z (by rw [hz]; simp only [cr]; (repeat (first | rfl | (rw [if_pos (by omega)]) | (rw [if_neg (by omega)]))); all_goals (first | rfl | (congr 1; omega)))
        · skip
          refine r_iload dX2_crestFrom_33 rfl ?_
          refine r_iret rfl dX2_crestFrom_35 ?_
          exact ⟨by rw [hz]; simp only [cr]; (repeat (first | rfl | (rw [if_pos (by omega)]) | (rw [if_neg (by omega)]))), rfl⟩

set_option maxRecDepth 20000 in
theorem c_crestFrom (σ : rl_S) (h : Int → Int) (hh : SH σ h) (hb : HB h) (t k : Int) (h0 : 0 ≤ t) (h1 : t ≤ 400) (hk : 1 ≤ k ∧ k ≤ 1000) : Ct cW mX2_crestFrom [.ref 9, .int (iI t), .int (iI k)] σ (pR (.int (iI (cF h t k))) σ) := by
  refine Ct.of plX2 (Nat.le_of_ble_eq_true rfl) ?_
  refine i_const dX2_crestFrom_0 ?_
  refine r_istore_n dX2_crestFrom_1 (Nat.le_of_ble_eq_true rfl) ?_
  refine r_iload_n dX2_crestFrom_2 rfl ?_
  refine r_istore dX2_crestFrom_3 (Nat.le_of_ble_eq_true rfl) ?_
  exact c_crestFrom_l σ h hh hb t k hk (400 - t).toNat t 0 h0 (by omega) (by omega) (by omega) _ (by rw [Int.sub_zero]; rfl)

theorem c_highest_l (σ : rl_S) (h : Int → Int) (hh : SH σ h) (hb : HB h) (a : Int) : ∀ (m : Nat) (k t p g : Int), k + m = 8 → 1 ≤ k → (t = -1 ∨ (0 ≤ t ∧ t < 400)) → -1 ≤ p → p ≤ 8 → -1 ≤ g → g ≤ 3000 → (p = -1 → g = -1) → (p ≠ -1 → 0 ≤ g) → ∀ z, z = sv h m k t p g → Rn cW mX2_highestCrestFrom 15 [.ref 9, .int (iI a), .int (iI p), .int (iI g), .int (iI t), .int (iI k)] [] σ (pR (.int (iI z)) σ) := by
  intro m
  induction m with
  | zero =>
    intro k t p g hk hk1 ht hp0 hp1 hg0 hg1 hpg hpg2 z hz
    refine r_iload dX2_highestCrestFrom_15 rfl ?_
    refine i_bipush dX2_highestCrestFrom_17 (by decide) ?_
    refine i_icmp_gt 65 dX2_highestCrestFrom_19 rfl ⟨by omega, by omega⟩ ⟨by omega, by omega⟩ (fun q19 => ?_) (fun q19 => ?_)
    · skip
      refine r_iload_n dX2_highestCrestFrom_65 rfl ?_
      refine r_iret rfl dX2_highestCrestFrom_66 ?_
      exact ⟨by rw [hz]; rfl, rfl⟩
    · exfalso
      omega
  | succ m ih =>
    intro k t p g hk hk1 ht hp0 hp1 hg0 hg1 hpg hpg2 z hz
    simp only [sv] at hz
    refine r_iload dX2_highestCrestFrom_15 rfl ?_
    refine i_bipush dX2_highestCrestFrom_17 (by decide) ?_
    refine i_icmp_gt 65 dX2_highestCrestFrom_19 rfl ⟨by omega, by omega⟩ ⟨by omega, by omega⟩ (fun q19 => ?_) (fun q19 => ?_)
    · exfalso
      omega
    · skip
      refine r_iload dX2_highestCrestFrom_22 rfl ?_
      refine i_const dX2_highestCrestFrom_24 ?_
      refine i_icmp_eq 65 dX2_highestCrestFrom_25 rfl ⟨by omega, by omega⟩ ⟨by omega, by omega⟩ (fun q25 => ?_) (fun q25 => ?_)
      · skip
        refine r_iload_n dX2_highestCrestFrom_65 rfl ?_
        refine r_iret rfl dX2_highestCrestFrom_66 ?_
        exact ⟨by rw [hz, if_pos (by omega)], rfl⟩
      · skip
        have b1 := hb t (by omega) (by omega)
        have b2 := cF_bd h (t := t + 1) 1 (by omega) (by omega)
        rw [if_neg (by omega)] at hz
        refine r_aload_n dX2_highestCrestFrom_28 rfl ?_
        refine r_iload dX2_highestCrestFrom_29 rfl ?_
        refine i_cvP (c_heightAt σ h hh hb t (by omega) (by omega)) lmX2_72 dX2_highestCrestFrom_31 (Nat.le_of_ble_eq_true rfl) rfl ⟨_, _, rfl⟩ (by decide) (by decide) rfl rfl (Nat.le_of_ble_eq_true rfl) ?_
        refine r_iload_n dX2_highestCrestFrom_34 rfl ?_
        refine i_icmp_le 48 dX2_highestCrestFrom_35 rfl ⟨by omega, by omega⟩ ⟨by omega, by omega⟩ (fun q35 => ?_) (fun q35 => ?_)
        · skip
          refine r_aload_n dX2_highestCrestFrom_48 rfl ?_
          refine r_iload dX2_highestCrestFrom_49 rfl ?_
          refine i_const dX2_highestCrestFrom_51 ?_
          refine i_iadd dX2_highestCrestFrom_52 ?_
          refine i_const dX2_highestCrestFrom_53 ?_
          refine i_cvP (c_crestFrom σ h hh hb (t + 1) 1 (by omega) (by omega) (by omega)) lmX2_69 dX2_highestCrestFrom_54 (Nat.le_of_ble_eq_true rfl) rfl ⟨_, _, rfl⟩ (by decide) (by decide) rfl rfl (Nat.le_of_ble_eq_true rfl) ?_
          refine r_istore dX2_highestCrestFrom_57 (Nat.le_of_ble_eq_true rfl) ?_
          refine i_iinc dX2_highestCrestFrom_59 rfl (Nat.le_of_ble_eq_true rfl) ?_
          refine r_goto 15 dX2_highestCrestFrom_62 rfl ?_
          first
            | (rw [if_pos (by omega)] at hz; exact ih _ _ _ _ (by omega) (by omega) (by omega) (by omega) (by omega) (by omega) (by omega) (by omega) (by omega) z hz)
            | (rw [if_neg (by omega)] at hz; exact ih _ _ _ _ (by omega) (by omega) (by omega) (by omega) (by omega) (by omega) (by omega) (by omega) (by omega) z hz)
        · skip
          refine r_iload dX2_highestCrestFrom_38 rfl ?_
          refine r_istore_n dX2_highestCrestFrom_40 (Nat.le_of_ble_eq_true rfl) ?_
          refine r_aload_n dX2_highestCrestFrom_41 rfl ?_
          refine r_iload dX2_highestCrestFrom_42 rfl ?_
          refine i_cvP (c_heightAt σ h hh hb t (by omega) (by omega)) lmX2_72 dX2_highestCrestFrom_44 (Nat.le_of_ble_eq_true rfl) rfl ⟨_, _, rfl⟩ (by decide) (by decide) rfl rfl (Nat.le_of_ble_eq_true rfl) ?_
          refine r_istore_n dX2_highestCrestFrom_47 (Nat.le_of_ble_eq_true rfl) ?_
          refine r_aload_n dX2_highestCrestFrom_48 rfl ?_
          refine r_iload dX2_highestCrestFrom_49 rfl ?_
          refine i_const dX2_highestCrestFrom_51 ?_
          refine i_iadd dX2_highestCrestFrom_52 ?_
          refine i_const dX2_highestCrestFrom_53 ?_
          refine i_cvP (c_crestFrom σ h hh hb (t + 1) 1 (by omega) (by omega) (by omega)) lmX2_69 dX2_highestCrestFrom_54 (Nat.le_of_ble_eq_true rfl) rfl ⟨_, _, rfl⟩ (by decide) (by decide) rfl rfl (Nat.le_of_ble_eq_true rfl) ?_
          refine r_istore dX2_highestCrestFrom_57 (Nat.le_of_ble_eq_true rfl) ?_
          refine i_iinc dX2_highestCrestFrom_59 rfl (Nat.le_of_ble_eq_true rfl) ?_
          refine r_goto 15 dX2_highestCrestFrom_62 rfl ?_
          first
            | (rw [if_pos (by omega)] at hz; exact ih _ _ _ _ (by omega) (by omega) (by omega) (by omega) (by omega) (by omega) (by omega) (by omega) (by omega) z hz)
            | (rw [if_neg (by omega)] at hz; exact ih _ _ _ _ (by omega) (by omega) (by omega) (by omega) (by omega) (by omega) (by omega) (by omega) (by omega) z hz)

set_option maxRecDepth 20000 in
theorem c_highest (σ : rl_S) (h : Int → Int) (hh : SH σ h) (hb : HB h) (t : Int) (h0 : 0 ≤ t) (h1 : t < 400) : Ct cW mX2_highestCrestFrom [.ref 9, .int (iI t)] σ (pR (.int (iI (sv h 7 1 (cF h t 1) (-1) (-1)))) σ) := by
  refine Ct.of plX2 (Nat.le_of_ble_eq_true rfl) ?_
  have b2 := cF_bd h (t := t) 1 (by omega) (by omega)
  refine i_const dX2_highestCrestFrom_0 ?_
  refine r_istore_n dX2_highestCrestFrom_1 (Nat.le_of_ble_eq_true rfl) ?_
  refine i_const dX2_highestCrestFrom_2 ?_
  refine r_istore_n dX2_highestCrestFrom_3 (Nat.le_of_ble_eq_true rfl) ?_
  refine r_aload_n dX2_highestCrestFrom_4 rfl ?_
  refine r_iload_n dX2_highestCrestFrom_5 rfl ?_
  refine i_const dX2_highestCrestFrom_6 ?_
  refine i_cvP (c_crestFrom σ h hh hb t 1 (by omega) (by omega) (by omega)) lmX2_69 dX2_highestCrestFrom_7 (Nat.le_of_ble_eq_true rfl) rfl ⟨_, _, rfl⟩ (by decide) (by decide) rfl rfl (Nat.le_of_ble_eq_true rfl) ?_
  refine r_istore dX2_highestCrestFrom_10 (Nat.le_of_ble_eq_true rfl) ?_
  refine i_const dX2_highestCrestFrom_12 ?_
  refine r_istore dX2_highestCrestFrom_13 (Nat.le_of_ble_eq_true rfl) ?_
  exact c_highest_l σ h hh hb t 7 1 _ _ _ (by omega) (by omega) (by omega) (by omega) (by omega) (by omega) (by omega) (by omega) (by omega) _ rfl

theorem c_crests_l (σ : rl_S) (h : Int → Int) (hh : SH σ h) (hb : HB h) : ∀ (n : Nat) (t c : Int), 0 ≤ t → t + n = 400 → ∀ z, z = c + cnt h n t → Rn cW mX2_crestsInAll 4 [.ref 9, .int (iI c), .int (iI t)] [] σ (pR (.int (iI z)) σ) := by
  intro n
  induction n with
  | zero =>
    intro t c h0 ht z hz
    refine r_iload_n dX2_crestsInAll_4 rfl ?_
    refine r_aload_n dX2_crestsInAll_5 rfl ?_
    refine r_get (k := 9) lfX2_18 dX2_crestsInAll_6 (Nat.le_of_ble_eq_true rfl) rfl rfl ?_
    refine i_alen (k := 12) dX2_crestsInAll_9 (Nat.le_of_ble_eq_true rfl) rfl rfl ?_
    refine i_icmp_ge 31 dX2_crestsInAll_10 rfl ⟨by omega, by omega⟩ ⟨by omega, by omega⟩ (fun q10 => ?_) (fun q10 => ?_)
    · skip
      refine r_iload_n dX2_crestsInAll_31 rfl ?_
      refine r_iret rfl dX2_crestsInAll_32 ?_
      exact ⟨by rw [hz]; simp [cnt], rfl⟩
    · exfalso
      omega
  | succ n ih =>
    intro t c h0 ht z hz
    have hm := mv_bd h t
    simp only [cnt] at hz
    refine r_iload_n dX2_crestsInAll_4 rfl ?_
    refine r_aload_n dX2_crestsInAll_5 rfl ?_
    refine r_get (k := 9) lfX2_18 dX2_crestsInAll_6 (Nat.le_of_ble_eq_true rfl) rfl rfl ?_
    refine i_alen (k := 12) dX2_crestsInAll_9 (Nat.le_of_ble_eq_true rfl) rfl rfl ?_
    refine i_icmp_ge 31 dX2_crestsInAll_10 rfl ⟨by omega, by omega⟩ ⟨by omega, by omega⟩ (fun q10 => ?_) (fun q10 => ?_)
    · exfalso
      omega
    · skip
      refine r_aload_n dX2_crestsInAll_13 rfl ?_
      refine r_iload_n dX2_crestsInAll_14 rfl ?_
      refine i_cvP (c_moveAt σ h hh hb t (by omega) (by omega)) lmX2_66 dX2_crestsInAll_15 (Nat.le_of_ble_eq_true rfl) rfl ⟨_, _, rfl⟩ (by decide) (by decide) rfl rfl (Nat.le_of_ble_eq_true rfl) ?_
      refine i_const dX2_crestsInAll_18 ?_
      refine i_icmp_ne 25 dX2_crestsInAll_19 rfl ⟨by omega, by omega⟩ ⟨by omega, by omega⟩ (fun q19 => ?_) (fun q19 => ?_)
      · skip
        refine i_iinc dX2_crestsInAll_25 rfl (Nat.le_of_ble_eq_true rfl) ?_
        refine r_goto 4 dX2_crestsInAll_28 rfl ?_
        exact ih _ _ (by omega) (by omega) z (by rw [hz]; first | (rw [if_pos (by omega)]; omega) | (rw [if_neg (by omega)]; omega))
      · skip
        refine i_iinc dX2_crestsInAll_22 rfl (Nat.le_of_ble_eq_true rfl) ?_
        refine i_iinc dX2_crestsInAll_25 rfl (Nat.le_of_ble_eq_true rfl) ?_
        refine r_goto 4 dX2_crestsInAll_28 rfl ?_
        exact ih _ _ (by omega) (by omega) z (by rw [hz]; first | (rw [if_pos (by omega)]; omega) | (rw [if_neg (by omega)]; omega))

set_option maxRecDepth 20000 in
theorem c_crests (σ : rl_S) (h : Int → Int) (hh : SH σ h) (hb : HB h)  : Ct cW mX2_crestsInAll [.ref 9] σ (pR (.int (iI (cnt h 400 0))) σ) := by
  refine Ct.of plX2 (Nat.le_of_ble_eq_true rfl) ?_
  refine i_const dX2_crestsInAll_0 ?_
  refine r_istore_n dX2_crestsInAll_1 (Nat.le_of_ble_eq_true rfl) ?_
  refine i_const dX2_crestsInAll_2 ?_
  refine r_istore_n dX2_crestsInAll_3 (Nat.le_of_ble_eq_true rfl) ?_
  exact c_crests_l σ h hh hb 400 0 0 (by omega) (by omega) _ (by omega)

def spP (σ : rl_S) (S e : Int) : Int → rl_S → Prop := fun z σ' => 0 ≤ z ∧ z ≤ 3000 ∧ z ≤ S ∧ (z = S ∨ e ≤ z) ∧ σ' = σ
theorem c_spread_l (σ : rl_S) (h : Int → Int) (hh : SH σ h) (hb : HB h) (a m e : Int) (h0 : 0 ≤ a) (hm : 1 ≤ m) (hm2 : a + m ≤ 400) (he : 0 ≤ e ∧ e < 2147483648) : ∀ (n : Nat) (j : Nat) (i : Int) (lx : Value), i = j + 1 → i + n = m → Rn cW mX2_spread 14 [.ref 9, .int (iI a), .int (iI m), .int (iI e), .int (iI (lo h j a)), .int (iI (hg h j a)), .int (iI i), lx] [] σ (qI (spP σ (spr h (m - 1).toNat a) e)) := by
  intro n
  induction n with
  | zero =>
    intro j i lx hi hn
    have b1 := lo_bd hb j a h0 (by omega)
    have b2 := hg_bd hb j a h0 (by omega)
    have b3 := lo_hg h j a
    have b4 : spr h (m - 1).toNat a = hg h j a - lo h j a := by rw [show (m - 1).toNat = j by omega]; rfl
    refine r_iload dX2_spread_14 rfl ?_
    refine r_iload_n dX2_spread_16 rfl ?_
    refine i_icmp_ge 63 dX2_spread_17 rfl ⟨by omega, by omega⟩ ⟨by omega, by omega⟩ (fun q17 => ?_) (fun q17 => ?_)
    · skip
      refine r_iload dX2_spread_63 rfl ?_
      refine r_iload dX2_spread_65 rfl ?_
      refine i_isub dX2_spread_67 ?_
      refine r_iret rfl dX2_spread_68 ?_
      exact ⟨_, rfl, by omega, by omega, by omega, Or.inl (by omega), rfl⟩
    · exfalso
      omega
  | succ n ih =>
    intro j i lx hi hn
    have b1 := lo_bd hb j a h0 (by omega)
    have b2 := hg_bd hb j a h0 (by omega)
    have b3 := lo_hg h j a
    have b4 := spr_mono h a j ((m - 1).toNat - j)
    rw [show j + ((m - 1).toNat - j) = (m - 1).toNat by omega] at b4
    have b5 : spr h j a = hg h j a - lo h j a := rfl
    have b6 := hb (a + i) (by omega) (by omega)
    have e1 : lo h (j + 1) a = min (lo h j a) (h (a + i)) := by rw [hi]; rfl
    have e2 : hg h (j + 1) a = max (hg h j a) (h (a + i)) := by rw [hi]; rfl
    refine r_iload dX2_spread_14 rfl ?_
    refine r_iload_n dX2_spread_16 rfl ?_
    refine i_icmp_ge 63 dX2_spread_17 rfl ⟨by omega, by omega⟩ ⟨by omega, by omega⟩ (fun q17 => ?_) (fun q17 => ?_)
    · exfalso
      omega
    · skip
      refine r_iload dX2_spread_20 rfl ?_
      refine r_iload dX2_spread_22 rfl ?_
      refine i_isub dX2_spread_24 ?_
      refine r_iload_n dX2_spread_25 rfl ?_
      refine i_icmp_ge 63 dX2_spread_26 rfl ⟨by omega, by omega⟩ ⟨by omega, by omega⟩ (fun q26 => ?_) (fun q26 => ?_)
      · skip
        refine r_iload dX2_spread_63 rfl ?_
        refine r_iload dX2_spread_65 rfl ?_
        refine i_isub dX2_spread_67 ?_
        refine r_iret rfl dX2_spread_68 ?_
        exact ⟨_, rfl, by omega, by omega, by omega, Or.inr (by omega), rfl⟩
      · skip
        refine r_aload_n dX2_spread_29 rfl ?_
        refine r_iload_n dX2_spread_30 rfl ?_
        refine r_iload dX2_spread_31 rfl ?_
        refine i_iadd dX2_spread_33 ?_
        refine i_cvP (c_heightAt σ h hh hb (a + i) (by omega) (by omega)) lmX2_72 dX2_spread_34 (Nat.le_of_ble_eq_true rfl) rfl ⟨_, _, rfl⟩ (by decide) (by decide) rfl rfl (Nat.le_of_ble_eq_true rfl) ?_
        refine r_istore dX2_spread_37 (Nat.le_of_ble_eq_true rfl) ?_
        refine r_iload dX2_spread_39 rfl ?_
        refine r_iload dX2_spread_41 rfl ?_
        refine i_mmin lmX2_58 dX2_spread_43 (by decide) (Nat.le_of_ble_eq_true rfl) ⟨by omega, by omega⟩ ⟨by omega, by omega⟩ ?_
        refine r_istore dX2_spread_46 (Nat.le_of_ble_eq_true rfl) ?_
        refine r_iload dX2_spread_48 rfl ?_
        refine r_iload dX2_spread_50 rfl ?_
        refine i_mmax lmX2_81 dX2_spread_52 (by decide) (Nat.le_of_ble_eq_true rfl) ⟨by omega, by omega⟩ ⟨by omega, by omega⟩ ?_
        refine r_istore dX2_spread_55 (Nat.le_of_ble_eq_true rfl) ?_
        refine i_iinc dX2_spread_57 rfl (Nat.le_of_ble_eq_true rfl) ?_
        refine r_goto 14 dX2_spread_60 rfl ?_
        rw [← e1, ← e2]
        exact ih (j + 1) (i + 1) _ (by omega) (by omega)

set_option maxRecDepth 20000 in
theorem c_spread (σ : rl_S) (h : Int → Int) (hh : SH σ h) (hb : HB h) (a m e : Int) (h0 : 0 ≤ a) (hm : 1 ≤ m) (hm2 : a + m ≤ 400) (he : 0 ≤ e ∧ e < 2147483648) : Ct cW mX2_spread [.ref 9, .int (iI a), .int (iI m), .int (iI e)] σ (qI (spP σ (spr h (m - 1).toNat a) e)) := by
  refine Ct.of plX2 (Nat.le_of_ble_eq_true rfl) ?_
  refine r_aload_n dX2_spread_0 rfl ?_
  refine r_iload_n dX2_spread_1 rfl ?_
  refine i_cvP (c_heightAt σ h hh hb a (by omega) (by omega)) lmX2_72 dX2_spread_2 (Nat.le_of_ble_eq_true rfl) rfl ⟨_, _, rfl⟩ (by decide) (by decide) rfl rfl (Nat.le_of_ble_eq_true rfl) ?_
  refine r_istore dX2_spread_5 (Nat.le_of_ble_eq_true rfl) ?_
  refine r_iload dX2_spread_7 rfl ?_
  refine r_istore dX2_spread_9 (Nat.le_of_ble_eq_true rfl) ?_
  refine i_const dX2_spread_11 ?_
  refine r_istore dX2_spread_12 (Nat.le_of_ble_eq_true rfl) ?_
  exact c_spread_l σ h hh hb a m e h0 hm hm2 he (m - 1).toNat 0 1 _ rfl (by omega)

theorem c_lull_l (σ : rl_S) (h : Int → Int) (hh : SH σ h) (hb : HB h) (a m : Int) (hm : 1 ≤ m ∧ m ≤ 400) : ∀ (n : Nat) (t b l l2 : Int) (lx : Value), 0 ≤ t → ((t + m + n = 401) ∨ (n = 0 ∧ 400 < t + m ∧ t ≤ 400)) → ((b = -1 ∧ l = 2147483647) ∨ (0 ≤ b ∧ b < 400 ∧ l = l2 ∧ 0 ≤ l ∧ l ≤ 3000)) → ∀ z, z = (lu (fun x => spr h (m - 1).toNat x) n t b l2).1 → Rn cW mX2_lullFrom 9 [.ref 9, .int (iI a), .int (iI m), .int (iI b), .int (iI l), .int (iI t), lx] [] σ (pR (.int (iI z)) σ) := by
  intro n
  induction n with
  | zero =>
    intro t b l l2 lx h0 ht hl z hz
    refine r_iload dX2_lullFrom_9 rfl ?_
    refine r_iload_n dX2_lullFrom_11 rfl ?_
    refine i_iadd dX2_lullFrom_12 ?_
    refine i_sipush dX2_lullFrom_13 (by decide) ?_
    refine i_icmp_gt 50 dX2_lullFrom_16 rfl ⟨by omega, by omega⟩ ⟨by omega, by omega⟩ (fun q16 => ?_) (fun q16 => ?_)
    · skip
      refine r_iload_n dX2_lullFrom_50 rfl ?_
      refine r_iret rfl dX2_lullFrom_51 ?_
      exact ⟨by rw [hz]; rfl, rfl⟩
    · exfalso
      omega
  | succ n ih =>
    intro t b l l2 lx h0 ht hl z hz
    simp only [lu] at hz
    refine r_iload dX2_lullFrom_9 rfl ?_
    refine r_iload_n dX2_lullFrom_11 rfl ?_
    refine i_iadd dX2_lullFrom_12 ?_
    refine i_sipush dX2_lullFrom_13 (by decide) ?_
    refine i_icmp_gt 50 dX2_lullFrom_16 rfl ⟨by omega, by omega⟩ ⟨by omega, by omega⟩ (fun q16 => ?_) (fun q16 => ?_)
    · exfalso
      omega
    · skip
      refine r_aload_n dX2_lullFrom_19 rfl ?_
      refine r_iload dX2_lullFrom_20 rfl ?_
      refine r_iload_n dX2_lullFrom_22 rfl ?_
      refine r_iload dX2_lullFrom_23 rfl ?_
      refine i_cvI (c_spread σ h hh hb t m l (by omega) (by omega) (by omega) (by omega)) lmX2_78 dX2_lullFrom_25 (Nat.le_of_ble_eq_true rfl) rfl ⟨_, _, rfl⟩ (by decide) (by decide) rfl rfl (Nat.le_of_ble_eq_true rfl) (fun s1 σ1 hs => ?_)
      obtain ⟨s0, s2, s3, s4, rfl⟩ := hs
      refine r_istore dX2_lullFrom_28 (Nat.le_of_ble_eq_true rfl) ?_
      refine r_iload dX2_lullFrom_30 rfl ?_
      refine r_iload dX2_lullFrom_32 rfl ?_
      refine i_icmp_ge 44 dX2_lullFrom_34 rfl ⟨by omega, by omega⟩ ⟨by omega, by omega⟩ (fun q34 => ?_) (fun q34 => ?_)
      · skip
        refine i_iinc dX2_lullFrom_44 rfl (Nat.le_of_ble_eq_true rfl) ?_
        refine r_goto 9 dX2_lullFrom_47 rfl ?_
        first
          | (rw [if_pos (by omega)] at hz; exact ih _ _ _ _ _ (by omega) (by omega) (Or.inr ⟨by omega, by omega, by omega, by omega, by omega⟩) z hz)
          | (rw [if_neg (by omega)] at hz; exact ih _ _ _ l2 _ (by omega) (by omega) (by omega) z hz)
      · skip
        refine r_iload dX2_lullFrom_37 rfl ?_
        refine r_istore_n dX2_lullFrom_39 (Nat.le_of_ble_eq_true rfl) ?_
        refine r_iload dX2_lullFrom_40 rfl ?_
        refine r_istore dX2_lullFrom_42 (Nat.le_of_ble_eq_true rfl) ?_
        refine i_iinc dX2_lullFrom_44 rfl (Nat.le_of_ble_eq_true rfl) ?_
        refine r_goto 9 dX2_lullFrom_47 rfl ?_
        first
          | (rw [if_pos (by omega)] at hz; exact ih _ _ _ _ _ (by omega) (by omega) (Or.inr ⟨by omega, by omega, by omega, by omega, by omega⟩) z hz)
          | (rw [if_neg (by omega)] at hz; exact ih _ _ _ l2 _ (by omega) (by omega) (by omega) z hz)

set_option maxRecDepth 20000 in
theorem c_lullFrom (σ : rl_S) (h : Int → Int) (hh : SH σ h) (hb : HB h) (a m : Int) (h0 : 0 ≤ a) (h1 : a < 400) (hm : 1 ≤ m ∧ m ≤ 400) : Ct cW mX2_lullFrom [.ref 9, .int (iI a), .int (iI m)] σ (pR (.int (iI (lu (fun x => spr h (m - 1).toNat x) (401 - m - a).toNat a (-1) (-1)).1)) σ) := by
  refine Ct.of plX2 (Nat.le_of_ble_eq_true rfl) ?_
  refine i_const dX2_lullFrom_0 ?_
  refine r_istore_n dX2_lullFrom_1 (Nat.le_of_ble_eq_true rfl) ?_
  refine i_ldc lcX2_77 dX2_lullFrom_2 ?_
  rw [show (2147483647 : Int32).toInt = 2147483647 from by decide]
  refine r_istore dX2_lullFrom_4 (Nat.le_of_ble_eq_true rfl) ?_
  refine r_iload_n dX2_lullFrom_6 rfl ?_
  refine r_istore dX2_lullFrom_7 (Nat.le_of_ble_eq_true rfl) ?_
  exact c_lull_l σ h hh hb a m hm (401 - m - a).toNat a (-1) _ (-1) _ h0 (by omega) (Or.inl ⟨rfl, rfl⟩) _ rfl

theorem c_gh_l (σ : rl_S) (h : Int → Int) (hh : SH σ h) (hb : HB h) (lim a e : Int) (hl : -2147483648 ≤ lim ∧ lim < 2147483648) (he : e ≤ 400) : ∀ (n : Nat) (t c : Int) (lx : Value), 0 ≤ t → ((t + n = e) ∨ (n = 0 ∧ e ≤ t ∧ t ≤ 400)) → 0 ≤ e → 0 ≤ c → c ≤ 3000 → ∀ z, z = gh h lim n t c → Rn cW mX2_greatestHeightUpTo 6 [.ref 9, .int (iI lim), .int (iI a), .int (iI e), .int (iI c), .int (iI t), lx] [] σ (pR (.int (iI z)) σ) := by
  intro n
  induction n with
  | zero =>
    intro t c lx h0 ht he0 hc0 hc1 z hz
    refine r_iload dX2_greatestHeightUpTo_6 rfl ?_
    refine r_iload_n dX2_greatestHeightUpTo_8 rfl ?_
    refine i_icmp_ge 43 dX2_greatestHeightUpTo_9 rfl ⟨by omega, by omega⟩ ⟨by omega, by omega⟩ (fun q9 => ?_) (fun q9 => ?_)
    · skip
      refine r_iload dX2_greatestHeightUpTo_43 rfl ?_
      refine r_iret rfl dX2_greatestHeightUpTo_45 ?_
      exact ⟨by rw [hz]; rfl, rfl⟩
    · exfalso
      omega
  | succ n ih =>
    intro t c lx h0 ht he0 hc0 hc1 z hz
    have b1 := hb t h0 (by omega)
    simp only [gh] at hz
    refine r_iload dX2_greatestHeightUpTo_6 rfl ?_
    refine r_iload_n dX2_greatestHeightUpTo_8 rfl ?_
    refine i_icmp_ge 43 dX2_greatestHeightUpTo_9 rfl ⟨by omega, by omega⟩ ⟨by omega, by omega⟩ (fun q9 => ?_) (fun q9 => ?_)
    · exfalso
      omega
    · skip
      refine r_aload_n dX2_greatestHeightUpTo_12 rfl ?_
      refine r_iload dX2_greatestHeightUpTo_13 rfl ?_
      refine i_cvP (c_heightAt σ h hh hb t (by omega) (by omega)) lmX2_72 dX2_greatestHeightUpTo_15 (Nat.le_of_ble_eq_true rfl) rfl ⟨_, _, rfl⟩ (by decide) (by decide) rfl rfl (Nat.le_of_ble_eq_true rfl) ?_
      refine r_istore dX2_greatestHeightUpTo_18 (Nat.le_of_ble_eq_true rfl) ?_
      refine r_iload dX2_greatestHeightUpTo_20 rfl ?_
      refine r_iload_n dX2_greatestHeightUpTo_22 rfl ?_
      refine i_icmp_gt 37 dX2_greatestHeightUpTo_23 rfl ⟨by omega, by omega⟩ ⟨by omega, by omega⟩ (fun q23 => ?_) (fun q23 => ?_)
      · skip
        refine i_iinc dX2_greatestHeightUpTo_37 rfl (Nat.le_of_ble_eq_true rfl) ?_
        refine r_goto 6 dX2_greatestHeightUpTo_40 rfl ?_
        first
          | (rw [if_pos (by omega)] at hz; exact ih _ _ _ (by omega) (by omega) (by omega) (by omega) (by omega) z hz)
          | (rw [if_neg (by omega)] at hz; exact ih _ _ _ (by omega) (by omega) (by omega) (by omega) (by omega) z hz)
      · skip
        refine r_iload dX2_greatestHeightUpTo_26 rfl ?_
        refine r_iload dX2_greatestHeightUpTo_28 rfl ?_
        refine i_icmp_le 37 dX2_greatestHeightUpTo_30 rfl ⟨by omega, by omega⟩ ⟨by omega, by omega⟩ (fun q30 => ?_) (fun q30 => ?_)
        · skip
          refine i_iinc dX2_greatestHeightUpTo_37 rfl (Nat.le_of_ble_eq_true rfl) ?_
          refine r_goto 6 dX2_greatestHeightUpTo_40 rfl ?_
          first
            | (rw [if_pos (by omega)] at hz; exact ih _ _ _ (by omega) (by omega) (by omega) (by omega) (by omega) z hz)
            | (rw [if_neg (by omega)] at hz; exact ih _ _ _ (by omega) (by omega) (by omega) (by omega) (by omega) z hz)
        · skip
          refine r_iload dX2_greatestHeightUpTo_33 rfl ?_
          refine r_istore dX2_greatestHeightUpTo_35 (Nat.le_of_ble_eq_true rfl) ?_
          refine i_iinc dX2_greatestHeightUpTo_37 rfl (Nat.le_of_ble_eq_true rfl) ?_
          refine r_goto 6 dX2_greatestHeightUpTo_40 rfl ?_
          first
            | (rw [if_pos (by omega)] at hz; exact ih _ _ _ (by omega) (by omega) (by omega) (by omega) (by omega) z hz)
            | (rw [if_neg (by omega)] at hz; exact ih _ _ _ (by omega) (by omega) (by omega) (by omega) (by omega) z hz)

set_option maxRecDepth 20000 in
theorem c_gh (σ : rl_S) (h : Int → Int) (hh : SH σ h) (hb : HB h) (lim a e : Int) (hl : -2147483648 ≤ lim ∧ lim < 2147483648) (h0 : 0 ≤ a) (h1 : a ≤ 400) (e0 : 0 ≤ e) (he : e ≤ 400) : Ct cW mX2_greatestHeightUpTo [.ref 9, .int (iI lim), .int (iI a), .int (iI e)] σ (pR (.int (iI (gh h lim (e - a).toNat a 0))) σ) := by
  refine Ct.of plX2 (Nat.le_of_ble_eq_true rfl) ?_
  refine i_const dX2_greatestHeightUpTo_0 ?_
  refine r_istore dX2_greatestHeightUpTo_1 (Nat.le_of_ble_eq_true rfl) ?_
  refine r_iload_n dX2_greatestHeightUpTo_3 rfl ?_
  refine r_istore dX2_greatestHeightUpTo_4 (Nat.le_of_ble_eq_true rfl) ?_
  exact c_gh_l σ h hh hb lim a e hl he (e - a).toNat a 0 _ h0 (by omega) e0 (by omega) (by omega) _ rfl

set_option maxRecDepth 20000 in
theorem c_greatest (σ : rl_S) (h : Int → Int) (hh : SH σ h) (hb : HB h)  : Ct cW mX2_greatestHeight [.ref 9] σ (pR (.int (iI (mxU h 400 0 0))) σ) := by
  refine Ct.of plX2 (Nat.le_of_ble_eq_true rfl) ?_
  refine r_aload_n dX2_greatestHeight_0 rfl ?_
  refine i_ldc lcX2_77 dX2_greatestHeight_1 ?_
  rw [show (2147483647 : Int32).toInt = 2147483647 from by decide]
  refine i_const dX2_greatestHeight_3 ?_
  refine i_sipush dX2_greatestHeight_4 (by decide) ?_
  refine i_cvP (c_gh σ h hh hb 2147483647 0 400 (by omega) (by omega) (by omega) (by omega) (by omega)) lmX2_84 dX2_greatestHeight_7 (Nat.le_of_ble_eq_true rfl) rfl ⟨_, _, rfl⟩ (by decide) (by decide) rfl rfl (Nat.le_of_ble_eq_true rfl) ?_
  refine r_iret rfl dX2_greatestHeight_10 ?_
  exact ⟨by rw [gh_mxU hb (by omega) _ _ _ (by omega) (by omega)]; rfl, rfl⟩

theorem c_least_l (σ : rl_S) (h : Int → Int) (hh : SH σ h) (hb : HB h) (a e : Int) (h0 : 0 ≤ a) (he : e ≤ 400) : ∀ (n : Nat) (j : Nat) (t : Int), t = a + j + 1 → t + n = e → Rn cW mX2_leastHeight 11 [.ref 9, .int (iI a), .int (iI e), .int (iI (lo h j a)), .int (iI t)] [] σ (pR (.int (iI (lo h (e - a - 1).toNat a))) σ) := by
  intro n
  induction n with
  | zero =>
    intro j t hj ht
    refine r_iload dX2_leastHeight_11 rfl ?_
    refine r_iload_n dX2_leastHeight_13 rfl ?_
    refine i_icmp_ge 34 dX2_leastHeight_14 rfl ⟨by omega, by omega⟩ ⟨by omega, by omega⟩ (fun q14 => ?_) (fun q14 => ?_)
    · skip
      refine r_iload_n dX2_leastHeight_34 rfl ?_
      refine r_iret rfl dX2_leastHeight_35 ?_
      exact ⟨by rw [show (e - a - 1).toNat = j by omega], rfl⟩
    · exfalso
      omega
  | succ n ih =>
    intro j t hj ht
    have b1 := lo_bd hb j a h0 (by omega)
    have b6 := hb t (by omega) (by omega)
    have e1 : lo h (j + 1) a = min (lo h j a) (h t) := by rw [show t = a + ((j + 1 : Nat) : Int) by omega]; rfl
    refine r_iload dX2_leastHeight_11 rfl ?_
    refine r_iload_n dX2_leastHeight_13 rfl ?_
    refine i_icmp_ge 34 dX2_leastHeight_14 rfl ⟨by omega, by omega⟩ ⟨by omega, by omega⟩ (fun q14 => ?_) (fun q14 => ?_)
    · exfalso
      omega
    · skip
      refine r_iload_n dX2_leastHeight_17 rfl ?_
      refine r_aload_n dX2_leastHeight_18 rfl ?_
      refine r_iload dX2_leastHeight_19 rfl ?_
      refine i_cvP (c_heightAt σ h hh hb t (by omega) (by omega)) lmX2_72 dX2_leastHeight_21 (Nat.le_of_ble_eq_true rfl) rfl ⟨_, _, rfl⟩ (by decide) (by decide) rfl rfl (Nat.le_of_ble_eq_true rfl) ?_
      refine i_mmin lmX2_58 dX2_leastHeight_24 (by decide) (Nat.le_of_ble_eq_true rfl) ⟨by omega, by omega⟩ ⟨by omega, by omega⟩ ?_
      refine r_istore_n dX2_leastHeight_27 (Nat.le_of_ble_eq_true rfl) ?_
      refine i_iinc dX2_leastHeight_28 rfl (Nat.le_of_ble_eq_true rfl) ?_
      refine r_goto 11 dX2_leastHeight_31 rfl ?_
      rw [← e1]
      exact ih (j + 1) (t + 1) (by omega) (by omega)

set_option maxRecDepth 20000 in
theorem c_least (σ : rl_S) (h : Int → Int) (hh : SH σ h) (hb : HB h) (a e : Int) (h0 : 0 ≤ a) (h1 : a < e) (he : e ≤ 400) : Ct cW mX2_leastHeight [.ref 9, .int (iI a), .int (iI e)] σ (pR (.int (iI (lo h (e - a - 1).toNat a))) σ) := by
  refine Ct.of plX2 (Nat.le_of_ble_eq_true rfl) ?_
  refine r_aload_n dX2_leastHeight_0 rfl ?_
  refine r_iload_n dX2_leastHeight_1 rfl ?_
  refine i_cvP (c_heightAt σ h hh hb a (by omega) (by omega)) lmX2_72 dX2_leastHeight_2 (Nat.le_of_ble_eq_true rfl) rfl ⟨_, _, rfl⟩ (by decide) (by decide) rfl rfl (Nat.le_of_ble_eq_true rfl) ?_
  refine r_istore_n dX2_leastHeight_5 (Nat.le_of_ble_eq_true rfl) ?_
  refine r_iload_n dX2_leastHeight_6 rfl ?_
  refine i_const dX2_leastHeight_7 ?_
  refine i_iadd dX2_leastHeight_8 ?_
  refine r_istore dX2_leastHeight_9 (Nat.le_of_ble_eq_true rfl) ?_
  exact c_least_l σ h hh hb a e h0 he (e - a - 1).toNat 0 (a + 1) (by omega) (by omega)

theorem c_saved_l (σ : rl_S) (h : Int → Int) (hh : SH σ h) (hb : HB h) (r : Int → Int) (hr : SR σ r) (rb : HB r) (a0 : 0 ≤ σ 9 4 ∧ σ 9 4 ≤ 399) (m0 : 0 ≤ σ 9 5 ∧ σ 9 5 ≤ 399) (e : Int) (he : e = min 400 (σ 9 4 + σ 9 5)) : ∀ (n : Nat) (t c : Int), 0 ≤ t → ((t + n = e) ∨ (n = 0 ∧ e ≤ t ∧ t ≤ 400)) → 0 ≤ c → c ≤ 3000 → ∀ z, z = mxU r n t c - mxU h (e - σ 9 4).toNat (σ 9 4) 0 → Rn cW mX2_savedByLee 32 [.ref 9, .int (iI e), .int (iI c), .int (iI t)] [] σ (pR (.int (iI z)) σ) := by
  intro n
  induction n with
  | zero =>
    intro t c h0 ht hc0 hc1 z hz
    refine r_iload_n dX2_savedByLee_32 rfl ?_
    refine r_iload_n dX2_savedByLee_33 rfl ?_
    refine i_icmp_ge 53 dX2_savedByLee_34 rfl ⟨by omega, by omega⟩ ⟨by omega, by omega⟩ (fun q34 => ?_) (fun q34 => ?_)
    · skip
      refine r_iload_n dX2_savedByLee_53 rfl ?_
      refine r_aload_n dX2_savedByLee_54 rfl ?_
      refine i_ldc lcX2_77 dX2_savedByLee_55 ?_
      rw [show (2147483647 : Int32).toInt = 2147483647 from by decide]
      refine r_aload_n dX2_savedByLee_57 rfl ?_
      refine r_get (k := 9) lfX2_28 dX2_savedByLee_58 (Nat.le_of_ble_eq_true rfl) rfl rfl ?_
      refine r_iload_n dX2_savedByLee_61 rfl ?_
      refine i_cvP (c_gh σ h hh hb 2147483647 (σ 9 4) e (by omega) (by omega) (by omega) (by omega) (by omega)) lmX2_84 dX2_savedByLee_62 (Nat.le_of_ble_eq_true rfl) rfl ⟨_, _, rfl⟩ (by decide) (by decide) rfl rfl (Nat.le_of_ble_eq_true rfl) ?_
      refine i_isub dX2_savedByLee_65 ?_
      refine r_iret rfl dX2_savedByLee_66 ?_
      exact ⟨by rw [hz, gh_mxU hb (by omega) _ _ _ (by omega) (by omega)]; rfl, rfl⟩
    · exfalso
      omega
  | succ n ih =>
    intro t c h0 ht hc0 hc1 z hz
    have b1 := rb t h0 (by omega)
    simp only [mxU] at hz
    refine r_iload_n dX2_savedByLee_32 rfl ?_
    refine r_iload_n dX2_savedByLee_33 rfl ?_
    refine i_icmp_ge 53 dX2_savedByLee_34 rfl ⟨by omega, by omega⟩ ⟨by omega, by omega⟩ (fun q34 => ?_) (fun q34 => ?_)
    · exfalso
      omega
    · skip
      refine r_iload_n dX2_savedByLee_37 rfl ?_
      refine r_aload_n dX2_savedByLee_38 rfl ?_
      refine r_iload_n dX2_savedByLee_39 rfl ?_
      refine i_cvP (c_heightWithoutLee σ r hr t (by omega) (by omega)) lmX2_63 dX2_savedByLee_40 (Nat.le_of_ble_eq_true rfl) rfl ⟨_, _, rfl⟩ (by decide) (by decide) rfl rfl (Nat.le_of_ble_eq_true rfl) ?_
      refine i_mmax lmX2_81 dX2_savedByLee_43 (by decide) (Nat.le_of_ble_eq_true rfl) ⟨by omega, by omega⟩ ⟨by omega, by omega⟩ ?_
      refine r_istore_n dX2_savedByLee_46 (Nat.le_of_ble_eq_true rfl) ?_
      refine i_iinc dX2_savedByLee_47 rfl (Nat.le_of_ble_eq_true rfl) ?_
      refine r_goto 32 dX2_savedByLee_50 rfl ?_
      exact ih _ _ (by omega) (by omega) (by omega) (by omega) z hz

def svd (r h : Int → Int) (a m : Int) : Int := if m = 0 then -1 else mxU r (min 400 (a + m) - a).toNat a 0 - mxU h (min 400 (a + m) - a).toNat a 0
set_option maxRecDepth 20000 in
theorem c_saved (σ : rl_S) (h : Int → Int) (hh : SH σ h) (hb : HB h) (r : Int → Int) (hr : SR σ r) (rb : HB r) (a0 : 0 ≤ σ 9 4 ∧ σ 9 4 ≤ 399) (m0 : 0 ≤ σ 9 5 ∧ σ 9 5 ≤ 399)  : Ct cW mX2_savedByLee [.ref 9] σ (pR (.int (iI (svd r h (σ 9 4) (σ 9 5)))) σ) := by
  refine Ct.of plX2 (Nat.le_of_ble_eq_true rfl) ?_
  refine r_aload_n dX2_savedByLee_0 rfl ?_
  refine r_get (k := 9) lfX2_32 dX2_savedByLee_1 (Nat.le_of_ble_eq_true rfl) rfl rfl ?_
  refine i_if_ne 9 dX2_savedByLee_4 rfl ⟨by omega, by omega⟩ (fun q4 => ?_) (fun q4 => ?_)
  · skip
    refine i_sipush dX2_savedByLee_9 (by decide) ?_
    refine r_aload_n dX2_savedByLee_12 rfl ?_
    refine r_get (k := 9) lfX2_28 dX2_savedByLee_13 (Nat.le_of_ble_eq_true rfl) rfl rfl ?_
    refine r_aload_n dX2_savedByLee_16 rfl ?_
    refine r_get (k := 9) lfX2_32 dX2_savedByLee_17 (Nat.le_of_ble_eq_true rfl) rfl rfl ?_
    refine i_iadd dX2_savedByLee_20 ?_
    refine i_mmin lmX2_58 dX2_savedByLee_21 (by decide) (Nat.le_of_ble_eq_true rfl) ⟨by omega, by omega⟩ ⟨by omega, by omega⟩ ?_
    refine r_istore_n dX2_savedByLee_24 (Nat.le_of_ble_eq_true rfl) ?_
    refine i_const dX2_savedByLee_25 ?_
    refine r_istore_n dX2_savedByLee_26 (Nat.le_of_ble_eq_true rfl) ?_
    refine r_aload_n dX2_savedByLee_27 rfl ?_
    refine r_get (k := 9) lfX2_28 dX2_savedByLee_28 (Nat.le_of_ble_eq_true rfl) rfl rfl ?_
    refine r_istore_n dX2_savedByLee_31 (Nat.le_of_ble_eq_true rfl) ?_
    exact c_saved_l σ h hh hb r hr rb a0 m0 _ rfl (min 400 (σ 9 4 + σ 9 5) - σ 9 4).toNat (σ 9 4) 0 (by omega) (by omega) (by omega) (by omega) _ (by unfold svd; rw [if_neg (by omega)])
  · skip
    refine i_const dX2_savedByLee_7 ?_
    refine r_iret rfl dX2_savedByLee_8 ?_
    exact ⟨by unfold svd; rw [if_pos (by omega)], rfl⟩
end
section
/-! the sea made anew -/
def cut (a m t z : Int) : Int := if a ≤ t ∧ t < a + m then z / 2 else z
def alo (H P : Int → Int) (l s t : Int) : Int := H s * tri ((t + P s) % l) l
theorem rawU_s (H L P : Int → Int) (t : Int) (n : Nat) : rawU H L P t (n + 1) = rawU H L P t n + alo H P (L n) n t := rfl
/-- heights, lengths, begins of N swells -/
def SW (N : Int) (H L P : Int → Int) : Prop := 0 ≤ N ∧ N ≤ 6 ∧ ∀ s : Int, 0 ≤ s → s < 6 → (0 ≤ H s ∧ H s ≤ 9) ∧ (s < N → 2 ≤ L s ∧ L s ≤ 99) ∧ 0 ≤ P s ∧ P s ≤ 98
theorem alo_bd {H P : Int → Int} {l s t : Int} (hH : 0 ≤ H s ∧ H s ≤ 9) (hP : 0 ≤ P s) (hl : 2 ≤ l ∧ l ≤ 99) (ht : 0 ≤ t) : 0 ≤ alo H P l s t ∧ alo H P l s t ≤ 441 := by
  have h1 := Int.emod_nonneg (t + P s) (show l ≠ 0 by omega)
  have h2 := Int.emod_lt_of_pos (t + P s) (show 0 < l by omega)
  unfold alo
  have h3 : 0 ≤ tri ((t + P s) % l) l ∧ tri ((t + P s) % l) l ≤ 49 := by unfold tri; omega
  refine ⟨Int.mul_nonneg hH.1 h3.1, ?_⟩
  have h4 := Int.mul_le_mul hH.2 h3.2 h3.1 (by decide : (0 : Int) ≤ 9)
  omega
theorem rawU_bd {N : Int} {H L P : Int → Int} (h : SW N H L P) (t : Int) (ht : 0 ≤ t) : ∀ n : Nat, (n : Int) ≤ N → 0 ≤ rawU H L P t n ∧ rawU H L P t n ≤ 441 * n
  | 0, _ => by simp [rawU]
  | n + 1, hn => by
    have i1 := rawU_bd h t ht n (by omega)
    obtain ⟨h1, h2, h3⟩ := h.2.2 n (by omega) (by have := h.2.1; omega)
    have i2 := alo_bd (P := P) (t := t) h1 h3.1 (h2 (by omega)) ht
    rw [rawU_s]
    omega

set_option maxRecDepth 20000 in
theorem c_cutByLee (σ : rl_S) (a0 : 0 ≤ σ 9 4 ∧ σ 9 4 ≤ 399) (m0 : 0 ≤ σ 9 5 ∧ σ 9 5 ≤ 399) (t z : Int) (h0 : 0 ≤ t) (h1 : t < 400) (z0 : 0 ≤ z) (z1 : z < 1000000) : Ct cW mX2_cutByLee [.ref 9, .int (iI t), .int (iI z)] σ (pR (.int (iI (cut (σ 9 4) (σ 9 5) t z))) σ) := by
  refine Ct.of plX2 (Nat.le_of_ble_eq_true rfl) ?_
  refine r_iload_n dX2_cutByLee_0 rfl ?_
  refine r_aload_n dX2_cutByLee_1 rfl ?_
  refine r_get (k := 9) lfX2_28 dX2_cutByLee_2 (Nat.le_of_ble_eq_true rfl) rfl rfl ?_
  refine i_icmp_lt 25 dX2_cutByLee_5 rfl ⟨by omega, by omega⟩ ⟨by omega, by omega⟩ (fun q5 => ?_) (fun q5 => ?_)
  · skip
    refine i_const dX2_cutByLee_25 ?_
    refine r_istore_n dX2_cutByLee_26 (Nat.le_of_ble_eq_true rfl) ?_
    refine r_iload_n dX2_cutByLee_27 rfl ?_
    refine i_if_eq 37 dX2_cutByLee_28 rfl ⟨by omega, by omega⟩ (fun q28 => ?_) (fun q28 => ?_)
    · skip
      refine r_iload_n dX2_cutByLee_37 rfl ?_
      refine r_iret rfl dX2_cutByLee_38 ?_
      first
        | exact ⟨by unfold cut; rw [if_pos (by omega)], rfl⟩
        | exact ⟨by unfold cut; rw [if_neg (by omega)], rfl⟩
    · exfalso
      omega
  · skip
    refine r_iload_n dX2_cutByLee_8 rfl ?_
    refine r_aload_n dX2_cutByLee_9 rfl ?_
    refine r_get (k := 9) lfX2_28 dX2_cutByLee_10 (Nat.le_of_ble_eq_true rfl) rfl rfl ?_
    refine i_isub dX2_cutByLee_13 ?_
    refine r_aload_n dX2_cutByLee_14 rfl ?_
    refine r_get (k := 9) lfX2_32 dX2_cutByLee_15 (Nat.le_of_ble_eq_true rfl) rfl rfl ?_
    refine i_icmp_ge 25 dX2_cutByLee_18 rfl ⟨by omega, by omega⟩ ⟨by omega, by omega⟩ (fun q18 => ?_) (fun q18 => ?_)
    · skip
      refine i_const dX2_cutByLee_25 ?_
      refine r_istore_n dX2_cutByLee_26 (Nat.le_of_ble_eq_true rfl) ?_
      refine r_iload_n dX2_cutByLee_27 rfl ?_
      refine i_if_eq 37 dX2_cutByLee_28 rfl ⟨by omega, by omega⟩ (fun q28 => ?_) (fun q28 => ?_)
      · skip
        refine r_iload_n dX2_cutByLee_37 rfl ?_
        refine r_iret rfl dX2_cutByLee_38 ?_
        first
          | exact ⟨by unfold cut; rw [if_pos (by omega)], rfl⟩
          | exact ⟨by unfold cut; rw [if_neg (by omega)], rfl⟩
      · exfalso
        omega
    · skip
      refine i_const dX2_cutByLee_21 ?_
      refine r_goto 26 dX2_cutByLee_22 rfl ?_
      refine r_istore_n dX2_cutByLee_26 (Nat.le_of_ble_eq_true rfl) ?_
      refine r_iload_n dX2_cutByLee_27 rfl ?_
      refine i_if_eq 37 dX2_cutByLee_28 rfl ⟨by omega, by omega⟩ (fun q28 => ?_) (fun q28 => ?_)
      · exfalso
        omega
      · skip
        refine r_iload_n dX2_cutByLee_31 rfl ?_
        refine i_const dX2_cutByLee_32 ?_
        refine i_idiv dX2_cutByLee_33 ⟨by omega, by omega⟩ ⟨by omega, by omega⟩ ?_
        refine r_goto 38 dX2_cutByLee_34 rfl ?_
        refine r_iret rfl dX2_cutByLee_38 ?_
        first
          | exact ⟨by unfold cut; rw [if_pos (by omega)], rfl⟩
          | exact ⟨by unfold cut; rw [if_neg (by omega)], rfl⟩

set_option maxRecDepth 20000 in
theorem c_alone (σ : rl_S) (H P : Int → Int) (hH : S6 3 σ H) (hP : S6 10 σ P) (s l t : Int) (s0 : 0 ≤ s) (s1 : s < 6) (l0 : 2 ≤ l) (l1 : l ≤ 99) (t0 : 0 ≤ t) (t1 : t < 400) (p0 : 0 ≤ P s ∧ P s ≤ 98) : Ct cW mX2_alone [.ref 9, .int (iI s), .int (iI l), .int (iI t)] σ (pR (.int (iI (alo H P l s t))) σ) := by
  refine Ct.of plX2 (Nat.le_of_ble_eq_true rfl) ?_
  refine r_iload_n dX2_alone_0 rfl ?_
  refine i_const dX2_alone_1 ?_
  refine i_icmp_ge 7 dX2_alone_2 rfl ⟨by omega, by omega⟩ ⟨by omega, by omega⟩ (fun q2 => ?_) (fun q2 => ?_)
  · skip
    refine r_iload_n dX2_alone_7 rfl ?_
    refine r_aload_n dX2_alone_8 rfl ?_
    refine r_iload_n dX2_alone_9 rfl ?_
    refine i_cvP (c_beginOf σ P hP s s0 s1) lmX2_52 dX2_alone_10 (Nat.le_of_ble_eq_true rfl) rfl ⟨_, _, rfl⟩ (by decide) (by decide) rfl rfl (Nat.le_of_ble_eq_true rfl) ?_
    refine i_iadd dX2_alone_13 ?_
    refine r_iload_n dX2_alone_14 rfl ?_
    refine i_irem dX2_alone_15 ⟨by omega, by omega⟩ ⟨by omega, by omega⟩ ?_
    have h1 := Int.emod_nonneg (t + P s) (show l ≠ 0 by omega)
    have h2 := Int.emod_lt_of_pos (t + P s) (show 0 < l by omega)
    refine r_istore dX2_alone_16 (Nat.le_of_ble_eq_true rfl) ?_
    refine r_aload_n dX2_alone_18 rfl ?_
    refine r_get (k := 9) lfX2_21 dX2_alone_19 (Nat.le_of_ble_eq_true rfl) rfl rfl ?_
    refine r_iload_n dX2_alone_22 rfl ?_
    refine i_cvP (c_heightOf_1 σ H hH s s0 s1) lmX2_55 dX2_alone_23 (Nat.le_of_ble_eq_true rfl) rfl ⟨_, _, rfl⟩ (by decide) (by decide) rfl rfl (Nat.le_of_ble_eq_true rfl) ?_
    refine r_iload dX2_alone_26 rfl ?_
    refine r_iload_n dX2_alone_28 rfl ?_
    refine r_iload dX2_alone_29 rfl ?_
    refine i_isub dX2_alone_31 ?_
    refine i_mmin lmX2_58 dX2_alone_32 (by decide) (Nat.le_of_ble_eq_true rfl) ⟨by omega, by omega⟩ ⟨by omega, by omega⟩ ?_
    refine i_imul dX2_alone_35 ?_
    refine r_iret rfl dX2_alone_36 ?_
    exact ⟨rfl, rfl⟩
  · exfalso
    omega

set_option maxRecDepth 20000 in
theorem c_heightWith (σ : rl_S) (H L P : Int → Int) (hH : S6 3 σ H) (hP : S6 10 σ P) (hL : S6 4 σ L) (r : Int → Int) (hr : SR σ r) (a0 : 0 ≤ σ 9 4 ∧ σ 9 4 ≤ 399) (m0 : 0 ≤ σ 9 5 ∧ σ 9 5 ≤ 399) (s l t : Int) (s0 : 0 ≤ s) (s1 : s < 6) (l0 : 2 ≤ l) (l1 : l ≤ 99) (L0 : 2 ≤ L s ∧ L s ≤ 99) (t0 : 0 ≤ t) (t1 : t < 400) (p0 : 0 ≤ P s ∧ P s ≤ 98) (z0 : 0 ≤ r t - alo H P (L s) s t + alo H P l s t) (z1 : r t - alo H P (L s) s t + alo H P l s t < 1000000) : Ct cW mX2_heightWith [.ref 9, .int (iI s), .int (iI l), .int (iI t)] σ (pR (.int (iI (cut (σ 9 4) (σ 9 5) t (r t - alo H P (L s) s t + alo H P l s t)))) σ) := by
  refine Ct.of plX2 (Nat.le_of_ble_eq_true rfl) ?_
  refine r_aload_n dX2_heightWith_0 rfl ?_
  refine r_iload_n dX2_heightWith_1 rfl ?_
  refine i_cvP (c_heightWithoutLee σ r hr t t0 t1) lmX2_63 dX2_heightWith_2 (Nat.le_of_ble_eq_true rfl) rfl ⟨_, _, rfl⟩ (by decide) (by decide) rfl rfl (Nat.le_of_ble_eq_true rfl) ?_
  refine r_aload_n dX2_heightWith_5 rfl ?_
  refine r_iload_n dX2_heightWith_6 rfl ?_
  refine r_aload_n dX2_heightWith_7 rfl ?_
  refine r_get (k := 9) lfX2_21 dX2_heightWith_8 (Nat.le_of_ble_eq_true rfl) rfl rfl ?_
  refine r_iload_n dX2_heightWith_11 rfl ?_
  refine i_cvP (c_lengthOf_1 σ L hL s s0 s1) lmX2_40 dX2_heightWith_12 (Nat.le_of_ble_eq_true rfl) rfl ⟨_, _, rfl⟩ (by decide) (by decide) rfl rfl (Nat.le_of_ble_eq_true rfl) ?_
  refine r_iload_n dX2_heightWith_15 rfl ?_
  refine i_cvP (c_alone σ H P hH hP s (L s) t s0 s1 L0.1 L0.2 t0 t1 p0) lmX2_44 dX2_heightWith_16 (Nat.le_of_ble_eq_true rfl) rfl ⟨_, _, rfl⟩ (by decide) (by decide) rfl rfl (Nat.le_of_ble_eq_true rfl) ?_
  refine i_isub dX2_heightWith_19 ?_
  refine r_istore dX2_heightWith_20 (Nat.le_of_ble_eq_true rfl) ?_
  refine r_aload_n dX2_heightWith_22 rfl ?_
  refine r_iload_n dX2_heightWith_23 rfl ?_
  refine r_iload dX2_heightWith_24 rfl ?_
  refine r_aload_n dX2_heightWith_26 rfl ?_
  refine r_iload_n dX2_heightWith_27 rfl ?_
  refine r_iload_n dX2_heightWith_28 rfl ?_
  refine r_iload_n dX2_heightWith_29 rfl ?_
  refine i_cvP (c_alone σ H P hH hP s l t s0 s1 l0 l1 t0 t1 p0) lmX2_44 dX2_heightWith_30 (Nat.le_of_ble_eq_true rfl) rfl ⟨_, _, rfl⟩ (by decide) (by decide) rfl rfl (Nat.le_of_ble_eq_true rfl) ?_
  refine i_iadd dX2_heightWith_33 ?_
  refine i_cvP (c_cutByLee σ a0 m0 t _ t0 t1 z0 z1) lmX2_48 dX2_heightWith_34 (Nat.le_of_ble_eq_true rfl) rfl ⟨_, _, rfl⟩ (by decide) (by decide) rfl rfl (Nat.le_of_ble_eq_true rfl) ?_
  refine r_iret rfl dX2_heightWith_37 ?_
  exact ⟨rfl, rfl⟩

/-- what making the sea anew does -/
def ren (σ : rl_S) (N : Int) (H L P : Int → Int) : rl_S → Prop := fun σ2 => SR σ2 (fun t => rawU H L P t N.toNat) ∧ SH σ2 (hiF (fun t => rawU H L P t N.toNat) (σ 9 4) (σ 9 5)) ∧ ∀ k i, k ≠ 11 → k ≠ 12 → σ2 k i = σ k i
def fr11 (σ σ2 : rl_S) : Prop := ∀ k i, k ≠ 11 → σ2 k i = σ k i
def fr12 (σ σ2 : rl_S) : Prop := ∀ k i, k ≠ 11 → k ≠ 12 → σ2 k i = σ k i
theorem c_renew_3 (σ : rl_S) (N : Int) (H L P : Int → Int) (hw : SW N H L P) (hN : σ 1 7 = N) (hH : S6 3 σ H) (hL : S6 4 σ L) (hP : S6 10 σ P) (a0 : 0 ≤ σ 9 4 ∧ σ 9 4 ≤ 399) (m0 : 0 ≤ σ 9 5 ∧ σ 9 5 ≤ 399) : ∀ (n : Nat) (k : Int) (l2 l3 : Value) (σ2 : rl_S), 0 ≤ k → k + n = 400 → SR σ2 (fun t => rawU H L P t N.toNat) → (∀ z : Int, 0 ≤ z → z < k → σ2 12 z.toNat = hiF (fun t => rawU H L P t N.toNat) (σ 9 4) (σ 9 5) z) → fr12 σ σ2 → Rn cW mX2_renew 87 [.ref 9, .int (iI k), l2, l3] [] σ2 (qV (ren σ N H L P)) := by
  intro n
  induction n with
  | zero =>
    intro k l2 l3 σ2 h0 hk hr hh hf
    refine r_iload_n dX2_renew_87 rfl ?_
    refine r_aload_n dX2_renew_88 rfl ?_
    refine r_get (k := 9) lfX2_18 dX2_renew_89 (Nat.le_of_ble_eq_true rfl) rfl rfl ?_
    refine i_alen (k := 12) dX2_renew_92 (Nat.le_of_ble_eq_true rfl) rfl rfl ?_
    refine i_icmp_ge 128 dX2_renew_93 rfl ⟨by omega, by omega⟩ ⟨by omega, by omega⟩ (fun q93 => ?_) (fun q93 => ?_)
    · skip
      refine r_vret rfl dX2_renew_128 ?_
      exact ⟨rfl, hr, fun z z0 z1 => hh z z0 (by omega), hf⟩
    · exfalso
      omega
  | succ n ih =>
    intro k l2 l3 σ2 h0 hk hr hh hf
    have hb := rawU_bd hw k h0 N.toNat (by have := hw.1; omega)
    have hN6 := hw.2.1
    have e4 : σ2 9 4 = σ 9 4 := hf 9 4 (by decide) (by decide)
    have e5 : σ2 9 5 = σ 9 5 := hf 9 5 (by decide) (by decide)
    refine r_iload_n dX2_renew_87 rfl ?_
    refine r_aload_n dX2_renew_88 rfl ?_
    refine r_get (k := 9) lfX2_18 dX2_renew_89 (Nat.le_of_ble_eq_true rfl) rfl rfl ?_
    refine i_alen (k := 12) dX2_renew_92 (Nat.le_of_ble_eq_true rfl) rfl rfl ?_
    refine i_icmp_ge 128 dX2_renew_93 rfl ⟨by omega, by omega⟩ ⟨by omega, by omega⟩ (fun q93 => ?_) (fun q93 => ?_)
    · exfalso
      omega
    · skip
      refine r_iload_n dX2_renew_96 rfl ?_
      refine r_aload_n dX2_renew_97 rfl ?_
      refine r_get (k := 9) lfX2_15 dX2_renew_98 (Nat.le_of_ble_eq_true rfl) rfl rfl ?_
      refine i_alen (k := 11) dX2_renew_101 (Nat.le_of_ble_eq_true rfl) rfl rfl ?_
      refine i_icmp_ge 128 dX2_renew_102 rfl ⟨by omega, by omega⟩ ⟨by omega, by omega⟩ (fun q102 => ?_) (fun q102 => ?_)
      · exfalso
        omega
      · skip
        refine r_aload_n dX2_renew_105 rfl ?_
        refine r_get (k := 9) lfX2_18 dX2_renew_106 (Nat.le_of_ble_eq_true rfl) rfl rfl ?_
        refine r_iload_n dX2_renew_109 rfl ?_
        refine r_aload_n dX2_renew_110 rfl ?_
        refine r_iload_n dX2_renew_111 rfl ?_
        refine r_aload_n dX2_renew_112 rfl ?_
        refine r_get (k := 9) lfX2_15 dX2_renew_113 (Nat.le_of_ble_eq_true rfl) rfl rfl ?_
        refine r_iload_n dX2_renew_116 rfl ?_
        refine i_ald (k := 11) dX2_renew_117 (Nat.le_of_ble_eq_true rfl) rfl rfl ⟨by omega, by omega⟩ (by decide) ?_
        rw [show σ2 11 k.toNat = rawU H L P k N.toNat from hr k h0 (by omega)]
        refine i_cvP (c_cutByLee σ2 (by rw [e4]; exact a0) (by rw [e5]; exact m0) k (rawU H L P k N.toNat) h0 (by omega) (by omega) (by omega)) lmX2_48 dX2_renew_118 (Nat.le_of_ble_eq_true rfl) rfl ⟨_, _, rfl⟩ (by decide) (by decide) rfl rfl (Nat.le_of_ble_eq_true rfl) ?_
        refine i_ast (k := 12) dX2_renew_121 (Nat.le_of_ble_eq_true rfl) rfl rfl ⟨by omega, by omega⟩ (by decide) ?_
        refine i_iinc dX2_renew_122 rfl (Nat.le_of_ble_eq_true rfl) ?_
        refine r_goto 87 dX2_renew_125 rfl ?_
        exact ih (k + 1) _ _ _ (by omega) (by omega) (fun z z0 z1 => (sup_k _ _ _ _ _ (by decide)).trans (hr z z0 z1)) (row_up hh h0 (by rw [e4, e5]; rfl)) (fun a i g1 g2 => (sup_k _ _ _ _ _ g2).trans (hf a i g1 g2))

theorem c_renew_in (σ : rl_S) (N : Int) (H L P : Int → Int) (hw : SW N H L P) (hN : σ 1 7 = N) (hH : S6 3 σ H) (hL : S6 4 σ L) (hP : S6 10 σ P) (a0 : 0 ≤ σ 9 4 ∧ σ 9 4 ≤ 399) (m0 : 0 ≤ σ 9 5 ∧ σ 9 5 ≤ 399) (s : Nat) (hs : (s : Int) < N) (Post : Option Value → rl_S → Prop) (K : ∀ (l3 : Value) (σ3 : rl_S), (∀ z : Int, 0 ≤ z → z < 400 → σ3 11 z.toNat = rawU H L P z (s + 1)) → fr11 σ σ3 → Rn cW mX2_renew 79 [.ref 9, .int (iI s), .int (iI (L s)), l3] [] σ3 Post) : ∀ (n : Nat) (k : Int) (σ2 : rl_S), 0 ≤ k → k + n = 400 → (∀ z : Int, 0 ≤ z → z < k → σ2 11 z.toNat = rawU H L P z (s + 1)) → (∀ z : Int, k ≤ z → z < 400 → σ2 11 z.toNat = rawU H L P z s) → fr11 σ σ2 → Rn cW mX2_renew 48 [.ref 9, .int (iI s), .int (iI (L s)), .int (iI k)] [] σ2 Post := by
  intro n
  induction n with
  | zero =>
    intro k σ2 h0 hk e1 e2 hf
    refine r_iload_n dX2_renew_48 rfl ?_
    refine r_aload_n dX2_renew_49 rfl ?_
    refine r_get (k := 9) lfX2_15 dX2_renew_50 (Nat.le_of_ble_eq_true rfl) rfl rfl ?_
    refine i_alen (k := 11) dX2_renew_53 (Nat.le_of_ble_eq_true rfl) rfl rfl ?_
    refine i_icmp_ge 79 dX2_renew_54 rfl ⟨by omega, by omega⟩ ⟨by omega, by omega⟩ (fun q54 => ?_) (fun q54 => ?_)
    · skip
      exact K _ σ2 (fun z z0 z1 => e1 z z0 (by omega)) hf
    · exfalso
      omega
  | succ n ih =>
    intro k σ2 h0 hk e1 e2 hf
    have hN6 := hw.2.1
    obtain ⟨b1, b2, b3⟩ := hw.2.2 s (by omega) (by omega)
    have b2 := b2 hs
    refine r_iload_n dX2_renew_48 rfl ?_
    refine r_aload_n dX2_renew_49 rfl ?_
    refine r_get (k := 9) lfX2_15 dX2_renew_50 (Nat.le_of_ble_eq_true rfl) rfl rfl ?_
    refine i_alen (k := 11) dX2_renew_53 (Nat.le_of_ble_eq_true rfl) rfl rfl ?_
    refine i_icmp_ge 79 dX2_renew_54 rfl ⟨by omega, by omega⟩ ⟨by omega, by omega⟩ (fun q54 => ?_) (fun q54 => ?_)
    · exfalso
      omega
    · skip
      refine r_aload_n dX2_renew_57 rfl ?_
      refine r_get (k := 9) lfX2_15 dX2_renew_58 (Nat.le_of_ble_eq_true rfl) rfl rfl ?_
      refine r_iload_n dX2_renew_61 rfl ?_
      refine r_dup2 dX2_renew_62 rfl rfl ?_
      refine i_ald (k := 11) dX2_renew_63 (Nat.le_of_ble_eq_true rfl) rfl rfl ⟨by omega, by omega⟩ (by decide) ?_
      rw [e2 k (by omega) (by omega)]
      refine r_aload_n dX2_renew_64 rfl ?_
      refine r_iload_n dX2_renew_65 rfl ?_
      refine r_iload_n dX2_renew_66 rfl ?_
      refine r_iload_n dX2_renew_67 rfl ?_
      refine i_cvP (c_alone σ2 H P (fun z z0 z1 => (hf 3 _ (by decide)).trans (hH z z0 z1)) (fun z z0 z1 => (hf 10 _ (by decide)).trans (hP z z0 z1)) s (L s) k (by omega) (by omega) b2.1 b2.2 h0 (by omega) b3) lmX2_44 dX2_renew_68 (Nat.le_of_ble_eq_true rfl) rfl ⟨_, _, rfl⟩ (by decide) (by decide) rfl rfl (Nat.le_of_ble_eq_true rfl) ?_
      refine i_iadd dX2_renew_71 ?_
      refine i_ast (k := 11) dX2_renew_72 (Nat.le_of_ble_eq_true rfl) rfl rfl ⟨by omega, by omega⟩ (by decide) ?_
      refine i_iinc dX2_renew_73 rfl (Nat.le_of_ble_eq_true rfl) ?_
      refine r_goto 48 dX2_renew_76 rfl ?_
      exact ih (k + 1) _ (by omega) (by omega) (row_up e1 h0 (rawU_s H L P k s).symm) (fun z z0 z1 => (sup_i _ _ _ _ (by omega)).trans (e2 z (by omega) z1)) (fun a i g1 => (sup_k _ _ _ _ _ g1).trans (hf a i g1))

theorem c_renew_2 (σ : rl_S) (N : Int) (H L P : Int → Int) (hw : SW N H L P) (hN : σ 1 7 = N) (hH : S6 3 σ H) (hL : S6 4 σ L) (hP : S6 10 σ P) (a0 : 0 ≤ σ 9 4 ∧ σ 9 4 ≤ 399) (m0 : 0 ≤ σ 9 5 ∧ σ 9 5 ≤ 399) : ∀ (n : Nat) (s : Nat) (l2 l3 : Value) (σ2 : rl_S), (s : Int) + n = N → (∀ z : Int, 0 ≤ z → z < 400 → σ2 11 z.toNat = rawU H L P z s) → fr11 σ σ2 → Rn cW mX2_renew 26 [.ref 9, .int (iI s), l2, l3] [] σ2 (qV (ren σ N H L P)) := by
  intro n
  induction n with
  | zero =>
    intro s l2 l3 σ2 hs e1 hf
    have hN6 := hw.2.1
    refine r_iload_n dX2_renew_26 rfl ?_
    refine r_aload_n dX2_renew_27 rfl ?_
    refine r_get (k := 9) lfX2_21 dX2_renew_28 (Nat.le_of_ble_eq_true rfl) rfl rfl ?_
    refine r_get (k := 1) lfX2_35 dX2_renew_31 (Nat.le_of_ble_eq_true rfl) rfl rfl ?_
    rw [hf 1 7 (by decide), hN]
    refine i_icmp_ge 85 dX2_renew_34 rfl ⟨by omega, by omega⟩ ⟨by omega, by omega⟩ (fun q34 => ?_) (fun q34 => ?_)
    · skip
      refine i_const dX2_renew_85 ?_
      refine r_istore_n dX2_renew_86 (Nat.le_of_ble_eq_true rfl) ?_
      exact c_renew_3 σ N H L P hw hN hH hL hP a0 m0 400 0 _ _ σ2 (by omega) (by omega) (fun z z0 z1 => by rw [e1 z z0 z1, show N.toNat = s by omega]) (fun z z0 z1 => absurd z1 (by omega)) (fun a i g1 _ => hf a i g1)
    · exfalso
      omega
  | succ n ih =>
    intro s l2 l3 σ2 hs e1 hf
    have hN6 := hw.2.1
    refine r_iload_n dX2_renew_26 rfl ?_
    refine r_aload_n dX2_renew_27 rfl ?_
    refine r_get (k := 9) lfX2_21 dX2_renew_28 (Nat.le_of_ble_eq_true rfl) rfl rfl ?_
    refine r_get (k := 1) lfX2_35 dX2_renew_31 (Nat.le_of_ble_eq_true rfl) rfl rfl ?_
    rw [hf 1 7 (by decide), hN]
    refine i_icmp_ge 85 dX2_renew_34 rfl ⟨by omega, by omega⟩ ⟨by omega, by omega⟩ (fun q34 => ?_) (fun q34 => ?_)
    · exfalso
      omega
    · skip
      refine r_aload_n dX2_renew_37 rfl ?_
      refine r_get (k := 9) lfX2_21 dX2_renew_38 (Nat.le_of_ble_eq_true rfl) rfl rfl ?_
      refine r_iload_n dX2_renew_41 rfl ?_
      refine i_cvP (c_lengthOf_1 σ2 L (fun z z0 z1 => (hf 4 _ (by decide)).trans (hL z z0 z1)) s (by omega) (by omega)) lmX2_40 dX2_renew_42 (Nat.le_of_ble_eq_true rfl) rfl ⟨_, _, rfl⟩ (by decide) (by decide) rfl rfl (Nat.le_of_ble_eq_true rfl) ?_
      refine r_istore_n dX2_renew_45 (Nat.le_of_ble_eq_true rfl) ?_
      refine i_const dX2_renew_46 ?_
      refine r_istore_n dX2_renew_47 (Nat.le_of_ble_eq_true rfl) ?_
      refine c_renew_in σ N H L P hw hN hH hL hP a0 m0 s (by omega) _ (fun l3 σ3 e3 hf3 => ?_) 400 0 σ2 (by omega) (by omega) (fun z z0 z1 => absurd z1 (by omega)) (fun z z0 z1 => e1 z z0 z1) hf
      refine i_iinc dX2_renew_79 rfl (Nat.le_of_ble_eq_true rfl) ?_
      refine r_goto 26 dX2_renew_82 rfl ?_
      exact ih (s + 1) _ _ σ3 (by omega) e3 hf3
      

theorem c_renew_1 (σ : rl_S) (N : Int) (H L P : Int → Int) (hw : SW N H L P) (hN : σ 1 7 = N) (hH : S6 3 σ H) (hL : S6 4 σ L) (hP : S6 10 σ P) (a0 : 0 ≤ σ 9 4 ∧ σ 9 4 ≤ 399) (m0 : 0 ≤ σ 9 5 ∧ σ 9 5 ≤ 399) : ∀ (n : Nat) (k : Int) (l2 l3 : Value) (σ2 : rl_S), 0 ≤ k → k + n = 400 → (∀ z : Int, 0 ≤ z → z < k → σ2 11 z.toNat = (fun _ => 0) z) → fr11 σ σ2 → Rn cW mX2_renew 2 [.ref 9, .int (iI k), l2, l3] [] σ2 (qV (ren σ N H L P)) := by
  intro n
  induction n with
  | zero =>
    intro k l2 l3 σ2 h0 hk e1 hf
    refine r_iload_n dX2_renew_2 rfl ?_
    refine r_aload_n dX2_renew_3 rfl ?_
    refine r_get (k := 9) lfX2_15 dX2_renew_4 (Nat.le_of_ble_eq_true rfl) rfl rfl ?_
    refine i_alen (k := 11) dX2_renew_7 (Nat.le_of_ble_eq_true rfl) rfl rfl ?_
    refine i_icmp_ge 24 dX2_renew_8 rfl ⟨by omega, by omega⟩ ⟨by omega, by omega⟩ (fun q8 => ?_) (fun q8 => ?_)
    · skip
      refine i_const dX2_renew_24 ?_
      refine r_istore_n dX2_renew_25 (Nat.le_of_ble_eq_true rfl) ?_
      exact c_renew_2 σ N H L P hw hN hH hL hP a0 m0 N.toNat 0 _ _ σ2 (by have := hw.1; omega) (fun z z0 z1 => e1 z z0 (by omega)) hf
    · exfalso
      omega
  | succ n ih =>
    intro k l2 l3 σ2 h0 hk e1 hf
    refine r_iload_n dX2_renew_2 rfl ?_
    refine r_aload_n dX2_renew_3 rfl ?_
    refine r_get (k := 9) lfX2_15 dX2_renew_4 (Nat.le_of_ble_eq_true rfl) rfl rfl ?_
    refine i_alen (k := 11) dX2_renew_7 (Nat.le_of_ble_eq_true rfl) rfl rfl ?_
    refine i_icmp_ge 24 dX2_renew_8 rfl ⟨by omega, by omega⟩ ⟨by omega, by omega⟩ (fun q8 => ?_) (fun q8 => ?_)
    · exfalso
      omega
    · skip
      refine r_aload_n dX2_renew_11 rfl ?_
      refine r_get (k := 9) lfX2_15 dX2_renew_12 (Nat.le_of_ble_eq_true rfl) rfl rfl ?_
      refine r_iload_n dX2_renew_15 rfl ?_
      refine i_const dX2_renew_16 ?_
      refine i_ast (k := 11) dX2_renew_17 (Nat.le_of_ble_eq_true rfl) rfl rfl ⟨by omega, by omega⟩ (by decide) ?_
      refine i_iinc dX2_renew_18 rfl (Nat.le_of_ble_eq_true rfl) ?_
      refine r_goto 2 dX2_renew_21 rfl ?_
      exact ih (k + 1) _ _ _ (by omega) (by omega) (row_up e1 h0 rfl) (fun a i g1 => (sup_k _ _ _ _ _ g1).trans (hf a i g1))

set_option maxRecDepth 20000 in
theorem c_renew (σ : rl_S) (N : Int) (H L P : Int → Int) (hw : SW N H L P) (hN : σ 1 7 = N) (hH : S6 3 σ H) (hL : S6 4 σ L) (hP : S6 10 σ P) (a0 : 0 ≤ σ 9 4 ∧ σ 9 4 ≤ 399) (m0 : 0 ≤ σ 9 5 ∧ σ 9 5 ≤ 399)  : Ct cW mX2_renew [.ref 9] σ (qV (ren σ N H L P)) := by
  refine Ct.of plX2 (Nat.le_of_ble_eq_true rfl) ?_
  refine i_const dX2_renew_0 ?_
  refine r_istore_n dX2_renew_1 (Nat.le_of_ble_eq_true rfl) ?_
  exact c_renew_1 σ N H L P hw hN hH hL hP a0 m0 400 0 _ _ σ (by omega) (by omega) (fun z z0 z1 => absurd z1 (by omega)) (fun _ _ _ => rfl)

set_option maxRecDepth 20000 in
theorem c_beginAt (σ : rl_S) (N : Int) (H L P : Int → Int) (hw : SW N H L P) (hN : σ 1 7 = N) (hH : S6 3 σ H) (hL : S6 4 σ L) (hP : S6 10 σ P) (a0 : 0 ≤ σ 9 4 ∧ σ 9 4 ≤ 399) (m0 : 0 ≤ σ 9 5 ∧ σ 9 5 ≤ 399) (s v : Int) (s0 : 0 ≤ s) (s1 : s < 6) (v0 : 0 ≤ v ∧ v ≤ 98) : Ct cW mX2_beginAt [.ref 9, .int (iI s), .int (iI v)] σ (qV (ren (sup σ 10 s.toNat v) N H L (bUp P s v))) := by
  refine Ct.of plX2 (Nat.le_of_ble_eq_true rfl) ?_
  refine r_iload_n dX2_beginAt_0 rfl ?_
  refine i_if_lt 24 dX2_beginAt_1 rfl ⟨by omega, by omega⟩ (fun q1 => ?_) (fun q1 => ?_)
  · exfalso
    omega
  · skip
    refine r_iload_n dX2_beginAt_4 rfl ?_
    refine r_aload_n dX2_beginAt_5 rfl ?_
    refine r_get (k := 9) lfX2_9 dX2_beginAt_6 (Nat.le_of_ble_eq_true rfl) rfl rfl ?_
    refine i_alen (k := 10) dX2_beginAt_9 (Nat.le_of_ble_eq_true rfl) rfl rfl ?_
    refine i_icmp_ge 24 dX2_beginAt_10 rfl ⟨by omega, by omega⟩ ⟨by omega, by omega⟩ (fun q10 => ?_) (fun q10 => ?_)
    · exfalso
      omega
    · skip
      refine r_aload_n dX2_beginAt_13 rfl ?_
      refine r_get (k := 9) lfX2_9 dX2_beginAt_14 (Nat.le_of_ble_eq_true rfl) rfl rfl ?_
      refine r_iload_n dX2_beginAt_17 rfl ?_
      refine r_iload_n dX2_beginAt_18 rfl ?_
      refine i_ast (k := 10) dX2_beginAt_19 (Nat.le_of_ble_eq_true rfl) rfl rfl ⟨by omega, by omega⟩ (by decide) ?_
      refine r_aload_n dX2_beginAt_20 rfl ?_
      refine i_cvV (c_renew (sup σ 10 s.toNat v) N H L (bUp P s v) ⟨hw.1, hw.2.1, fun z z0 z1 => ⟨(hw.2.2 z z0 z1).1, (hw.2.2 z z0 z1).2.1, by
            unfold bUp
            split
            · exact v0
            · exact (hw.2.2 z z0 z1).2.2⟩⟩ ((sup_k _ _ _ _ _ (by decide)).trans hN) (row_o hH (by decide)) (row_o hL (by decide)) (fun z z0 z1 => by
            unfold bUp
            by_cases hz : z = s
            · rw [if_pos hz, hz, sup_h]
            · rw [if_neg hz, sup_i _ _ _ _ (by omega)]; exact hP z z0 z1) (by rw [sup_k _ _ _ _ _ (show 9 ≠ 10 by decide)]; exact a0) (by rw [sup_k _ _ _ _ _ (show 9 ≠ 10 by decide)]; exact m0)) lmX2_25 dX2_beginAt_21 (Nat.le_of_ble_eq_true rfl) rfl ⟨_, _, rfl⟩ (by decide) (by decide) rfl rfl (Nat.le_of_ble_eq_true rfl) (fun σ1 hu => ?_)
      refine r_vret rfl dX2_beginAt_24 ?_
      exact ⟨rfl, hu⟩

set_option maxRecDepth 20000 in
theorem c_putLee (σ : rl_S) (N : Int) (H L P : Int → Int) (hw : SW N H L P) (hN : σ 1 7 = N) (hH : S6 3 σ H) (hL : S6 4 σ L) (hP : S6 10 σ P) (a0 : 0 ≤ σ 9 4 ∧ σ 9 4 ≤ 399) (m0 : 0 ≤ σ 9 5 ∧ σ 9 5 ≤ 399) (a m : Int) (ha : 0 ≤ a ∧ a ≤ 399) (hm : 0 ≤ m ∧ m ≤ 399) : Ct cW mX2_putLee [.ref 9, .int (iI a), .int (iI m)] σ (qV (ren (sup (sup σ 9 4 a) 9 5 m) N H L P)) := by
  refine Ct.of plX2 (Nat.le_of_ble_eq_true rfl) ?_
  refine r_aload_n dX2_putLee_0 rfl ?_
  refine r_iload_n dX2_putLee_1 rfl ?_
  refine i_put (k := 9) lpX2_28 dX2_putLee_2 (Nat.le_of_ble_eq_true rfl) rfl rfl ?_
  refine r_aload_n dX2_putLee_5 rfl ?_
  refine r_iload_n dX2_putLee_6 rfl ?_
  refine i_put (k := 9) lpX2_32 dX2_putLee_7 (Nat.le_of_ble_eq_true rfl) rfl rfl ?_
  refine r_aload_n dX2_putLee_10 rfl ?_
  refine i_cvV (c_renew (sup (sup σ 9 4 a) 9 5 m) N H L P hw (by rw [sup_k _ _ _ _ _ (show 1 ≠ 9 by decide), sup_k _ _ _ _ _ (show 1 ≠ 9 by decide)]; exact hN) (row_o (row_o hH (by decide)) (by decide)) (row_o (row_o hL (by decide)) (by decide)) (row_o (row_o hP (by decide)) (by decide)) (by rw [sup_i _ _ _ _ (show 4 ≠ 5 by decide), sup_h]; exact ha) (by rw [sup_h]; exact hm)) lmX2_25 dX2_putLee_11 (Nat.le_of_ble_eq_true rfl) rfl ⟨_, _, rfl⟩ (by decide) (by decide) rfl rfl (Nat.le_of_ble_eq_true rfl) (fun σ1 hu => ?_)
  refine r_vret rfl dX2_putLee_14 ?_
  exact ⟨rfl, hu⟩
end
