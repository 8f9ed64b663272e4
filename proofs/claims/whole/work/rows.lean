section
/-- a private method of a class that the tables say can be made, by its rows of tables_1 -/
def lw_okq (q : MethodName × Nat) : Prop := (q.1.cls ≠ "java/lang/invoke/MethodHandle" ∧ q.1.cls ≠ "java/lang/invoke/VarHandle") ∧ Cond.instantiable q.1.cls q.2 ∈ tables_1 ∧ Cond.privateMethod q.1 ∈ tables_1 ∧ Cond.instanceMethod q.1 ∈ tables_1
theorem lw_p0 : lw_okq (⟨"LikeLastYears", "hasLine", "()Z"⟩, 15) := ⟨⟨by decide +kernel, by decide +kernel⟩, List.mem_of_getElem? (i := 18) (by decide +kernel), List.mem_of_getElem? (i := 217) (by decide +kernel), List.mem_of_getElem? (i := 218) (by decide +kernel)⟩
theorem lw_p1 : lw_okq (⟨"LikeLastYears", "tellAbout", "(II)I"⟩, 15) := ⟨⟨by decide +kernel, by decide +kernel⟩, List.mem_of_getElem? (i := 18) (by decide +kernel), List.mem_of_getElem? (i := 281) (by decide +kernel), List.mem_of_getElem? (i := 282) (by decide +kernel)⟩
theorem lw_p2 : lw_okq (⟨"LikeLastYears$Bench", "noteBits", "(I)V"⟩, 6) := ⟨⟨by decide +kernel, by decide +kernel⟩, List.mem_of_getElem? (i := 47) (by decide +kernel), List.mem_of_getElem? (i := 478) (by decide +kernel), List.mem_of_getElem? (i := 479) (by decide +kernel)⟩
theorem lw_p3 : lw_okq (⟨"LikeLastYears", "strictest", "()I"⟩, 15) := ⟨⟨by decide +kernel, by decide +kernel⟩, List.mem_of_getElem? (i := 18) (by decide +kernel), List.mem_of_getElem? (i := 518) (by decide +kernel), List.mem_of_getElem? (i := 519) (by decide +kernel)⟩
theorem lw_p4 : lw_okq (⟨"LikeLastYears", "passing", "(I)I"⟩, 15) := ⟨⟨by decide +kernel, by decide +kernel⟩, List.mem_of_getElem? (i := 18) (by decide +kernel), List.mem_of_getElem? (i := 526) (by decide +kernel), List.mem_of_getElem? (i := 527) (by decide +kernel)⟩
theorem lw_p5 : lw_okq (⟨"LikeLastYears$Search", "startRound", "()V"⟩, 9) := ⟨⟨by decide +kernel, by decide +kernel⟩, List.mem_of_getElem? (i := 89) (by decide +kernel), List.mem_of_getElem? (i := 558) (by decide +kernel), List.mem_of_getElem? (i := 559) (by decide +kernel)⟩
theorem lw_p6 : lw_okq (⟨"LikeLastYears$Search", "reach", "(II)V"⟩, 9) := ⟨⟨by decide +kernel, by decide +kernel⟩, List.mem_of_getElem? (i := 89) (by decide +kernel), List.mem_of_getElem? (i := 562) (by decide +kernel), List.mem_of_getElem? (i := 563) (by decide +kernel)⟩
theorem lw_p7 : lw_okq (⟨"LikeLastYears$Search", "slipFrom", "(II)V"⟩, 9) := ⟨⟨by decide +kernel, by decide +kernel⟩, List.mem_of_getElem? (i := 89) (by decide +kernel), List.mem_of_getElem? (i := 566) (by decide +kernel), List.mem_of_getElem? (i := 567) (by decide +kernel)⟩
theorem lw_p8 : lw_okq (⟨"LikeLastYears$Search", "isReached", "(I)Z"⟩, 9) := ⟨⟨by decide +kernel, by decide +kernel⟩, List.mem_of_getElem? (i := 89) (by decide +kernel), List.mem_of_getElem? (i := 586) (by decide +kernel), List.mem_of_getElem? (i := 587) (by decide +kernel)⟩
theorem lw_p9 : lw_okq (⟨"LikeLastYears$Search", "passYear", "(IZ)V"⟩, 9) := ⟨⟨by decide +kernel, by decide +kernel⟩, List.mem_of_getElem? (i := 89) (by decide +kernel), List.mem_of_getElem? (i := 599) (by decide +kernel), List.mem_of_getElem? (i := 600) (by decide +kernel)⟩
theorem lw_p10 : lw_okq (⟨"LikeLastYears$Search", "firstOf", "(I)I"⟩, 9) := ⟨⟨by decide +kernel, by decide +kernel⟩, List.mem_of_getElem? (i := 89) (by decide +kernel), List.mem_of_getElem? (i := 605) (by decide +kernel), List.mem_of_getElem? (i := 606) (by decide +kernel)⟩
theorem lw_p11 : lw_okq (⟨"LikeLastYears", "copied", "(III)I"⟩, 15) := ⟨⟨by decide +kernel, by decide +kernel⟩, List.mem_of_getElem? (i := 18) (by decide +kernel), List.mem_of_getElem? (i := 621) (by decide +kernel), List.mem_of_getElem? (i := 622) (by decide +kernel)⟩
theorem lw_p12 : lw_okq (⟨"LikeLastYears", "within", "(I)I"⟩, 15) := ⟨⟨by decide +kernel, by decide +kernel⟩, List.mem_of_getElem? (i := 18) (by decide +kernel), List.mem_of_getElem? (i := 660) (by decide +kernel), List.mem_of_getElem? (i := 661) (by decide +kernel)⟩
theorem lw_p13 : lw_okq (⟨"LikeLastYears", "refusalOf", "(ILLikeLastYears$Row;)I"⟩, 15) := ⟨⟨by decide +kernel, by decide +kernel⟩, List.mem_of_getElem? (i := 18) (by decide +kernel), List.mem_of_getElem? (i := 669) (by decide +kernel), List.mem_of_getElem? (i := 670) (by decide +kernel)⟩
theorem lw_p14 : lw_okq (⟨"LikeLastYears", "takenForKing", "()I"⟩, 15) := ⟨⟨by decide +kernel, by decide +kernel⟩, List.mem_of_getElem? (i := 18) (by decide +kernel), List.mem_of_getElem? (i := 677) (by decide +kernel), List.mem_of_getElem? (i := 678) (by decide +kernel)⟩
theorem lw_p15 : lw_okq (⟨"LikeLastYears$Sorter", "tryPlaces", "(III)V"⟩, 6) := ⟨⟨by decide +kernel, by decide +kernel⟩, List.mem_of_getElem? (i := 123) (by decide +kernel), List.mem_of_getElem? (i := 697) (by decide +kernel), List.mem_of_getElem? (i := 698) (by decide +kernel)⟩
def lw_privs_1 : List (MethodName × Nat) := [(⟨"LikeLastYears", "hasLine", "()Z"⟩, 15), (⟨"LikeLastYears", "tellAbout", "(II)I"⟩, 15), (⟨"LikeLastYears$Bench", "noteBits", "(I)V"⟩, 6), (⟨"LikeLastYears", "strictest", "()I"⟩, 15), (⟨"LikeLastYears", "passing", "(I)I"⟩, 15), (⟨"LikeLastYears$Search", "startRound", "()V"⟩, 9), (⟨"LikeLastYears$Search", "reach", "(II)V"⟩, 9), (⟨"LikeLastYears$Search", "slipFrom", "(II)V"⟩, 9), (⟨"LikeLastYears$Search", "isReached", "(I)Z"⟩, 9), (⟨"LikeLastYears$Search", "passYear", "(IZ)V"⟩, 9), (⟨"LikeLastYears$Search", "firstOf", "(I)I"⟩, 9), (⟨"LikeLastYears", "copied", "(III)I"⟩, 15), (⟨"LikeLastYears", "within", "(I)I"⟩, 15), (⟨"LikeLastYears", "refusalOf", "(ILLikeLastYears$Row;)I"⟩, 15), (⟨"LikeLastYears", "takenForKing", "()I"⟩, 15), (⟨"LikeLastYears$Sorter", "tryPlaces", "(III)V"⟩, 6)]
theorem lw_r1 : ∀ q ∈ lw_privs_1, lw_okq q := List.forall_mem_cons.mpr ⟨lw_p0, List.forall_mem_cons.mpr ⟨lw_p1, List.forall_mem_cons.mpr ⟨lw_p2, List.forall_mem_cons.mpr ⟨lw_p3, List.forall_mem_cons.mpr ⟨lw_p4, List.forall_mem_cons.mpr ⟨lw_p5, List.forall_mem_cons.mpr ⟨lw_p6, List.forall_mem_cons.mpr ⟨lw_p7, List.forall_mem_cons.mpr ⟨lw_p8, List.forall_mem_cons.mpr ⟨lw_p9, List.forall_mem_cons.mpr ⟨lw_p10, List.forall_mem_cons.mpr ⟨lw_p11, List.forall_mem_cons.mpr ⟨lw_p12, List.forall_mem_cons.mpr ⟨lw_p13, List.forall_mem_cons.mpr ⟨lw_p14, List.forall_mem_cons.mpr ⟨lw_p15, fun _ h => absurd h List.not_mem_nil⟩⟩⟩⟩⟩⟩⟩⟩⟩⟩⟩⟩⟩⟩⟩⟩
theorem lw_p16 : lw_okq (⟨"LikeLastYears", "howMany", "(I)I"⟩, 15) := ⟨⟨by decide +kernel, by decide +kernel⟩, List.mem_of_getElem? (i := 18) (by decide +kernel), List.mem_of_getElem? (i := 724) (by decide +kernel), List.mem_of_getElem? (i := 725) (by decide +kernel)⟩
theorem lw_p17 : lw_okq (⟨"LikeLastYears", "withFindings", "(J)J"⟩, 15) := ⟨⟨by decide +kernel, by decide +kernel⟩, List.mem_of_getElem? (i := 18) (by decide +kernel), List.mem_of_getElem? (i := 737) (by decide +kernel), List.mem_of_getElem? (i := 738) (by decide +kernel)⟩
theorem lw_p18 : lw_okq (⟨"LikeLastYearsModel", "lacks", "()Z"⟩, 31) := ⟨⟨by decide +kernel, by decide +kernel⟩, List.mem_of_getElem? (i := 741) (by decide +kernel), List.mem_of_getElem? (i := 850) (by decide +kernel), List.mem_of_getElem? (i := 851) (by decide +kernel)⟩
theorem lw_p19 : lw_okq (⟨"LikeLastYearsModel", "isFeature", "(I)Z"⟩, 31) := ⟨⟨by decide +kernel, by decide +kernel⟩, List.mem_of_getElem? (i := 741) (by decide +kernel), List.mem_of_getElem? (i := 858) (by decide +kernel), List.mem_of_getElem? (i := 859) (by decide +kernel)⟩
theorem lw_p20 : lw_okq (⟨"LikeLastYearsModel", "tellFeature", "(II)I"⟩, 31) := ⟨⟨by decide +kernel, by decide +kernel⟩, List.mem_of_getElem? (i := 741) (by decide +kernel), List.mem_of_getElem? (i := 862) (by decide +kernel), List.mem_of_getElem? (i := 863) (by decide +kernel)⟩
theorem lw_p21 : lw_okq (⟨"LikeLastYearsModel", "last", "()I"⟩, 31) := ⟨⟨by decide +kernel, by decide +kernel⟩, List.mem_of_getElem? (i := 741) (by decide +kernel), List.mem_of_getElem? (i := 866) (by decide +kernel), List.mem_of_getElem? (i := 867) (by decide +kernel)⟩
theorem lw_p22 : lw_okq (⟨"LikeLastYearsModel", "kingAsPortrait", "()I"⟩, 31) := ⟨⟨by decide +kernel, by decide +kernel⟩, List.mem_of_getElem? (i := 741) (by decide +kernel), List.mem_of_getElem? (i := 881) (by decide +kernel), List.mem_of_getElem? (i := 882) (by decide +kernel)⟩
theorem lw_p23 : lw_okq (⟨"LikeLastYearsModel", "isPortrait", "(I)Z"⟩, 31) := ⟨⟨by decide +kernel, by decide +kernel⟩, List.mem_of_getElem? (i := 741) (by decide +kernel), List.mem_of_getElem? (i := 892) (by decide +kernel), List.mem_of_getElem? (i := 893) (by decide +kernel)⟩
theorem lw_p24 : lw_okq (⟨"LikeLastYearsModel", "portraits", "()I"⟩, 31) := ⟨⟨by decide +kernel, by decide +kernel⟩, List.mem_of_getElem? (i := 741) (by decide +kernel), List.mem_of_getElem? (i := 896) (by decide +kernel), List.mem_of_getElem? (i := 897) (by decide +kernel)⟩
theorem lw_p25 : lw_okq (⟨"LikeLastYearsModel", "apartOf", "(II)I"⟩, 31) := ⟨⟨by decide +kernel, by decide +kernel⟩, List.mem_of_getElem? (i := 741) (by decide +kernel), List.mem_of_getElem? (i := 900) (by decide +kernel), List.mem_of_getElem? (i := 901) (by decide +kernel)⟩
theorem lw_p26 : lw_okq (⟨"LikeLastYearsModel", "apartIn", "(III)I"⟩, 31) := ⟨⟨by decide +kernel, by decide +kernel⟩, List.mem_of_getElem? (i := 741) (by decide +kernel), List.mem_of_getElem? (i := 904) (by decide +kernel), List.mem_of_getElem? (i := 905) (by decide +kernel)⟩
theorem lw_p27 : lw_okq (⟨"LikeLastYearsModel", "stepsOf", "(III)I"⟩, 31) := ⟨⟨by decide +kernel, by decide +kernel⟩, List.mem_of_getElem? (i := 741) (by decide +kernel), List.mem_of_getElem? (i := 908) (by decide +kernel), List.mem_of_getElem? (i := 909) (by decide +kernel)⟩
theorem lw_p28 : lw_okq (⟨"LikeLastYearsModel", "keepKing", "()V"⟩, 31) := ⟨⟨by decide +kernel, by decide +kernel⟩, List.mem_of_getElem? (i := 741) (by decide +kernel), List.mem_of_getElem? (i := 919) (by decide +kernel), List.mem_of_getElem? (i := 920) (by decide +kernel)⟩
theorem lw_p29 : lw_okq (⟨"LikeLastYearsModel", "age", "()V"⟩, 31) := ⟨⟨by decide +kernel, by decide +kernel⟩, List.mem_of_getElem? (i := 741) (by decide +kernel), List.mem_of_getElem? (i := 923) (by decide +kernel), List.mem_of_getElem? (i := 924) (by decide +kernel)⟩
theorem lw_p30 : lw_okq (⟨"LikeLastYearsModel", "isLet", "(II)Z"⟩, 31) := ⟨⟨by decide +kernel, by decide +kernel⟩, List.mem_of_getElem? (i := 741) (by decide +kernel), List.mem_of_getElem? (i := 927) (by decide +kernel), List.mem_of_getElem? (i := 928) (by decide +kernel)⟩
theorem lw_p31 : lw_okq (⟨"LikeLastYearsModel", "letsMany", "(II)I"⟩, 31) := ⟨⟨by decide +kernel, by decide +kernel⟩, List.mem_of_getElem? (i := 741) (by decide +kernel), List.mem_of_getElem? (i := 931) (by decide +kernel), List.mem_of_getElem? (i := 932) (by decide +kernel)⟩
def lw_privs_2 : List (MethodName × Nat) := [(⟨"LikeLastYears", "howMany", "(I)I"⟩, 15), (⟨"LikeLastYears", "withFindings", "(J)J"⟩, 15), (⟨"LikeLastYearsModel", "lacks", "()Z"⟩, 31), (⟨"LikeLastYearsModel", "isFeature", "(I)Z"⟩, 31), (⟨"LikeLastYearsModel", "tellFeature", "(II)I"⟩, 31), (⟨"LikeLastYearsModel", "last", "()I"⟩, 31), (⟨"LikeLastYearsModel", "kingAsPortrait", "()I"⟩, 31), (⟨"LikeLastYearsModel", "isPortrait", "(I)Z"⟩, 31), (⟨"LikeLastYearsModel", "portraits", "()I"⟩, 31), (⟨"LikeLastYearsModel", "apartOf", "(II)I"⟩, 31), (⟨"LikeLastYearsModel", "apartIn", "(III)I"⟩, 31), (⟨"LikeLastYearsModel", "stepsOf", "(III)I"⟩, 31), (⟨"LikeLastYearsModel", "keepKing", "()V"⟩, 31), (⟨"LikeLastYearsModel", "age", "()V"⟩, 31), (⟨"LikeLastYearsModel", "isLet", "(II)Z"⟩, 31), (⟨"LikeLastYearsModel", "letsMany", "(II)I"⟩, 31)]
theorem lw_r2 : ∀ q ∈ lw_privs_2, lw_okq q := List.forall_mem_cons.mpr ⟨lw_p16, List.forall_mem_cons.mpr ⟨lw_p17, List.forall_mem_cons.mpr ⟨lw_p18, List.forall_mem_cons.mpr ⟨lw_p19, List.forall_mem_cons.mpr ⟨lw_p20, List.forall_mem_cons.mpr ⟨lw_p21, List.forall_mem_cons.mpr ⟨lw_p22, List.forall_mem_cons.mpr ⟨lw_p23, List.forall_mem_cons.mpr ⟨lw_p24, List.forall_mem_cons.mpr ⟨lw_p25, List.forall_mem_cons.mpr ⟨lw_p26, List.forall_mem_cons.mpr ⟨lw_p27, List.forall_mem_cons.mpr ⟨lw_p28, List.forall_mem_cons.mpr ⟨lw_p29, List.forall_mem_cons.mpr ⟨lw_p30, List.forall_mem_cons.mpr ⟨lw_p31, fun _ h => absurd h List.not_mem_nil⟩⟩⟩⟩⟩⟩⟩⟩⟩⟩⟩⟩⟩⟩⟩⟩
theorem lw_p32 : lw_okq (⟨"LikeLastYearsModel", "letsOne", "(III)Z"⟩, 31) := ⟨⟨by decide +kernel, by decide +kernel⟩, List.mem_of_getElem? (i := 741) (by decide +kernel), List.mem_of_getElem? (i := 935) (by decide +kernel), List.mem_of_getElem? (i := 936) (by decide +kernel)⟩
theorem lw_p33 : lw_okq (⟨"LikeLastYearsModel", "putBack", "()V"⟩, 31) := ⟨⟨by decide +kernel, by decide +kernel⟩, List.mem_of_getElem? (i := 741) (by decide +kernel), List.mem_of_getElem? (i := 939) (by decide +kernel), List.mem_of_getElem? (i := 940) (by decide +kernel)⟩
theorem lw_p34 : lw_okq (⟨"LikeLastYearsModel", "faultOf", "()I"⟩, 31) := ⟨⟨by decide +kernel, by decide +kernel⟩, List.mem_of_getElem? (i := 741) (by decide +kernel), List.mem_of_getElem? (i := 960) (by decide +kernel), List.mem_of_getElem? (i := 961) (by decide +kernel)⟩
theorem lw_p35 : lw_okq (⟨"LikeLastYearsModel", "go", "(I)Z"⟩, 31) := ⟨⟨by decide +kernel, by decide +kernel⟩, List.mem_of_getElem? (i := 741) (by decide +kernel), List.mem_of_getElem? (i := 964) (by decide +kernel), List.mem_of_getElem? (i := 965) (by decide +kernel)⟩
theorem lw_p36 : lw_okq (⟨"LikeLastYearsModel", "strictOf", "()I"⟩, 31) := ⟨⟨by decide +kernel, by decide +kernel⟩, List.mem_of_getElem? (i := 741) (by decide +kernel), List.mem_of_getElem? (i := 985) (by decide +kernel), List.mem_of_getElem? (i := 986) (by decide +kernel)⟩
theorem lw_p37 : lw_okq (⟨"LikeLastYearsModel", "slipsOf", "(II)I"⟩, 31) := ⟨⟨by decide +kernel, by decide +kernel⟩, List.mem_of_getElem? (i := 741) (by decide +kernel), List.mem_of_getElem? (i := 994) (by decide +kernel), List.mem_of_getElem? (i := 995) (by decide +kernel)⟩
theorem lw_p38 : lw_okq (⟨"LikeLastYearsModel", "slipOf", "(III)I"⟩, 31) := ⟨⟨by decide +kernel, by decide +kernel⟩, List.mem_of_getElem? (i := 741) (by decide +kernel), List.mem_of_getElem? (i := 998) (by decide +kernel), List.mem_of_getElem? (i := 999) (by decide +kernel)⟩
theorem lw_p39 : lw_okq (⟨"LikeLastYearsModel", "truthBy", "(I)I"⟩, 31) := ⟨⟨by decide +kernel, by decide +kernel⟩, List.mem_of_getElem? (i := 741) (by decide +kernel), List.mem_of_getElem? (i := 1006) (by decide +kernel), List.mem_of_getElem? (i := 1007) (by decide +kernel)⟩
theorem lw_p40 : lw_okq (⟨"LikeLastYearsModel", "madeTrue", "(II)I"⟩, 31) := ⟨⟨by decide +kernel, by decide +kernel⟩, List.mem_of_getElem? (i := 741) (by decide +kernel), List.mem_of_getElem? (i := 1010) (by decide +kernel), List.mem_of_getElem? (i := 1011) (by decide +kernel)⟩
theorem lw_p41 : lw_okq (⟨"LikeLastYearsModel", "draw", "(I)I"⟩, 31) := ⟨⟨by decide +kernel, by decide +kernel⟩, List.mem_of_getElem? (i := 741) (by decide +kernel), List.mem_of_getElem? (i := 1020) (by decide +kernel), List.mem_of_getElem? (i := 1021) (by decide +kernel)⟩
theorem lw_p42 : lw_okq (⟨"LikeLastYearsModel", "backOf", "(I)I"⟩, 31) := ⟨⟨by decide +kernel, by decide +kernel⟩, List.mem_of_getElem? (i := 741) (by decide +kernel), List.mem_of_getElem? (i := 1032) (by decide +kernel), List.mem_of_getElem? (i := 1033) (by decide +kernel)⟩
theorem lw_p43 : lw_okq (⟨"LikeLastYearsModel", "spanOf", "(I)I"⟩, 31) := ⟨⟨by decide +kernel, by decide +kernel⟩, List.mem_of_getElem? (i := 741) (by decide +kernel), List.mem_of_getElem? (i := 1040) (by decide +kernel), List.mem_of_getElem? (i := 1041) (by decide +kernel)⟩
theorem lw_p44 : lw_okq (⟨"LikeLastYearsModel", "gateOf", "()I"⟩, 31) := ⟨⟨by decide +kernel, by decide +kernel⟩, List.mem_of_getElem? (i := 741) (by decide +kernel), List.mem_of_getElem? (i := 1052) (by decide +kernel), List.mem_of_getElem? (i := 1053) (by decide +kernel)⟩
theorem lw_p45 : lw_okq (⟨"LikeLastYearsModel", "tellOrder", "(I)I"⟩, 31) := ⟨⟨by decide +kernel, by decide +kernel⟩, List.mem_of_getElem? (i := 741) (by decide +kernel), List.mem_of_getElem? (i := 1066) (by decide +kernel), List.mem_of_getElem? (i := 1067) (by decide +kernel)⟩
theorem lw_p46 : lw_okq (⟨"LikeLastYearsModel", "layOrder", "()I"⟩, 31) := ⟨⟨by decide +kernel, by decide +kernel⟩, List.mem_of_getElem? (i := 741) (by decide +kernel), List.mem_of_getElem? (i := 1070) (by decide +kernel), List.mem_of_getElem? (i := 1071) (by decide +kernel)⟩
theorem lw_p47 : lw_okq (⟨"LikeLastYearsModel", "nextRow", "()Z"⟩, 31) := ⟨⟨by decide +kernel, by decide +kernel⟩, List.mem_of_getElem? (i := 741) (by decide +kernel), List.mem_of_getElem? (i := 1074) (by decide +kernel), List.mem_of_getElem? (i := 1075) (by decide +kernel)⟩
def lw_privs_3 : List (MethodName × Nat) := [(⟨"LikeLastYearsModel", "letsOne", "(III)Z"⟩, 31), (⟨"LikeLastYearsModel", "putBack", "()V"⟩, 31), (⟨"LikeLastYearsModel", "faultOf", "()I"⟩, 31), (⟨"LikeLastYearsModel", "go", "(I)Z"⟩, 31), (⟨"LikeLastYearsModel", "strictOf", "()I"⟩, 31), (⟨"LikeLastYearsModel", "slipsOf", "(II)I"⟩, 31), (⟨"LikeLastYearsModel", "slipOf", "(III)I"⟩, 31), (⟨"LikeLastYearsModel", "truthBy", "(I)I"⟩, 31), (⟨"LikeLastYearsModel", "madeTrue", "(II)I"⟩, 31), (⟨"LikeLastYearsModel", "draw", "(I)I"⟩, 31), (⟨"LikeLastYearsModel", "backOf", "(I)I"⟩, 31), (⟨"LikeLastYearsModel", "spanOf", "(I)I"⟩, 31), (⟨"LikeLastYearsModel", "gateOf", "()I"⟩, 31), (⟨"LikeLastYearsModel", "tellOrder", "(I)I"⟩, 31), (⟨"LikeLastYearsModel", "layOrder", "()I"⟩, 31), (⟨"LikeLastYearsModel", "nextRow", "()Z"⟩, 31)]
theorem lw_r3 : ∀ q ∈ lw_privs_3, lw_okq q := List.forall_mem_cons.mpr ⟨lw_p32, List.forall_mem_cons.mpr ⟨lw_p33, List.forall_mem_cons.mpr ⟨lw_p34, List.forall_mem_cons.mpr ⟨lw_p35, List.forall_mem_cons.mpr ⟨lw_p36, List.forall_mem_cons.mpr ⟨lw_p37, List.forall_mem_cons.mpr ⟨lw_p38, List.forall_mem_cons.mpr ⟨lw_p39, List.forall_mem_cons.mpr ⟨lw_p40, List.forall_mem_cons.mpr ⟨lw_p41, List.forall_mem_cons.mpr ⟨lw_p42, List.forall_mem_cons.mpr ⟨lw_p43, List.forall_mem_cons.mpr ⟨lw_p44, List.forall_mem_cons.mpr ⟨lw_p45, List.forall_mem_cons.mpr ⟨lw_p46, List.forall_mem_cons.mpr ⟨lw_p47, fun _ h => absurd h List.not_mem_nil⟩⟩⟩⟩⟩⟩⟩⟩⟩⟩⟩⟩⟩⟩⟩⟩
theorem lw_p48 : lw_okq (⟨"LikeLastYearsModel", "countOf", "(I)I"⟩, 31) := ⟨⟨by decide +kernel, by decide +kernel⟩, List.mem_of_getElem? (i := 741) (by decide +kernel), List.mem_of_getElem? (i := 1093) (by decide +kernel), List.mem_of_getElem? (i := 1094) (by decide +kernel)⟩
theorem lw_p49 : lw_okq (⟨"LikeLastYearsModel", "say", "(J)V"⟩, 31) := ⟨⟨by decide +kernel, by decide +kernel⟩, List.mem_of_getElem? (i := 741) (by decide +kernel), List.mem_of_getElem? (i := 1102) (by decide +kernel), List.mem_of_getElem? (i := 1103) (by decide +kernel)⟩
theorem lw_p50 : lw_okq (⟨"LikeLastYearsModel", "sayLine", "()V"⟩, 31) := ⟨⟨by decide +kernel, by decide +kernel⟩, List.mem_of_getElem? (i := 741) (by decide +kernel), List.mem_of_getElem? (i := 1107) (by decide +kernel), List.mem_of_getElem? (i := 1108) (by decide +kernel)⟩
def lw_privs_4 : List (MethodName × Nat) := [(⟨"LikeLastYearsModel", "countOf", "(I)I"⟩, 31), (⟨"LikeLastYearsModel", "say", "(J)V"⟩, 31), (⟨"LikeLastYearsModel", "sayLine", "()V"⟩, 31)]
theorem lw_r4 : ∀ q ∈ lw_privs_4, lw_okq q := List.forall_mem_cons.mpr ⟨lw_p48, List.forall_mem_cons.mpr ⟨lw_p49, List.forall_mem_cons.mpr ⟨lw_p50, fun _ h => absurd h List.not_mem_nil⟩⟩⟩
def lw_privs : List (MethodName × Nat) := lw_privs_1 ++ (lw_privs_2 ++ (lw_privs_3 ++ (lw_privs_4)))
def lw_tbl : List Cond := k2_sels lw_privs ++ tables_1
theorem lw_privs_ok : ∀ q ∈ lw_privs, lw_okq q := by
  show ∀ q ∈ lw_privs_1 ++ (lw_privs_2 ++ (lw_privs_3 ++ (lw_privs_4))), lw_okq q
  exact List.forall_mem_append.mpr ⟨lw_r1, List.forall_mem_append.mpr ⟨lw_r2, List.forall_mem_append.mpr ⟨lw_r3, lw_r4⟩⟩⟩
end
section
def RX0 : String := "LikeLastYears$Beard"
def TX0 : u_T := fun k => match k with
  | _ => ("", "", "", false)
def tyX0 : Nat → FieldType := fun k => match k with
  | _ => .int
abbrev wsX00 : List Cond := u_ws RX0 TX0 0
theorem nmX0 : ∀ a, a < 0 → ∀ b, b < 0 → a ≠ b → (TX0 a).2.1 ≠ (TX0 b).2.1 := by decide +kernel
theorem tyX0_ok : ∀ k, k < 0 → parseFieldDescriptor (TX0 k).2.2.1 = some (tyX0 k) := by decide +kernel
abbrev cX0_init : ByteArray := prog_2_method_1_code
def yX0_init : MethodName := ⟨RX0, "<init>", "()V"⟩
abbrev cX0_kind : ByteArray := prog_2_method_2_code
def yX0_kind : MethodName := ⟨RX0, "kind", "()I"⟩
abbrev cX0_aged : ByteArray := prog_2_method_3_code
def yX0_aged : MethodName := ⟨RX0, "aged", "(I)I"⟩
abbrev cX0_gap : ByteArray := prog_2_method_4_code
def yX0_gap : MethodName := ⟨RX0, "gap", "(II)I"⟩
abbrev cX0_steps : ByteArray := prog_2_method_5_code
def yX0_steps : MethodName := ⟨RX0, "steps", "(II)I"⟩
abbrev cX0_slipped : ByteArray := prog_2_method_6_code
def yX0_slipped : MethodName := ⟨RX0, "slipped", "(II)I"⟩
def RX1 : String := "LikeLastYears$Bench"
def TX1 : u_T := fun k => match k with
  | 0 => ("LikeLastYears$Bench", "looks", "LLikeLastYears$Looks;", true)
  | 1 => ("LikeLastYears$Bench", "marks", "[I", true)
  | 2 => ("LikeLastYears$Bench", "allowing", "[I", true)
  | 3 => ("LikeLastYears$Bench", "allowingAll", "[I", true)
  | 4 => ("LikeLastYears$Bench", "binding", "[I", true)
  | _ => ("LikeLastYears$Bench", "size", "I", false)
def tyX1 : Nat → FieldType := fun k => match k with
  | 0 => .object "LikeLastYears$Looks"
  | 1 => .array .int
  | 2 => .array .int
  | 3 => .array .int
  | 4 => .array .int
  | _ => .int
abbrev wsX10 : List Cond := u_ws RX1 TX1 6
theorem nmX1 : ∀ a, a < 6 → ∀ b, b < 6 → a ≠ b → (TX1 a).2.1 ≠ (TX1 b).2.1 := by decide +kernel
theorem tyX1_ok : ∀ k, k < 6 → parseFieldDescriptor (TX1 k).2.2.1 = some (tyX1 k) := by decide +kernel
abbrev cX1_init : ByteArray := prog_3_method_1_code
def yX1_init : MethodName := ⟨RX1, "<init>", "(LLikeLastYears$Looks;)V"⟩
abbrev cX1_size : ByteArray := prog_3_method_2_code
def yX1_size : MethodName := ⟨RX1, "size", "()I"⟩
abbrev cX1_isFull : ByteArray := prog_3_method_3_code
def yX1_isFull : MethodName := ⟨RX1, "isFull", "()Z"⟩
abbrev cX1_has : ByteArray := prog_3_method_4_code
def yX1_has : MethodName := ⟨RX1, "has", "(I)Z"⟩
abbrev cX1_mark : ByteArray := prog_3_method_5_code
def yX1_mark : MethodName := ⟨RX1, "mark", "(II)I"⟩
abbrev cX1_allows : ByteArray := prog_3_method_6_code
def yX1_allows : MethodName := ⟨RX1, "allows", "(III)Z"⟩
abbrev cX1_binds : ByteArray := prog_3_method_7_code
def yX1_binds : MethodName := ⟨RX1, "binds", "(II)Z"⟩
abbrev cX1_farthest : ByteArray := prog_3_method_8_code
def yX1_farthest : MethodName := ⟨RX1, "farthest", "(I)I"⟩
abbrev cX1_add : ByteArray := prog_3_method_9_code
def yX1_add : MethodName := ⟨RX1, "add", "(LLikeLastYears$Row;)I"⟩
abbrev cX1_noteBits : ByteArray := prog_3_method_10_code
def yX1_noteBits : MethodName := ⟨RX1, "noteBits", "(I)V"⟩
abbrev cX1_willing : ByteArray := prog_3_method_11_code
def yX1_willing : MethodName := ⟨RX1, "willing", "(III)I"⟩
abbrev cX1_agrees : ByteArray := prog_3_method_12_code
def yX1_agrees : MethodName := ⟨RX1, "agrees", "(III)Z"⟩
def RX2 : String := "LikeLastYears$Census"
def TX2 : u_T := fun k => match k with
  | 0 => ("LikeLastYears$Census", "met", "[I", true)
  | 1 => ("LikeLastYears$Census", "portraits", "[I", false)
  | _ => ("LikeLastYears$Census", "spare", "[I", false)
def tyX2 : Nat → FieldType := fun k => match k with
  | 0 => .array .int
  | 1 => .array .int
  | _ => .array .int
abbrev wsX20 : List Cond := u_ws RX2 TX2 3
theorem nmX2 : ∀ a, a < 3 → ∀ b, b < 3 → a ≠ b → (TX2 a).2.1 ≠ (TX2 b).2.1 := by decide +kernel
theorem tyX2_ok : ∀ k, k < 3 → parseFieldDescriptor (TX2 k).2.2.1 = some (tyX2 k) := by decide +kernel
abbrev cX2_init : ByteArray := prog_4_method_1_code
def yX2_init : MethodName := ⟨RX2, "<init>", "()V"⟩
abbrev cX2_open : ByteArray := prog_4_method_2_code
def yX2_open : MethodName := ⟨RX2, "open", "()V"⟩
abbrev cX2_meet : ByteArray := prog_4_method_3_code
def yX2_meet : MethodName := ⟨RX2, "meet", "(I)V"⟩
abbrev cX2_close : ByteArray := prog_4_method_4_code
def yX2_close : MethodName := ⟨RX2, "close", "()V"⟩
abbrev cX2_upTo : ByteArray := prog_4_method_5_code
def yX2_upTo : MethodName := ⟨RX2, "upTo", "(I)I"⟩
def RX3 : String := "LikeLastYears$Crown"
def TX3 : u_T := fun k => match k with
  | _ => ("", "", "", false)
def tyX3 : Nat → FieldType := fun k => match k with
  | _ => .int
abbrev wsX30 : List Cond := u_ws RX3 TX3 0
theorem nmX3 : ∀ a, a < 0 → ∀ b, b < 0 → a ≠ b → (TX3 a).2.1 ≠ (TX3 b).2.1 := by decide +kernel
theorem tyX3_ok : ∀ k, k < 0 → parseFieldDescriptor (TX3 k).2.2.1 = some (tyX3 k) := by decide +kernel
abbrev cX3_init : ByteArray := prog_5_method_1_code
def yX3_init : MethodName := ⟨RX3, "<init>", "()V"⟩
abbrev cX3_kind : ByteArray := prog_5_method_2_code
def yX3_kind : MethodName := ⟨RX3, "kind", "()I"⟩
def RX4 : String := "LikeLastYears$Feature"
def TX4 : u_T := fun k => match k with
  | _ => ("", "", "", false)
def tyX4 : Nat → FieldType := fun k => match k with
  | _ => .int
abbrev wsX40 : List Cond := u_ws RX4 TX4 0
theorem nmX4 : ∀ a, a < 0 → ∀ b, b < 0 → a ≠ b → (TX4 a).2.1 ≠ (TX4 b).2.1 := by decide +kernel
theorem tyX4_ok : ∀ k, k < 0 → parseFieldDescriptor (TX4 k).2.2.1 = some (tyX4 k) := by decide +kernel
abbrev cX4_init : ByteArray := prog_6_method_1_code
def yX4_init : MethodName := ⟨RX4, "<init>", "()V"⟩
abbrev cX4_kind : ByteArray := prog_6_method_2_code
def yX4_kind : MethodName := ⟨RX4, "kind", "()I"⟩
abbrev cX4_aged : ByteArray := prog_6_method_3_code
def yX4_aged : MethodName := ⟨RX4, "aged", "(I)I"⟩
abbrev cX4_gap : ByteArray := prog_6_method_4_code
def yX4_gap : MethodName := ⟨RX4, "gap", "(II)I"⟩
abbrev cX4_steps : ByteArray := prog_6_method_5_code
def yX4_steps : MethodName := ⟨RX4, "steps", "(II)I"⟩
abbrev cX4_slipped : ByteArray := prog_6_method_6_code
def yX4_slipped : MethodName := ⟨RX4, "slipped", "(II)I"⟩
def RX5 : String := "LikeLastYears$Hair"
def TX5 : u_T := fun k => match k with
  | _ => ("", "", "", false)
def tyX5 : Nat → FieldType := fun k => match k with
  | _ => .int
abbrev wsX50 : List Cond := u_ws RX5 TX5 0
theorem nmX5 : ∀ a, a < 0 → ∀ b, b < 0 → a ≠ b → (TX5 a).2.1 ≠ (TX5 b).2.1 := by decide +kernel
theorem tyX5_ok : ∀ k, k < 0 → parseFieldDescriptor (TX5 k).2.2.1 = some (tyX5 k) := by decide +kernel
abbrev cX5_init : ByteArray := prog_7_method_1_code
def yX5_init : MethodName := ⟨RX5, "<init>", "()V"⟩
abbrev cX5_kind : ByteArray := prog_7_method_2_code
def yX5_kind : MethodName := ⟨RX5, "kind", "()I"⟩
abbrev cX5_aged : ByteArray := prog_7_method_3_code
def yX5_aged : MethodName := ⟨RX5, "aged", "(I)I"⟩
def RX6 : String := "LikeLastYears$Looks"
def TX6 : u_T := fun k => match k with
  | 0 => ("LikeLastYears$Looks", "features", "[LLikeLastYears$Feature;", true)
  | _ => ("LikeLastYears$Looks", "size", "I", false)
def tyX6 : Nat → FieldType := fun k => match k with
  | 0 => .array (.object "LikeLastYears$Feature")
  | _ => .int
abbrev wsX60 : List Cond := u_ws RX6 TX6 2
theorem nmX6 : ∀ a, a < 2 → ∀ b, b < 2 → a ≠ b → (TX6 a).2.1 ≠ (TX6 b).2.1 := by decide +kernel
theorem tyX6_ok : ∀ k, k < 2 → parseFieldDescriptor (TX6 k).2.2.1 = some (tyX6 k) := by decide +kernel
abbrev cX6_init : ByteArray := prog_8_method_1_code
def yX6_init : MethodName := ⟨RX6, "<init>", "()V"⟩
abbrev cX6_size : ByteArray := prog_8_method_2_code
def yX6_size : MethodName := ⟨RX6, "size", "()I"⟩
abbrev cX6_isFull : ByteArray := prog_8_method_3_code
def yX6_isFull : MethodName := ⟨RX6, "isFull", "()Z"⟩
abbrev cX6_has : ByteArray := prog_8_method_4_code
def yX6_has : MethodName := ⟨RX6, "has", "(I)Z"⟩
abbrev cX6_add : ByteArray := prog_8_method_5_code
def yX6_add : MethodName := ⟨RX6, "add", "(LLikeLastYears$Feature;)I"⟩
abbrev cX6_at : ByteArray := prog_8_method_6_code
def yX6_at : MethodName := ⟨RX6, "at", "(I)LLikeLastYears$Feature;"⟩
abbrev cX6_isPortrait : ByteArray := prog_8_method_7_code
def yX6_isPortrait : MethodName := ⟨RX6, "isPortrait", "(I)Z"⟩
abbrev cX6_sizeIn : ByteArray := prog_8_method_8_code
def yX6_sizeIn : MethodName := ⟨RX6, "sizeIn", "(II)I"⟩
abbrev cX6_with : ByteArray := prog_8_method_9_code
def yX6_with : MethodName := ⟨RX6, "with", "(III)I"⟩
abbrev cX6_slip : ByteArray := prog_8_method_10_code
def yX6_slip : MethodName := ⟨RX6, "slip", "(III)I"⟩
abbrev cX6_gap : ByteArray := prog_8_method_11_code
def yX6_gap : MethodName := ⟨RX6, "gap", "(II)I"⟩
abbrev cX6_steps : ByteArray := prog_8_method_12_code
def yX6_steps : MethodName := ⟨RX6, "steps", "(II)I"⟩
abbrev cX6_aged : ByteArray := prog_8_method_13_code
def yX6_aged : MethodName := ⟨RX6, "aged", "(I)I"⟩
def RX7 : String := "LikeLastYears$Row"
def TX7 : u_T := fun k => match k with
  | 0 => ("LikeLastYears$Row", "items", "[I", true)
  | _ => ("LikeLastYears$Row", "size", "I", false)
def tyX7 : Nat → FieldType := fun k => match k with
  | 0 => .array .int
  | _ => .int
abbrev wsX70 : List Cond := u_ws RX7 TX7 2
theorem nmX7 : ∀ a, a < 2 → ∀ b, b < 2 → a ≠ b → (TX7 a).2.1 ≠ (TX7 b).2.1 := by decide +kernel
theorem tyX7_ok : ∀ k, k < 2 → parseFieldDescriptor (TX7 k).2.2.1 = some (tyX7 k) := by decide +kernel
abbrev cX7_init : ByteArray := prog_9_method_1_code
def yX7_init : MethodName := ⟨RX7, "<init>", "(I)V"⟩
abbrev cX7_size : ByteArray := prog_9_method_2_code
def yX7_size : MethodName := ⟨RX7, "size", "()I"⟩
abbrev cX7_isFull : ByteArray := prog_9_method_3_code
def yX7_isFull : MethodName := ⟨RX7, "isFull", "()Z"⟩
abbrev cX7_has : ByteArray := prog_9_method_4_code
def yX7_has : MethodName := ⟨RX7, "has", "(I)Z"⟩
abbrev cX7_get : ByteArray := prog_9_method_5_code
def yX7_get : MethodName := ⟨RX7, "get", "(I)I"⟩
abbrev cX7_last : ByteArray := prog_9_method_6_code
def yX7_last : MethodName := ⟨RX7, "last", "()I"⟩
abbrev cX7_add : ByteArray := prog_9_method_7_code
def yX7_add : MethodName := ⟨RX7, "add", "(I)V"⟩
abbrev cX7_cut : ByteArray := prog_9_method_8_code
def yX7_cut : MethodName := ⟨RX7, "cut", "(I)V"⟩
def RX8 : String := "LikeLastYears$Scar"
def TX8 : u_T := fun k => match k with
  | _ => ("", "", "", false)
def tyX8 : Nat → FieldType := fun k => match k with
  | _ => .int
abbrev wsX80 : List Cond := u_ws RX8 TX8 0
theorem nmX8 : ∀ a, a < 0 → ∀ b, b < 0 → a ≠ b → (TX8 a).2.1 ≠ (TX8 b).2.1 := by decide +kernel
theorem tyX8_ok : ∀ k, k < 0 → parseFieldDescriptor (TX8 k).2.2.1 = some (tyX8 k) := by decide +kernel
abbrev cX8_init : ByteArray := prog_10_method_1_code
def yX8_init : MethodName := ⟨RX8, "<init>", "()V"⟩
abbrev cX8_kind : ByteArray := prog_10_method_2_code
def yX8_kind : MethodName := ⟨RX8, "kind", "()I"⟩
abbrev cX8_gap : ByteArray := prog_10_method_3_code
def yX8_gap : MethodName := ⟨RX8, "gap", "(II)I"⟩
def RX9 : String := "LikeLastYears$Search"
def TX9 : u_T := fun k => match k with
  | 0 => ("LikeLastYears$Search", "looks", "LLikeLastYears$Looks;", true)
  | 1 => ("LikeLastYears$Search", "bench", "LLikeLastYears$Bench;", true)
  | 2 => ("LikeLastYears$Search", "seen", "[I", true)
  | 3 => ("LikeLastYears$Search", "round", "I", false)
  | 4 => ("LikeLastYears$Search", "row", "[I", false)
  | 5 => ("LikeLastYears$Search", "earlier", "[I", false)
  | 6 => ("LikeLastYears$Search", "size", "I", false)
  | 7 => ("LikeLastYears$Search", "trueYears", "I", false)
  | _ => ("LikeLastYears$Search", "firstTrue", "I", false)
def tyX9 : Nat → FieldType := fun k => match k with
  | 0 => .object "LikeLastYears$Looks"
  | 1 => .object "LikeLastYears$Bench"
  | 2 => .array .int
  | 3 => .int
  | 4 => .array .int
  | 5 => .array .int
  | 6 => .int
  | 7 => .int
  | _ => .int
abbrev wsX90 : List Cond := u_ws RX9 TX9 9
theorem nmX9 : ∀ a, a < 9 → ∀ b, b < 9 → a ≠ b → (TX9 a).2.1 ≠ (TX9 b).2.1 := by decide +kernel
theorem tyX9_ok : ∀ k, k < 9 → parseFieldDescriptor (TX9 k).2.2.1 = some (tyX9 k) := by decide +kernel
abbrev cX9_init : ByteArray := prog_11_method_1_code
def yX9_init : MethodName := ⟨RX9, "<init>", "(LLikeLastYears$Looks;LLikeLastYears$Bench;)V"⟩
abbrev cX9_trueYears : ByteArray := prog_11_method_2_code
def yX9_trueYears : MethodName := ⟨RX9, "trueYears", "()I"⟩
abbrev cX9_firstTrue : ByteArray := prog_11_method_3_code
def yX9_firstTrue : MethodName := ⟨RX9, "firstTrue", "()I"⟩
abbrev cX9_fewestSlips : ByteArray := prog_11_method_4_code
def yX9_fewestSlips : MethodName := ⟨RX9, "fewestSlips", "(III)I"⟩
abbrev cX9_slipFrom : ByteArray := prog_11_method_5_code
def yX9_slipFrom : MethodName := ⟨RX9, "slipFrom", "(II)V"⟩
abbrev cX9_seekTruth : ByteArray := prog_11_method_6_code
def yX9_seekTruth : MethodName := ⟨RX9, "seekTruth", "(II)V"⟩
abbrev cX9_passYear : ByteArray := prog_11_method_7_code
def yX9_passYear : MethodName := ⟨RX9, "passYear", "(IZ)V"⟩
abbrev cX9_firstOf : ByteArray := prog_11_method_8_code
def yX9_firstOf : MethodName := ⟨RX9, "firstOf", "(I)I"⟩
abbrev cX9_startRound : ByteArray := prog_11_method_9_code
def yX9_startRound : MethodName := ⟨RX9, "startRound", "()V"⟩
abbrev cX9_isReached : ByteArray := prog_11_method_10_code
def yX9_isReached : MethodName := ⟨RX9, "isReached", "(I)Z"⟩
abbrev cX9_reach : ByteArray := prog_11_method_11_code
def yX9_reach : MethodName := ⟨RX9, "reach", "(II)V"⟩
def RX10 : String := "LikeLastYears$Sorter"
def TX10 : u_T := fun k => match k with
  | 0 => ("LikeLastYears$Sorter", "looks", "LLikeLastYears$Looks;", true)
  | 1 => ("LikeLastYears$Sorter", "gaps", "[I", true)
  | 2 => ("LikeLastYears$Sorter", "trial", "[I", true)
  | 3 => ("LikeLastYears$Sorter", "best", "[I", true)
  | 4 => ("LikeLastYears$Sorter", "size", "I", false)
  | _ => ("LikeLastYears$Sorter", "cost", "I", false)
def tyX10 : Nat → FieldType := fun k => match k with
  | 0 => .object "LikeLastYears$Looks"
  | 1 => .array .int
  | 2 => .array .int
  | 3 => .array .int
  | 4 => .int
  | _ => .int
abbrev wsX100 : List Cond := u_ws RX10 TX10 6
theorem nmX10 : ∀ a, a < 6 → ∀ b, b < 6 → a ≠ b → (TX10 a).2.1 ≠ (TX10 b).2.1 := by decide +kernel
theorem tyX10_ok : ∀ k, k < 6 → parseFieldDescriptor (TX10 k).2.2.1 = some (tyX10 k) := by decide +kernel
abbrev cX10_init : ByteArray := prog_12_method_1_code
def yX10_init : MethodName := ⟨RX10, "<init>", "(LLikeLastYears$Looks;)V"⟩
abbrev cX10_cost : ByteArray := prog_12_method_2_code
def yX10_cost : MethodName := ⟨RX10, "cost", "()I"⟩
abbrev cX10_place : ByteArray := prog_12_method_3_code
def yX10_place : MethodName := ⟨RX10, "place", "(I)I"⟩
abbrev cX10_sort : ByteArray := prog_12_method_4_code
def yX10_sort : MethodName := ⟨RX10, "sort", "(LLikeLastYears$Row;)V"⟩
abbrev cX10_tryPlaces : ByteArray := prog_12_method_5_code
def yX10_tryPlaces : MethodName := ⟨RX10, "tryPlaces", "(III)V"⟩
def RX11 : String := "LikeLastYears"
def TX11 : u_T := fun k => match k with
  | 0 => ("LikeLastYears", "looks", "LLikeLastYears$Looks;", true)
  | 1 => ("LikeLastYears", "bench", "LLikeLastYears$Bench;", true)
  | 2 => ("LikeLastYears", "census", "LLikeLastYears$Census;", true)
  | 3 => ("LikeLastYears", "search", "LLikeLastYears$Search;", true)
  | 4 => ("LikeLastYears", "sorter", "LLikeLastYears$Sorter;", true)
  | 5 => ("LikeLastYears", "page", "LLikeLastYears$Row;", true)
  | 6 => ("LikeLastYears", "painted", "LLikeLastYears$Row;", true)
  | 7 => ("LikeLastYears", "people", "LLikeLastYears$Row;", true)
  | 8 => ("LikeLastYears", "undated", "LLikeLastYears$Row;", true)
  | 9 => ("LikeLastYears", "king", "I", false)
  | 10 => ("LikeLastYears", "truths", "I", false)
  | 11 => ("LikeLastYears", "keptKing", "I", false)
  | 12 => ("LikeLastYears", "keptPainted", "I", false)
  | 13 => ("LikeLastYears", "keptPeople", "I", false)
  | _ => ("LikeLastYears", "keptUndated", "I", false)
def tyX11 : Nat → FieldType := fun k => match k with
  | 0 => .object "LikeLastYears$Looks"
  | 1 => .object "LikeLastYears$Bench"
  | 2 => .object "LikeLastYears$Census"
  | 3 => .object "LikeLastYears$Search"
  | 4 => .object "LikeLastYears$Sorter"
  | 5 => .object "LikeLastYears$Row"
  | 6 => .object "LikeLastYears$Row"
  | 7 => .object "LikeLastYears$Row"
  | 8 => .object "LikeLastYears$Row"
  | 9 => .int
  | 10 => .int
  | 11 => .int
  | 12 => .int
  | 13 => .int
  | _ => .int
abbrev wsX110 : List Cond := u_ws RX11 TX11 15
theorem nmX11 : ∀ a, a < 15 → ∀ b, b < 15 → a ≠ b → (TX11 a).2.1 ≠ (TX11 b).2.1 := by decide +kernel
theorem tyX11_ok : ∀ k, k < 15 → parseFieldDescriptor (TX11 k).2.2.1 = some (tyX11 k) := by decide +kernel
abbrev cX11_init : ByteArray := prog_1_method_1_code
def yX11_init : MethodName := ⟨RX11, "<init>", "()V"⟩
abbrev cX11_feature : ByteArray := prog_1_method_2_code
def yX11_feature : MethodName := ⟨RX11, "feature", "(II)I"⟩
abbrev cX11_about : ByteArray := prog_1_method_3_code
def yX11_about : MethodName := ⟨RX11, "about", "(II)I"⟩
abbrev cX11_as : ByteArray := prog_1_method_4_code
def yX11_as : MethodName := ⟨RX11, "as", "(II)I"⟩
abbrev cX11_begin : ByteArray := prog_1_method_5_code
def yX11_begin : MethodName := ⟨RX11, "begin", "()I"⟩
abbrev cX11_apart : ByteArray := prog_1_method_6_code
def yX11_apart : MethodName := ⟨RX11, "apart", "(II)I"⟩
abbrev cX11_paint : ByteArray := prog_1_method_7_code
def yX11_paint : MethodName := ⟨RX11, "paint", "(I)I"⟩
abbrev cX11_line : ByteArray := prog_1_method_8_code
def yX11_line : MethodName := ⟨RX11, "line", "(I)I"⟩
abbrev cX11_letters : ByteArray := prog_1_method_9_code
def yX11_letters : MethodName := ⟨RX11, "letters", "(J)I"⟩
abbrev cX11_blank : ByteArray := prog_1_method_10_code
def yX11_blank : MethodName := ⟨RX11, "blank", "()I"⟩
abbrev cX11_fault : ByteArray := prog_1_method_11_code
def yX11_fault : MethodName := ⟨RX11, "fault", "()I"⟩
abbrev cX11_judge : ByteArray := prog_1_method_12_code
def yX11_judge : MethodName := ⟨RX11, "judge", "()I"⟩
abbrev cX11_told : ByteArray := prog_1_method_13_code
def yX11_told : MethodName := ⟨RX11, "told", "(II)I"⟩
abbrev cX11_lets : ByteArray := prog_1_method_14_code
def yX11_lets : MethodName := ⟨RX11, "lets", "(II)I"⟩
abbrev cX11_strict : ByteArray := prog_1_method_15_code
def yX11_strict : MethodName := ⟨RX11, "strict", "()I"⟩
abbrev cX11_slips : ByteArray := prog_1_method_16_code
def yX11_slips : MethodName := ⟨RX11, "slips", "(II)I"⟩
abbrev cX11_truth : ByteArray := prog_1_method_17_code
def yX11_truth : MethodName := ⟨RX11, "truth", "(I)I"⟩
abbrev cX11_copies : ByteArray := prog_1_method_18_code
def yX11_copies : MethodName := ⟨RX11, "copies", "(III)I"⟩
abbrev cX11_back : ByteArray := prog_1_method_19_code
def yX11_back : MethodName := ⟨RX11, "back", "(I)I"⟩
abbrev cX11_span : ByteArray := prog_1_method_20_code
def yX11_span : MethodName := ⟨RX11, "span", "(I)I"⟩
abbrev cX11_person : ByteArray := prog_1_method_21_code
def yX11_person : MethodName := ⟨RX11, "person", "(I)I"⟩
abbrev cX11_gate : ByteArray := prog_1_method_22_code
def yX11_gate : MethodName := ⟨RX11, "gate", "()I"⟩
abbrev cX11_heap : ByteArray := prog_1_method_23_code
def yX11_heap : MethodName := ⟨RX11, "heap", "(I)I"⟩
abbrev cX11_order : ByteArray := prog_1_method_24_code
def yX11_order : MethodName := ⟨RX11, "order", "(I)I"⟩
abbrev cX11_image : ByteArray := prog_1_method_25_code
def yX11_image : MethodName := ⟨RX11, "image", "()I"⟩
abbrev cX11_restore : ByteArray := prog_1_method_26_code
def yX11_restore : MethodName := ⟨RX11, "restore", "()I"⟩
abbrev cX11_count : ByteArray := prog_1_method_27_code
def yX11_count : MethodName := ⟨RX11, "count", "(I)I"⟩
abbrev cX11_digest : ByteArray := prog_1_method_28_code
def yX11_digest : MethodName := ⟨RX11, "digest", "()J"⟩
abbrev cX11_hasLine : ByteArray := prog_1_method_29_code
def yX11_hasLine : MethodName := ⟨RX11, "hasLine", "()Z"⟩
abbrev cX11_isKind : ByteArray := prog_1_method_30_code
def yX11_isKind : MethodName := ⟨RX11, "isKind", "(I)Z"⟩
abbrev cX11_ofKind : ByteArray := prog_1_method_31_code
def yX11_ofKind : MethodName := ⟨RX11, "ofKind", "(I)LLikeLastYears$Feature;"⟩
abbrev cX11_isSuch : ByteArray := prog_1_method_32_code
def yX11_isSuch : MethodName := ⟨RX11, "isSuch", "(LLikeLastYears$Feature;I)Z"⟩
abbrev cX11_tellAbout : ByteArray := prog_1_method_33_code
def yX11_tellAbout : MethodName := ⟨RX11, "tellAbout", "(II)I"⟩
abbrev cX11_refusalOf : ByteArray := prog_1_method_34_code
def yX11_refusalOf : MethodName := ⟨RX11, "refusalOf", "(ILLikeLastYears$Row;)I"⟩
abbrev cX11_howMany : ByteArray := prog_1_method_35_code
def yX11_howMany : MethodName := ⟨RX11, "howMany", "(I)I"⟩
abbrev cX11_withRow : ByteArray := prog_1_method_36_code
def yX11_withRow : MethodName := ⟨RX11, "withRow", "(JLLikeLastYears$Row;)J"⟩
abbrev cX11_withFindings : ByteArray := prog_1_method_37_code
def yX11_withFindings : MethodName := ⟨RX11, "withFindings", "(J)J"⟩
abbrev cX11_letterIn : ByteArray := prog_1_method_38_code
def yX11_letterIn : MethodName := ⟨RX11, "letterIn", "(JI)I"⟩
abbrev cX11_lettersIn : ByteArray := prog_1_method_39_code
def yX11_lettersIn : MethodName := ⟨RX11, "lettersIn", "(J)I"⟩
abbrev cX11_isDigit : ByteArray := prog_1_method_40_code
def yX11_isDigit : MethodName := ⟨RX11, "isDigit", "(II)Z"⟩
abbrev cX11_firstFault : ByteArray := prog_1_method_41_code
def yX11_firstFault : MethodName := ⟨RX11, "firstFault", "(LLikeLastYears$Row;I)I"⟩
abbrev cX11_isJudge : ByteArray := prog_1_method_42_code
def yX11_isJudge : MethodName := ⟨RX11, "isJudge", "(LLikeLastYears$Row;I)Z"⟩
abbrev cX11_strictest : ByteArray := prog_1_method_43_code
def yX11_strictest : MethodName := ⟨RX11, "strictest", "()I"⟩
abbrev cX11_passing : ByteArray := prog_1_method_44_code
def yX11_passing : MethodName := ⟨RX11, "passing", "(I)I"⟩
abbrev cX11_within : ByteArray := prog_1_method_45_code
def yX11_within : MethodName := ⟨RX11, "within", "(I)I"⟩
abbrev cX11_takenForKing : ByteArray := prog_1_method_46_code
def yX11_takenForKing : MethodName := ⟨RX11, "takenForKing", "()I"⟩
abbrev cX11_copied : ByteArray := prog_1_method_47_code
def yX11_copied : MethodName := ⟨RX11, "copied", "(III)I"⟩
abbrev cX11_nextSeed : ByteArray := prog_1_method_48_code
def yX11_nextSeed : MethodName := ⟨RX11, "nextSeed", "(I)I"⟩
abbrev cX11_drawn : ByteArray := prog_1_method_49_code
def yX11_drawn : MethodName := ⟨RX11, "drawn", "(II)I"⟩
def RX12 : String := "LikeLastYearsModel"
def TX12 : u_T := fun k => match k with
  | 0 => ("LikeLastYearsModel", "features", "I", false)
  | 1 => ("LikeLastYearsModel", "kinds", "[I", true)
  | 2 => ("LikeLastYearsModel", "king", "[I", true)
  | 3 => ("LikeLastYearsModel", "lineMany", "I", false)
  | 4 => ("LikeLastYearsModel", "lineRow", "[I", true)
  | 5 => ("LikeLastYearsModel", "kingThen", "[I", true)
  | 6 => ("LikeLastYearsModel", "page", "[I", true)
  | 7 => ("LikeLastYearsModel", "pageMany", "I", false)
  | 8 => ("LikeLastYearsModel", "readMany", "I", false)
  | 9 => ("LikeLastYearsModel", "state", "I", false)
  | 10 => ("LikeLastYearsModel", "readRow", "[I", true)
  | 11 => ("LikeLastYearsModel", "judges", "I", false)
  | 12 => ("LikeLastYearsModel", "judgeRows", "[I", true)
  | 13 => ("LikeLastYearsModel", "steps", "[I", true)
  | 14 => ("LikeLastYearsModel", "line", "[I", true)
  | 15 => ("LikeLastYearsModel", "done", "I", false)
  | 16 => ("LikeLastYearsModel", "seedNow", "I", false)
  | 17 => ("LikeLastYearsModel", "people", "I", false)
  | 18 => ("LikeLastYearsModel", "heaped", "I", false)
  | 19 => ("LikeLastYearsModel", "peopleRow", "[I", true)
  | 20 => ("LikeLastYearsModel", "heapRow", "[I", true)
  | 21 => ("LikeLastYearsModel", "row", "[I", true)
  | 22 => ("LikeLastYearsModel", "bestRow", "[I", true)
  | 23 => ("LikeLastYearsModel", "keptLine", "I", false)
  | 24 => ("LikeLastYearsModel", "keptPeople", "I", false)
  | 25 => ("LikeLastYearsModel", "keptHeaped", "I", false)
  | 26 => ("LikeLastYearsModel", "keptKing", "[I", true)
  | 27 => ("LikeLastYearsModel", "keptLineRow", "[I", true)
  | 28 => ("LikeLastYearsModel", "keptPeopleRow", "[I", true)
  | 29 => ("LikeLastYearsModel", "keptHeapRow", "[I", true)
  | _ => ("LikeLastYearsModel", "hash", "J", false)
def tyX12 : Nat → FieldType := fun k => match k with
  | 0 => .int
  | 1 => .array .int
  | 2 => .array .int
  | 3 => .int
  | 4 => .array .int
  | 5 => .array .int
  | 6 => .array .int
  | 7 => .int
  | 8 => .int
  | 9 => .int
  | 10 => .array .int
  | 11 => .int
  | 12 => .array .int
  | 13 => .array .int
  | 14 => .array .int
  | 15 => .int
  | 16 => .int
  | 17 => .int
  | 18 => .int
  | 19 => .array .int
  | 20 => .array .int
  | 21 => .array .int
  | 22 => .array .int
  | 23 => .int
  | 24 => .int
  | 25 => .int
  | 26 => .array .int
  | 27 => .array .int
  | 28 => .array .int
  | 29 => .array .int
  | _ => .long
abbrev wsX120 : List Cond := u_ws RX12 TX12 31
theorem nmX12 : ∀ a, a < 31 → ∀ b, b < 31 → a ≠ b → (TX12 a).2.1 ≠ (TX12 b).2.1 := by decide +kernel
theorem tyX12_ok : ∀ k, k < 31 → parseFieldDescriptor (TX12 k).2.2.1 = some (tyX12 k) := by decide +kernel
abbrev cX12_init : ByteArray := prog_14_method_1_code
def yX12_init : MethodName := ⟨RX12, "<init>", "()V"⟩
abbrev cX12_in : ByteArray := prog_14_method_2_code
def yX12_in : MethodName := ⟨RX12, "in", "(JJJ)Z"⟩
abbrev cX12_isFeature : ByteArray := prog_14_method_3_code
def yX12_isFeature : MethodName := ⟨RX12, "isFeature", "(I)Z"⟩
abbrev cX12_lacks : ByteArray := prog_14_method_4_code
def yX12_lacks : MethodName := ⟨RX12, "lacks", "()Z"⟩
abbrev cX12_feature : ByteArray := prog_14_method_5_code
def yX12_feature : MethodName := ⟨RX12, "feature", "(II)I"⟩
abbrev cX12_portraits : ByteArray := prog_14_method_6_code
def yX12_portraits : MethodName := ⟨RX12, "portraits", "()I"⟩
abbrev cX12_isPortrait : ByteArray := prog_14_method_7_code
def yX12_isPortrait : MethodName := ⟨RX12, "isPortrait", "(I)Z"⟩
abbrev cX12_sizeOf : ByteArray := prog_14_method_8_code
def yX12_sizeOf : MethodName := ⟨RX12, "sizeOf", "(II)I"⟩
abbrev cX12_unit : ByteArray := prog_14_method_9_code
def yX12_unit : MethodName := ⟨RX12, "unit", "(I)I"⟩
abbrev cX12_kingAsPortrait : ByteArray := prog_14_method_10_code
def yX12_kingAsPortrait : MethodName := ⟨RX12, "kingAsPortrait", "()I"⟩
abbrev cX12_last : ByteArray := prog_14_method_11_code
def yX12_last : MethodName := ⟨RX12, "last", "()I"⟩
abbrev cX12_tellFeature : ByteArray := prog_14_method_12_code
def yX12_tellFeature : MethodName := ⟨RX12, "tellFeature", "(II)I"⟩
abbrev cX12_about : ByteArray := prog_14_method_13_code
def yX12_about : MethodName := ⟨RX12, "about", "(II)I"⟩
abbrev cX12_as : ByteArray := prog_14_method_14_code
def yX12_as : MethodName := ⟨RX12, "as", "(II)I"⟩
abbrev cX12_begin : ByteArray := prog_14_method_15_code
def yX12_begin : MethodName := ⟨RX12, "begin", "()I"⟩
abbrev cX12_gap : ByteArray := prog_14_method_16_code
def yX12_gap : MethodName := ⟨RX12, "gap", "(II)I"⟩
abbrev cX12_stepsOf : ByteArray := prog_14_method_17_code
def yX12_stepsOf : MethodName := ⟨RX12, "stepsOf", "(III)I"⟩
abbrev cX12_apartIn : ByteArray := prog_14_method_18_code
def yX12_apartIn : MethodName := ⟨RX12, "apartIn", "(III)I"⟩
abbrev cX12_apartOf : ByteArray := prog_14_method_19_code
def yX12_apartOf : MethodName := ⟨RX12, "apartOf", "(II)I"⟩
abbrev cX12_apart : ByteArray := prog_14_method_20_code
def yX12_apart : MethodName := ⟨RX12, "apart", "(II)I"⟩
abbrev cX12_age : ByteArray := prog_14_method_21_code
def yX12_age : MethodName := ⟨RX12, "age", "()V"⟩
abbrev cX12_keepKing : ByteArray := prog_14_method_22_code
def yX12_keepKing : MethodName := ⟨RX12, "keepKing", "()V"⟩
abbrev cX12_putBack : ByteArray := prog_14_method_23_code
def yX12_putBack : MethodName := ⟨RX12, "putBack", "()V"⟩
abbrev cX12_paint : ByteArray := prog_14_method_24_code
def yX12_paint : MethodName := ⟨RX12, "paint", "(I)I"⟩
abbrev cX12_line : ByteArray := prog_14_method_25_code
def yX12_line : MethodName := ⟨RX12, "line", "(I)I"⟩
abbrev cX12_letters : ByteArray := prog_14_method_26_code
def yX12_letters : MethodName := ⟨RX12, "letters", "(J)I"⟩
abbrev cX12_blank : ByteArray := prog_14_method_27_code
def yX12_blank : MethodName := ⟨RX12, "blank", "()I"⟩
abbrev cX12_go : ByteArray := prog_14_method_28_code
def yX12_go : MethodName := ⟨RX12, "go", "(I)Z"⟩
abbrev cX12_faultOf : ByteArray := prog_14_method_29_code
def yX12_faultOf : MethodName := ⟨RX12, "faultOf", "()I"⟩
abbrev cX12_fault : ByteArray := prog_14_method_30_code
def yX12_fault : MethodName := ⟨RX12, "fault", "()I"⟩
abbrev cX12_judge : ByteArray := prog_14_method_31_code
def yX12_judge : MethodName := ⟨RX12, "judge", "()I"⟩
abbrev cX12_told : ByteArray := prog_14_method_32_code
def yX12_told : MethodName := ⟨RX12, "told", "(II)I"⟩
abbrev cX12_letsOne : ByteArray := prog_14_method_33_code
def yX12_letsOne : MethodName := ⟨RX12, "letsOne", "(III)Z"⟩
abbrev cX12_letsMany : ByteArray := prog_14_method_34_code
def yX12_letsMany : MethodName := ⟨RX12, "letsMany", "(II)I"⟩
abbrev cX12_isLet : ByteArray := prog_14_method_35_code
def yX12_isLet : MethodName := ⟨RX12, "isLet", "(II)Z"⟩
abbrev cX12_lets : ByteArray := prog_14_method_36_code
def yX12_lets : MethodName := ⟨RX12, "lets", "(II)I"⟩
abbrev cX12_strictOf : ByteArray := prog_14_method_37_code
def yX12_strictOf : MethodName := ⟨RX12, "strictOf", "()I"⟩
abbrev cX12_strict : ByteArray := prog_14_method_38_code
def yX12_strict : MethodName := ⟨RX12, "strict", "()I"⟩
abbrev cX12_slipOf : ByteArray := prog_14_method_39_code
def yX12_slipOf : MethodName := ⟨RX12, "slipOf", "(III)I"⟩
abbrev cX12_slipsOf : ByteArray := prog_14_method_40_code
def yX12_slipsOf : MethodName := ⟨RX12, "slipsOf", "(II)I"⟩
abbrev cX12_slips : ByteArray := prog_14_method_41_code
def yX12_slips : MethodName := ⟨RX12, "slips", "(II)I"⟩
abbrev cX12_madeTrue : ByteArray := prog_14_method_42_code
def yX12_madeTrue : MethodName := ⟨RX12, "madeTrue", "(II)I"⟩
abbrev cX12_truthBy : ByteArray := prog_14_method_43_code
def yX12_truthBy : MethodName := ⟨RX12, "truthBy", "(I)I"⟩
abbrev cX12_truth : ByteArray := prog_14_method_44_code
def yX12_truth : MethodName := ⟨RX12, "truth", "(I)I"⟩
abbrev cX12_draw : ByteArray := prog_14_method_45_code
def yX12_draw : MethodName := ⟨RX12, "draw", "(I)I"⟩
abbrev cX12_copies : ByteArray := prog_14_method_46_code
def yX12_copies : MethodName := ⟨RX12, "copies", "(III)I"⟩
abbrev cX12_backOf : ByteArray := prog_14_method_47_code
def yX12_backOf : MethodName := ⟨RX12, "backOf", "(I)I"⟩
abbrev cX12_back : ByteArray := prog_14_method_48_code
def yX12_back : MethodName := ⟨RX12, "back", "(I)I"⟩
abbrev cX12_spanOf : ByteArray := prog_14_method_49_code
def yX12_spanOf : MethodName := ⟨RX12, "spanOf", "(I)I"⟩
abbrev cX12_span : ByteArray := prog_14_method_50_code
def yX12_span : MethodName := ⟨RX12, "span", "(I)I"⟩
abbrev cX12_person : ByteArray := prog_14_method_51_code
def yX12_person : MethodName := ⟨RX12, "person", "(I)I"⟩
abbrev cX12_gateOf : ByteArray := prog_14_method_52_code
def yX12_gateOf : MethodName := ⟨RX12, "gateOf", "()I"⟩
abbrev cX12_gate : ByteArray := prog_14_method_53_code
def yX12_gate : MethodName := ⟨RX12, "gate", "()I"⟩
abbrev cX12_heap : ByteArray := prog_14_method_54_code
def yX12_heap : MethodName := ⟨RX12, "heap", "(I)I"⟩
abbrev cX12_nextRow : ByteArray := prog_14_method_55_code
def yX12_nextRow : MethodName := ⟨RX12, "nextRow", "()Z"⟩
abbrev cX12_layOrder : ByteArray := prog_14_method_56_code
def yX12_layOrder : MethodName := ⟨RX12, "layOrder", "()I"⟩
abbrev cX12_tellOrder : ByteArray := prog_14_method_57_code
def yX12_tellOrder : MethodName := ⟨RX12, "tellOrder", "(I)I"⟩
abbrev cX12_order : ByteArray := prog_14_method_58_code
def yX12_order : MethodName := ⟨RX12, "order", "(I)I"⟩
abbrev cX12_copy : ByteArray := prog_14_method_59_code
def yX12_copy : MethodName := ⟨RX12, "copy", "([I[I)V"⟩
abbrev cX12_image : ByteArray := prog_14_method_60_code
def yX12_image : MethodName := ⟨RX12, "image", "()I"⟩
abbrev cX12_restore : ByteArray := prog_14_method_61_code
def yX12_restore : MethodName := ⟨RX12, "restore", "()I"⟩
abbrev cX12_countOf : ByteArray := prog_14_method_62_code
def yX12_countOf : MethodName := ⟨RX12, "countOf", "(I)I"⟩
abbrev cX12_count : ByteArray := prog_14_method_63_code
def yX12_count : MethodName := ⟨RX12, "count", "(I)I"⟩
abbrev cX12_say : ByteArray := prog_14_method_64_code
def yX12_say : MethodName := ⟨RX12, "say", "(J)V"⟩
abbrev cX12_sayLine : ByteArray := prog_14_method_65_code
def yX12_sayLine : MethodName := ⟨RX12, "sayLine", "()V"⟩
abbrev cX12_digest : ByteArray := prog_14_method_66_code
def yX12_digest : MethodName := ⟨RX12, "digest", "()J"⟩
def RJ6 : String := "java/lang/Integer"
def TJ6 : u_T := fun k => match k with
  | _ => ("", "", "", false)
def tyJ6 : Nat → FieldType := fun k => match k with
  | _ => .int
abbrev cJ6_bitCount_0f7a4 : ByteArray := prog_15_method_49_code
def yJ6_bitCount_0f7a4 : MethodName := ⟨RJ6, "bitCount", "(I)I"⟩
def RJ9 : String := "java/lang/Math"
def TJ9 : u_T := fun k => match k with
  | _ => ("", "", "", false)
def tyJ9 : Nat → FieldType := fun k => match k with
  | _ => .int
abbrev cJ9_floorMod_7cf53 : ByteArray := prog_16_method_50_code
def yJ9_floorMod_7cf53 : MethodName := ⟨RJ9, "floorMod", "(II)I"⟩
abbrev cJ9_abs_0f7a4 : ByteArray := prog_16_method_59_code
def yJ9_abs_0f7a4 : MethodName := ⟨RJ9, "abs", "(I)I"⟩
abbrev cJ9_max_7cf53 : ByteArray := prog_16_method_65_code
def yJ9_max_7cf53 : MethodName := ⟨RJ9, "max", "(II)I"⟩
abbrev cJ9_min_7cf53 : ByteArray := prog_16_method_69_code
def yJ9_min_7cf53 : MethodName := ⟨RJ9, "min", "(II)I"⟩
def RJ10 : String := "java/lang/System"
def TJ10 : u_T := fun k => match k with
  | _ => ("", "", "", false)
def tyJ10 : Nat → FieldType := fun k => match k with
  | _ => .int
def RL : String := "LikeLastYearsLaw"
abbrev cL_law : ByteArray := code
def yL_law : MethodName := ⟨RL, "law", "([I)Z"⟩
abbrev vwCl : List vw_C := [(RX0, TX0, 0), (RX1, TX1, 6), (RX2, TX2, 3), (RX3, TX3, 0), (RX4, TX4, 0), (RX5, TX5, 0), (RX6, TX6, 2), (RX7, TX7, 2), (RX8, TX8, 0), (RX9, TX9, 9), (RX10, TX10, 6), (RX11, TX11, 15), (RX12, TX12, 31)]
end
section
theorem dX0_init_0 : decode cX0_init 0 = .ok (.aload_n 0, 1) := by decide +kernel
theorem dX0_init_1 : decode cX0_init 1 = .ok (.invokespecial 3, 3) := by decide +kernel
theorem dX0_init_4 : decode cX0_init 4 = .ok (.return_, 1) := by decide +kernel
theorem dX0_kind_0 : decode cX0_kind 0 = .ok (.iconst 3, 1) := by decide +kernel
theorem dX0_kind_1 : decode cX0_kind 1 = .ok (.ireturn, 1) := by decide +kernel
theorem dX0_aged_0 : decode cX0_aged 0 = .ok (.aload_n 0, 1) := by decide +kernel
theorem dX0_aged_1 : decode cX0_aged 1 = .ok (.iload_n 1, 1) := by decide +kernel
theorem dX0_aged_2 : decode cX0_aged 2 = .ok (.iconst 1, 1) := by decide +kernel
theorem dX0_aged_3 : decode cX0_aged 3 = .ok (.invokevirtual 9, 3) := by decide +kernel
theorem dX0_aged_6 : decode cX0_aged 6 = .ok (.ireturn, 1) := by decide +kernel
theorem dX0_gap_0 : decode cX0_gap 0 = .ok (.iload_n 1, 1) := by decide +kernel
theorem dX0_gap_1 : decode cX0_gap 1 = .ok (.iload_n 2, 1) := by decide +kernel
theorem dX0_gap_2 : decode cX0_gap 2 = .ok (.isub, 1) := by decide +kernel
theorem dX0_gap_3 : decode cX0_gap 3 = .ok (.invokestatic 15, 3) := by decide +kernel
theorem dX0_gap_6 : decode cX0_gap 6 = .ok (.istore_n 3, 1) := by decide +kernel
theorem dX0_gap_7 : decode cX0_gap 7 = .ok (.iload_n 3, 1) := by decide +kernel
theorem dX0_gap_8 : decode cX0_gap 8 = .ok (.bipush 10, 2) := by decide +kernel
theorem dX0_gap_10 : decode cX0_gap 10 = .ok (.iload_n 3, 1) := by decide +kernel
theorem dX0_gap_11 : decode cX0_gap 11 = .ok (.isub, 1) := by decide +kernel
theorem dX0_gap_12 : decode cX0_gap 12 = .ok (.invokestatic 21, 3) := by decide +kernel
theorem dX0_gap_15 : decode cX0_gap 15 = .ok (.ireturn, 1) := by decide +kernel
theorem dX0_steps_0 : decode cX0_steps 0 = .ok (.aload_n 0, 1) := by decide +kernel
theorem dX0_steps_1 : decode cX0_steps 1 = .ok (.iload_n 1, 1) := by decide +kernel
theorem dX0_steps_2 : decode cX0_steps 2 = .ok (.iload_n 2, 1) := by decide +kernel
theorem dX0_steps_3 : decode cX0_steps 3 = .ok (.invokevirtual 24, 3) := by decide +kernel
theorem dX0_steps_6 : decode cX0_steps 6 = .ok (.ireturn, 1) := by decide +kernel
theorem dX0_slipped_0 : decode cX0_slipped 0 = .ok (.iload_n 1, 1) := by decide +kernel
theorem dX0_slipped_1 : decode cX0_slipped 1 = .ok (.iload_n 2, 1) := by decide +kernel
theorem dX0_slipped_2 : decode cX0_slipped 2 = .ok (.iadd, 1) := by decide +kernel
theorem dX0_slipped_3 : decode cX0_slipped 3 = .ok (.bipush 10, 2) := by decide +kernel
theorem dX0_slipped_5 : decode cX0_slipped 5 = .ok (.invokestatic 27, 3) := by decide +kernel
theorem dX0_slipped_8 : decode cX0_slipped 8 = .ok (.ireturn, 1) := by decide +kernel
theorem dX1_init_0 : decode cX1_init 0 = .ok (.aload_n 0, 1) := by decide +kernel
theorem dX1_init_1 : decode cX1_init 1 = .ok (.invokespecial 3, 3) := by decide +kernel
theorem dX1_init_4 : decode cX1_init 4 = .ok (.aload_n 0, 1) := by decide +kernel
theorem dX1_init_5 : decode cX1_init 5 = .ok (.bipush 30, 2) := by decide +kernel
theorem dX1_init_7 : decode cX1_init 7 = .ok (.newarray .int, 2) := by decide +kernel
theorem dX1_init_9 : decode cX1_init 9 = .ok (.putfield 9, 3) := by decide +kernel
theorem dX1_init_12 : decode cX1_init 12 = .ok (.aload_n 0, 1) := by decide +kernel
theorem dX1_init_13 : decode cX1_init 13 = .ok (.bipush 40, 2) := by decide +kernel
theorem dX1_init_15 : decode cX1_init 15 = .ok (.newarray .int, 2) := by decide +kernel
theorem dX1_init_17 : decode cX1_init 17 = .ok (.putfield 15, 3) := by decide +kernel
theorem dX1_init_20 : decode cX1_init 20 = .ok (.aload_n 0, 1) := by decide +kernel
theorem dX1_init_21 : decode cX1_init 21 = .ok (.bipush 37, 2) := by decide +kernel
theorem dX1_init_23 : decode cX1_init 23 = .ok (.newarray .int, 2) := by decide +kernel
theorem dX1_init_25 : decode cX1_init 25 = .ok (.putfield 18, 3) := by decide +kernel
theorem dX1_init_28 : decode cX1_init 28 = .ok (.aload_n 0, 1) := by decide +kernel
theorem dX1_init_29 : decode cX1_init 29 = .ok (.iconst 4, 1) := by decide +kernel
theorem dX1_init_30 : decode cX1_init 30 = .ok (.newarray .int, 2) := by decide +kernel
theorem dX1_init_32 : decode cX1_init 32 = .ok (.putfield 21, 3) := by decide +kernel
theorem dX1_init_35 : decode cX1_init 35 = .ok (.aload_n 0, 1) := by decide +kernel
theorem dX1_init_36 : decode cX1_init 36 = .ok (.iconst 0, 1) := by decide +kernel
theorem dX1_init_37 : decode cX1_init 37 = .ok (.putfield 24, 3) := by decide +kernel
theorem dX1_init_40 : decode cX1_init 40 = .ok (.aload_n 0, 1) := by decide +kernel
theorem dX1_init_41 : decode cX1_init 41 = .ok (.aload_n 1, 1) := by decide +kernel
theorem dX1_init_42 : decode cX1_init 42 = .ok (.putfield 28, 3) := by decide +kernel
theorem dX1_init_45 : decode cX1_init 45 = .ok (.return_, 1) := by decide +kernel
theorem dX1_size_0 : decode cX1_size 0 = .ok (.aload_n 0, 1) := by decide +kernel
theorem dX1_size_1 : decode cX1_size 1 = .ok (.getfield 24, 3) := by decide +kernel
theorem dX1_size_4 : decode cX1_size 4 = .ok (.ireturn, 1) := by decide +kernel
theorem dX1_isFull_0 : decode cX1_isFull 0 = .ok (.aload_n 0, 1) := by decide +kernel
theorem dX1_isFull_1 : decode cX1_isFull 1 = .ok (.getfield 24, 3) := by decide +kernel
theorem dX1_isFull_4 : decode cX1_isFull 4 = .ok (.iconst 5, 1) := by decide +kernel
theorem dX1_isFull_5 : decode cX1_isFull 5 = .ok (.if_icmp .lt 7, 3) := by decide +kernel
theorem dX1_isFull_8 : decode cX1_isFull 8 = .ok (.iconst 1, 1) := by decide +kernel
theorem dX1_isFull_9 : decode cX1_isFull 9 = .ok (.goto 4, 3) := by decide +kernel
theorem dX1_isFull_12 : decode cX1_isFull 12 = .ok (.iconst 0, 1) := by decide +kernel
theorem dX1_isFull_13 : decode cX1_isFull 13 = .ok (.ireturn, 1) := by decide +kernel
theorem dX1_has_0 : decode cX1_has 0 = .ok (.iload_n 1, 1) := by decide +kernel
theorem dX1_has_1 : decode cX1_has 1 = .ok (.ifCond .lt 15, 3) := by decide +kernel
theorem dX1_has_4 : decode cX1_has 4 = .ok (.iload_n 1, 1) := by decide +kernel
theorem dX1_has_5 : decode cX1_has 5 = .ok (.aload_n 0, 1) := by decide +kernel
theorem dX1_has_6 : decode cX1_has 6 = .ok (.getfield 24, 3) := by decide +kernel
theorem dX1_has_9 : decode cX1_has 9 = .ok (.if_icmp .ge 7, 3) := by decide +kernel
theorem dX1_has_12 : decode cX1_has 12 = .ok (.iconst 1, 1) := by decide +kernel
theorem dX1_has_13 : decode cX1_has 13 = .ok (.goto 4, 3) := by decide +kernel
theorem dX1_has_16 : decode cX1_has 16 = .ok (.iconst 0, 1) := by decide +kernel
theorem dX1_has_17 : decode cX1_has 17 = .ok (.ireturn, 1) := by decide +kernel
theorem dX1_mark_0 : decode cX1_mark 0 = .ok (.aload_n 0, 1) := by decide +kernel
theorem dX1_mark_1 : decode cX1_mark 1 = .ok (.iload_n 1, 1) := by decide +kernel
theorem dX1_mark_2 : decode cX1_mark 2 = .ok (.invokevirtual 32, 3) := by decide +kernel
theorem dX1_mark_5 : decode cX1_mark 5 = .ok (.ifCond .eq 27, 3) := by decide +kernel
theorem dX1_mark_8 : decode cX1_mark 8 = .ok (.iload_n 2, 1) := by decide +kernel
theorem dX1_mark_9 : decode cX1_mark 9 = .ok (.ifCond .lt 23, 3) := by decide +kernel
theorem dX1_mark_12 : decode cX1_mark 12 = .ok (.iload_n 2, 1) := by decide +kernel
theorem dX1_mark_13 : decode cX1_mark 13 = .ok (.bipush 6, 2) := by decide +kernel
theorem dX1_mark_15 : decode cX1_mark 15 = .ok (.if_icmp .ge 17, 3) := by decide +kernel
theorem dX1_mark_18 : decode cX1_mark 18 = .ok (.aload_n 0, 1) := by decide +kernel
theorem dX1_mark_19 : decode cX1_mark 19 = .ok (.getfield 9, 3) := by decide +kernel
theorem dX1_mark_22 : decode cX1_mark 22 = .ok (.iload_n 1, 1) := by decide +kernel
theorem dX1_mark_23 : decode cX1_mark 23 = .ok (.bipush 6, 2) := by decide +kernel
theorem dX1_mark_25 : decode cX1_mark 25 = .ok (.imul, 1) := by decide +kernel
theorem dX1_mark_26 : decode cX1_mark 26 = .ok (.iload_n 2, 1) := by decide +kernel
theorem dX1_mark_27 : decode cX1_mark 27 = .ok (.iadd, 1) := by decide +kernel
theorem dX1_mark_28 : decode cX1_mark 28 = .ok (.iaload, 1) := by decide +kernel
theorem dX1_mark_29 : decode cX1_mark 29 = .ok (.goto 4, 3) := by decide +kernel
theorem dX1_mark_32 : decode cX1_mark 32 = .ok (.iconst (-1), 1) := by decide +kernel
theorem dX1_mark_33 : decode cX1_mark 33 = .ok (.ireturn, 1) := by decide +kernel
theorem dX1_allows_0 : decode cX1_allows 0 = .ok (.iload_n 3, 1) := by decide +kernel
theorem dX1_allows_1 : decode cX1_allows 1 = .ok (.aload_n 0, 1) := by decide +kernel
theorem dX1_allows_2 : decode cX1_allows 2 = .ok (.iload_n 1, 1) := by decide +kernel
theorem dX1_allows_3 : decode cX1_allows 3 = .ok (.iload_n 2, 1) := by decide +kernel
theorem dX1_allows_4 : decode cX1_allows 4 = .ok (.invokevirtual 36, 3) := by decide +kernel
theorem dX1_allows_7 : decode cX1_allows 7 = .ok (.if_icmp .gt 7, 3) := by decide +kernel
theorem dX1_allows_10 : decode cX1_allows 10 = .ok (.iconst 1, 1) := by decide +kernel
theorem dX1_allows_11 : decode cX1_allows 11 = .ok (.goto 4, 3) := by decide +kernel
theorem dX1_allows_14 : decode cX1_allows 14 = .ok (.iconst 0, 1) := by decide +kernel
theorem dX1_allows_15 : decode cX1_allows 15 = .ok (.ireturn, 1) := by decide +kernel
theorem dX1_binds_0 : decode cX1_binds 0 = .ok (.aload_n 0, 1) := by decide +kernel
theorem dX1_binds_1 : decode cX1_binds 1 = .ok (.iload_n 1, 1) := by decide +kernel
theorem dX1_binds_2 : decode cX1_binds 2 = .ok (.iconst 5, 1) := by decide +kernel
theorem dX1_binds_3 : decode cX1_binds 3 = .ok (.invokevirtual 36, 3) := by decide +kernel
theorem dX1_binds_6 : decode cX1_binds 6 = .ok (.iconst 1, 1) := by decide +kernel
theorem dX1_binds_7 : decode cX1_binds 7 = .ok (.if_icmp .ne 16, 3) := by decide +kernel
theorem dX1_binds_10 : decode cX1_binds 10 = .ok (.aload_n 0, 1) := by decide +kernel
theorem dX1_binds_11 : decode cX1_binds 11 = .ok (.iload_n 1, 1) := by decide +kernel
theorem dX1_binds_12 : decode cX1_binds 12 = .ok (.iload_n 2, 1) := by decide +kernel
theorem dX1_binds_13 : decode cX1_binds 13 = .ok (.invokevirtual 36, 3) := by decide +kernel
theorem dX1_binds_16 : decode cX1_binds 16 = .ok (.ifCond .ne 7, 3) := by decide +kernel
theorem dX1_binds_19 : decode cX1_binds 19 = .ok (.iconst 1, 1) := by decide +kernel
theorem dX1_binds_20 : decode cX1_binds 20 = .ok (.goto 4, 3) := by decide +kernel
theorem dX1_binds_23 : decode cX1_binds 23 = .ok (.iconst 0, 1) := by decide +kernel
theorem dX1_binds_24 : decode cX1_binds 24 = .ok (.ireturn, 1) := by decide +kernel
theorem dX1_farthest_0 : decode cX1_farthest 0 = .ok (.aload_n 0, 1) := by decide +kernel
theorem dX1_farthest_1 : decode cX1_farthest 1 = .ok (.iload_n 1, 1) := by decide +kernel
theorem dX1_farthest_2 : decode cX1_farthest 2 = .ok (.iconst 4, 1) := by decide +kernel
theorem dX1_farthest_3 : decode cX1_farthest 3 = .ok (.invokevirtual 36, 3) := by decide +kernel
theorem dX1_farthest_6 : decode cX1_farthest 6 = .ok (.istore_n 2, 1) := by decide +kernel
theorem dX1_farthest_7 : decode cX1_farthest 7 = .ok (.iload_n 2, 1) := by decide +kernel
theorem dX1_farthest_8 : decode cX1_farthest 8 = .ok (.iconst (-1), 1) := by decide +kernel
theorem dX1_farthest_9 : decode cX1_farthest 9 = .ok (.if_icmp .ne 8, 3) := by decide +kernel
theorem dX1_farthest_12 : decode cX1_farthest 12 = .ok (.bipush 36, 2) := by decide +kernel
theorem dX1_farthest_14 : decode cX1_farthest 14 = .ok (.goto 6, 3) := by decide +kernel
theorem dX1_farthest_17 : decode cX1_farthest 17 = .ok (.iconst 3, 1) := by decide +kernel
theorem dX1_farthest_18 : decode cX1_farthest 18 = .ok (.iload_n 2, 1) := by decide +kernel
theorem dX1_farthest_19 : decode cX1_farthest 19 = .ok (.imul, 1) := by decide +kernel
theorem dX1_farthest_20 : decode cX1_farthest 20 = .ok (.ireturn, 1) := by decide +kernel
theorem dX1_add_0 : decode cX1_add 0 = .ok (.aload_n 0, 1) := by decide +kernel
theorem dX1_add_1 : decode cX1_add 1 = .ok (.invokevirtual 40, 3) := by decide +kernel
theorem dX1_add_4 : decode cX1_add 4 = .ok (.ifCond .eq 5, 3) := by decide +kernel
theorem dX1_add_7 : decode cX1_add 7 = .ok (.iconst (-1), 1) := by decide +kernel
theorem dX1_add_8 : decode cX1_add 8 = .ok (.ireturn, 1) := by decide +kernel
theorem dX1_add_9 : decode cX1_add 9 = .ok (.aload_n 0, 1) := by decide +kernel
theorem dX1_add_10 : decode cX1_add 10 = .ok (.getfield 28, 3) := by decide +kernel
theorem dX1_add_13 : decode cX1_add 13 = .ok (.invokevirtual 44, 3) := by decide +kernel
theorem dX1_add_16 : decode cX1_add 16 = .ok (.istore_n 2, 1) := by decide +kernel
theorem dX1_add_17 : decode cX1_add 17 = .ok (.aload_n 0, 1) := by decide +kernel
theorem dX1_add_18 : decode cX1_add 18 = .ok (.getfield 24, 3) := by decide +kernel
theorem dX1_add_21 : decode cX1_add 21 = .ok (.bipush 6, 2) := by decide +kernel
theorem dX1_add_23 : decode cX1_add 23 = .ok (.imul, 1) := by decide +kernel
theorem dX1_add_24 : decode cX1_add 24 = .ok (.istore_n 3, 1) := by decide +kernel
theorem dX1_add_25 : decode cX1_add 25 = .ok (.iconst 0, 1) := by decide +kernel
theorem dX1_add_26 : decode cX1_add 26 = .ok (.istore 4, 2) := by decide +kernel
theorem dX1_add_28 : decode cX1_add 28 = .ok (.iload 4, 2) := by decide +kernel
theorem dX1_add_30 : decode cX1_add 30 = .ok (.iconst 4, 1) := by decide +kernel
theorem dX1_add_31 : decode cX1_add 31 = .ok (.if_icmp .ge 37, 3) := by decide +kernel
theorem dX1_add_34 : decode cX1_add 34 = .ok (.aload_n 0, 1) := by decide +kernel
theorem dX1_add_35 : decode cX1_add 35 = .ok (.getfield 9, 3) := by decide +kernel
theorem dX1_add_38 : decode cX1_add 38 = .ok (.iload_n 3, 1) := by decide +kernel
theorem dX1_add_39 : decode cX1_add 39 = .ok (.iload 4, 2) := by decide +kernel
theorem dX1_add_41 : decode cX1_add 41 = .ok (.iadd, 1) := by decide +kernel
theorem dX1_add_42 : decode cX1_add 42 = .ok (.iload 4, 2) := by decide +kernel
theorem dX1_add_44 : decode cX1_add 44 = .ok (.iload_n 2, 1) := by decide +kernel
theorem dX1_add_45 : decode cX1_add 45 = .ok (.if_icmp .ge 15, 3) := by decide +kernel
theorem dX1_add_48 : decode cX1_add 48 = .ok (.aload_n 1, 1) := by decide +kernel
theorem dX1_add_49 : decode cX1_add 49 = .ok (.iload 4, 2) := by decide +kernel
theorem dX1_add_51 : decode cX1_add 51 = .ok (.invokevirtual 49, 3) := by decide +kernel
theorem dX1_add_54 : decode cX1_add 54 = .ok (.bipush 48, 2) := by decide +kernel
theorem dX1_add_56 : decode cX1_add 56 = .ok (.isub, 1) := by decide +kernel
theorem dX1_add_57 : decode cX1_add 57 = .ok (.goto 4, 3) := by decide +kernel
theorem dX1_add_60 : decode cX1_add 60 = .ok (.iconst (-1), 1) := by decide +kernel
theorem dX1_add_61 : decode cX1_add 61 = .ok (.iastore, 1) := by decide +kernel
theorem dX1_add_62 : decode cX1_add 62 = .ok (.iinc 4 1, 3) := by decide +kernel
theorem dX1_add_65 : decode cX1_add 65 = .ok (.goto (-37), 3) := by decide +kernel
theorem dX1_add_68 : decode cX1_add 68 = .ok (.aload_n 0, 1) := by decide +kernel
theorem dX1_add_69 : decode cX1_add 69 = .ok (.getfield 9, 3) := by decide +kernel
theorem dX1_add_72 : decode cX1_add 72 = .ok (.iload_n 3, 1) := by decide +kernel
theorem dX1_add_73 : decode cX1_add 73 = .ok (.iconst 4, 1) := by decide +kernel
theorem dX1_add_74 : decode cX1_add 74 = .ok (.iadd, 1) := by decide +kernel
theorem dX1_add_75 : decode cX1_add 75 = .ok (.aload_n 1, 1) := by decide +kernel
theorem dX1_add_76 : decode cX1_add 76 = .ok (.iload_n 2, 1) := by decide +kernel
theorem dX1_add_77 : decode cX1_add 77 = .ok (.invokevirtual 49, 3) := by decide +kernel
theorem dX1_add_80 : decode cX1_add 80 = .ok (.bipush 43, 2) := by decide +kernel
theorem dX1_add_82 : decode cX1_add 82 = .ok (.if_icmp .ne 16, 3) := by decide +kernel
theorem dX1_add_85 : decode cX1_add 85 = .ok (.aload_n 1, 1) := by decide +kernel
theorem dX1_add_86 : decode cX1_add 86 = .ok (.iload_n 2, 1) := by decide +kernel
theorem dX1_add_87 : decode cX1_add 87 = .ok (.iconst 1, 1) := by decide +kernel
theorem dX1_add_88 : decode cX1_add 88 = .ok (.iadd, 1) := by decide +kernel
theorem dX1_add_89 : decode cX1_add 89 = .ok (.invokevirtual 49, 3) := by decide +kernel
theorem dX1_add_92 : decode cX1_add 92 = .ok (.bipush 48, 2) := by decide +kernel
theorem dX1_add_94 : decode cX1_add 94 = .ok (.isub, 1) := by decide +kernel
theorem dX1_add_95 : decode cX1_add 95 = .ok (.goto 4, 3) := by decide +kernel
theorem dX1_add_98 : decode cX1_add 98 = .ok (.iconst (-1), 1) := by decide +kernel
theorem dX1_add_99 : decode cX1_add 99 = .ok (.iastore, 1) := by decide +kernel
theorem dX1_add_100 : decode cX1_add 100 = .ok (.aload_n 0, 1) := by decide +kernel
theorem dX1_add_101 : decode cX1_add 101 = .ok (.getfield 9, 3) := by decide +kernel
theorem dX1_add_104 : decode cX1_add 104 = .ok (.iload_n 3, 1) := by decide +kernel
theorem dX1_add_105 : decode cX1_add 105 = .ok (.iconst 5, 1) := by decide +kernel
theorem dX1_add_106 : decode cX1_add 106 = .ok (.iadd, 1) := by decide +kernel
theorem dX1_add_107 : decode cX1_add 107 = .ok (.aload_n 1, 1) := by decide +kernel
theorem dX1_add_108 : decode cX1_add 108 = .ok (.invokevirtual 55, 3) := by decide +kernel
theorem dX1_add_111 : decode cX1_add 111 = .ok (.bipush 33, 2) := by decide +kernel
theorem dX1_add_113 : decode cX1_add 113 = .ok (.if_icmp .ne 7, 3) := by decide +kernel
theorem dX1_add_116 : decode cX1_add 116 = .ok (.iconst 1, 1) := by decide +kernel
theorem dX1_add_117 : decode cX1_add 117 = .ok (.goto 4, 3) := by decide +kernel
theorem dX1_add_120 : decode cX1_add 120 = .ok (.iconst 0, 1) := by decide +kernel
theorem dX1_add_121 : decode cX1_add 121 = .ok (.iastore, 1) := by decide +kernel
theorem dX1_add_122 : decode cX1_add 122 = .ok (.aload_n 0, 1) := by decide +kernel
theorem dX1_add_123 : decode cX1_add 123 = .ok (.dup, 1) := by decide +kernel
theorem dX1_add_124 : decode cX1_add 124 = .ok (.getfield 24, 3) := by decide +kernel
theorem dX1_add_127 : decode cX1_add 127 = .ok (.iconst 1, 1) := by decide +kernel
theorem dX1_add_128 : decode cX1_add 128 = .ok (.iadd, 1) := by decide +kernel
theorem dX1_add_129 : decode cX1_add 129 = .ok (.putfield 24, 3) := by decide +kernel
theorem dX1_add_132 : decode cX1_add 132 = .ok (.aload_n 0, 1) := by decide +kernel
theorem dX1_add_133 : decode cX1_add 133 = .ok (.aload_n 0, 1) := by decide +kernel
theorem dX1_add_134 : decode cX1_add 134 = .ok (.getfield 24, 3) := by decide +kernel
theorem dX1_add_137 : decode cX1_add 137 = .ok (.iconst 1, 1) := by decide +kernel
theorem dX1_add_138 : decode cX1_add 138 = .ok (.isub, 1) := by decide +kernel
theorem dX1_add_139 : decode cX1_add 139 = .ok (.invokevirtual 58, 3) := by decide +kernel
theorem dX1_add_142 : decode cX1_add 142 = .ok (.aload_n 0, 1) := by decide +kernel
theorem dX1_add_143 : decode cX1_add 143 = .ok (.getfield 24, 3) := by decide +kernel
theorem dX1_add_146 : decode cX1_add 146 = .ok (.iconst 1, 1) := by decide +kernel
theorem dX1_add_147 : decode cX1_add 147 = .ok (.isub, 1) := by decide +kernel
theorem dX1_add_148 : decode cX1_add 148 = .ok (.ireturn, 1) := by decide +kernel
theorem dX1_noteBits_0 : decode cX1_noteBits 0 = .ok (.iconst 1, 1) := by decide +kernel
theorem dX1_noteBits_1 : decode cX1_noteBits 1 = .ok (.iload_n 1, 1) := by decide +kernel
theorem dX1_noteBits_2 : decode cX1_noteBits 2 = .ok (.ishl, 1) := by decide +kernel
theorem dX1_noteBits_3 : decode cX1_noteBits 3 = .ok (.istore_n 2, 1) := by decide +kernel
theorem dX1_noteBits_4 : decode cX1_noteBits 4 = .ok (.iconst 0, 1) := by decide +kernel
theorem dX1_noteBits_5 : decode cX1_noteBits 5 = .ok (.istore_n 3, 1) := by decide +kernel
theorem dX1_noteBits_6 : decode cX1_noteBits 6 = .ok (.iload_n 3, 1) := by decide +kernel
theorem dX1_noteBits_7 : decode cX1_noteBits 7 = .ok (.aload_n 0, 1) := by decide +kernel
theorem dX1_noteBits_8 : decode cX1_noteBits 8 = .ok (.getfield 28, 3) := by decide +kernel
theorem dX1_noteBits_11 : decode cX1_noteBits 11 = .ok (.invokevirtual 44, 3) := by decide +kernel
theorem dX1_noteBits_14 : decode cX1_noteBits 14 = .ok (.if_icmp .ge 76, 3) := by decide +kernel
theorem dX1_noteBits_17 : decode cX1_noteBits 17 = .ok (.iload_n 3, 1) := by decide +kernel
theorem dX1_noteBits_18 : decode cX1_noteBits 18 = .ok (.iconst 4, 1) := by decide +kernel
theorem dX1_noteBits_19 : decode cX1_noteBits 19 = .ok (.if_icmp .ge 71, 3) := by decide +kernel
theorem dX1_noteBits_22 : decode cX1_noteBits 22 = .ok (.iconst 0, 1) := by decide +kernel
theorem dX1_noteBits_23 : decode cX1_noteBits 23 = .ok (.istore 4, 2) := by decide +kernel
theorem dX1_noteBits_25 : decode cX1_noteBits 25 = .ok (.iload 4, 2) := by decide +kernel
theorem dX1_noteBits_27 : decode cX1_noteBits 27 = .ok (.bipush 10, 2) := by decide +kernel
theorem dX1_noteBits_29 : decode cX1_noteBits 29 = .ok (.if_icmp .ge 36, 3) := by decide +kernel
theorem dX1_noteBits_32 : decode cX1_noteBits 32 = .ok (.aload_n 0, 1) := by decide +kernel
theorem dX1_noteBits_33 : decode cX1_noteBits 33 = .ok (.iload_n 1, 1) := by decide +kernel
theorem dX1_noteBits_34 : decode cX1_noteBits 34 = .ok (.iload_n 3, 1) := by decide +kernel
theorem dX1_noteBits_35 : decode cX1_noteBits 35 = .ok (.iload 4, 2) := by decide +kernel
theorem dX1_noteBits_37 : decode cX1_noteBits 37 = .ok (.invokevirtual 62, 3) := by decide +kernel
theorem dX1_noteBits_40 : decode cX1_noteBits 40 = .ok (.ifCond .eq 19, 3) := by decide +kernel
theorem dX1_noteBits_43 : decode cX1_noteBits 43 = .ok (.aload_n 0, 1) := by decide +kernel
theorem dX1_noteBits_44 : decode cX1_noteBits 44 = .ok (.getfield 15, 3) := by decide +kernel
theorem dX1_noteBits_47 : decode cX1_noteBits 47 = .ok (.iload_n 3, 1) := by decide +kernel
theorem dX1_noteBits_48 : decode cX1_noteBits 48 = .ok (.bipush 10, 2) := by decide +kernel
theorem dX1_noteBits_50 : decode cX1_noteBits 50 = .ok (.imul, 1) := by decide +kernel
theorem dX1_noteBits_51 : decode cX1_noteBits 51 = .ok (.iload 4, 2) := by decide +kernel
theorem dX1_noteBits_53 : decode cX1_noteBits 53 = .ok (.iadd, 1) := by decide +kernel
theorem dX1_noteBits_54 : decode cX1_noteBits 54 = .ok (.dup2, 1) := by decide +kernel
theorem dX1_noteBits_55 : decode cX1_noteBits 55 = .ok (.iaload, 1) := by decide +kernel
theorem dX1_noteBits_56 : decode cX1_noteBits 56 = .ok (.iload_n 2, 1) := by decide +kernel
theorem dX1_noteBits_57 : decode cX1_noteBits 57 = .ok (.ior, 1) := by decide +kernel
theorem dX1_noteBits_58 : decode cX1_noteBits 58 = .ok (.iastore, 1) := by decide +kernel
theorem dX1_noteBits_59 : decode cX1_noteBits 59 = .ok (.iinc 4 1, 3) := by decide +kernel
theorem dX1_noteBits_62 : decode cX1_noteBits 62 = .ok (.goto (-37), 3) := by decide +kernel
theorem dX1_noteBits_65 : decode cX1_noteBits 65 = .ok (.aload_n 0, 1) := by decide +kernel
theorem dX1_noteBits_66 : decode cX1_noteBits 66 = .ok (.iload_n 1, 1) := by decide +kernel
theorem dX1_noteBits_67 : decode cX1_noteBits 67 = .ok (.iload_n 3, 1) := by decide +kernel
theorem dX1_noteBits_68 : decode cX1_noteBits 68 = .ok (.invokevirtual 66, 3) := by decide +kernel
theorem dX1_noteBits_71 : decode cX1_noteBits 71 = .ok (.ifCond .eq 13, 3) := by decide +kernel
theorem dX1_noteBits_74 : decode cX1_noteBits 74 = .ok (.aload_n 0, 1) := by decide +kernel
theorem dX1_noteBits_75 : decode cX1_noteBits 75 = .ok (.getfield 21, 3) := by decide +kernel
theorem dX1_noteBits_78 : decode cX1_noteBits 78 = .ok (.iload_n 3, 1) := by decide +kernel
theorem dX1_noteBits_79 : decode cX1_noteBits 79 = .ok (.dup2, 1) := by decide +kernel
theorem dX1_noteBits_80 : decode cX1_noteBits 80 = .ok (.iaload, 1) := by decide +kernel
theorem dX1_noteBits_81 : decode cX1_noteBits 81 = .ok (.iload_n 2, 1) := by decide +kernel
theorem dX1_noteBits_82 : decode cX1_noteBits 82 = .ok (.ior, 1) := by decide +kernel
theorem dX1_noteBits_83 : decode cX1_noteBits 83 = .ok (.iastore, 1) := by decide +kernel
theorem dX1_noteBits_84 : decode cX1_noteBits 84 = .ok (.iinc 3 1, 3) := by decide +kernel
theorem dX1_noteBits_87 : decode cX1_noteBits 87 = .ok (.goto (-81), 3) := by decide +kernel
theorem dX1_noteBits_90 : decode cX1_noteBits 90 = .ok (.iconst 0, 1) := by decide +kernel
theorem dX1_noteBits_91 : decode cX1_noteBits 91 = .ok (.istore_n 3, 1) := by decide +kernel
theorem dX1_noteBits_92 : decode cX1_noteBits 92 = .ok (.iload_n 3, 1) := by decide +kernel
theorem dX1_noteBits_93 : decode cX1_noteBits 93 = .ok (.aload_n 0, 1) := by decide +kernel
theorem dX1_noteBits_94 : decode cX1_noteBits 94 = .ok (.iload_n 1, 1) := by decide +kernel
theorem dX1_noteBits_95 : decode cX1_noteBits 95 = .ok (.invokevirtual 70, 3) := by decide +kernel
theorem dX1_noteBits_98 : decode cX1_noteBits 98 = .ok (.if_icmp .gt 25, 3) := by decide +kernel
theorem dX1_noteBits_101 : decode cX1_noteBits 101 = .ok (.iload_n 3, 1) := by decide +kernel
theorem dX1_noteBits_102 : decode cX1_noteBits 102 = .ok (.bipush 36, 2) := by decide +kernel
theorem dX1_noteBits_104 : decode cX1_noteBits 104 = .ok (.if_icmp .gt 19, 3) := by decide +kernel
theorem dX1_noteBits_107 : decode cX1_noteBits 107 = .ok (.aload_n 0, 1) := by decide +kernel
theorem dX1_noteBits_108 : decode cX1_noteBits 108 = .ok (.getfield 18, 3) := by decide +kernel
theorem dX1_noteBits_111 : decode cX1_noteBits 111 = .ok (.iload_n 3, 1) := by decide +kernel
theorem dX1_noteBits_112 : decode cX1_noteBits 112 = .ok (.dup2, 1) := by decide +kernel
theorem dX1_noteBits_113 : decode cX1_noteBits 113 = .ok (.iaload, 1) := by decide +kernel
theorem dX1_noteBits_114 : decode cX1_noteBits 114 = .ok (.iload_n 2, 1) := by decide +kernel
theorem dX1_noteBits_115 : decode cX1_noteBits 115 = .ok (.ior, 1) := by decide +kernel
theorem dX1_noteBits_116 : decode cX1_noteBits 116 = .ok (.iastore, 1) := by decide +kernel
theorem dX1_noteBits_117 : decode cX1_noteBits 117 = .ok (.iinc 3 1, 3) := by decide +kernel
theorem dX1_noteBits_120 : decode cX1_noteBits 120 = .ok (.goto (-28), 3) := by decide +kernel
theorem dX1_noteBits_123 : decode cX1_noteBits 123 = .ok (.return_, 1) := by decide +kernel
theorem dX1_willing_0 : decode cX1_willing 0 = .ok (.iconst 1, 1) := by decide +kernel
theorem dX1_willing_1 : decode cX1_willing 1 = .ok (.aload_n 0, 1) := by decide +kernel
theorem dX1_willing_2 : decode cX1_willing 2 = .ok (.getfield 24, 3) := by decide +kernel
theorem dX1_willing_5 : decode cX1_willing 5 = .ok (.ishl, 1) := by decide +kernel
theorem dX1_willing_6 : decode cX1_willing 6 = .ok (.iconst 1, 1) := by decide +kernel
theorem dX1_willing_7 : decode cX1_willing 7 = .ok (.isub, 1) := by decide +kernel
theorem dX1_willing_8 : decode cX1_willing 8 = .ok (.istore 4, 2) := by decide +kernel
theorem dX1_willing_10 : decode cX1_willing 10 = .ok (.iconst 0, 1) := by decide +kernel
theorem dX1_willing_11 : decode cX1_willing 11 = .ok (.istore 5, 2) := by decide +kernel
theorem dX1_willing_13 : decode cX1_willing 13 = .ok (.iload_n 1, 1) := by decide +kernel
theorem dX1_willing_14 : decode cX1_willing 14 = .ok (.istore 6, 2) := by decide +kernel
theorem dX1_willing_16 : decode cX1_willing 16 = .ok (.iload_n 2, 1) := by decide +kernel
theorem dX1_willing_17 : decode cX1_willing 17 = .ok (.istore 7, 2) := by decide +kernel
theorem dX1_willing_19 : decode cX1_willing 19 = .ok (.iload_n 3, 1) := by decide +kernel
theorem dX1_willing_20 : decode cX1_willing 20 = .ok (.istore 8, 2) := by decide +kernel
theorem dX1_willing_22 : decode cX1_willing 22 = .ok (.aload_n 0, 1) := by decide +kernel
theorem dX1_willing_23 : decode cX1_willing 23 = .ok (.getfield 28, 3) := by decide +kernel
theorem dX1_willing_26 : decode cX1_willing 26 = .ok (.invokevirtual 44, 3) := by decide +kernel
theorem dX1_willing_29 : decode cX1_willing 29 = .ok (.istore 9, 2) := by decide +kernel
theorem dX1_willing_31 : decode cX1_willing 31 = .ok (.iconst 0, 1) := by decide +kernel
theorem dX1_willing_32 : decode cX1_willing 32 = .ok (.istore 10, 2) := by decide +kernel
theorem dX1_willing_34 : decode cX1_willing 34 = .ok (.iload 10, 2) := by decide +kernel
theorem dX1_willing_36 : decode cX1_willing 36 = .ok (.iload 9, 2) := by decide +kernel
theorem dX1_willing_38 : decode cX1_willing 38 = .ok (.if_icmp .ge 139, 3) := by decide +kernel
theorem dX1_willing_41 : decode cX1_willing 41 = .ok (.iload 10, 2) := by decide +kernel
theorem dX1_willing_43 : decode cX1_willing 43 = .ok (.iconst 4, 1) := by decide +kernel
theorem dX1_willing_44 : decode cX1_willing 44 = .ok (.if_icmp .ge 133, 3) := by decide +kernel
theorem dX1_willing_47 : decode cX1_willing 47 = .ok (.iload 7, 2) := by decide +kernel
theorem dX1_willing_49 : decode cX1_willing 49 = .ok (.bipush 10, 2) := by decide +kernel
theorem dX1_willing_51 : decode cX1_willing 51 = .ok (.irem, 1) := by decide +kernel
theorem dX1_willing_52 : decode cX1_willing 52 = .ok (.istore 11, 2) := by decide +kernel
theorem dX1_willing_54 : decode cX1_willing 54 = .ok (.iload 11, 2) := by decide +kernel
theorem dX1_willing_56 : decode cX1_willing 56 = .ok (.iload 6, 2) := by decide +kernel
theorem dX1_willing_58 : decode cX1_willing 58 = .ok (.bipush 10, 2) := by decide +kernel
theorem dX1_willing_60 : decode cX1_willing 60 = .ok (.irem, 1) := by decide +kernel
theorem dX1_willing_61 : decode cX1_willing 61 = .ok (.if_icmp .eq 65, 3) := by decide +kernel
theorem dX1_willing_64 : decode cX1_willing 64 = .ok (.aload_n 0, 1) := by decide +kernel
theorem dX1_willing_65 : decode cX1_willing 65 = .ok (.getfield 28, 3) := by decide +kernel
theorem dX1_willing_68 : decode cX1_willing 68 = .ok (.iload 10, 2) := by decide +kernel
theorem dX1_willing_70 : decode cX1_willing 70 = .ok (.invokevirtual 73, 3) := by decide +kernel
theorem dX1_willing_73 : decode cX1_willing 73 = .ok (.iload 6, 2) := by decide +kernel
theorem dX1_willing_75 : decode cX1_willing 75 = .ok (.bipush 10, 2) := by decide +kernel
theorem dX1_willing_77 : decode cX1_willing 77 = .ok (.irem, 1) := by decide +kernel
theorem dX1_willing_78 : decode cX1_willing 78 = .ok (.iload 11, 2) := by decide +kernel
theorem dX1_willing_80 : decode cX1_willing 80 = .ok (.invokevirtual 77, 3) := by decide +kernel
theorem dX1_willing_83 : decode cX1_willing 83 = .ok (.istore 12, 2) := by decide +kernel
theorem dX1_willing_85 : decode cX1_willing 85 = .ok (.iload 5, 2) := by decide +kernel
theorem dX1_willing_87 : decode cX1_willing 87 = .ok (.iload 12, 2) := by decide +kernel
theorem dX1_willing_89 : decode cX1_willing 89 = .ok (.iadd, 1) := by decide +kernel
theorem dX1_willing_90 : decode cX1_willing 90 = .ok (.istore 5, 2) := by decide +kernel
theorem dX1_willing_92 : decode cX1_willing 92 = .ok (.iload 4, 2) := by decide +kernel
theorem dX1_willing_94 : decode cX1_willing 94 = .ok (.iload 12, 2) := by decide +kernel
theorem dX1_willing_96 : decode cX1_willing 96 = .ok (.ifCond .lt 26, 3) := by decide +kernel
theorem dX1_willing_99 : decode cX1_willing 99 = .ok (.iload 12, 2) := by decide +kernel
theorem dX1_willing_101 : decode cX1_willing 101 = .ok (.bipush 10, 2) := by decide +kernel
theorem dX1_willing_103 : decode cX1_willing 103 = .ok (.if_icmp .ge 19, 3) := by decide +kernel
theorem dX1_willing_106 : decode cX1_willing 106 = .ok (.aload_n 0, 1) := by decide +kernel
theorem dX1_willing_107 : decode cX1_willing 107 = .ok (.getfield 15, 3) := by decide +kernel
theorem dX1_willing_110 : decode cX1_willing 110 = .ok (.iload 10, 2) := by decide +kernel
theorem dX1_willing_112 : decode cX1_willing 112 = .ok (.bipush 10, 2) := by decide +kernel
theorem dX1_willing_114 : decode cX1_willing 114 = .ok (.imul, 1) := by decide +kernel
theorem dX1_willing_115 : decode cX1_willing 115 = .ok (.iload 12, 2) := by decide +kernel
theorem dX1_willing_117 : decode cX1_willing 117 = .ok (.iadd, 1) := by decide +kernel
theorem dX1_willing_118 : decode cX1_willing 118 = .ok (.iaload, 1) := by decide +kernel
theorem dX1_willing_119 : decode cX1_willing 119 = .ok (.goto 4, 3) := by decide +kernel
theorem dX1_willing_122 : decode cX1_willing 122 = .ok (.iconst 0, 1) := by decide +kernel
theorem dX1_willing_123 : decode cX1_willing 123 = .ok (.iand, 1) := by decide +kernel
theorem dX1_willing_124 : decode cX1_willing 124 = .ok (.istore 4, 2) := by decide +kernel
theorem dX1_willing_126 : decode cX1_willing 126 = .ok (.iload 11, 2) := by decide +kernel
theorem dX1_willing_128 : decode cX1_willing 128 = .ok (.iload 8, 2) := by decide +kernel
theorem dX1_willing_130 : decode cX1_willing 130 = .ok (.bipush 10, 2) := by decide +kernel
theorem dX1_willing_132 : decode cX1_willing 132 = .ok (.irem, 1) := by decide +kernel
theorem dX1_willing_133 : decode cX1_willing 133 = .ok (.if_icmp .eq 17, 3) := by decide +kernel
theorem dX1_willing_136 : decode cX1_willing 136 = .ok (.iload 4, 2) := by decide +kernel
theorem dX1_willing_138 : decode cX1_willing 138 = .ok (.aload_n 0, 1) := by decide +kernel
theorem dX1_willing_139 : decode cX1_willing 139 = .ok (.getfield 21, 3) := by decide +kernel
theorem dX1_willing_142 : decode cX1_willing 142 = .ok (.iload 10, 2) := by decide +kernel
theorem dX1_willing_144 : decode cX1_willing 144 = .ok (.iaload, 1) := by decide +kernel
theorem dX1_willing_145 : decode cX1_willing 145 = .ok (.iconst (-1), 1) := by decide +kernel
theorem dX1_willing_146 : decode cX1_willing 146 = .ok (.ixor, 1) := by decide +kernel
theorem dX1_willing_147 : decode cX1_willing 147 = .ok (.iand, 1) := by decide +kernel
theorem dX1_willing_148 : decode cX1_willing 148 = .ok (.istore 4, 2) := by decide +kernel
theorem dX1_willing_150 : decode cX1_willing 150 = .ok (.iload 6, 2) := by decide +kernel
theorem dX1_willing_152 : decode cX1_willing 152 = .ok (.bipush 10, 2) := by decide +kernel
theorem dX1_willing_154 : decode cX1_willing 154 = .ok (.idiv, 1) := by decide +kernel
theorem dX1_willing_155 : decode cX1_willing 155 = .ok (.istore 6, 2) := by decide +kernel
theorem dX1_willing_157 : decode cX1_willing 157 = .ok (.iload 7, 2) := by decide +kernel
theorem dX1_willing_159 : decode cX1_willing 159 = .ok (.bipush 10, 2) := by decide +kernel
theorem dX1_willing_161 : decode cX1_willing 161 = .ok (.idiv, 1) := by decide +kernel
theorem dX1_willing_162 : decode cX1_willing 162 = .ok (.istore 7, 2) := by decide +kernel
theorem dX1_willing_164 : decode cX1_willing 164 = .ok (.iload 8, 2) := by decide +kernel
theorem dX1_willing_166 : decode cX1_willing 166 = .ok (.bipush 10, 2) := by decide +kernel
theorem dX1_willing_168 : decode cX1_willing 168 = .ok (.idiv, 1) := by decide +kernel
theorem dX1_willing_169 : decode cX1_willing 169 = .ok (.istore 8, 2) := by decide +kernel
theorem dX1_willing_171 : decode cX1_willing 171 = .ok (.iinc 10 1, 3) := by decide +kernel
theorem dX1_willing_174 : decode cX1_willing 174 = .ok (.goto (-140), 3) := by decide +kernel
theorem dX1_willing_177 : decode cX1_willing 177 = .ok (.iload 5, 2) := by decide +kernel
theorem dX1_willing_179 : decode cX1_willing 179 = .ok (.ifCond .lt 23, 3) := by decide +kernel
theorem dX1_willing_182 : decode cX1_willing 182 = .ok (.iload 5, 2) := by decide +kernel
theorem dX1_willing_184 : decode cX1_willing 184 = .ok (.bipush 36, 2) := by decide +kernel
theorem dX1_willing_186 : decode cX1_willing 186 = .ok (.if_icmp .gt 16, 3) := by decide +kernel
theorem dX1_willing_189 : decode cX1_willing 189 = .ok (.iload 4, 2) := by decide +kernel
theorem dX1_willing_191 : decode cX1_willing 191 = .ok (.aload_n 0, 1) := by decide +kernel
theorem dX1_willing_192 : decode cX1_willing 192 = .ok (.getfield 18, 3) := by decide +kernel
theorem dX1_willing_195 : decode cX1_willing 195 = .ok (.iload 5, 2) := by decide +kernel
theorem dX1_willing_197 : decode cX1_willing 197 = .ok (.iaload, 1) := by decide +kernel
theorem dX1_willing_198 : decode cX1_willing 198 = .ok (.iand, 1) := by decide +kernel
theorem dX1_willing_199 : decode cX1_willing 199 = .ok (.goto 4, 3) := by decide +kernel
theorem dX1_willing_202 : decode cX1_willing 202 = .ok (.iconst 0, 1) := by decide +kernel
theorem dX1_willing_203 : decode cX1_willing 203 = .ok (.ireturn, 1) := by decide +kernel
theorem dX1_agrees_0 : decode cX1_agrees 0 = .ok (.aload_n 0, 1) := by decide +kernel
theorem dX1_agrees_1 : decode cX1_agrees 1 = .ok (.getfield 24, 3) := by decide +kernel
theorem dX1_agrees_4 : decode cX1_agrees 4 = .ok (.ifCond .eq 22, 3) := by decide +kernel
theorem dX1_agrees_7 : decode cX1_agrees 7 = .ok (.iconst 2, 1) := by decide +kernel
theorem dX1_agrees_8 : decode cX1_agrees 8 = .ok (.aload_n 0, 1) := by decide +kernel
theorem dX1_agrees_9 : decode cX1_agrees 9 = .ok (.iload_n 1, 1) := by decide +kernel
theorem dX1_agrees_10 : decode cX1_agrees 10 = .ok (.iload_n 2, 1) := by decide +kernel
theorem dX1_agrees_11 : decode cX1_agrees 11 = .ok (.iload_n 3, 1) := by decide +kernel
theorem dX1_agrees_12 : decode cX1_agrees 12 = .ok (.invokevirtual 82, 3) := by decide +kernel
theorem dX1_agrees_15 : decode cX1_agrees 15 = .ok (.invokestatic 86, 3) := by decide +kernel
theorem dX1_agrees_18 : decode cX1_agrees 18 = .ok (.imul, 1) := by decide +kernel
theorem dX1_agrees_19 : decode cX1_agrees 19 = .ok (.aload_n 0, 1) := by decide +kernel
theorem dX1_agrees_20 : decode cX1_agrees 20 = .ok (.getfield 24, 3) := by decide +kernel
theorem dX1_agrees_23 : decode cX1_agrees 23 = .ok (.if_icmp .le 7, 3) := by decide +kernel
theorem dX1_agrees_26 : decode cX1_agrees 26 = .ok (.iconst 1, 1) := by decide +kernel
theorem dX1_agrees_27 : decode cX1_agrees 27 = .ok (.goto 4, 3) := by decide +kernel
theorem dX1_agrees_30 : decode cX1_agrees 30 = .ok (.iconst 0, 1) := by decide +kernel
theorem dX1_agrees_31 : decode cX1_agrees 31 = .ok (.ireturn, 1) := by decide +kernel
theorem dX2_init_0 : decode cX2_init 0 = .ok (.aload_n 0, 1) := by decide +kernel
theorem dX2_init_1 : decode cX2_init 1 = .ok (.invokespecial 3, 3) := by decide +kernel
theorem dX2_init_4 : decode cX2_init 4 = .ok (.aload_n 0, 1) := by decide +kernel
theorem dX2_init_5 : decode cX2_init 5 = .ok (.bipush 10, 2) := by decide +kernel
theorem dX2_init_7 : decode cX2_init 7 = .ok (.newarray .int, 2) := by decide +kernel
theorem dX2_init_9 : decode cX2_init 9 = .ok (.putfield 9, 3) := by decide +kernel
theorem dX2_init_12 : decode cX2_init 12 = .ok (.aload_n 0, 1) := by decide +kernel
theorem dX2_init_13 : decode cX2_init 13 = .ok (.bipush 37, 2) := by decide +kernel
theorem dX2_init_15 : decode cX2_init 15 = .ok (.newarray .int, 2) := by decide +kernel
theorem dX2_init_17 : decode cX2_init 17 = .ok (.putfield 15, 3) := by decide +kernel
theorem dX2_init_20 : decode cX2_init 20 = .ok (.aload_n 0, 1) := by decide +kernel
theorem dX2_init_21 : decode cX2_init 21 = .ok (.bipush 37, 2) := by decide +kernel
theorem dX2_init_23 : decode cX2_init 23 = .ok (.newarray .int, 2) := by decide +kernel
theorem dX2_init_25 : decode cX2_init 25 = .ok (.putfield 18, 3) := by decide +kernel
theorem dX2_init_28 : decode cX2_init 28 = .ok (.return_, 1) := by decide +kernel
theorem dX2_open_0 : decode cX2_open 0 = .ok (.iconst 0, 1) := by decide +kernel
theorem dX2_open_1 : decode cX2_open 1 = .ok (.istore_n 1, 1) := by decide +kernel
theorem dX2_open_2 : decode cX2_open 2 = .ok (.iload_n 1, 1) := by decide +kernel
theorem dX2_open_3 : decode cX2_open 3 = .ok (.bipush 36, 2) := by decide +kernel
theorem dX2_open_5 : decode cX2_open 5 = .ok (.if_icmp .gt 16, 3) := by decide +kernel
theorem dX2_open_8 : decode cX2_open 8 = .ok (.aload_n 0, 1) := by decide +kernel
theorem dX2_open_9 : decode cX2_open 9 = .ok (.getfield 15, 3) := by decide +kernel
theorem dX2_open_12 : decode cX2_open 12 = .ok (.iload_n 1, 1) := by decide +kernel
theorem dX2_open_13 : decode cX2_open 13 = .ok (.iconst 0, 1) := by decide +kernel
theorem dX2_open_14 : decode cX2_open 14 = .ok (.iastore, 1) := by decide +kernel
theorem dX2_open_15 : decode cX2_open 15 = .ok (.iinc 1 1, 3) := by decide +kernel
theorem dX2_open_18 : decode cX2_open 18 = .ok (.goto (-16), 3) := by decide +kernel
theorem dX2_open_21 : decode cX2_open 21 = .ok (.aload_n 0, 1) := by decide +kernel
theorem dX2_open_22 : decode cX2_open 22 = .ok (.getfield 15, 3) := by decide +kernel
theorem dX2_open_25 : decode cX2_open 25 = .ok (.iconst 0, 1) := by decide +kernel
theorem dX2_open_26 : decode cX2_open 26 = .ok (.iconst 1, 1) := by decide +kernel
theorem dX2_open_27 : decode cX2_open 27 = .ok (.iastore, 1) := by decide +kernel
theorem dX2_open_28 : decode cX2_open 28 = .ok (.return_, 1) := by decide +kernel
theorem dX2_meet_0 : decode cX2_meet 0 = .ok (.iload_n 1, 1) := by decide +kernel
theorem dX2_meet_1 : decode cX2_meet 1 = .ok (.ifCond .lt 19, 3) := by decide +kernel
theorem dX2_meet_4 : decode cX2_meet 4 = .ok (.iload_n 1, 1) := by decide +kernel
theorem dX2_meet_5 : decode cX2_meet 5 = .ok (.bipush 10, 2) := by decide +kernel
theorem dX2_meet_7 : decode cX2_meet 7 = .ok (.if_icmp .ge 13, 3) := by decide +kernel
theorem dX2_meet_10 : decode cX2_meet 10 = .ok (.aload_n 0, 1) := by decide +kernel
theorem dX2_meet_11 : decode cX2_meet 11 = .ok (.getfield 9, 3) := by decide +kernel
theorem dX2_meet_14 : decode cX2_meet 14 = .ok (.iload_n 1, 1) := by decide +kernel
theorem dX2_meet_15 : decode cX2_meet 15 = .ok (.dup2, 1) := by decide +kernel
theorem dX2_meet_16 : decode cX2_meet 16 = .ok (.iaload, 1) := by decide +kernel
theorem dX2_meet_17 : decode cX2_meet 17 = .ok (.iconst 1, 1) := by decide +kernel
theorem dX2_meet_18 : decode cX2_meet 18 = .ok (.iadd, 1) := by decide +kernel
theorem dX2_meet_19 : decode cX2_meet 19 = .ok (.iastore, 1) := by decide +kernel
theorem dX2_meet_20 : decode cX2_meet 20 = .ok (.return_, 1) := by decide +kernel
theorem dX2_close_0 : decode cX2_close 0 = .ok (.iconst 0, 1) := by decide +kernel
theorem dX2_close_1 : decode cX2_close 1 = .ok (.istore_n 1, 1) := by decide +kernel
theorem dX2_close_2 : decode cX2_close 2 = .ok (.iload_n 1, 1) := by decide +kernel
theorem dX2_close_3 : decode cX2_close 3 = .ok (.bipush 36, 2) := by decide +kernel
theorem dX2_close_5 : decode cX2_close 5 = .ok (.if_icmp .gt 59, 3) := by decide +kernel
theorem dX2_close_8 : decode cX2_close 8 = .ok (.aload_n 0, 1) := by decide +kernel
end
section
theorem dX2_close_9 : decode cX2_close 9 = .ok (.getfield 18, 3) := by decide +kernel
theorem dX2_close_12 : decode cX2_close 12 = .ok (.iload_n 1, 1) := by decide +kernel
theorem dX2_close_13 : decode cX2_close 13 = .ok (.iconst 0, 1) := by decide +kernel
theorem dX2_close_14 : decode cX2_close 14 = .ok (.iastore, 1) := by decide +kernel
theorem dX2_close_15 : decode cX2_close 15 = .ok (.iconst 0, 1) := by decide +kernel
theorem dX2_close_16 : decode cX2_close 16 = .ok (.istore_n 2, 1) := by decide +kernel
theorem dX2_close_17 : decode cX2_close 17 = .ok (.iload_n 2, 1) := by decide +kernel
theorem dX2_close_18 : decode cX2_close 18 = .ok (.bipush 10, 2) := by decide +kernel
theorem dX2_close_20 : decode cX2_close 20 = .ok (.if_icmp .ge 38, 3) := by decide +kernel
theorem dX2_close_23 : decode cX2_close 23 = .ok (.iload_n 2, 1) := by decide +kernel
theorem dX2_close_24 : decode cX2_close 24 = .ok (.iload_n 1, 1) := by decide +kernel
theorem dX2_close_25 : decode cX2_close 25 = .ok (.if_icmp .gt 33, 3) := by decide +kernel
theorem dX2_close_28 : decode cX2_close 28 = .ok (.aload_n 0, 1) := by decide +kernel
theorem dX2_close_29 : decode cX2_close 29 = .ok (.getfield 18, 3) := by decide +kernel
theorem dX2_close_32 : decode cX2_close 32 = .ok (.iload_n 1, 1) := by decide +kernel
theorem dX2_close_33 : decode cX2_close 33 = .ok (.dup2, 1) := by decide +kernel
theorem dX2_close_34 : decode cX2_close 34 = .ok (.iaload, 1) := by decide +kernel
theorem dX2_close_35 : decode cX2_close 35 = .ok (.aload_n 0, 1) := by decide +kernel
theorem dX2_close_36 : decode cX2_close 36 = .ok (.getfield 9, 3) := by decide +kernel
theorem dX2_close_39 : decode cX2_close 39 = .ok (.iload_n 2, 1) := by decide +kernel
theorem dX2_close_40 : decode cX2_close 40 = .ok (.iaload, 1) := by decide +kernel
theorem dX2_close_41 : decode cX2_close 41 = .ok (.aload_n 0, 1) := by decide +kernel
theorem dX2_close_42 : decode cX2_close 42 = .ok (.getfield 15, 3) := by decide +kernel
theorem dX2_close_45 : decode cX2_close 45 = .ok (.iload_n 1, 1) := by decide +kernel
theorem dX2_close_46 : decode cX2_close 46 = .ok (.iload_n 2, 1) := by decide +kernel
theorem dX2_close_47 : decode cX2_close 47 = .ok (.isub, 1) := by decide +kernel
theorem dX2_close_48 : decode cX2_close 48 = .ok (.iaload, 1) := by decide +kernel
theorem dX2_close_49 : decode cX2_close 49 = .ok (.imul, 1) := by decide +kernel
theorem dX2_close_50 : decode cX2_close 50 = .ok (.iadd, 1) := by decide +kernel
theorem dX2_close_51 : decode cX2_close 51 = .ok (.iastore, 1) := by decide +kernel
theorem dX2_close_52 : decode cX2_close 52 = .ok (.iinc 2 1, 3) := by decide +kernel
theorem dX2_close_55 : decode cX2_close 55 = .ok (.goto (-38), 3) := by decide +kernel
theorem dX2_close_58 : decode cX2_close 58 = .ok (.iinc 1 1, 3) := by decide +kernel
theorem dX2_close_61 : decode cX2_close 61 = .ok (.goto (-59), 3) := by decide +kernel
theorem dX2_close_64 : decode cX2_close 64 = .ok (.aload_n 0, 1) := by decide +kernel
theorem dX2_close_65 : decode cX2_close 65 = .ok (.getfield 18, 3) := by decide +kernel
theorem dX2_close_68 : decode cX2_close 68 = .ok (.astore_n 1, 1) := by decide +kernel
theorem dX2_close_69 : decode cX2_close 69 = .ok (.aload_n 0, 1) := by decide +kernel
theorem dX2_close_70 : decode cX2_close 70 = .ok (.aload_n 0, 1) := by decide +kernel
theorem dX2_close_71 : decode cX2_close 71 = .ok (.getfield 15, 3) := by decide +kernel
theorem dX2_close_74 : decode cX2_close 74 = .ok (.putfield 18, 3) := by decide +kernel
theorem dX2_close_77 : decode cX2_close 77 = .ok (.aload_n 0, 1) := by decide +kernel
theorem dX2_close_78 : decode cX2_close 78 = .ok (.aload_n 1, 1) := by decide +kernel
theorem dX2_close_79 : decode cX2_close 79 = .ok (.putfield 15, 3) := by decide +kernel
theorem dX2_close_82 : decode cX2_close 82 = .ok (.iconst 0, 1) := by decide +kernel
theorem dX2_close_83 : decode cX2_close 83 = .ok (.istore_n 2, 1) := by decide +kernel
theorem dX2_close_84 : decode cX2_close 84 = .ok (.iload_n 2, 1) := by decide +kernel
theorem dX2_close_85 : decode cX2_close 85 = .ok (.bipush 10, 2) := by decide +kernel
theorem dX2_close_87 : decode cX2_close 87 = .ok (.if_icmp .ge 16, 3) := by decide +kernel
theorem dX2_close_90 : decode cX2_close 90 = .ok (.aload_n 0, 1) := by decide +kernel
theorem dX2_close_91 : decode cX2_close 91 = .ok (.getfield 9, 3) := by decide +kernel
theorem dX2_close_94 : decode cX2_close 94 = .ok (.iload_n 2, 1) := by decide +kernel
theorem dX2_close_95 : decode cX2_close 95 = .ok (.iconst 0, 1) := by decide +kernel
theorem dX2_close_96 : decode cX2_close 96 = .ok (.iastore, 1) := by decide +kernel
theorem dX2_close_97 : decode cX2_close 97 = .ok (.iinc 2 1, 3) := by decide +kernel
theorem dX2_close_100 : decode cX2_close 100 = .ok (.goto (-16), 3) := by decide +kernel
theorem dX2_close_103 : decode cX2_close 103 = .ok (.return_, 1) := by decide +kernel
theorem dX2_upTo_0 : decode cX2_upTo 0 = .ok (.iconst 0, 1) := by decide +kernel
theorem dX2_upTo_1 : decode cX2_upTo 1 = .ok (.istore_n 2, 1) := by decide +kernel
theorem dX2_upTo_2 : decode cX2_upTo 2 = .ok (.iconst 0, 1) := by decide +kernel
theorem dX2_upTo_3 : decode cX2_upTo 3 = .ok (.istore_n 3, 1) := by decide +kernel
theorem dX2_upTo_4 : decode cX2_upTo 4 = .ok (.iload_n 3, 1) := by decide +kernel
theorem dX2_upTo_5 : decode cX2_upTo 5 = .ok (.iload_n 1, 1) := by decide +kernel
theorem dX2_upTo_6 : decode cX2_upTo 6 = .ok (.if_icmp .gt 24, 3) := by decide +kernel
theorem dX2_upTo_9 : decode cX2_upTo 9 = .ok (.iload_n 3, 1) := by decide +kernel
theorem dX2_upTo_10 : decode cX2_upTo 10 = .ok (.bipush 36, 2) := by decide +kernel
theorem dX2_upTo_12 : decode cX2_upTo 12 = .ok (.if_icmp .gt 18, 3) := by decide +kernel
theorem dX2_upTo_15 : decode cX2_upTo 15 = .ok (.iload_n 2, 1) := by decide +kernel
theorem dX2_upTo_16 : decode cX2_upTo 16 = .ok (.aload_n 0, 1) := by decide +kernel
theorem dX2_upTo_17 : decode cX2_upTo 17 = .ok (.getfield 15, 3) := by decide +kernel
theorem dX2_upTo_20 : decode cX2_upTo 20 = .ok (.iload_n 3, 1) := by decide +kernel
theorem dX2_upTo_21 : decode cX2_upTo 21 = .ok (.iaload, 1) := by decide +kernel
theorem dX2_upTo_22 : decode cX2_upTo 22 = .ok (.iadd, 1) := by decide +kernel
theorem dX2_upTo_23 : decode cX2_upTo 23 = .ok (.istore_n 2, 1) := by decide +kernel
theorem dX2_upTo_24 : decode cX2_upTo 24 = .ok (.iinc 3 1, 3) := by decide +kernel
theorem dX2_upTo_27 : decode cX2_upTo 27 = .ok (.goto (-23), 3) := by decide +kernel
theorem dX2_upTo_30 : decode cX2_upTo 30 = .ok (.iload_n 2, 1) := by decide +kernel
theorem dX2_upTo_31 : decode cX2_upTo 31 = .ok (.ireturn, 1) := by decide +kernel
theorem dX3_init_0 : decode cX3_init 0 = .ok (.aload_n 0, 1) := by decide +kernel
theorem dX3_init_1 : decode cX3_init 1 = .ok (.invokespecial 3, 3) := by decide +kernel
theorem dX3_init_4 : decode cX3_init 4 = .ok (.return_, 1) := by decide +kernel
theorem dX3_kind_0 : decode cX3_kind 0 = .ok (.iconst 4, 1) := by decide +kernel
theorem dX3_kind_1 : decode cX3_kind 1 = .ok (.ireturn, 1) := by decide +kernel
theorem dX4_init_0 : decode cX4_init 0 = .ok (.aload_n 0, 1) := by decide +kernel
theorem dX4_init_1 : decode cX4_init 1 = .ok (.invokespecial 3, 3) := by decide +kernel
theorem dX4_init_4 : decode cX4_init 4 = .ok (.return_, 1) := by decide +kernel
theorem dX4_kind_0 : decode cX4_kind 0 = .ok (.iconst 0, 1) := by decide +kernel
theorem dX4_kind_1 : decode cX4_kind 1 = .ok (.ireturn, 1) := by decide +kernel
theorem dX4_aged_0 : decode cX4_aged 0 = .ok (.iload_n 1, 1) := by decide +kernel
theorem dX4_aged_1 : decode cX4_aged 1 = .ok (.ireturn, 1) := by decide +kernel
theorem dX4_gap_0 : decode cX4_gap 0 = .ok (.iload_n 1, 1) := by decide +kernel
theorem dX4_gap_1 : decode cX4_gap 1 = .ok (.iload_n 2, 1) := by decide +kernel
theorem dX4_gap_2 : decode cX4_gap 2 = .ok (.isub, 1) := by decide +kernel
theorem dX4_gap_3 : decode cX4_gap 3 = .ok (.invokestatic 9, 3) := by decide +kernel
theorem dX4_gap_6 : decode cX4_gap 6 = .ok (.ireturn, 1) := by decide +kernel
theorem dX4_steps_0 : decode cX4_steps 0 = .ok (.iload_n 1, 1) := by decide +kernel
theorem dX4_steps_1 : decode cX4_steps 1 = .ok (.iload_n 2, 1) := by decide +kernel
theorem dX4_steps_2 : decode cX4_steps 2 = .ok (.isub, 1) := by decide +kernel
theorem dX4_steps_3 : decode cX4_steps 3 = .ok (.invokestatic 9, 3) := by decide +kernel
theorem dX4_steps_6 : decode cX4_steps 6 = .ok (.ireturn, 1) := by decide +kernel
theorem dX4_slipped_0 : decode cX4_slipped 0 = .ok (.iload_n 1, 1) := by decide +kernel
theorem dX4_slipped_1 : decode cX4_slipped 1 = .ok (.iload_n 2, 1) := by decide +kernel
theorem dX4_slipped_2 : decode cX4_slipped 2 = .ok (.iadd, 1) := by decide +kernel
theorem dX4_slipped_3 : decode cX4_slipped 3 = .ok (.istore_n 3, 1) := by decide +kernel
theorem dX4_slipped_4 : decode cX4_slipped 4 = .ok (.iload_n 3, 1) := by decide +kernel
theorem dX4_slipped_5 : decode cX4_slipped 5 = .ok (.ifCond .lt 9, 3) := by decide +kernel
theorem dX4_slipped_8 : decode cX4_slipped 8 = .ok (.iload_n 3, 1) := by decide +kernel
theorem dX4_slipped_9 : decode cX4_slipped 9 = .ok (.bipush 9, 2) := by decide +kernel
theorem dX4_slipped_11 : decode cX4_slipped 11 = .ok (.if_icmp .le 7, 3) := by decide +kernel
theorem dX4_slipped_14 : decode cX4_slipped 14 = .ok (.iconst (-1), 1) := by decide +kernel
theorem dX4_slipped_15 : decode cX4_slipped 15 = .ok (.goto 4, 3) := by decide +kernel
theorem dX4_slipped_18 : decode cX4_slipped 18 = .ok (.iload_n 3, 1) := by decide +kernel
theorem dX4_slipped_19 : decode cX4_slipped 19 = .ok (.ireturn, 1) := by decide +kernel
theorem dX5_init_0 : decode cX5_init 0 = .ok (.aload_n 0, 1) := by decide +kernel
theorem dX5_init_1 : decode cX5_init 1 = .ok (.invokespecial 3, 3) := by decide +kernel
theorem dX5_init_4 : decode cX5_init 4 = .ok (.return_, 1) := by decide +kernel
theorem dX5_kind_0 : decode cX5_kind 0 = .ok (.iconst 1, 1) := by decide +kernel
theorem dX5_kind_1 : decode cX5_kind 1 = .ok (.ireturn, 1) := by decide +kernel
theorem dX5_aged_0 : decode cX5_aged 0 = .ok (.iconst 0, 1) := by decide +kernel
theorem dX5_aged_1 : decode cX5_aged 1 = .ok (.iload_n 1, 1) := by decide +kernel
theorem dX5_aged_2 : decode cX5_aged 2 = .ok (.iconst 1, 1) := by decide +kernel
theorem dX5_aged_3 : decode cX5_aged 3 = .ok (.isub, 1) := by decide +kernel
theorem dX5_aged_4 : decode cX5_aged 4 = .ok (.invokestatic 9, 3) := by decide +kernel
theorem dX5_aged_7 : decode cX5_aged 7 = .ok (.ireturn, 1) := by decide +kernel
theorem dX6_init_0 : decode cX6_init 0 = .ok (.aload_n 0, 1) := by decide +kernel
theorem dX6_init_1 : decode cX6_init 1 = .ok (.invokespecial 3, 3) := by decide +kernel
theorem dX6_init_4 : decode cX6_init 4 = .ok (.aload_n 0, 1) := by decide +kernel
theorem dX6_init_5 : decode cX6_init 5 = .ok (.iconst 4, 1) := by decide +kernel
theorem dX6_init_6 : decode cX6_init 6 = .ok (.anewarray 9, 3) := by decide +kernel
theorem dX6_init_9 : decode cX6_init 9 = .ok (.putfield 11, 3) := by decide +kernel
theorem dX6_init_12 : decode cX6_init 12 = .ok (.aload_n 0, 1) := by decide +kernel
theorem dX6_init_13 : decode cX6_init 13 = .ok (.iconst 0, 1) := by decide +kernel
theorem dX6_init_14 : decode cX6_init 14 = .ok (.putfield 17, 3) := by decide +kernel
theorem dX6_init_17 : decode cX6_init 17 = .ok (.new 9, 3) := by decide +kernel
theorem dX6_init_20 : decode cX6_init 20 = .ok (.dup, 1) := by decide +kernel
theorem dX6_init_21 : decode cX6_init 21 = .ok (.invokespecial 21, 3) := by decide +kernel
theorem dX6_init_24 : decode cX6_init 24 = .ok (.astore_n 1, 1) := by decide +kernel
theorem dX6_init_25 : decode cX6_init 25 = .ok (.iconst 0, 1) := by decide +kernel
theorem dX6_init_26 : decode cX6_init 26 = .ok (.istore_n 2, 1) := by decide +kernel
theorem dX6_init_27 : decode cX6_init 27 = .ok (.iload_n 2, 1) := by decide +kernel
theorem dX6_init_28 : decode cX6_init 28 = .ok (.iconst 4, 1) := by decide +kernel
theorem dX6_init_29 : decode cX6_init 29 = .ok (.if_icmp .ge 16, 3) := by decide +kernel
theorem dX6_init_32 : decode cX6_init 32 = .ok (.aload_n 0, 1) := by decide +kernel
theorem dX6_init_33 : decode cX6_init 33 = .ok (.getfield 11, 3) := by decide +kernel
theorem dX6_init_36 : decode cX6_init 36 = .ok (.iload_n 2, 1) := by decide +kernel
theorem dX6_init_37 : decode cX6_init 37 = .ok (.aload_n 1, 1) := by decide +kernel
theorem dX6_init_38 : decode cX6_init 38 = .ok (.aastore, 1) := by decide +kernel
theorem dX6_init_39 : decode cX6_init 39 = .ok (.iinc 2 1, 3) := by decide +kernel
theorem dX6_init_42 : decode cX6_init 42 = .ok (.goto (-15), 3) := by decide +kernel
theorem dX6_init_45 : decode cX6_init 45 = .ok (.return_, 1) := by decide +kernel
theorem dX6_size_0 : decode cX6_size 0 = .ok (.aload_n 0, 1) := by decide +kernel
theorem dX6_size_1 : decode cX6_size 1 = .ok (.getfield 17, 3) := by decide +kernel
theorem dX6_size_4 : decode cX6_size 4 = .ok (.ireturn, 1) := by decide +kernel
theorem dX6_isFull_0 : decode cX6_isFull 0 = .ok (.aload_n 0, 1) := by decide +kernel
theorem dX6_isFull_1 : decode cX6_isFull 1 = .ok (.getfield 17, 3) := by decide +kernel
theorem dX6_isFull_4 : decode cX6_isFull 4 = .ok (.iconst 4, 1) := by decide +kernel
theorem dX6_isFull_5 : decode cX6_isFull 5 = .ok (.if_icmp .lt 7, 3) := by decide +kernel
theorem dX6_isFull_8 : decode cX6_isFull 8 = .ok (.iconst 1, 1) := by decide +kernel
theorem dX6_isFull_9 : decode cX6_isFull 9 = .ok (.goto 4, 3) := by decide +kernel
theorem dX6_isFull_12 : decode cX6_isFull 12 = .ok (.iconst 0, 1) := by decide +kernel
theorem dX6_isFull_13 : decode cX6_isFull 13 = .ok (.ireturn, 1) := by decide +kernel
theorem dX6_has_0 : decode cX6_has 0 = .ok (.iload_n 1, 1) := by decide +kernel
theorem dX6_has_1 : decode cX6_has 1 = .ok (.ifCond .lt 15, 3) := by decide +kernel
theorem dX6_has_4 : decode cX6_has 4 = .ok (.iload_n 1, 1) := by decide +kernel
theorem dX6_has_5 : decode cX6_has 5 = .ok (.aload_n 0, 1) := by decide +kernel
theorem dX6_has_6 : decode cX6_has 6 = .ok (.getfield 17, 3) := by decide +kernel
theorem dX6_has_9 : decode cX6_has 9 = .ok (.if_icmp .ge 7, 3) := by decide +kernel
theorem dX6_has_12 : decode cX6_has 12 = .ok (.iconst 1, 1) := by decide +kernel
theorem dX6_has_13 : decode cX6_has 13 = .ok (.goto 4, 3) := by decide +kernel
theorem dX6_has_16 : decode cX6_has 16 = .ok (.iconst 0, 1) := by decide +kernel
theorem dX6_has_17 : decode cX6_has 17 = .ok (.ireturn, 1) := by decide +kernel
theorem dX6_add_0 : decode cX6_add 0 = .ok (.aload_n 0, 1) := by decide +kernel
theorem dX6_add_1 : decode cX6_add 1 = .ok (.invokevirtual 22, 3) := by decide +kernel
theorem dX6_add_4 : decode cX6_add 4 = .ok (.ifCond .ne 23, 3) := by decide +kernel
theorem dX6_add_7 : decode cX6_add 7 = .ok (.aload_n 0, 1) := by decide +kernel
theorem dX6_add_8 : decode cX6_add 8 = .ok (.getfield 11, 3) := by decide +kernel
theorem dX6_add_11 : decode cX6_add 11 = .ok (.aload_n 0, 1) := by decide +kernel
theorem dX6_add_12 : decode cX6_add 12 = .ok (.getfield 17, 3) := by decide +kernel
theorem dX6_add_15 : decode cX6_add 15 = .ok (.aload_n 1, 1) := by decide +kernel
theorem dX6_add_16 : decode cX6_add 16 = .ok (.aastore, 1) := by decide +kernel
theorem dX6_add_17 : decode cX6_add 17 = .ok (.aload_n 0, 1) := by decide +kernel
theorem dX6_add_18 : decode cX6_add 18 = .ok (.dup, 1) := by decide +kernel
theorem dX6_add_19 : decode cX6_add 19 = .ok (.getfield 17, 3) := by decide +kernel
theorem dX6_add_22 : decode cX6_add 22 = .ok (.iconst 1, 1) := by decide +kernel
theorem dX6_add_23 : decode cX6_add 23 = .ok (.iadd, 1) := by decide +kernel
theorem dX6_add_24 : decode cX6_add 24 = .ok (.putfield 17, 3) := by decide +kernel
theorem dX6_add_27 : decode cX6_add 27 = .ok (.aload_n 0, 1) := by decide +kernel
theorem dX6_add_28 : decode cX6_add 28 = .ok (.getfield 17, 3) := by decide +kernel
theorem dX6_add_31 : decode cX6_add 31 = .ok (.iconst 1, 1) := by decide +kernel
theorem dX6_add_32 : decode cX6_add 32 = .ok (.isub, 1) := by decide +kernel
theorem dX6_add_33 : decode cX6_add 33 = .ok (.ireturn, 1) := by decide +kernel
theorem dX6_at_0 : decode cX6_at 0 = .ok (.aload_n 0, 1) := by decide +kernel
theorem dX6_at_1 : decode cX6_at 1 = .ok (.getfield 11, 3) := by decide +kernel
theorem dX6_at_4 : decode cX6_at 4 = .ok (.iload_n 1, 1) := by decide +kernel
theorem dX6_at_5 : decode cX6_at 5 = .ok (.ifCond .lt 12, 3) := by decide +kernel
theorem dX6_at_8 : decode cX6_at 8 = .ok (.iload_n 1, 1) := by decide +kernel
theorem dX6_at_9 : decode cX6_at 9 = .ok (.iconst 4, 1) := by decide +kernel
theorem dX6_at_10 : decode cX6_at 10 = .ok (.if_icmp .ge 7, 3) := by decide +kernel
theorem dX6_at_13 : decode cX6_at 13 = .ok (.iload_n 1, 1) := by decide +kernel
theorem dX6_at_14 : decode cX6_at 14 = .ok (.goto 4, 3) := by decide +kernel
theorem dX6_at_17 : decode cX6_at 17 = .ok (.iconst 0, 1) := by decide +kernel
theorem dX6_at_18 : decode cX6_at 18 = .ok (.aaload, 1) := by decide +kernel
theorem dX6_at_19 : decode cX6_at 19 = .ok (.areturn, 1) := by decide +kernel
theorem dX6_isPortrait_0 : decode cX6_isPortrait 0 = .ok (.iload_n 1, 1) := by decide +kernel
theorem dX6_isPortrait_1 : decode cX6_isPortrait 1 = .ok (.ifCond .lt 30, 3) := by decide +kernel
theorem dX6_isPortrait_4 : decode cX6_isPortrait 4 = .ok (.aload_n 0, 1) := by decide +kernel
theorem dX6_isPortrait_5 : decode cX6_isPortrait 5 = .ok (.getfield 17, 3) := by decide +kernel
theorem dX6_isPortrait_8 : decode cX6_isPortrait 8 = .ok (.getstatic 26, 3) := by decide +kernel
theorem dX6_isPortrait_11 : decode cX6_isPortrait 11 = .ok (.arraylength, 1) := by decide +kernel
theorem dX6_isPortrait_12 : decode cX6_isPortrait 12 = .ok (.if_icmp .ge 19, 3) := by decide +kernel
theorem dX6_isPortrait_15 : decode cX6_isPortrait 15 = .ok (.iload_n 1, 1) := by decide +kernel
theorem dX6_isPortrait_16 : decode cX6_isPortrait 16 = .ok (.getstatic 26, 3) := by decide +kernel
theorem dX6_isPortrait_19 : decode cX6_isPortrait 19 = .ok (.aload_n 0, 1) := by decide +kernel
theorem dX6_isPortrait_20 : decode cX6_isPortrait 20 = .ok (.getfield 17, 3) := by decide +kernel
theorem dX6_isPortrait_23 : decode cX6_isPortrait 23 = .ok (.iaload, 1) := by decide +kernel
theorem dX6_isPortrait_24 : decode cX6_isPortrait 24 = .ok (.if_icmp .ge 7, 3) := by decide +kernel
theorem dX6_isPortrait_27 : decode cX6_isPortrait 27 = .ok (.iconst 1, 1) := by decide +kernel
theorem dX6_isPortrait_28 : decode cX6_isPortrait 28 = .ok (.goto 4, 3) := by decide +kernel
theorem dX6_isPortrait_31 : decode cX6_isPortrait 31 = .ok (.iconst 0, 1) := by decide +kernel
theorem dX6_isPortrait_32 : decode cX6_isPortrait 32 = .ok (.ireturn, 1) := by decide +kernel
theorem dX6_sizeIn_0 : decode cX6_sizeIn 0 = .ok (.iload_n 1, 1) := by decide +kernel
theorem dX6_sizeIn_1 : decode cX6_sizeIn 1 = .ok (.ifCond .lt 21, 3) := by decide +kernel
theorem dX6_sizeIn_4 : decode cX6_sizeIn 4 = .ok (.iload_n 1, 1) := by decide +kernel
theorem dX6_sizeIn_5 : decode cX6_sizeIn 5 = .ok (.iconst 4, 1) := by decide +kernel
theorem dX6_sizeIn_6 : decode cX6_sizeIn 6 = .ok (.if_icmp .ge 16, 3) := by decide +kernel
theorem dX6_sizeIn_9 : decode cX6_sizeIn 9 = .ok (.iload_n 0, 1) := by decide +kernel
theorem dX6_sizeIn_10 : decode cX6_sizeIn 10 = .ok (.getstatic 26, 3) := by decide +kernel
theorem dX6_sizeIn_13 : decode cX6_sizeIn 13 = .ok (.iload_n 1, 1) := by decide +kernel
theorem dX6_sizeIn_14 : decode cX6_sizeIn 14 = .ok (.iaload, 1) := by decide +kernel
theorem dX6_sizeIn_15 : decode cX6_sizeIn 15 = .ok (.idiv, 1) := by decide +kernel
theorem dX6_sizeIn_16 : decode cX6_sizeIn 16 = .ok (.bipush 10, 2) := by decide +kernel
theorem dX6_sizeIn_18 : decode cX6_sizeIn 18 = .ok (.irem, 1) := by decide +kernel
theorem dX6_sizeIn_19 : decode cX6_sizeIn 19 = .ok (.goto 4, 3) := by decide +kernel
theorem dX6_sizeIn_22 : decode cX6_sizeIn 22 = .ok (.iconst 0, 1) := by decide +kernel
theorem dX6_sizeIn_23 : decode cX6_sizeIn 23 = .ok (.ireturn, 1) := by decide +kernel
theorem dX6_with_0 : decode cX6_with 0 = .ok (.iload_n 2, 1) := by decide +kernel
theorem dX6_with_1 : decode cX6_with 1 = .ok (.ifCond .lt 8, 3) := by decide +kernel
theorem dX6_with_4 : decode cX6_with 4 = .ok (.iload_n 2, 1) := by decide +kernel
theorem dX6_with_5 : decode cX6_with 5 = .ok (.iconst 4, 1) := by decide +kernel
theorem dX6_with_6 : decode cX6_with 6 = .ok (.if_icmp .lt 5, 3) := by decide +kernel
theorem dX6_with_9 : decode cX6_with 9 = .ok (.iload_n 1, 1) := by decide +kernel
theorem dX6_with_10 : decode cX6_with 10 = .ok (.ireturn, 1) := by decide +kernel
theorem dX6_with_11 : decode cX6_with 11 = .ok (.getstatic 26, 3) := by decide +kernel
theorem dX6_with_14 : decode cX6_with 14 = .ok (.iload_n 2, 1) := by decide +kernel
theorem dX6_with_15 : decode cX6_with 15 = .ok (.iaload, 1) := by decide +kernel
theorem dX6_with_16 : decode cX6_with 16 = .ok (.istore 4, 2) := by decide +kernel
theorem dX6_with_18 : decode cX6_with 18 = .ok (.iload_n 1, 1) := by decide +kernel
theorem dX6_with_19 : decode cX6_with 19 = .ok (.iload_n 3, 1) := by decide +kernel
theorem dX6_with_20 : decode cX6_with 20 = .ok (.iload_n 1, 1) := by decide +kernel
theorem dX6_with_21 : decode cX6_with 21 = .ok (.iload 4, 2) := by decide +kernel
theorem dX6_with_23 : decode cX6_with 23 = .ok (.idiv, 1) := by decide +kernel
theorem dX6_with_24 : decode cX6_with 24 = .ok (.bipush 10, 2) := by decide +kernel
theorem dX6_with_26 : decode cX6_with 26 = .ok (.irem, 1) := by decide +kernel
theorem dX6_with_27 : decode cX6_with 27 = .ok (.isub, 1) := by decide +kernel
theorem dX6_with_28 : decode cX6_with 28 = .ok (.iload 4, 2) := by decide +kernel
theorem dX6_with_30 : decode cX6_with 30 = .ok (.imul, 1) := by decide +kernel
theorem dX6_with_31 : decode cX6_with 31 = .ok (.iadd, 1) := by decide +kernel
theorem dX6_with_32 : decode cX6_with 32 = .ok (.ireturn, 1) := by decide +kernel
theorem dX6_slip_0 : decode cX6_slip 0 = .ok (.aload_n 0, 1) := by decide +kernel
theorem dX6_slip_1 : decode cX6_slip 1 = .ok (.iload_n 2, 1) := by decide +kernel
theorem dX6_slip_2 : decode cX6_slip 2 = .ok (.invokevirtual 30, 3) := by decide +kernel
theorem dX6_slip_5 : decode cX6_slip 5 = .ok (.ifCond .ne 5, 3) := by decide +kernel
theorem dX6_slip_8 : decode cX6_slip 8 = .ok (.iconst (-1), 1) := by decide +kernel
theorem dX6_slip_9 : decode cX6_slip 9 = .ok (.ireturn, 1) := by decide +kernel
theorem dX6_slip_10 : decode cX6_slip 10 = .ok (.getstatic 26, 3) := by decide +kernel
theorem dX6_slip_13 : decode cX6_slip 13 = .ok (.iload_n 2, 1) := by decide +kernel
theorem dX6_slip_14 : decode cX6_slip 14 = .ok (.iaload, 1) := by decide +kernel
theorem dX6_slip_15 : decode cX6_slip 15 = .ok (.istore 4, 2) := by decide +kernel
theorem dX6_slip_17 : decode cX6_slip 17 = .ok (.iload_n 1, 1) := by decide +kernel
theorem dX6_slip_18 : decode cX6_slip 18 = .ok (.iload 4, 2) := by decide +kernel
theorem dX6_slip_20 : decode cX6_slip 20 = .ok (.idiv, 1) := by decide +kernel
theorem dX6_slip_21 : decode cX6_slip 21 = .ok (.bipush 10, 2) := by decide +kernel
theorem dX6_slip_23 : decode cX6_slip 23 = .ok (.irem, 1) := by decide +kernel
theorem dX6_slip_24 : decode cX6_slip 24 = .ok (.istore 5, 2) := by decide +kernel
theorem dX6_slip_26 : decode cX6_slip 26 = .ok (.aload_n 0, 1) := by decide +kernel
theorem dX6_slip_27 : decode cX6_slip 27 = .ok (.getfield 11, 3) := by decide +kernel
theorem dX6_slip_30 : decode cX6_slip 30 = .ok (.iload_n 2, 1) := by decide +kernel
theorem dX6_slip_31 : decode cX6_slip 31 = .ok (.aaload, 1) := by decide +kernel
theorem dX6_slip_32 : decode cX6_slip 32 = .ok (.iload 5, 2) := by decide +kernel
theorem dX6_slip_34 : decode cX6_slip 34 = .ok (.iload_n 3, 1) := by decide +kernel
theorem dX6_slip_35 : decode cX6_slip 35 = .ok (.invokevirtual 34, 3) := by decide +kernel
theorem dX6_slip_38 : decode cX6_slip 38 = .ok (.istore 6, 2) := by decide +kernel
theorem dX6_slip_40 : decode cX6_slip 40 = .ok (.iload 6, 2) := by decide +kernel
theorem dX6_slip_42 : decode cX6_slip 42 = .ok (.iconst (-1), 1) := by decide +kernel
theorem dX6_slip_43 : decode cX6_slip 43 = .ok (.if_icmp .ne 7, 3) := by decide +kernel
theorem dX6_slip_46 : decode cX6_slip 46 = .ok (.iconst (-1), 1) := by decide +kernel
theorem dX6_slip_47 : decode cX6_slip 47 = .ok (.goto 13, 3) := by decide +kernel
theorem dX6_slip_50 : decode cX6_slip 50 = .ok (.iload_n 1, 1) := by decide +kernel
theorem dX6_slip_51 : decode cX6_slip 51 = .ok (.iload 6, 2) := by decide +kernel
theorem dX6_slip_53 : decode cX6_slip 53 = .ok (.iload 5, 2) := by decide +kernel
theorem dX6_slip_55 : decode cX6_slip 55 = .ok (.isub, 1) := by decide +kernel
theorem dX6_slip_56 : decode cX6_slip 56 = .ok (.iload 4, 2) := by decide +kernel
theorem dX6_slip_58 : decode cX6_slip 58 = .ok (.imul, 1) := by decide +kernel
theorem dX6_slip_59 : decode cX6_slip 59 = .ok (.iadd, 1) := by decide +kernel
theorem dX6_slip_60 : decode cX6_slip 60 = .ok (.ireturn, 1) := by decide +kernel
theorem dX6_gap_0 : decode cX6_gap 0 = .ok (.iconst 0, 1) := by decide +kernel
theorem dX6_gap_1 : decode cX6_gap 1 = .ok (.istore_n 3, 1) := by decide +kernel
theorem dX6_gap_2 : decode cX6_gap 2 = .ok (.iconst 0, 1) := by decide +kernel
theorem dX6_gap_3 : decode cX6_gap 3 = .ok (.istore 4, 2) := by decide +kernel
theorem dX6_gap_5 : decode cX6_gap 5 = .ok (.iload 4, 2) := by decide +kernel
theorem dX6_gap_7 : decode cX6_gap 7 = .ok (.aload_n 0, 1) := by decide +kernel
theorem dX6_gap_8 : decode cX6_gap 8 = .ok (.getfield 17, 3) := by decide +kernel
theorem dX6_gap_11 : decode cX6_gap 11 = .ok (.if_icmp .ge 33, 3) := by decide +kernel
theorem dX6_gap_14 : decode cX6_gap 14 = .ok (.iload_n 3, 1) := by decide +kernel
theorem dX6_gap_15 : decode cX6_gap 15 = .ok (.aload_n 0, 1) := by decide +kernel
theorem dX6_gap_16 : decode cX6_gap 16 = .ok (.iload 4, 2) := by decide +kernel
theorem dX6_gap_18 : decode cX6_gap 18 = .ok (.invokevirtual 38, 3) := by decide +kernel
theorem dX6_gap_21 : decode cX6_gap 21 = .ok (.iload_n 1, 1) := by decide +kernel
theorem dX6_gap_22 : decode cX6_gap 22 = .ok (.iload 4, 2) := by decide +kernel
theorem dX6_gap_24 : decode cX6_gap 24 = .ok (.invokestatic 42, 3) := by decide +kernel
theorem dX6_gap_27 : decode cX6_gap 27 = .ok (.iload_n 2, 1) := by decide +kernel
theorem dX6_gap_28 : decode cX6_gap 28 = .ok (.iload 4, 2) := by decide +kernel
theorem dX6_gap_30 : decode cX6_gap 30 = .ok (.invokestatic 42, 3) := by decide +kernel
theorem dX6_gap_33 : decode cX6_gap 33 = .ok (.invokevirtual 45, 3) := by decide +kernel
theorem dX6_gap_36 : decode cX6_gap 36 = .ok (.iadd, 1) := by decide +kernel
theorem dX6_gap_37 : decode cX6_gap 37 = .ok (.istore_n 3, 1) := by decide +kernel
theorem dX6_gap_38 : decode cX6_gap 38 = .ok (.iinc 4 1, 3) := by decide +kernel
theorem dX6_gap_41 : decode cX6_gap 41 = .ok (.goto (-36), 3) := by decide +kernel
theorem dX6_gap_44 : decode cX6_gap 44 = .ok (.iload_n 3, 1) := by decide +kernel
theorem dX6_gap_45 : decode cX6_gap 45 = .ok (.ireturn, 1) := by decide +kernel
theorem dX6_steps_0 : decode cX6_steps 0 = .ok (.iconst 0, 1) := by decide +kernel
theorem dX6_steps_1 : decode cX6_steps 1 = .ok (.istore_n 3, 1) := by decide +kernel
theorem dX6_steps_2 : decode cX6_steps 2 = .ok (.iconst 0, 1) := by decide +kernel
theorem dX6_steps_3 : decode cX6_steps 3 = .ok (.istore 4, 2) := by decide +kernel
theorem dX6_steps_5 : decode cX6_steps 5 = .ok (.iload 4, 2) := by decide +kernel
theorem dX6_steps_7 : decode cX6_steps 7 = .ok (.aload_n 0, 1) := by decide +kernel
theorem dX6_steps_8 : decode cX6_steps 8 = .ok (.getfield 17, 3) := by decide +kernel
theorem dX6_steps_11 : decode cX6_steps 11 = .ok (.if_icmp .ge 33, 3) := by decide +kernel
theorem dX6_steps_14 : decode cX6_steps 14 = .ok (.iload_n 3, 1) := by decide +kernel
theorem dX6_steps_15 : decode cX6_steps 15 = .ok (.aload_n 0, 1) := by decide +kernel
theorem dX6_steps_16 : decode cX6_steps 16 = .ok (.iload 4, 2) := by decide +kernel
theorem dX6_steps_18 : decode cX6_steps 18 = .ok (.invokevirtual 38, 3) := by decide +kernel
theorem dX6_steps_21 : decode cX6_steps 21 = .ok (.iload_n 1, 1) := by decide +kernel
theorem dX6_steps_22 : decode cX6_steps 22 = .ok (.iload 4, 2) := by decide +kernel
theorem dX6_steps_24 : decode cX6_steps 24 = .ok (.invokestatic 42, 3) := by decide +kernel
theorem dX6_steps_27 : decode cX6_steps 27 = .ok (.iload_n 2, 1) := by decide +kernel
theorem dX6_steps_28 : decode cX6_steps 28 = .ok (.iload 4, 2) := by decide +kernel
theorem dX6_steps_30 : decode cX6_steps 30 = .ok (.invokestatic 42, 3) := by decide +kernel
theorem dX6_steps_33 : decode cX6_steps 33 = .ok (.invokevirtual 48, 3) := by decide +kernel
theorem dX6_steps_36 : decode cX6_steps 36 = .ok (.iadd, 1) := by decide +kernel
theorem dX6_steps_37 : decode cX6_steps 37 = .ok (.istore_n 3, 1) := by decide +kernel
theorem dX6_steps_38 : decode cX6_steps 38 = .ok (.iinc 4 1, 3) := by decide +kernel
theorem dX6_steps_41 : decode cX6_steps 41 = .ok (.goto (-36), 3) := by decide +kernel
theorem dX6_steps_44 : decode cX6_steps 44 = .ok (.iload_n 3, 1) := by decide +kernel
theorem dX6_steps_45 : decode cX6_steps 45 = .ok (.ireturn, 1) := by decide +kernel
theorem dX6_aged_0 : decode cX6_aged 0 = .ok (.iload_n 1, 1) := by decide +kernel
theorem dX6_aged_1 : decode cX6_aged 1 = .ok (.istore_n 2, 1) := by decide +kernel
theorem dX6_aged_2 : decode cX6_aged 2 = .ok (.iconst 0, 1) := by decide +kernel
theorem dX6_aged_3 : decode cX6_aged 3 = .ok (.istore_n 3, 1) := by decide +kernel
theorem dX6_aged_4 : decode cX6_aged 4 = .ok (.iload_n 3, 1) := by decide +kernel
theorem dX6_aged_5 : decode cX6_aged 5 = .ok (.aload_n 0, 1) := by decide +kernel
theorem dX6_aged_6 : decode cX6_aged 6 = .ok (.getfield 17, 3) := by decide +kernel
theorem dX6_aged_9 : decode cX6_aged 9 = .ok (.if_icmp .ge 29, 3) := by decide +kernel
theorem dX6_aged_12 : decode cX6_aged 12 = .ok (.aload_n 0, 1) := by decide +kernel
theorem dX6_aged_13 : decode cX6_aged 13 = .ok (.iload_n 2, 1) := by decide +kernel
theorem dX6_aged_14 : decode cX6_aged 14 = .ok (.iload_n 3, 1) := by decide +kernel
theorem dX6_aged_15 : decode cX6_aged 15 = .ok (.aload_n 0, 1) := by decide +kernel
theorem dX6_aged_16 : decode cX6_aged 16 = .ok (.iload_n 3, 1) := by decide +kernel
theorem dX6_aged_17 : decode cX6_aged 17 = .ok (.invokevirtual 38, 3) := by decide +kernel
theorem dX6_aged_20 : decode cX6_aged 20 = .ok (.iload_n 1, 1) := by decide +kernel
theorem dX6_aged_21 : decode cX6_aged 21 = .ok (.iload_n 3, 1) := by decide +kernel
theorem dX6_aged_22 : decode cX6_aged 22 = .ok (.invokestatic 42, 3) := by decide +kernel
theorem dX6_aged_25 : decode cX6_aged 25 = .ok (.invokevirtual 51, 3) := by decide +kernel
theorem dX6_aged_28 : decode cX6_aged 28 = .ok (.invokevirtual 55, 3) := by decide +kernel
theorem dX6_aged_31 : decode cX6_aged 31 = .ok (.istore_n 2, 1) := by decide +kernel
theorem dX6_aged_32 : decode cX6_aged 32 = .ok (.iinc 3 1, 3) := by decide +kernel
theorem dX6_aged_35 : decode cX6_aged 35 = .ok (.goto (-31), 3) := by decide +kernel
theorem dX6_aged_38 : decode cX6_aged 38 = .ok (.iload_n 2, 1) := by decide +kernel
theorem dX6_aged_39 : decode cX6_aged 39 = .ok (.ireturn, 1) := by decide +kernel
theorem dX7_init_0 : decode cX7_init 0 = .ok (.aload_n 0, 1) := by decide +kernel
theorem dX7_init_1 : decode cX7_init 1 = .ok (.invokespecial 3, 3) := by decide +kernel
theorem dX7_init_4 : decode cX7_init 4 = .ok (.aload_n 0, 1) := by decide +kernel
theorem dX7_init_5 : decode cX7_init 5 = .ok (.iconst 0, 1) := by decide +kernel
theorem dX7_init_6 : decode cX7_init 6 = .ok (.putfield 9, 3) := by decide +kernel
theorem dX7_init_9 : decode cX7_init 9 = .ok (.aload_n 0, 1) := by decide +kernel
theorem dX7_init_10 : decode cX7_init 10 = .ok (.iconst 0, 1) := by decide +kernel
theorem dX7_init_11 : decode cX7_init 11 = .ok (.iload_n 1, 1) := by decide +kernel
theorem dX7_init_12 : decode cX7_init 12 = .ok (.invokestatic 15, 3) := by decide +kernel
theorem dX7_init_15 : decode cX7_init 15 = .ok (.newarray .int, 2) := by decide +kernel
theorem dX7_init_17 : decode cX7_init 17 = .ok (.putfield 21, 3) := by decide +kernel
theorem dX7_init_20 : decode cX7_init 20 = .ok (.return_, 1) := by decide +kernel
theorem dX7_size_0 : decode cX7_size 0 = .ok (.aload_n 0, 1) := by decide +kernel
theorem dX7_size_1 : decode cX7_size 1 = .ok (.getfield 9, 3) := by decide +kernel
theorem dX7_size_4 : decode cX7_size 4 = .ok (.ireturn, 1) := by decide +kernel
theorem dX7_isFull_0 : decode cX7_isFull 0 = .ok (.aload_n 0, 1) := by decide +kernel
theorem dX7_isFull_1 : decode cX7_isFull 1 = .ok (.getfield 9, 3) := by decide +kernel
theorem dX7_isFull_4 : decode cX7_isFull 4 = .ok (.aload_n 0, 1) := by decide +kernel
theorem dX7_isFull_5 : decode cX7_isFull 5 = .ok (.getfield 21, 3) := by decide +kernel
theorem dX7_isFull_8 : decode cX7_isFull 8 = .ok (.arraylength, 1) := by decide +kernel
theorem dX7_isFull_9 : decode cX7_isFull 9 = .ok (.if_icmp .lt 7, 3) := by decide +kernel
theorem dX7_isFull_12 : decode cX7_isFull 12 = .ok (.iconst 1, 1) := by decide +kernel
theorem dX7_isFull_13 : decode cX7_isFull 13 = .ok (.goto 4, 3) := by decide +kernel
theorem dX7_isFull_16 : decode cX7_isFull 16 = .ok (.iconst 0, 1) := by decide +kernel
theorem dX7_isFull_17 : decode cX7_isFull 17 = .ok (.ireturn, 1) := by decide +kernel
theorem dX7_has_0 : decode cX7_has 0 = .ok (.iload_n 1, 1) := by decide +kernel
theorem dX7_has_1 : decode cX7_has 1 = .ok (.ifCond .lt 15, 3) := by decide +kernel
theorem dX7_has_4 : decode cX7_has 4 = .ok (.iload_n 1, 1) := by decide +kernel
theorem dX7_has_5 : decode cX7_has 5 = .ok (.aload_n 0, 1) := by decide +kernel
theorem dX7_has_6 : decode cX7_has 6 = .ok (.getfield 9, 3) := by decide +kernel
theorem dX7_has_9 : decode cX7_has 9 = .ok (.if_icmp .ge 7, 3) := by decide +kernel
theorem dX7_has_12 : decode cX7_has 12 = .ok (.iconst 1, 1) := by decide +kernel
theorem dX7_has_13 : decode cX7_has 13 = .ok (.goto 4, 3) := by decide +kernel
theorem dX7_has_16 : decode cX7_has 16 = .ok (.iconst 0, 1) := by decide +kernel
theorem dX7_has_17 : decode cX7_has 17 = .ok (.ireturn, 1) := by decide +kernel
theorem dX7_get_0 : decode cX7_get 0 = .ok (.aload_n 0, 1) := by decide +kernel
theorem dX7_get_1 : decode cX7_get 1 = .ok (.iload_n 1, 1) := by decide +kernel
theorem dX7_get_2 : decode cX7_get 2 = .ok (.invokevirtual 25, 3) := by decide +kernel
theorem dX7_get_5 : decode cX7_get 5 = .ok (.ifCond .eq 12, 3) := by decide +kernel
theorem dX7_get_8 : decode cX7_get 8 = .ok (.aload_n 0, 1) := by decide +kernel
theorem dX7_get_9 : decode cX7_get 9 = .ok (.getfield 21, 3) := by decide +kernel
theorem dX7_get_12 : decode cX7_get 12 = .ok (.iload_n 1, 1) := by decide +kernel
theorem dX7_get_13 : decode cX7_get 13 = .ok (.iaload, 1) := by decide +kernel
theorem dX7_get_14 : decode cX7_get 14 = .ok (.goto 4, 3) := by decide +kernel
theorem dX7_get_17 : decode cX7_get 17 = .ok (.iconst (-1), 1) := by decide +kernel
theorem dX7_get_18 : decode cX7_get 18 = .ok (.ireturn, 1) := by decide +kernel
theorem dX7_last_0 : decode cX7_last 0 = .ok (.aload_n 0, 1) := by decide +kernel
theorem dX7_last_1 : decode cX7_last 1 = .ok (.aload_n 0, 1) := by decide +kernel
theorem dX7_last_2 : decode cX7_last 2 = .ok (.getfield 9, 3) := by decide +kernel
theorem dX7_last_5 : decode cX7_last 5 = .ok (.iconst 1, 1) := by decide +kernel
theorem dX7_last_6 : decode cX7_last 6 = .ok (.isub, 1) := by decide +kernel
theorem dX7_last_7 : decode cX7_last 7 = .ok (.invokevirtual 29, 3) := by decide +kernel
theorem dX7_last_10 : decode cX7_last 10 = .ok (.ireturn, 1) := by decide +kernel
theorem dX7_add_0 : decode cX7_add 0 = .ok (.aload_n 0, 1) := by decide +kernel
theorem dX7_add_1 : decode cX7_add 1 = .ok (.invokevirtual 33, 3) := by decide +kernel
theorem dX7_add_4 : decode cX7_add 4 = .ok (.ifCond .ne 23, 3) := by decide +kernel
theorem dX7_add_7 : decode cX7_add 7 = .ok (.aload_n 0, 1) := by decide +kernel
theorem dX7_add_8 : decode cX7_add 8 = .ok (.getfield 21, 3) := by decide +kernel
theorem dX7_add_11 : decode cX7_add 11 = .ok (.aload_n 0, 1) := by decide +kernel
theorem dX7_add_12 : decode cX7_add 12 = .ok (.getfield 9, 3) := by decide +kernel
theorem dX7_add_15 : decode cX7_add 15 = .ok (.iload_n 1, 1) := by decide +kernel
theorem dX7_add_16 : decode cX7_add 16 = .ok (.iastore, 1) := by decide +kernel
theorem dX7_add_17 : decode cX7_add 17 = .ok (.aload_n 0, 1) := by decide +kernel
theorem dX7_add_18 : decode cX7_add 18 = .ok (.dup, 1) := by decide +kernel
theorem dX7_add_19 : decode cX7_add 19 = .ok (.getfield 9, 3) := by decide +kernel
theorem dX7_add_22 : decode cX7_add 22 = .ok (.iconst 1, 1) := by decide +kernel
theorem dX7_add_23 : decode cX7_add 23 = .ok (.iadd, 1) := by decide +kernel
theorem dX7_add_24 : decode cX7_add 24 = .ok (.putfield 9, 3) := by decide +kernel
theorem dX7_add_27 : decode cX7_add 27 = .ok (.return_, 1) := by decide +kernel
theorem dX7_cut_0 : decode cX7_cut 0 = .ok (.iload_n 1, 1) := by decide +kernel
theorem dX7_cut_1 : decode cX7_cut 1 = .ok (.ifCond .lt 16, 3) := by decide +kernel
theorem dX7_cut_4 : decode cX7_cut 4 = .ok (.iload_n 1, 1) := by decide +kernel
theorem dX7_cut_5 : decode cX7_cut 5 = .ok (.aload_n 0, 1) := by decide +kernel
theorem dX7_cut_6 : decode cX7_cut 6 = .ok (.getfield 9, 3) := by decide +kernel
theorem dX7_cut_9 : decode cX7_cut 9 = .ok (.if_icmp .ge 8, 3) := by decide +kernel
theorem dX7_cut_12 : decode cX7_cut 12 = .ok (.aload_n 0, 1) := by decide +kernel
theorem dX7_cut_13 : decode cX7_cut 13 = .ok (.iload_n 1, 1) := by decide +kernel
theorem dX7_cut_14 : decode cX7_cut 14 = .ok (.putfield 9, 3) := by decide +kernel
theorem dX7_cut_17 : decode cX7_cut 17 = .ok (.return_, 1) := by decide +kernel
theorem dX8_init_0 : decode cX8_init 0 = .ok (.aload_n 0, 1) := by decide +kernel
theorem dX8_init_1 : decode cX8_init 1 = .ok (.invokespecial 3, 3) := by decide +kernel
theorem dX8_init_4 : decode cX8_init 4 = .ok (.return_, 1) := by decide +kernel
theorem dX8_kind_0 : decode cX8_kind 0 = .ok (.iconst 2, 1) := by decide +kernel
theorem dX8_kind_1 : decode cX8_kind 1 = .ok (.ireturn, 1) := by decide +kernel
theorem dX8_gap_0 : decode cX8_gap 0 = .ok (.iload_n 1, 1) := by decide +kernel
theorem dX8_gap_1 : decode cX8_gap 1 = .ok (.iload_n 2, 1) := by decide +kernel
theorem dX8_gap_2 : decode cX8_gap 2 = .ok (.if_icmp .ne 7, 3) := by decide +kernel
theorem dX8_gap_5 : decode cX8_gap 5 = .ok (.iconst 0, 1) := by decide +kernel
theorem dX8_gap_6 : decode cX8_gap 6 = .ok (.goto 5, 3) := by decide +kernel
theorem dX8_gap_9 : decode cX8_gap 9 = .ok (.bipush 9, 2) := by decide +kernel
theorem dX8_gap_11 : decode cX8_gap 11 = .ok (.ireturn, 1) := by decide +kernel
theorem dX9_init_0 : decode cX9_init 0 = .ok (.aload_n 0, 1) := by decide +kernel
theorem dX9_init_1 : decode cX9_init 1 = .ok (.invokespecial 3, 3) := by decide +kernel
theorem dX9_init_4 : decode cX9_init 4 = .ok (.aload_n 0, 1) := by decide +kernel
theorem dX9_init_5 : decode cX9_init 5 = .ok (.sipush 10000, 3) := by decide +kernel
theorem dX9_init_8 : decode cX9_init 8 = .ok (.newarray .int, 2) := by decide +kernel
theorem dX9_init_10 : decode cX9_init 10 = .ok (.putfield 9, 3) := by decide +kernel
theorem dX9_init_13 : decode cX9_init 13 = .ok (.aload_n 0, 1) := by decide +kernel
theorem dX9_init_14 : decode cX9_init 14 = .ok (.iconst 0, 1) := by decide +kernel
theorem dX9_init_15 : decode cX9_init 15 = .ok (.putfield 15, 3) := by decide +kernel
theorem dX9_init_18 : decode cX9_init 18 = .ok (.aload_n 0, 1) := by decide +kernel
theorem dX9_init_19 : decode cX9_init 19 = .ok (.sipush 10000, 3) := by decide +kernel
theorem dX9_init_22 : decode cX9_init 22 = .ok (.newarray .int, 2) := by decide +kernel
theorem dX9_init_24 : decode cX9_init 24 = .ok (.putfield 19, 3) := by decide +kernel
theorem dX9_init_27 : decode cX9_init 27 = .ok (.aload_n 0, 1) := by decide +kernel
theorem dX9_init_28 : decode cX9_init 28 = .ok (.sipush 10000, 3) := by decide +kernel
theorem dX9_init_31 : decode cX9_init 31 = .ok (.newarray .int, 2) := by decide +kernel
theorem dX9_init_33 : decode cX9_init 33 = .ok (.putfield 22, 3) := by decide +kernel
theorem dX9_init_36 : decode cX9_init 36 = .ok (.aload_n 0, 1) := by decide +kernel
theorem dX9_init_37 : decode cX9_init 37 = .ok (.iconst 0, 1) := by decide +kernel
theorem dX9_init_38 : decode cX9_init 38 = .ok (.putfield 25, 3) := by decide +kernel
end
section
theorem dX9_init_41 : decode cX9_init 41 = .ok (.aload_n 0, 1) := by decide +kernel
theorem dX9_init_42 : decode cX9_init 42 = .ok (.iconst (-1), 1) := by decide +kernel
theorem dX9_init_43 : decode cX9_init 43 = .ok (.putfield 28, 3) := by decide +kernel
theorem dX9_init_46 : decode cX9_init 46 = .ok (.aload_n 0, 1) := by decide +kernel
theorem dX9_init_47 : decode cX9_init 47 = .ok (.iconst (-1), 1) := by decide +kernel
theorem dX9_init_48 : decode cX9_init 48 = .ok (.putfield 31, 3) := by decide +kernel
theorem dX9_init_51 : decode cX9_init 51 = .ok (.aload_n 0, 1) := by decide +kernel
theorem dX9_init_52 : decode cX9_init 52 = .ok (.aload_n 1, 1) := by decide +kernel
theorem dX9_init_53 : decode cX9_init 53 = .ok (.putfield 34, 3) := by decide +kernel
theorem dX9_init_56 : decode cX9_init 56 = .ok (.aload_n 0, 1) := by decide +kernel
theorem dX9_init_57 : decode cX9_init 57 = .ok (.aload_n 2, 1) := by decide +kernel
theorem dX9_init_58 : decode cX9_init 58 = .ok (.putfield 38, 3) := by decide +kernel
theorem dX9_init_61 : decode cX9_init 61 = .ok (.return_, 1) := by decide +kernel
theorem dX9_trueYears_0 : decode cX9_trueYears 0 = .ok (.aload_n 0, 1) := by decide +kernel
theorem dX9_trueYears_1 : decode cX9_trueYears 1 = .ok (.getfield 28, 3) := by decide +kernel
theorem dX9_trueYears_4 : decode cX9_trueYears 4 = .ok (.ireturn, 1) := by decide +kernel
theorem dX9_firstTrue_0 : decode cX9_firstTrue 0 = .ok (.aload_n 0, 1) := by decide +kernel
theorem dX9_firstTrue_1 : decode cX9_firstTrue 1 = .ok (.getfield 31, 3) := by decide +kernel
theorem dX9_firstTrue_4 : decode cX9_firstTrue 4 = .ok (.ireturn, 1) := by decide +kernel
theorem dX9_fewestSlips_0 : decode cX9_fewestSlips 0 = .ok (.iload_n 1, 1) := by decide +kernel
theorem dX9_fewestSlips_1 : decode cX9_fewestSlips 1 = .ok (.iload_n 2, 1) := by decide +kernel
theorem dX9_fewestSlips_2 : decode cX9_fewestSlips 2 = .ok (.if_icmp .ne 5, 3) := by decide +kernel
theorem dX9_fewestSlips_5 : decode cX9_fewestSlips 5 = .ok (.iconst 0, 1) := by decide +kernel
theorem dX9_fewestSlips_6 : decode cX9_fewestSlips 6 = .ok (.ireturn, 1) := by decide +kernel
theorem dX9_fewestSlips_7 : decode cX9_fewestSlips 7 = .ok (.aload_n 0, 1) := by decide +kernel
theorem dX9_fewestSlips_8 : decode cX9_fewestSlips 8 = .ok (.invokevirtual 42, 3) := by decide +kernel
theorem dX9_fewestSlips_11 : decode cX9_fewestSlips 11 = .ok (.aload_n 0, 1) := by decide +kernel
theorem dX9_fewestSlips_12 : decode cX9_fewestSlips 12 = .ok (.iload_n 1, 1) := by decide +kernel
theorem dX9_fewestSlips_13 : decode cX9_fewestSlips 13 = .ok (.iconst 0, 1) := by decide +kernel
theorem dX9_fewestSlips_14 : decode cX9_fewestSlips 14 = .ok (.invokevirtual 45, 3) := by decide +kernel
theorem dX9_fewestSlips_17 : decode cX9_fewestSlips 17 = .ok (.iconst 0, 1) := by decide +kernel
theorem dX9_fewestSlips_18 : decode cX9_fewestSlips 18 = .ok (.istore 4, 2) := by decide +kernel
theorem dX9_fewestSlips_20 : decode cX9_fewestSlips 20 = .ok (.iconst 1, 1) := by decide +kernel
theorem dX9_fewestSlips_21 : decode cX9_fewestSlips 21 = .ok (.istore 5, 2) := by decide +kernel
theorem dX9_fewestSlips_23 : decode cX9_fewestSlips 23 = .ok (.iload 5, 2) := by decide +kernel
theorem dX9_fewestSlips_25 : decode cX9_fewestSlips 25 = .ok (.bipush 20, 2) := by decide +kernel
theorem dX9_fewestSlips_27 : decode cX9_fewestSlips 27 = .ok (.if_icmp .gt 51, 3) := by decide +kernel
theorem dX9_fewestSlips_30 : decode cX9_fewestSlips 30 = .ok (.aload_n 0, 1) := by decide +kernel
theorem dX9_fewestSlips_31 : decode cX9_fewestSlips 31 = .ok (.getfield 25, 3) := by decide +kernel
theorem dX9_fewestSlips_34 : decode cX9_fewestSlips 34 = .ok (.istore 6, 2) := by decide +kernel
theorem dX9_fewestSlips_36 : decode cX9_fewestSlips 36 = .ok (.iload 4, 2) := by decide +kernel
theorem dX9_fewestSlips_38 : decode cX9_fewestSlips 38 = .ok (.iload 6, 2) := by decide +kernel
theorem dX9_fewestSlips_40 : decode cX9_fewestSlips 40 = .ok (.if_icmp .ge 21, 3) := by decide +kernel
theorem dX9_fewestSlips_43 : decode cX9_fewestSlips 43 = .ok (.aload_n 0, 1) := by decide +kernel
theorem dX9_fewestSlips_44 : decode cX9_fewestSlips 44 = .ok (.aload_n 0, 1) := by decide +kernel
theorem dX9_fewestSlips_45 : decode cX9_fewestSlips 45 = .ok (.getfield 19, 3) := by decide +kernel
theorem dX9_fewestSlips_48 : decode cX9_fewestSlips 48 = .ok (.iload 4, 2) := by decide +kernel
theorem dX9_fewestSlips_50 : decode cX9_fewestSlips 50 = .ok (.iaload, 1) := by decide +kernel
theorem dX9_fewestSlips_51 : decode cX9_fewestSlips 51 = .ok (.iload_n 3, 1) := by decide +kernel
theorem dX9_fewestSlips_52 : decode cX9_fewestSlips 52 = .ok (.invokevirtual 49, 3) := by decide +kernel
theorem dX9_fewestSlips_55 : decode cX9_fewestSlips 55 = .ok (.iinc 4 1, 3) := by decide +kernel
theorem dX9_fewestSlips_58 : decode cX9_fewestSlips 58 = .ok (.goto (-22), 3) := by decide +kernel
theorem dX9_fewestSlips_61 : decode cX9_fewestSlips 61 = .ok (.aload_n 0, 1) := by decide +kernel
theorem dX9_fewestSlips_62 : decode cX9_fewestSlips 62 = .ok (.iload_n 2, 1) := by decide +kernel
theorem dX9_fewestSlips_63 : decode cX9_fewestSlips 63 = .ok (.invokevirtual 52, 3) := by decide +kernel
theorem dX9_fewestSlips_66 : decode cX9_fewestSlips 66 = .ok (.ifCond .eq 6, 3) := by decide +kernel
theorem dX9_fewestSlips_69 : decode cX9_fewestSlips 69 = .ok (.iload 5, 2) := by decide +kernel
theorem dX9_fewestSlips_71 : decode cX9_fewestSlips 71 = .ok (.ireturn, 1) := by decide +kernel
theorem dX9_fewestSlips_72 : decode cX9_fewestSlips 72 = .ok (.iinc 5 1, 3) := by decide +kernel
theorem dX9_fewestSlips_75 : decode cX9_fewestSlips 75 = .ok (.goto (-52), 3) := by decide +kernel
theorem dX9_fewestSlips_78 : decode cX9_fewestSlips 78 = .ok (.iconst (-1), 1) := by decide +kernel
theorem dX9_fewestSlips_79 : decode cX9_fewestSlips 79 = .ok (.ireturn, 1) := by decide +kernel
theorem dX9_slipFrom_0 : decode cX9_slipFrom 0 = .ok (.iconst 0, 1) := by decide +kernel
theorem dX9_slipFrom_1 : decode cX9_slipFrom 1 = .ok (.istore_n 3, 1) := by decide +kernel
theorem dX9_slipFrom_2 : decode cX9_slipFrom 2 = .ok (.iload_n 3, 1) := by decide +kernel
theorem dX9_slipFrom_3 : decode cX9_slipFrom 3 = .ok (.aload_n 0, 1) := by decide +kernel
theorem dX9_slipFrom_4 : decode cX9_slipFrom 4 = .ok (.getfield 34, 3) := by decide +kernel
theorem dX9_slipFrom_7 : decode cX9_slipFrom 7 = .ok (.invokevirtual 56, 3) := by decide +kernel
theorem dX9_slipFrom_10 : decode cX9_slipFrom 10 = .ok (.if_icmp .ge 85, 3) := by decide +kernel
theorem dX9_slipFrom_13 : decode cX9_slipFrom 13 = .ok (.iconst (-1), 1) := by decide +kernel
theorem dX9_slipFrom_14 : decode cX9_slipFrom 14 = .ok (.istore 4, 2) := by decide +kernel
theorem dX9_slipFrom_16 : decode cX9_slipFrom 16 = .ok (.iload 4, 2) := by decide +kernel
theorem dX9_slipFrom_18 : decode cX9_slipFrom 18 = .ok (.iconst 1, 1) := by decide +kernel
theorem dX9_slipFrom_19 : decode cX9_slipFrom 19 = .ok (.if_icmp .gt 70, 3) := by decide +kernel
theorem dX9_slipFrom_22 : decode cX9_slipFrom 22 = .ok (.aload_n 0, 1) := by decide +kernel
theorem dX9_slipFrom_23 : decode cX9_slipFrom 23 = .ok (.getfield 34, 3) := by decide +kernel
theorem dX9_slipFrom_26 : decode cX9_slipFrom 26 = .ok (.iload_n 1, 1) := by decide +kernel
theorem dX9_slipFrom_27 : decode cX9_slipFrom 27 = .ok (.iload_n 3, 1) := by decide +kernel
theorem dX9_slipFrom_28 : decode cX9_slipFrom 28 = .ok (.iload 4, 2) := by decide +kernel
theorem dX9_slipFrom_30 : decode cX9_slipFrom 30 = .ok (.invokevirtual 61, 3) := by decide +kernel
theorem dX9_slipFrom_33 : decode cX9_slipFrom 33 = .ok (.istore 5, 2) := by decide +kernel
theorem dX9_slipFrom_35 : decode cX9_slipFrom 35 = .ok (.iload 5, 2) := by decide +kernel
theorem dX9_slipFrom_37 : decode cX9_slipFrom 37 = .ok (.ifCond .lt 46, 3) := by decide +kernel
theorem dX9_slipFrom_40 : decode cX9_slipFrom 40 = .ok (.iload 5, 2) := by decide +kernel
theorem dX9_slipFrom_42 : decode cX9_slipFrom 42 = .ok (.sipush 10000, 3) := by decide +kernel
theorem dX9_slipFrom_45 : decode cX9_slipFrom 45 = .ok (.if_icmp .ge 38, 3) := by decide +kernel
theorem dX9_slipFrom_48 : decode cX9_slipFrom 48 = .ok (.aload_n 0, 1) := by decide +kernel
theorem dX9_slipFrom_49 : decode cX9_slipFrom 49 = .ok (.getfield 9, 3) := by decide +kernel
theorem dX9_slipFrom_52 : decode cX9_slipFrom 52 = .ok (.iload 5, 2) := by decide +kernel
theorem dX9_slipFrom_54 : decode cX9_slipFrom 54 = .ok (.iaload, 1) := by decide +kernel
theorem dX9_slipFrom_55 : decode cX9_slipFrom 55 = .ok (.aload_n 0, 1) := by decide +kernel
theorem dX9_slipFrom_56 : decode cX9_slipFrom 56 = .ok (.getfield 15, 3) := by decide +kernel
theorem dX9_slipFrom_59 : decode cX9_slipFrom 59 = .ok (.if_icmp .eq 24, 3) := by decide +kernel
theorem dX9_slipFrom_62 : decode cX9_slipFrom 62 = .ok (.aload_n 0, 1) := by decide +kernel
theorem dX9_slipFrom_63 : decode cX9_slipFrom 63 = .ok (.getfield 38, 3) := by decide +kernel
theorem dX9_slipFrom_66 : decode cX9_slipFrom 66 = .ok (.iload_n 1, 1) := by decide +kernel
theorem dX9_slipFrom_67 : decode cX9_slipFrom 67 = .ok (.iload 5, 2) := by decide +kernel
theorem dX9_slipFrom_69 : decode cX9_slipFrom 69 = .ok (.iload_n 2, 1) := by decide +kernel
theorem dX9_slipFrom_70 : decode cX9_slipFrom 70 = .ok (.invokevirtual 65, 3) := by decide +kernel
theorem dX9_slipFrom_73 : decode cX9_slipFrom 73 = .ok (.ifCond .eq 10, 3) := by decide +kernel
theorem dX9_slipFrom_76 : decode cX9_slipFrom 76 = .ok (.aload_n 0, 1) := by decide +kernel
theorem dX9_slipFrom_77 : decode cX9_slipFrom 77 = .ok (.iload 5, 2) := by decide +kernel
theorem dX9_slipFrom_79 : decode cX9_slipFrom 79 = .ok (.iconst 0, 1) := by decide +kernel
theorem dX9_slipFrom_80 : decode cX9_slipFrom 80 = .ok (.invokevirtual 45, 3) := by decide +kernel
theorem dX9_slipFrom_83 : decode cX9_slipFrom 83 = .ok (.iinc 4 2, 3) := by decide +kernel
theorem dX9_slipFrom_86 : decode cX9_slipFrom 86 = .ok (.goto (-70), 3) := by decide +kernel
theorem dX9_slipFrom_89 : decode cX9_slipFrom 89 = .ok (.iinc 3 1, 3) := by decide +kernel
theorem dX9_slipFrom_92 : decode cX9_slipFrom 92 = .ok (.goto (-90), 3) := by decide +kernel
theorem dX9_slipFrom_95 : decode cX9_slipFrom 95 = .ok (.return_, 1) := by decide +kernel
theorem dX9_seekTruth_0 : decode cX9_seekTruth 0 = .ok (.aload_n 0, 1) := by decide +kernel
theorem dX9_seekTruth_1 : decode cX9_seekTruth 1 = .ok (.iload_n 1, 1) := by decide +kernel
theorem dX9_seekTruth_2 : decode cX9_seekTruth 2 = .ok (.iload_n 2, 1) := by decide +kernel
theorem dX9_seekTruth_3 : decode cX9_seekTruth 3 = .ok (.if_icmp .ne 7, 3) := by decide +kernel
theorem dX9_seekTruth_6 : decode cX9_seekTruth 6 = .ok (.iconst 0, 1) := by decide +kernel
theorem dX9_seekTruth_7 : decode cX9_seekTruth 7 = .ok (.goto 4, 3) := by decide +kernel
theorem dX9_seekTruth_10 : decode cX9_seekTruth 10 = .ok (.iconst (-1), 1) := by decide +kernel
theorem dX9_seekTruth_11 : decode cX9_seekTruth 11 = .ok (.putfield 28, 3) := by decide +kernel
theorem dX9_seekTruth_14 : decode cX9_seekTruth 14 = .ok (.aload_n 0, 1) := by decide +kernel
theorem dX9_seekTruth_15 : decode cX9_seekTruth 15 = .ok (.iconst (-1), 1) := by decide +kernel
theorem dX9_seekTruth_16 : decode cX9_seekTruth 16 = .ok (.putfield 31, 3) := by decide +kernel
theorem dX9_seekTruth_19 : decode cX9_seekTruth 19 = .ok (.aload_n 0, 1) := by decide +kernel
theorem dX9_seekTruth_20 : decode cX9_seekTruth 20 = .ok (.invokevirtual 42, 3) := by decide +kernel
theorem dX9_seekTruth_23 : decode cX9_seekTruth 23 = .ok (.aload_n 0, 1) := by decide +kernel
theorem dX9_seekTruth_24 : decode cX9_seekTruth 24 = .ok (.iload_n 1, 1) := by decide +kernel
theorem dX9_seekTruth_25 : decode cX9_seekTruth 25 = .ok (.iconst 0, 1) := by decide +kernel
theorem dX9_seekTruth_26 : decode cX9_seekTruth 26 = .ok (.invokevirtual 45, 3) := by decide +kernel
theorem dX9_seekTruth_29 : decode cX9_seekTruth 29 = .ok (.iload_n 2, 1) := by decide +kernel
theorem dX9_seekTruth_30 : decode cX9_seekTruth 30 = .ok (.istore_n 3, 1) := by decide +kernel
theorem dX9_seekTruth_31 : decode cX9_seekTruth 31 = .ok (.iconst 1, 1) := by decide +kernel
theorem dX9_seekTruth_32 : decode cX9_seekTruth 32 = .ok (.istore 4, 2) := by decide +kernel
theorem dX9_seekTruth_34 : decode cX9_seekTruth 34 = .ok (.iload 4, 2) := by decide +kernel
theorem dX9_seekTruth_36 : decode cX9_seekTruth 36 = .ok (.bipush 12, 2) := by decide +kernel
theorem dX9_seekTruth_38 : decode cX9_seekTruth 38 = .ok (.if_icmp .gt 65, 3) := by decide +kernel
theorem dX9_seekTruth_41 : decode cX9_seekTruth 41 = .ok (.aload_n 0, 1) := by decide +kernel
theorem dX9_seekTruth_42 : decode cX9_seekTruth 42 = .ok (.getfield 28, 3) := by decide +kernel
theorem dX9_seekTruth_45 : decode cX9_seekTruth 45 = .ok (.iconst (-1), 1) := by decide +kernel
theorem dX9_seekTruth_46 : decode cX9_seekTruth 46 = .ok (.if_icmp .ne 57, 3) := by decide +kernel
theorem dX9_seekTruth_49 : decode cX9_seekTruth 49 = .ok (.aload_n 0, 1) := by decide +kernel
theorem dX9_seekTruth_50 : decode cX9_seekTruth 50 = .ok (.getfield 34, 3) := by decide +kernel
theorem dX9_seekTruth_53 : decode cX9_seekTruth 53 = .ok (.iload_n 3, 1) := by decide +kernel
theorem dX9_seekTruth_54 : decode cX9_seekTruth 54 = .ok (.invokevirtual 71, 3) := by decide +kernel
theorem dX9_seekTruth_57 : decode cX9_seekTruth 57 = .ok (.istore_n 3, 1) := by decide +kernel
theorem dX9_seekTruth_58 : decode cX9_seekTruth 58 = .ok (.aload_n 0, 1) := by decide +kernel
theorem dX9_seekTruth_59 : decode cX9_seekTruth 59 = .ok (.iload_n 3, 1) := by decide +kernel
theorem dX9_seekTruth_60 : decode cX9_seekTruth 60 = .ok (.iload 4, 2) := by decide +kernel
theorem dX9_seekTruth_62 : decode cX9_seekTruth 62 = .ok (.iconst 1, 1) := by decide +kernel
theorem dX9_seekTruth_63 : decode cX9_seekTruth 63 = .ok (.if_icmp .ne 7, 3) := by decide +kernel
theorem dX9_seekTruth_66 : decode cX9_seekTruth 66 = .ok (.iconst 1, 1) := by decide +kernel
theorem dX9_seekTruth_67 : decode cX9_seekTruth 67 = .ok (.goto 4, 3) := by decide +kernel
theorem dX9_seekTruth_70 : decode cX9_seekTruth 70 = .ok (.iconst 0, 1) := by decide +kernel
theorem dX9_seekTruth_71 : decode cX9_seekTruth 71 = .ok (.invokevirtual 75, 3) := by decide +kernel
theorem dX9_seekTruth_74 : decode cX9_seekTruth 74 = .ok (.aload_n 0, 1) := by decide +kernel
theorem dX9_seekTruth_75 : decode cX9_seekTruth 75 = .ok (.iload_n 3, 1) := by decide +kernel
theorem dX9_seekTruth_76 : decode cX9_seekTruth 76 = .ok (.invokevirtual 52, 3) := by decide +kernel
theorem dX9_seekTruth_79 : decode cX9_seekTruth 79 = .ok (.ifCond .eq 18, 3) := by decide +kernel
theorem dX9_seekTruth_82 : decode cX9_seekTruth 82 = .ok (.aload_n 0, 1) := by decide +kernel
theorem dX9_seekTruth_83 : decode cX9_seekTruth 83 = .ok (.iload 4, 2) := by decide +kernel
theorem dX9_seekTruth_85 : decode cX9_seekTruth 85 = .ok (.putfield 28, 3) := by decide +kernel
theorem dX9_seekTruth_88 : decode cX9_seekTruth 88 = .ok (.aload_n 0, 1) := by decide +kernel
theorem dX9_seekTruth_89 : decode cX9_seekTruth 89 = .ok (.aload_n 0, 1) := by decide +kernel
theorem dX9_seekTruth_90 : decode cX9_seekTruth 90 = .ok (.iload_n 3, 1) := by decide +kernel
theorem dX9_seekTruth_91 : decode cX9_seekTruth 91 = .ok (.invokevirtual 79, 3) := by decide +kernel
theorem dX9_seekTruth_94 : decode cX9_seekTruth 94 = .ok (.putfield 31, 3) := by decide +kernel
theorem dX9_seekTruth_97 : decode cX9_seekTruth 97 = .ok (.iinc 4 1, 3) := by decide +kernel
theorem dX9_seekTruth_100 : decode cX9_seekTruth 100 = .ok (.goto (-66), 3) := by decide +kernel
theorem dX9_seekTruth_103 : decode cX9_seekTruth 103 = .ok (.return_, 1) := by decide +kernel
theorem dX9_passYear_0 : decode cX9_passYear 0 = .ok (.aload_n 0, 1) := by decide +kernel
theorem dX9_passYear_1 : decode cX9_passYear 1 = .ok (.getfield 19, 3) := by decide +kernel
theorem dX9_passYear_4 : decode cX9_passYear 4 = .ok (.astore_n 3, 1) := by decide +kernel
theorem dX9_passYear_5 : decode cX9_passYear 5 = .ok (.aload_n 0, 1) := by decide +kernel
theorem dX9_passYear_6 : decode cX9_passYear 6 = .ok (.getfield 25, 3) := by decide +kernel
theorem dX9_passYear_9 : decode cX9_passYear 9 = .ok (.istore 4, 2) := by decide +kernel
theorem dX9_passYear_11 : decode cX9_passYear 11 = .ok (.aload_n 0, 1) := by decide +kernel
theorem dX9_passYear_12 : decode cX9_passYear 12 = .ok (.aload_n 0, 1) := by decide +kernel
theorem dX9_passYear_13 : decode cX9_passYear 13 = .ok (.getfield 22, 3) := by decide +kernel
theorem dX9_passYear_16 : decode cX9_passYear 16 = .ok (.putfield 19, 3) := by decide +kernel
theorem dX9_passYear_19 : decode cX9_passYear 19 = .ok (.aload_n 0, 1) := by decide +kernel
theorem dX9_passYear_20 : decode cX9_passYear 20 = .ok (.aload_n 3, 1) := by decide +kernel
theorem dX9_passYear_21 : decode cX9_passYear 21 = .ok (.putfield 22, 3) := by decide +kernel
theorem dX9_passYear_24 : decode cX9_passYear 24 = .ok (.aload_n 0, 1) := by decide +kernel
theorem dX9_passYear_25 : decode cX9_passYear 25 = .ok (.invokevirtual 42, 3) := by decide +kernel
theorem dX9_passYear_28 : decode cX9_passYear 28 = .ok (.iconst 0, 1) := by decide +kernel
theorem dX9_passYear_29 : decode cX9_passYear 29 = .ok (.istore 5, 2) := by decide +kernel
theorem dX9_passYear_31 : decode cX9_passYear 31 = .ok (.iload 5, 2) := by decide +kernel
theorem dX9_passYear_33 : decode cX9_passYear 33 = .ok (.iload 4, 2) := by decide +kernel
theorem dX9_passYear_35 : decode cX9_passYear 35 = .ok (.if_icmp .ge 135, 3) := by decide +kernel
theorem dX9_passYear_38 : decode cX9_passYear 38 = .ok (.aload_n 3, 1) := by decide +kernel
theorem dX9_passYear_39 : decode cX9_passYear 39 = .ok (.iload 5, 2) := by decide +kernel
theorem dX9_passYear_41 : decode cX9_passYear 41 = .ok (.iaload, 1) := by decide +kernel
theorem dX9_passYear_42 : decode cX9_passYear 42 = .ok (.sipush 10000, 3) := by decide +kernel
theorem dX9_passYear_45 : decode cX9_passYear 45 = .ok (.irem, 1) := by decide +kernel
theorem dX9_passYear_46 : decode cX9_passYear 46 = .ok (.istore 6, 2) := by decide +kernel
theorem dX9_passYear_48 : decode cX9_passYear 48 = .ok (.aload_n 3, 1) := by decide +kernel
theorem dX9_passYear_49 : decode cX9_passYear 49 = .ok (.iload 5, 2) := by decide +kernel
theorem dX9_passYear_51 : decode cX9_passYear 51 = .ok (.iaload, 1) := by decide +kernel
theorem dX9_passYear_52 : decode cX9_passYear 52 = .ok (.sipush 10000, 3) := by decide +kernel
theorem dX9_passYear_55 : decode cX9_passYear 55 = .ok (.idiv, 1) := by decide +kernel
theorem dX9_passYear_56 : decode cX9_passYear 56 = .ok (.istore 7, 2) := by decide +kernel
theorem dX9_passYear_58 : decode cX9_passYear 58 = .ok (.iconst 0, 1) := by decide +kernel
theorem dX9_passYear_59 : decode cX9_passYear 59 = .ok (.istore 8, 2) := by decide +kernel
theorem dX9_passYear_61 : decode cX9_passYear 61 = .ok (.iload 8, 2) := by decide +kernel
theorem dX9_passYear_63 : decode cX9_passYear 63 = .ok (.aload_n 0, 1) := by decide +kernel
theorem dX9_passYear_64 : decode cX9_passYear 64 = .ok (.getfield 34, 3) := by decide +kernel
theorem dX9_passYear_67 : decode cX9_passYear 67 = .ok (.invokevirtual 56, 3) := by decide +kernel
theorem dX9_passYear_70 : decode cX9_passYear 70 = .ok (.if_icmp .ge 69, 3) := by decide +kernel
theorem dX9_passYear_73 : decode cX9_passYear 73 = .ok (.aload_n 0, 1) := by decide +kernel
theorem dX9_passYear_74 : decode cX9_passYear 74 = .ok (.getfield 34, 3) := by decide +kernel
theorem dX9_passYear_77 : decode cX9_passYear 77 = .ok (.iload 6, 2) := by decide +kernel
theorem dX9_passYear_79 : decode cX9_passYear 79 = .ok (.iload 8, 2) := by decide +kernel
theorem dX9_passYear_81 : decode cX9_passYear 81 = .ok (.iload_n 1, 1) := by decide +kernel
theorem dX9_passYear_82 : decode cX9_passYear 82 = .ok (.iload 8, 2) := by decide +kernel
theorem dX9_passYear_84 : decode cX9_passYear 84 = .ok (.invokestatic 82, 3) := by decide +kernel
theorem dX9_passYear_87 : decode cX9_passYear 87 = .ok (.invokevirtual 86, 3) := by decide +kernel
theorem dX9_passYear_90 : decode cX9_passYear 90 = .ok (.istore 9, 2) := by decide +kernel
theorem dX9_passYear_92 : decode cX9_passYear 92 = .ok (.aload_n 0, 1) := by decide +kernel
theorem dX9_passYear_93 : decode cX9_passYear 93 = .ok (.iload 9, 2) := by decide +kernel
theorem dX9_passYear_95 : decode cX9_passYear 95 = .ok (.invokevirtual 52, 3) := by decide +kernel
theorem dX9_passYear_98 : decode cX9_passYear 98 = .ok (.ifCond .ne 35, 3) := by decide +kernel
theorem dX9_passYear_101 : decode cX9_passYear 101 = .ok (.aload_n 0, 1) := by decide +kernel
theorem dX9_passYear_102 : decode cX9_passYear 102 = .ok (.getfield 38, 3) := by decide +kernel
theorem dX9_passYear_105 : decode cX9_passYear 105 = .ok (.iload 6, 2) := by decide +kernel
theorem dX9_passYear_107 : decode cX9_passYear 107 = .ok (.iload 9, 2) := by decide +kernel
theorem dX9_passYear_109 : decode cX9_passYear 109 = .ok (.iload_n 1, 1) := by decide +kernel
theorem dX9_passYear_110 : decode cX9_passYear 110 = .ok (.invokevirtual 65, 3) := by decide +kernel
theorem dX9_passYear_113 : decode cX9_passYear 113 = .ok (.ifCond .eq 20, 3) := by decide +kernel
theorem dX9_passYear_116 : decode cX9_passYear 116 = .ok (.aload_n 0, 1) := by decide +kernel
theorem dX9_passYear_117 : decode cX9_passYear 117 = .ok (.iload 9, 2) := by decide +kernel
theorem dX9_passYear_119 : decode cX9_passYear 119 = .ok (.iload_n 2, 1) := by decide +kernel
theorem dX9_passYear_120 : decode cX9_passYear 120 = .ok (.ifCond .eq 8, 3) := by decide +kernel
theorem dX9_passYear_123 : decode cX9_passYear 123 = .ok (.iload 8, 2) := by decide +kernel
theorem dX9_passYear_125 : decode cX9_passYear 125 = .ok (.goto 5, 3) := by decide +kernel
theorem dX9_passYear_128 : decode cX9_passYear 128 = .ok (.iload 7, 2) := by decide +kernel
theorem dX9_passYear_130 : decode cX9_passYear 130 = .ok (.invokevirtual 45, 3) := by decide +kernel
theorem dX9_passYear_133 : decode cX9_passYear 133 = .ok (.iinc 8 1, 3) := by decide +kernel
theorem dX9_passYear_136 : decode cX9_passYear 136 = .ok (.goto (-75), 3) := by decide +kernel
theorem dX9_passYear_139 : decode cX9_passYear 139 = .ok (.aload_n 0, 1) := by decide +kernel
theorem dX9_passYear_140 : decode cX9_passYear 140 = .ok (.iload 6, 2) := by decide +kernel
theorem dX9_passYear_142 : decode cX9_passYear 142 = .ok (.invokevirtual 52, 3) := by decide +kernel
theorem dX9_passYear_145 : decode cX9_passYear 145 = .ok (.ifCond .ne 19, 3) := by decide +kernel
theorem dX9_passYear_148 : decode cX9_passYear 148 = .ok (.aload_n 0, 1) := by decide +kernel
theorem dX9_passYear_149 : decode cX9_passYear 149 = .ok (.iload 6, 2) := by decide +kernel
theorem dX9_passYear_151 : decode cX9_passYear 151 = .ok (.iload_n 2, 1) := by decide +kernel
theorem dX9_passYear_152 : decode cX9_passYear 152 = .ok (.ifCond .eq 7, 3) := by decide +kernel
theorem dX9_passYear_155 : decode cX9_passYear 155 = .ok (.iconst 4, 1) := by decide +kernel
theorem dX9_passYear_156 : decode cX9_passYear 156 = .ok (.goto 5, 3) := by decide +kernel
theorem dX9_passYear_159 : decode cX9_passYear 159 = .ok (.iload 7, 2) := by decide +kernel
theorem dX9_passYear_161 : decode cX9_passYear 161 = .ok (.invokevirtual 45, 3) := by decide +kernel
theorem dX9_passYear_164 : decode cX9_passYear 164 = .ok (.iinc 5 1, 3) := by decide +kernel
theorem dX9_passYear_167 : decode cX9_passYear 167 = .ok (.goto (-136), 3) := by decide +kernel
theorem dX9_passYear_170 : decode cX9_passYear 170 = .ok (.return_, 1) := by decide +kernel
theorem dX9_firstOf_0 : decode cX9_firstOf 0 = .ok (.iconst 0, 1) := by decide +kernel
theorem dX9_firstOf_1 : decode cX9_firstOf 1 = .ok (.istore_n 2, 1) := by decide +kernel
theorem dX9_firstOf_2 : decode cX9_firstOf 2 = .ok (.iload_n 2, 1) := by decide +kernel
theorem dX9_firstOf_3 : decode cX9_firstOf 3 = .ok (.aload_n 0, 1) := by decide +kernel
theorem dX9_firstOf_4 : decode cX9_firstOf 4 = .ok (.getfield 25, 3) := by decide +kernel
theorem dX9_firstOf_7 : decode cX9_firstOf 7 = .ok (.if_icmp .ge 45, 3) := by decide +kernel
theorem dX9_firstOf_10 : decode cX9_firstOf 10 = .ok (.aload_n 0, 1) := by decide +kernel
theorem dX9_firstOf_11 : decode cX9_firstOf 11 = .ok (.getfield 19, 3) := by decide +kernel
theorem dX9_firstOf_14 : decode cX9_firstOf 14 = .ok (.iload_n 2, 1) := by decide +kernel
theorem dX9_firstOf_15 : decode cX9_firstOf 15 = .ok (.iaload, 1) := by decide +kernel
theorem dX9_firstOf_16 : decode cX9_firstOf 16 = .ok (.sipush 10000, 3) := by decide +kernel
theorem dX9_firstOf_19 : decode cX9_firstOf 19 = .ok (.irem, 1) := by decide +kernel
theorem dX9_firstOf_20 : decode cX9_firstOf 20 = .ok (.iload_n 1, 1) := by decide +kernel
theorem dX9_firstOf_21 : decode cX9_firstOf 21 = .ok (.if_icmp .ne 25, 3) := by decide +kernel
theorem dX9_firstOf_24 : decode cX9_firstOf 24 = .ok (.aload_n 0, 1) := by decide +kernel
theorem dX9_firstOf_25 : decode cX9_firstOf 25 = .ok (.getfield 19, 3) := by decide +kernel
theorem dX9_firstOf_28 : decode cX9_firstOf 28 = .ok (.iload_n 2, 1) := by decide +kernel
theorem dX9_firstOf_29 : decode cX9_firstOf 29 = .ok (.iaload, 1) := by decide +kernel
theorem dX9_firstOf_30 : decode cX9_firstOf 30 = .ok (.sipush 10000, 3) := by decide +kernel
theorem dX9_firstOf_33 : decode cX9_firstOf 33 = .ok (.idiv, 1) := by decide +kernel
theorem dX9_firstOf_34 : decode cX9_firstOf 34 = .ok (.istore_n 3, 1) := by decide +kernel
theorem dX9_firstOf_35 : decode cX9_firstOf 35 = .ok (.iload_n 3, 1) := by decide +kernel
theorem dX9_firstOf_36 : decode cX9_firstOf 36 = .ok (.iconst 4, 1) := by decide +kernel
theorem dX9_firstOf_37 : decode cX9_firstOf 37 = .ok (.if_icmp .ne 7, 3) := by decide +kernel
theorem dX9_firstOf_40 : decode cX9_firstOf 40 = .ok (.iconst (-1), 1) := by decide +kernel
theorem dX9_firstOf_41 : decode cX9_firstOf 41 = .ok (.goto 4, 3) := by decide +kernel
theorem dX9_firstOf_44 : decode cX9_firstOf 44 = .ok (.iload_n 3, 1) := by decide +kernel
theorem dX9_firstOf_45 : decode cX9_firstOf 45 = .ok (.ireturn, 1) := by decide +kernel
theorem dX9_firstOf_46 : decode cX9_firstOf 46 = .ok (.iinc 2 1, 3) := by decide +kernel
theorem dX9_firstOf_49 : decode cX9_firstOf 49 = .ok (.goto (-47), 3) := by decide +kernel
theorem dX9_firstOf_52 : decode cX9_firstOf 52 = .ok (.iconst (-1), 1) := by decide +kernel
theorem dX9_firstOf_53 : decode cX9_firstOf 53 = .ok (.ireturn, 1) := by decide +kernel
theorem dX9_startRound_0 : decode cX9_startRound 0 = .ok (.aload_n 0, 1) := by decide +kernel
theorem dX9_startRound_1 : decode cX9_startRound 1 = .ok (.dup, 1) := by decide +kernel
theorem dX9_startRound_2 : decode cX9_startRound 2 = .ok (.getfield 15, 3) := by decide +kernel
theorem dX9_startRound_5 : decode cX9_startRound 5 = .ok (.iconst 1, 1) := by decide +kernel
theorem dX9_startRound_6 : decode cX9_startRound 6 = .ok (.iadd, 1) := by decide +kernel
theorem dX9_startRound_7 : decode cX9_startRound 7 = .ok (.putfield 15, 3) := by decide +kernel
theorem dX9_startRound_10 : decode cX9_startRound 10 = .ok (.aload_n 0, 1) := by decide +kernel
theorem dX9_startRound_11 : decode cX9_startRound 11 = .ok (.iconst 0, 1) := by decide +kernel
theorem dX9_startRound_12 : decode cX9_startRound 12 = .ok (.putfield 25, 3) := by decide +kernel
theorem dX9_startRound_15 : decode cX9_startRound 15 = .ok (.return_, 1) := by decide +kernel
theorem dX9_isReached_0 : decode cX9_isReached 0 = .ok (.iload_n 1, 1) := by decide +kernel
theorem dX9_isReached_1 : decode cX9_isReached 1 = .ok (.ifCond .lt 27, 3) := by decide +kernel
theorem dX9_isReached_4 : decode cX9_isReached 4 = .ok (.iload_n 1, 1) := by decide +kernel
theorem dX9_isReached_5 : decode cX9_isReached 5 = .ok (.sipush 10000, 3) := by decide +kernel
theorem dX9_isReached_8 : decode cX9_isReached 8 = .ok (.if_icmp .ge 20, 3) := by decide +kernel
theorem dX9_isReached_11 : decode cX9_isReached 11 = .ok (.aload_n 0, 1) := by decide +kernel
theorem dX9_isReached_12 : decode cX9_isReached 12 = .ok (.getfield 9, 3) := by decide +kernel
theorem dX9_isReached_15 : decode cX9_isReached 15 = .ok (.iload_n 1, 1) := by decide +kernel
theorem dX9_isReached_16 : decode cX9_isReached 16 = .ok (.iaload, 1) := by decide +kernel
theorem dX9_isReached_17 : decode cX9_isReached 17 = .ok (.aload_n 0, 1) := by decide +kernel
theorem dX9_isReached_18 : decode cX9_isReached 18 = .ok (.getfield 15, 3) := by decide +kernel
theorem dX9_isReached_21 : decode cX9_isReached 21 = .ok (.if_icmp .ne 7, 3) := by decide +kernel
theorem dX9_isReached_24 : decode cX9_isReached 24 = .ok (.iconst 1, 1) := by decide +kernel
theorem dX9_isReached_25 : decode cX9_isReached 25 = .ok (.goto 4, 3) := by decide +kernel
theorem dX9_isReached_28 : decode cX9_isReached 28 = .ok (.iconst 0, 1) := by decide +kernel
theorem dX9_isReached_29 : decode cX9_isReached 29 = .ok (.ireturn, 1) := by decide +kernel
theorem dX9_reach_0 : decode cX9_reach 0 = .ok (.aload_n 0, 1) := by decide +kernel
theorem dX9_reach_1 : decode cX9_reach 1 = .ok (.getfield 25, 3) := by decide +kernel
theorem dX9_reach_4 : decode cX9_reach 4 = .ok (.sipush 10000, 3) := by decide +kernel
theorem dX9_reach_7 : decode cX9_reach 7 = .ok (.if_icmp .ge 50, 3) := by decide +kernel
theorem dX9_reach_10 : decode cX9_reach 10 = .ok (.iload_n 1, 1) := by decide +kernel
theorem dX9_reach_11 : decode cX9_reach 11 = .ok (.ifCond .lt 46, 3) := by decide +kernel
theorem dX9_reach_14 : decode cX9_reach 14 = .ok (.iload_n 1, 1) := by decide +kernel
theorem dX9_reach_15 : decode cX9_reach 15 = .ok (.sipush 10000, 3) := by decide +kernel
theorem dX9_reach_18 : decode cX9_reach 18 = .ok (.if_icmp .ge 39, 3) := by decide +kernel
theorem dX9_reach_21 : decode cX9_reach 21 = .ok (.aload_n 0, 1) := by decide +kernel
theorem dX9_reach_22 : decode cX9_reach 22 = .ok (.getfield 9, 3) := by decide +kernel
theorem dX9_reach_25 : decode cX9_reach 25 = .ok (.iload_n 1, 1) := by decide +kernel
theorem dX9_reach_26 : decode cX9_reach 26 = .ok (.aload_n 0, 1) := by decide +kernel
theorem dX9_reach_27 : decode cX9_reach 27 = .ok (.getfield 15, 3) := by decide +kernel
theorem dX9_reach_30 : decode cX9_reach 30 = .ok (.iastore, 1) := by decide +kernel
theorem dX9_reach_31 : decode cX9_reach 31 = .ok (.aload_n 0, 1) := by decide +kernel
theorem dX9_reach_32 : decode cX9_reach 32 = .ok (.getfield 19, 3) := by decide +kernel
theorem dX9_reach_35 : decode cX9_reach 35 = .ok (.aload_n 0, 1) := by decide +kernel
theorem dX9_reach_36 : decode cX9_reach 36 = .ok (.getfield 25, 3) := by decide +kernel
theorem dX9_reach_39 : decode cX9_reach 39 = .ok (.iload_n 2, 1) := by decide +kernel
theorem dX9_reach_40 : decode cX9_reach 40 = .ok (.sipush 10000, 3) := by decide +kernel
theorem dX9_reach_43 : decode cX9_reach 43 = .ok (.imul, 1) := by decide +kernel
theorem dX9_reach_44 : decode cX9_reach 44 = .ok (.iload_n 1, 1) := by decide +kernel
theorem dX9_reach_45 : decode cX9_reach 45 = .ok (.iadd, 1) := by decide +kernel
theorem dX9_reach_46 : decode cX9_reach 46 = .ok (.iastore, 1) := by decide +kernel
theorem dX9_reach_47 : decode cX9_reach 47 = .ok (.aload_n 0, 1) := by decide +kernel
theorem dX9_reach_48 : decode cX9_reach 48 = .ok (.dup, 1) := by decide +kernel
theorem dX9_reach_49 : decode cX9_reach 49 = .ok (.getfield 25, 3) := by decide +kernel
theorem dX9_reach_52 : decode cX9_reach 52 = .ok (.iconst 1, 1) := by decide +kernel
theorem dX9_reach_53 : decode cX9_reach 53 = .ok (.iadd, 1) := by decide +kernel
theorem dX9_reach_54 : decode cX9_reach 54 = .ok (.putfield 25, 3) := by decide +kernel
theorem dX9_reach_57 : decode cX9_reach 57 = .ok (.return_, 1) := by decide +kernel
theorem dX10_init_0 : decode cX10_init 0 = .ok (.aload_n 0, 1) := by decide +kernel
theorem dX10_init_1 : decode cX10_init 1 = .ok (.invokespecial 3, 3) := by decide +kernel
theorem dX10_init_4 : decode cX10_init 4 = .ok (.aload_n 0, 1) := by decide +kernel
theorem dX10_init_5 : decode cX10_init 5 = .ok (.bipush 36, 2) := by decide +kernel
theorem dX10_init_7 : decode cX10_init 7 = .ok (.newarray .int, 2) := by decide +kernel
theorem dX10_init_9 : decode cX10_init 9 = .ok (.putfield 9, 3) := by decide +kernel
theorem dX10_init_12 : decode cX10_init 12 = .ok (.aload_n 0, 1) := by decide +kernel
theorem dX10_init_13 : decode cX10_init 13 = .ok (.bipush 6, 2) := by decide +kernel
theorem dX10_init_15 : decode cX10_init 15 = .ok (.newarray .int, 2) := by decide +kernel
theorem dX10_init_17 : decode cX10_init 17 = .ok (.putfield 15, 3) := by decide +kernel
theorem dX10_init_20 : decode cX10_init 20 = .ok (.aload_n 0, 1) := by decide +kernel
theorem dX10_init_21 : decode cX10_init 21 = .ok (.bipush 6, 2) := by decide +kernel
theorem dX10_init_23 : decode cX10_init 23 = .ok (.newarray .int, 2) := by decide +kernel
theorem dX10_init_25 : decode cX10_init 25 = .ok (.putfield 18, 3) := by decide +kernel
theorem dX10_init_28 : decode cX10_init 28 = .ok (.aload_n 0, 1) := by decide +kernel
theorem dX10_init_29 : decode cX10_init 29 = .ok (.iconst 0, 1) := by decide +kernel
theorem dX10_init_30 : decode cX10_init 30 = .ok (.putfield 21, 3) := by decide +kernel
theorem dX10_init_33 : decode cX10_init 33 = .ok (.aload_n 0, 1) := by decide +kernel
theorem dX10_init_34 : decode cX10_init 34 = .ok (.iconst 0, 1) := by decide +kernel
theorem dX10_init_35 : decode cX10_init 35 = .ok (.putfield 25, 3) := by decide +kernel
theorem dX10_init_38 : decode cX10_init 38 = .ok (.aload_n 0, 1) := by decide +kernel
theorem dX10_init_39 : decode cX10_init 39 = .ok (.aload_n 1, 1) := by decide +kernel
theorem dX10_init_40 : decode cX10_init 40 = .ok (.putfield 28, 3) := by decide +kernel
theorem dX10_init_43 : decode cX10_init 43 = .ok (.return_, 1) := by decide +kernel
theorem dX10_cost_0 : decode cX10_cost 0 = .ok (.aload_n 0, 1) := by decide +kernel
theorem dX10_cost_1 : decode cX10_cost 1 = .ok (.getfield 25, 3) := by decide +kernel
theorem dX10_cost_4 : decode cX10_cost 4 = .ok (.ireturn, 1) := by decide +kernel
theorem dX10_place_0 : decode cX10_place 0 = .ok (.iload_n 1, 1) := by decide +kernel
theorem dX10_place_1 : decode cX10_place 1 = .ok (.ifCond .lt 20, 3) := by decide +kernel
theorem dX10_place_4 : decode cX10_place 4 = .ok (.iload_n 1, 1) := by decide +kernel
theorem dX10_place_5 : decode cX10_place 5 = .ok (.aload_n 0, 1) := by decide +kernel
theorem dX10_place_6 : decode cX10_place 6 = .ok (.getfield 21, 3) := by decide +kernel
theorem dX10_place_9 : decode cX10_place 9 = .ok (.if_icmp .ge 12, 3) := by decide +kernel
theorem dX10_place_12 : decode cX10_place 12 = .ok (.aload_n 0, 1) := by decide +kernel
theorem dX10_place_13 : decode cX10_place 13 = .ok (.getfield 18, 3) := by decide +kernel
theorem dX10_place_16 : decode cX10_place 16 = .ok (.iload_n 1, 1) := by decide +kernel
theorem dX10_place_17 : decode cX10_place 17 = .ok (.iaload, 1) := by decide +kernel
theorem dX10_place_18 : decode cX10_place 18 = .ok (.goto 4, 3) := by decide +kernel
theorem dX10_place_21 : decode cX10_place 21 = .ok (.iconst (-1), 1) := by decide +kernel
theorem dX10_place_22 : decode cX10_place 22 = .ok (.ireturn, 1) := by decide +kernel
theorem dX10_sort_0 : decode cX10_sort 0 = .ok (.aload_n 0, 1) := by decide +kernel
theorem dX10_sort_1 : decode cX10_sort 1 = .ok (.aload_n 1, 1) := by decide +kernel
theorem dX10_sort_2 : decode cX10_sort 2 = .ok (.invokevirtual 32, 3) := by decide +kernel
theorem dX10_sort_5 : decode cX10_sort 5 = .ok (.bipush 6, 2) := by decide +kernel
theorem dX10_sort_7 : decode cX10_sort 7 = .ok (.invokestatic 37, 3) := by decide +kernel
theorem dX10_sort_10 : decode cX10_sort 10 = .ok (.putfield 21, 3) := by decide +kernel
theorem dX10_sort_13 : decode cX10_sort 13 = .ok (.iconst 0, 1) := by decide +kernel
theorem dX10_sort_14 : decode cX10_sort 14 = .ok (.istore_n 2, 1) := by decide +kernel
theorem dX10_sort_15 : decode cX10_sort 15 = .ok (.iload_n 2, 1) := by decide +kernel
theorem dX10_sort_16 : decode cX10_sort 16 = .ok (.aload_n 0, 1) := by decide +kernel
theorem dX10_sort_17 : decode cX10_sort 17 = .ok (.getfield 21, 3) := by decide +kernel
theorem dX10_sort_20 : decode cX10_sort 20 = .ok (.if_icmp .ge 53, 3) := by decide +kernel
theorem dX10_sort_23 : decode cX10_sort 23 = .ok (.iconst 0, 1) := by decide +kernel
theorem dX10_sort_24 : decode cX10_sort 24 = .ok (.istore_n 3, 1) := by decide +kernel
theorem dX10_sort_25 : decode cX10_sort 25 = .ok (.iload_n 3, 1) := by decide +kernel
theorem dX10_sort_26 : decode cX10_sort 26 = .ok (.aload_n 0, 1) := by decide +kernel
theorem dX10_sort_27 : decode cX10_sort 27 = .ok (.getfield 21, 3) := by decide +kernel
theorem dX10_sort_30 : decode cX10_sort 30 = .ok (.if_icmp .ge 37, 3) := by decide +kernel
theorem dX10_sort_33 : decode cX10_sort 33 = .ok (.aload_n 0, 1) := by decide +kernel
theorem dX10_sort_34 : decode cX10_sort 34 = .ok (.getfield 9, 3) := by decide +kernel
theorem dX10_sort_37 : decode cX10_sort 37 = .ok (.iload_n 2, 1) := by decide +kernel
theorem dX10_sort_38 : decode cX10_sort 38 = .ok (.bipush 6, 2) := by decide +kernel
theorem dX10_sort_40 : decode cX10_sort 40 = .ok (.imul, 1) := by decide +kernel
theorem dX10_sort_41 : decode cX10_sort 41 = .ok (.iload_n 3, 1) := by decide +kernel
theorem dX10_sort_42 : decode cX10_sort 42 = .ok (.iadd, 1) := by decide +kernel
theorem dX10_sort_43 : decode cX10_sort 43 = .ok (.aload_n 0, 1) := by decide +kernel
theorem dX10_sort_44 : decode cX10_sort 44 = .ok (.getfield 28, 3) := by decide +kernel
theorem dX10_sort_47 : decode cX10_sort 47 = .ok (.aload_n 1, 1) := by decide +kernel
theorem dX10_sort_48 : decode cX10_sort 48 = .ok (.iload_n 2, 1) := by decide +kernel
theorem dX10_sort_49 : decode cX10_sort 49 = .ok (.invokevirtual 43, 3) := by decide +kernel
theorem dX10_sort_52 : decode cX10_sort 52 = .ok (.aload_n 1, 1) := by decide +kernel
theorem dX10_sort_53 : decode cX10_sort 53 = .ok (.iload_n 3, 1) := by decide +kernel
theorem dX10_sort_54 : decode cX10_sort 54 = .ok (.invokevirtual 43, 3) := by decide +kernel
theorem dX10_sort_57 : decode cX10_sort 57 = .ok (.invokevirtual 47, 3) := by decide +kernel
theorem dX10_sort_60 : decode cX10_sort 60 = .ok (.iastore, 1) := by decide +kernel
theorem dX10_sort_61 : decode cX10_sort 61 = .ok (.iinc 3 1, 3) := by decide +kernel
theorem dX10_sort_64 : decode cX10_sort 64 = .ok (.goto (-39), 3) := by decide +kernel
theorem dX10_sort_67 : decode cX10_sort 67 = .ok (.iinc 2 1, 3) := by decide +kernel
theorem dX10_sort_70 : decode cX10_sort 70 = .ok (.goto (-55), 3) := by decide +kernel
theorem dX10_sort_73 : decode cX10_sort 73 = .ok (.aload_n 0, 1) := by decide +kernel
theorem dX10_sort_74 : decode cX10_sort 74 = .ok (.sipush 217, 3) := by decide +kernel
theorem dX10_sort_77 : decode cX10_sort 77 = .ok (.putfield 25, 3) := by decide +kernel
theorem dX10_sort_80 : decode cX10_sort 80 = .ok (.aload_n 0, 1) := by decide +kernel
theorem dX10_sort_81 : decode cX10_sort 81 = .ok (.iconst 0, 1) := by decide +kernel
theorem dX10_sort_82 : decode cX10_sort 82 = .ok (.iconst 0, 1) := by decide +kernel
theorem dX10_sort_83 : decode cX10_sort 83 = .ok (.iconst 0, 1) := by decide +kernel
theorem dX10_sort_84 : decode cX10_sort 84 = .ok (.invokevirtual 52, 3) := by decide +kernel
theorem dX10_sort_87 : decode cX10_sort 87 = .ok (.return_, 1) := by decide +kernel
theorem dX10_tryPlaces_0 : decode cX10_tryPlaces 0 = .ok (.iload_n 3, 1) := by decide +kernel
theorem dX10_tryPlaces_1 : decode cX10_tryPlaces 1 = .ok (.aload_n 0, 1) := by decide +kernel
theorem dX10_tryPlaces_2 : decode cX10_tryPlaces 2 = .ok (.getfield 25, 3) := by decide +kernel
theorem dX10_tryPlaces_5 : decode cX10_tryPlaces 5 = .ok (.if_icmp .lt 4, 3) := by decide +kernel
theorem dX10_tryPlaces_8 : decode cX10_tryPlaces 8 = .ok (.return_, 1) := by decide +kernel
theorem dX10_tryPlaces_9 : decode cX10_tryPlaces 9 = .ok (.iload_n 1, 1) := by decide +kernel
theorem dX10_tryPlaces_10 : decode cX10_tryPlaces 10 = .ok (.aload_n 0, 1) := by decide +kernel
theorem dX10_tryPlaces_11 : decode cX10_tryPlaces 11 = .ok (.getfield 21, 3) := by decide +kernel
theorem dX10_tryPlaces_14 : decode cX10_tryPlaces 14 = .ok (.if_icmp .lt 26, 3) := by decide +kernel
theorem dX10_tryPlaces_17 : decode cX10_tryPlaces 17 = .ok (.aload_n 0, 1) := by decide +kernel
theorem dX10_tryPlaces_18 : decode cX10_tryPlaces 18 = .ok (.iload_n 3, 1) := by decide +kernel
theorem dX10_tryPlaces_19 : decode cX10_tryPlaces 19 = .ok (.putfield 25, 3) := by decide +kernel
theorem dX10_tryPlaces_22 : decode cX10_tryPlaces 22 = .ok (.aload_n 0, 1) := by decide +kernel
theorem dX10_tryPlaces_23 : decode cX10_tryPlaces 23 = .ok (.getfield 15, 3) := by decide +kernel
theorem dX10_tryPlaces_26 : decode cX10_tryPlaces 26 = .ok (.iconst 0, 1) := by decide +kernel
theorem dX10_tryPlaces_27 : decode cX10_tryPlaces 27 = .ok (.aload_n 0, 1) := by decide +kernel
theorem dX10_tryPlaces_28 : decode cX10_tryPlaces 28 = .ok (.getfield 18, 3) := by decide +kernel
theorem dX10_tryPlaces_31 : decode cX10_tryPlaces 31 = .ok (.iconst 0, 1) := by decide +kernel
theorem dX10_tryPlaces_32 : decode cX10_tryPlaces 32 = .ok (.aload_n 0, 1) := by decide +kernel
theorem dX10_tryPlaces_33 : decode cX10_tryPlaces 33 = .ok (.getfield 21, 3) := by decide +kernel
theorem dX10_tryPlaces_36 : decode cX10_tryPlaces 36 = .ok (.invokestatic 56, 3) := by decide +kernel
theorem dX10_tryPlaces_39 : decode cX10_tryPlaces 39 = .ok (.return_, 1) := by decide +kernel
theorem dX10_tryPlaces_40 : decode cX10_tryPlaces 40 = .ok (.iconst 0, 1) := by decide +kernel
theorem dX10_tryPlaces_41 : decode cX10_tryPlaces 41 = .ok (.istore 4, 2) := by decide +kernel
theorem dX10_tryPlaces_43 : decode cX10_tryPlaces 43 = .ok (.iload 4, 2) := by decide +kernel
theorem dX10_tryPlaces_45 : decode cX10_tryPlaces 45 = .ok (.aload_n 0, 1) := by decide +kernel
theorem dX10_tryPlaces_46 : decode cX10_tryPlaces 46 = .ok (.getfield 21, 3) := by decide +kernel
theorem dX10_tryPlaces_49 : decode cX10_tryPlaces 49 = .ok (.if_icmp .ge 72, 3) := by decide +kernel
theorem dX10_tryPlaces_52 : decode cX10_tryPlaces 52 = .ok (.iload_n 2, 1) := by decide +kernel
theorem dX10_tryPlaces_53 : decode cX10_tryPlaces 53 = .ok (.iload 4, 2) := by decide +kernel
theorem dX10_tryPlaces_55 : decode cX10_tryPlaces 55 = .ok (.ishr, 1) := by decide +kernel
theorem dX10_tryPlaces_56 : decode cX10_tryPlaces 56 = .ok (.iconst 1, 1) := by decide +kernel
theorem dX10_tryPlaces_57 : decode cX10_tryPlaces 57 = .ok (.iand, 1) := by decide +kernel
theorem dX10_tryPlaces_58 : decode cX10_tryPlaces 58 = .ok (.ifCond .ne 57, 3) := by decide +kernel
theorem dX10_tryPlaces_61 : decode cX10_tryPlaces 61 = .ok (.iload_n 1, 1) := by decide +kernel
theorem dX10_tryPlaces_62 : decode cX10_tryPlaces 62 = .ok (.ifCond .ne 7, 3) := by decide +kernel
theorem dX10_tryPlaces_65 : decode cX10_tryPlaces 65 = .ok (.iconst 0, 1) := by decide +kernel
theorem dX10_tryPlaces_66 : decode cX10_tryPlaces 66 = .ok (.goto 22, 3) := by decide +kernel
theorem dX10_tryPlaces_69 : decode cX10_tryPlaces 69 = .ok (.aload_n 0, 1) := by decide +kernel
theorem dX10_tryPlaces_70 : decode cX10_tryPlaces 70 = .ok (.getfield 9, 3) := by decide +kernel
theorem dX10_tryPlaces_73 : decode cX10_tryPlaces 73 = .ok (.aload_n 0, 1) := by decide +kernel
theorem dX10_tryPlaces_74 : decode cX10_tryPlaces 74 = .ok (.getfield 15, 3) := by decide +kernel
theorem dX10_tryPlaces_77 : decode cX10_tryPlaces 77 = .ok (.iload_n 1, 1) := by decide +kernel
theorem dX10_tryPlaces_78 : decode cX10_tryPlaces 78 = .ok (.iconst 1, 1) := by decide +kernel
theorem dX10_tryPlaces_79 : decode cX10_tryPlaces 79 = .ok (.isub, 1) := by decide +kernel
theorem dX10_tryPlaces_80 : decode cX10_tryPlaces 80 = .ok (.iaload, 1) := by decide +kernel
theorem dX10_tryPlaces_81 : decode cX10_tryPlaces 81 = .ok (.bipush 6, 2) := by decide +kernel
theorem dX10_tryPlaces_83 : decode cX10_tryPlaces 83 = .ok (.imul, 1) := by decide +kernel
theorem dX10_tryPlaces_84 : decode cX10_tryPlaces 84 = .ok (.iload 4, 2) := by decide +kernel
theorem dX10_tryPlaces_86 : decode cX10_tryPlaces 86 = .ok (.iadd, 1) := by decide +kernel
theorem dX10_tryPlaces_87 : decode cX10_tryPlaces 87 = .ok (.iaload, 1) := by decide +kernel
theorem dX10_tryPlaces_88 : decode cX10_tryPlaces 88 = .ok (.istore 5, 2) := by decide +kernel
end
section
theorem dX10_tryPlaces_90 : decode cX10_tryPlaces 90 = .ok (.aload_n 0, 1) := by decide +kernel
theorem dX10_tryPlaces_91 : decode cX10_tryPlaces 91 = .ok (.getfield 15, 3) := by decide +kernel
theorem dX10_tryPlaces_94 : decode cX10_tryPlaces 94 = .ok (.iload_n 1, 1) := by decide +kernel
theorem dX10_tryPlaces_95 : decode cX10_tryPlaces 95 = .ok (.iload 4, 2) := by decide +kernel
theorem dX10_tryPlaces_97 : decode cX10_tryPlaces 97 = .ok (.iastore, 1) := by decide +kernel
theorem dX10_tryPlaces_98 : decode cX10_tryPlaces 98 = .ok (.aload_n 0, 1) := by decide +kernel
theorem dX10_tryPlaces_99 : decode cX10_tryPlaces 99 = .ok (.iload_n 1, 1) := by decide +kernel
theorem dX10_tryPlaces_100 : decode cX10_tryPlaces 100 = .ok (.iconst 1, 1) := by decide +kernel
theorem dX10_tryPlaces_101 : decode cX10_tryPlaces 101 = .ok (.iadd, 1) := by decide +kernel
theorem dX10_tryPlaces_102 : decode cX10_tryPlaces 102 = .ok (.iload_n 2, 1) := by decide +kernel
theorem dX10_tryPlaces_103 : decode cX10_tryPlaces 103 = .ok (.iconst 1, 1) := by decide +kernel
theorem dX10_tryPlaces_104 : decode cX10_tryPlaces 104 = .ok (.iload 4, 2) := by decide +kernel
theorem dX10_tryPlaces_106 : decode cX10_tryPlaces 106 = .ok (.ishl, 1) := by decide +kernel
theorem dX10_tryPlaces_107 : decode cX10_tryPlaces 107 = .ok (.ior, 1) := by decide +kernel
theorem dX10_tryPlaces_108 : decode cX10_tryPlaces 108 = .ok (.iload_n 3, 1) := by decide +kernel
theorem dX10_tryPlaces_109 : decode cX10_tryPlaces 109 = .ok (.iload 5, 2) := by decide +kernel
theorem dX10_tryPlaces_111 : decode cX10_tryPlaces 111 = .ok (.iadd, 1) := by decide +kernel
theorem dX10_tryPlaces_112 : decode cX10_tryPlaces 112 = .ok (.invokevirtual 52, 3) := by decide +kernel
theorem dX10_tryPlaces_115 : decode cX10_tryPlaces 115 = .ok (.iinc 4 1, 3) := by decide +kernel
theorem dX10_tryPlaces_118 : decode cX10_tryPlaces 118 = .ok (.goto (-75), 3) := by decide +kernel
theorem dX10_tryPlaces_121 : decode cX10_tryPlaces 121 = .ok (.return_, 1) := by decide +kernel
theorem dX11_init_0 : decode cX11_init 0 = .ok (.aload_n 0, 1) := by decide +kernel
theorem dX11_init_1 : decode cX11_init 1 = .ok (.invokespecial 3, 3) := by decide +kernel
theorem dX11_init_4 : decode cX11_init 4 = .ok (.aload_n 0, 1) := by decide +kernel
theorem dX11_init_5 : decode cX11_init 5 = .ok (.new 9, 3) := by decide +kernel
theorem dX11_init_8 : decode cX11_init 8 = .ok (.dup, 1) := by decide +kernel
theorem dX11_init_9 : decode cX11_init 9 = .ok (.invokespecial 11, 3) := by decide +kernel
theorem dX11_init_12 : decode cX11_init 12 = .ok (.putfield 12, 3) := by decide +kernel
theorem dX11_init_15 : decode cX11_init 15 = .ok (.aload_n 0, 1) := by decide +kernel
theorem dX11_init_16 : decode cX11_init 16 = .ok (.new 16, 3) := by decide +kernel
theorem dX11_init_19 : decode cX11_init 19 = .ok (.dup, 1) := by decide +kernel
theorem dX11_init_20 : decode cX11_init 20 = .ok (.aload_n 0, 1) := by decide +kernel
theorem dX11_init_21 : decode cX11_init 21 = .ok (.getfield 12, 3) := by decide +kernel
theorem dX11_init_24 : decode cX11_init 24 = .ok (.invokespecial 18, 3) := by decide +kernel
theorem dX11_init_27 : decode cX11_init 27 = .ok (.putfield 21, 3) := by decide +kernel
theorem dX11_init_30 : decode cX11_init 30 = .ok (.aload_n 0, 1) := by decide +kernel
theorem dX11_init_31 : decode cX11_init 31 = .ok (.new 25, 3) := by decide +kernel
theorem dX11_init_34 : decode cX11_init 34 = .ok (.dup, 1) := by decide +kernel
theorem dX11_init_35 : decode cX11_init 35 = .ok (.invokespecial 27, 3) := by decide +kernel
theorem dX11_init_38 : decode cX11_init 38 = .ok (.putfield 28, 3) := by decide +kernel
theorem dX11_init_41 : decode cX11_init 41 = .ok (.aload_n 0, 1) := by decide +kernel
theorem dX11_init_42 : decode cX11_init 42 = .ok (.new 32, 3) := by decide +kernel
theorem dX11_init_45 : decode cX11_init 45 = .ok (.dup, 1) := by decide +kernel
theorem dX11_init_46 : decode cX11_init 46 = .ok (.aload_n 0, 1) := by decide +kernel
theorem dX11_init_47 : decode cX11_init 47 = .ok (.getfield 12, 3) := by decide +kernel
theorem dX11_init_50 : decode cX11_init 50 = .ok (.aload_n 0, 1) := by decide +kernel
theorem dX11_init_51 : decode cX11_init 51 = .ok (.getfield 21, 3) := by decide +kernel
theorem dX11_init_54 : decode cX11_init 54 = .ok (.invokespecial 34, 3) := by decide +kernel
theorem dX11_init_57 : decode cX11_init 57 = .ok (.putfield 37, 3) := by decide +kernel
theorem dX11_init_60 : decode cX11_init 60 = .ok (.aload_n 0, 1) := by decide +kernel
theorem dX11_init_61 : decode cX11_init 61 = .ok (.new 41, 3) := by decide +kernel
theorem dX11_init_64 : decode cX11_init 64 = .ok (.dup, 1) := by decide +kernel
theorem dX11_init_65 : decode cX11_init 65 = .ok (.aload_n 0, 1) := by decide +kernel
theorem dX11_init_66 : decode cX11_init 66 = .ok (.getfield 12, 3) := by decide +kernel
theorem dX11_init_69 : decode cX11_init 69 = .ok (.invokespecial 43, 3) := by decide +kernel
theorem dX11_init_72 : decode cX11_init 72 = .ok (.putfield 44, 3) := by decide +kernel
theorem dX11_init_75 : decode cX11_init 75 = .ok (.aload_n 0, 1) := by decide +kernel
theorem dX11_init_76 : decode cX11_init 76 = .ok (.new 48, 3) := by decide +kernel
theorem dX11_init_79 : decode cX11_init 79 = .ok (.dup, 1) := by decide +kernel
theorem dX11_init_80 : decode cX11_init 80 = .ok (.bipush 10, 2) := by decide +kernel
theorem dX11_init_82 : decode cX11_init 82 = .ok (.invokespecial 50, 3) := by decide +kernel
theorem dX11_init_85 : decode cX11_init 85 = .ok (.putfield 53, 3) := by decide +kernel
theorem dX11_init_88 : decode cX11_init 88 = .ok (.aload_n 0, 1) := by decide +kernel
theorem dX11_init_89 : decode cX11_init 89 = .ok (.new 48, 3) := by decide +kernel
theorem dX11_init_92 : decode cX11_init 92 = .ok (.dup, 1) := by decide +kernel
theorem dX11_init_93 : decode cX11_init 93 = .ok (.bipush 60, 2) := by decide +kernel
theorem dX11_init_95 : decode cX11_init 95 = .ok (.invokespecial 50, 3) := by decide +kernel
theorem dX11_init_98 : decode cX11_init 98 = .ok (.putfield 57, 3) := by decide +kernel
theorem dX11_init_101 : decode cX11_init 101 = .ok (.aload_n 0, 1) := by decide +kernel
theorem dX11_init_102 : decode cX11_init 102 = .ok (.new 48, 3) := by decide +kernel
theorem dX11_init_105 : decode cX11_init 105 = .ok (.dup, 1) := by decide +kernel
theorem dX11_init_106 : decode cX11_init 106 = .ok (.bipush 6, 2) := by decide +kernel
theorem dX11_init_108 : decode cX11_init 108 = .ok (.invokespecial 50, 3) := by decide +kernel
theorem dX11_init_111 : decode cX11_init 111 = .ok (.putfield 60, 3) := by decide +kernel
theorem dX11_init_114 : decode cX11_init 114 = .ok (.aload_n 0, 1) := by decide +kernel
theorem dX11_init_115 : decode cX11_init 115 = .ok (.new 48, 3) := by decide +kernel
theorem dX11_init_118 : decode cX11_init 118 = .ok (.dup, 1) := by decide +kernel
theorem dX11_init_119 : decode cX11_init 119 = .ok (.bipush 6, 2) := by decide +kernel
theorem dX11_init_121 : decode cX11_init 121 = .ok (.invokespecial 50, 3) := by decide +kernel
theorem dX11_init_124 : decode cX11_init 124 = .ok (.putfield 63, 3) := by decide +kernel
theorem dX11_init_127 : decode cX11_init 127 = .ok (.aload_n 0, 1) := by decide +kernel
theorem dX11_init_128 : decode cX11_init 128 = .ok (.iconst 0, 1) := by decide +kernel
theorem dX11_init_129 : decode cX11_init 129 = .ok (.putfield 66, 3) := by decide +kernel
theorem dX11_init_132 : decode cX11_init 132 = .ok (.aload_n 0, 1) := by decide +kernel
theorem dX11_init_133 : decode cX11_init 133 = .ok (.iconst 0, 1) := by decide +kernel
theorem dX11_init_134 : decode cX11_init 134 = .ok (.putfield 70, 3) := by decide +kernel
theorem dX11_init_137 : decode cX11_init 137 = .ok (.aload_n 0, 1) := by decide +kernel
theorem dX11_init_138 : decode cX11_init 138 = .ok (.iconst 0, 1) := by decide +kernel
theorem dX11_init_139 : decode cX11_init 139 = .ok (.putfield 73, 3) := by decide +kernel
theorem dX11_init_142 : decode cX11_init 142 = .ok (.aload_n 0, 1) := by decide +kernel
theorem dX11_init_143 : decode cX11_init 143 = .ok (.iconst 0, 1) := by decide +kernel
theorem dX11_init_144 : decode cX11_init 144 = .ok (.putfield 76, 3) := by decide +kernel
theorem dX11_init_147 : decode cX11_init 147 = .ok (.aload_n 0, 1) := by decide +kernel
theorem dX11_init_148 : decode cX11_init 148 = .ok (.iconst 0, 1) := by decide +kernel
theorem dX11_init_149 : decode cX11_init 149 = .ok (.putfield 79, 3) := by decide +kernel
theorem dX11_init_152 : decode cX11_init 152 = .ok (.aload_n 0, 1) := by decide +kernel
theorem dX11_init_153 : decode cX11_init 153 = .ok (.iconst 0, 1) := by decide +kernel
theorem dX11_init_154 : decode cX11_init 154 = .ok (.putfield 82, 3) := by decide +kernel
theorem dX11_init_157 : decode cX11_init 157 = .ok (.return_, 1) := by decide +kernel
theorem dX11_feature_0 : decode cX11_feature 0 = .ok (.iload_n 1, 1) := by decide +kernel
theorem dX11_feature_1 : decode cX11_feature 1 = .ok (.invokestatic 85, 3) := by decide +kernel
theorem dX11_feature_4 : decode cX11_feature 4 = .ok (.ifCond .eq 13, 3) := by decide +kernel
theorem dX11_feature_7 : decode cX11_feature 7 = .ok (.iload_n 2, 1) := by decide +kernel
theorem dX11_feature_8 : decode cX11_feature 8 = .ok (.ifCond .lt 9, 3) := by decide +kernel
theorem dX11_feature_11 : decode cX11_feature 11 = .ok (.iload_n 2, 1) := by decide +kernel
theorem dX11_feature_12 : decode cX11_feature 12 = .ok (.bipush 9, 2) := by decide +kernel
theorem dX11_feature_14 : decode cX11_feature 14 = .ok (.if_icmp .le 6, 3) := by decide +kernel
theorem dX11_feature_17 : decode cX11_feature 17 = .ok (.bipush (-102), 2) := by decide +kernel
theorem dX11_feature_19 : decode cX11_feature 19 = .ok (.ireturn, 1) := by decide +kernel
theorem dX11_feature_20 : decode cX11_feature 20 = .ok (.aload_n 0, 1) := by decide +kernel
theorem dX11_feature_21 : decode cX11_feature 21 = .ok (.invokevirtual 89, 3) := by decide +kernel
theorem dX11_feature_24 : decode cX11_feature 24 = .ok (.ifCond .eq 6, 3) := by decide +kernel
theorem dX11_feature_27 : decode cX11_feature 27 = .ok (.bipush (-103), 2) := by decide +kernel
theorem dX11_feature_29 : decode cX11_feature 29 = .ok (.ireturn, 1) := by decide +kernel
theorem dX11_feature_30 : decode cX11_feature 30 = .ok (.aload_n 0, 1) := by decide +kernel
theorem dX11_feature_31 : decode cX11_feature 31 = .ok (.getfield 12, 3) := by decide +kernel
theorem dX11_feature_34 : decode cX11_feature 34 = .ok (.invokevirtual 93, 3) := by decide +kernel
theorem dX11_feature_37 : decode cX11_feature 37 = .ok (.ifCond .eq 6, 3) := by decide +kernel
theorem dX11_feature_40 : decode cX11_feature 40 = .ok (.bipush (-104), 2) := by decide +kernel
theorem dX11_feature_42 : decode cX11_feature 42 = .ok (.ireturn, 1) := by decide +kernel
theorem dX11_feature_43 : decode cX11_feature 43 = .ok (.aload_n 0, 1) := by decide +kernel
theorem dX11_feature_44 : decode cX11_feature 44 = .ok (.getfield 12, 3) := by decide +kernel
theorem dX11_feature_47 : decode cX11_feature 47 = .ok (.iload_n 1, 1) := by decide +kernel
theorem dX11_feature_48 : decode cX11_feature 48 = .ok (.invokestatic 96, 3) := by decide +kernel
theorem dX11_feature_51 : decode cX11_feature 51 = .ok (.invokevirtual 100, 3) := by decide +kernel
theorem dX11_feature_54 : decode cX11_feature 54 = .ok (.istore_n 3, 1) := by decide +kernel
theorem dX11_feature_55 : decode cX11_feature 55 = .ok (.aload_n 0, 1) := by decide +kernel
theorem dX11_feature_56 : decode cX11_feature 56 = .ok (.aload_n 0, 1) := by decide +kernel
theorem dX11_feature_57 : decode cX11_feature 57 = .ok (.getfield 12, 3) := by decide +kernel
theorem dX11_feature_60 : decode cX11_feature 60 = .ok (.aload_n 0, 1) := by decide +kernel
theorem dX11_feature_61 : decode cX11_feature 61 = .ok (.getfield 66, 3) := by decide +kernel
theorem dX11_feature_64 : decode cX11_feature 64 = .ok (.iload_n 3, 1) := by decide +kernel
theorem dX11_feature_65 : decode cX11_feature 65 = .ok (.iload_n 2, 1) := by decide +kernel
theorem dX11_feature_66 : decode cX11_feature 66 = .ok (.invokevirtual 104, 3) := by decide +kernel
theorem dX11_feature_69 : decode cX11_feature 69 = .ok (.putfield 66, 3) := by decide +kernel
theorem dX11_feature_72 : decode cX11_feature 72 = .ok (.iload_n 3, 1) := by decide +kernel
theorem dX11_feature_73 : decode cX11_feature 73 = .ok (.ireturn, 1) := by decide +kernel
theorem dX11_about_0 : decode cX11_about 0 = .ok (.aload_n 0, 1) := by decide +kernel
theorem dX11_about_1 : decode cX11_about 1 = .ok (.getfield 12, 3) := by decide +kernel
theorem dX11_about_4 : decode cX11_about 4 = .ok (.iload_n 1, 1) := by decide +kernel
theorem dX11_about_5 : decode cX11_about 5 = .ok (.invokevirtual 108, 3) := by decide +kernel
theorem dX11_about_8 : decode cX11_about 8 = .ok (.ifCond .ne 6, 3) := by decide +kernel
theorem dX11_about_11 : decode cX11_about 11 = .ok (.bipush (-101), 2) := by decide +kernel
theorem dX11_about_13 : decode cX11_about 13 = .ok (.ireturn, 1) := by decide +kernel
theorem dX11_about_14 : decode cX11_about 14 = .ok (.iload_n 2, 1) := by decide +kernel
theorem dX11_about_15 : decode cX11_about 15 = .ok (.ifCond .lt 8, 3) := by decide +kernel
theorem dX11_about_18 : decode cX11_about 18 = .ok (.iload_n 2, 1) := by decide +kernel
theorem dX11_about_19 : decode cX11_about 19 = .ok (.iconst 3, 1) := by decide +kernel
theorem dX11_about_20 : decode cX11_about 20 = .ok (.if_icmp .lt 6, 3) := by decide +kernel
theorem dX11_about_23 : decode cX11_about 23 = .ok (.bipush (-102), 2) := by decide +kernel
theorem dX11_about_25 : decode cX11_about 25 = .ok (.ireturn, 1) := by decide +kernel
theorem dX11_about_26 : decode cX11_about 26 = .ok (.aload_n 0, 1) := by decide +kernel
theorem dX11_about_27 : decode cX11_about 27 = .ok (.iload_n 1, 1) := by decide +kernel
theorem dX11_about_28 : decode cX11_about 28 = .ok (.iload_n 2, 1) := by decide +kernel
theorem dX11_about_29 : decode cX11_about 29 = .ok (.invokevirtual 111, 3) := by decide +kernel
theorem dX11_about_32 : decode cX11_about 32 = .ok (.ireturn, 1) := by decide +kernel
theorem dX11_as_0 : decode cX11_as 0 = .ok (.aload_n 0, 1) := by decide +kernel
theorem dX11_as_1 : decode cX11_as 1 = .ok (.getfield 12, 3) := by decide +kernel
theorem dX11_as_4 : decode cX11_as 4 = .ok (.iload_n 1, 1) := by decide +kernel
theorem dX11_as_5 : decode cX11_as 5 = .ok (.invokevirtual 108, 3) := by decide +kernel
theorem dX11_as_8 : decode cX11_as 8 = .ok (.ifCond .ne 6, 3) := by decide +kernel
theorem dX11_as_11 : decode cX11_as 11 = .ok (.bipush (-101), 2) := by decide +kernel
theorem dX11_as_13 : decode cX11_as 13 = .ok (.ireturn, 1) := by decide +kernel
theorem dX11_as_14 : decode cX11_as 14 = .ok (.iload_n 2, 1) := by decide +kernel
theorem dX11_as_15 : decode cX11_as 15 = .ok (.invokestatic 85, 3) := by decide +kernel
theorem dX11_as_18 : decode cX11_as 18 = .ok (.ifCond .ne 6, 3) := by decide +kernel
theorem dX11_as_21 : decode cX11_as 21 = .ok (.bipush (-102), 2) := by decide +kernel
theorem dX11_as_23 : decode cX11_as 23 = .ok (.ireturn, 1) := by decide +kernel
theorem dX11_as_24 : decode cX11_as 24 = .ok (.aload_n 0, 1) := by decide +kernel
theorem dX11_as_25 : decode cX11_as 25 = .ok (.getfield 12, 3) := by decide +kernel
theorem dX11_as_28 : decode cX11_as 28 = .ok (.iload_n 1, 1) := by decide +kernel
theorem dX11_as_29 : decode cX11_as 29 = .ok (.invokevirtual 115, 3) := by decide +kernel
theorem dX11_as_32 : decode cX11_as 32 = .ok (.iload_n 2, 1) := by decide +kernel
theorem dX11_as_33 : decode cX11_as 33 = .ok (.invokestatic 118, 3) := by decide +kernel
theorem dX11_as_36 : decode cX11_as 36 = .ok (.ifCond .eq 7, 3) := by decide +kernel
theorem dX11_as_39 : decode cX11_as 39 = .ok (.iload_n 1, 1) := by decide +kernel
theorem dX11_as_40 : decode cX11_as 40 = .ok (.goto 4, 3) := by decide +kernel
theorem dX11_as_43 : decode cX11_as 43 = .ok (.iconst (-1), 1) := by decide +kernel
theorem dX11_as_44 : decode cX11_as 44 = .ok (.ireturn, 1) := by decide +kernel
theorem dX11_begin_0 : decode cX11_begin 0 = .ok (.aload_n 0, 1) := by decide +kernel
theorem dX11_begin_1 : decode cX11_begin 1 = .ok (.invokevirtual 89, 3) := by decide +kernel
theorem dX11_begin_4 : decode cX11_begin 4 = .ok (.ifCond .ne 14, 3) := by decide +kernel
theorem dX11_begin_7 : decode cX11_begin 7 = .ok (.aload_n 0, 1) := by decide +kernel
theorem dX11_begin_8 : decode cX11_begin 8 = .ok (.getfield 12, 3) := by decide +kernel
theorem dX11_begin_11 : decode cX11_begin 11 = .ok (.invokevirtual 122, 3) := by decide +kernel
theorem dX11_begin_14 : decode cX11_begin 14 = .ok (.iconst 2, 1) := by decide +kernel
theorem dX11_begin_15 : decode cX11_begin 15 = .ok (.if_icmp .ge 6, 3) := by decide +kernel
theorem dX11_begin_18 : decode cX11_begin 18 = .ok (.bipush (-103), 2) := by decide +kernel
theorem dX11_begin_20 : decode cX11_begin 20 = .ok (.ireturn, 1) := by decide +kernel
theorem dX11_begin_21 : decode cX11_begin 21 = .ok (.aload_n 0, 1) := by decide +kernel
theorem dX11_begin_22 : decode cX11_begin 22 = .ok (.getfield 57, 3) := by decide +kernel
theorem dX11_begin_25 : decode cX11_begin 25 = .ok (.aload_n 0, 1) := by decide +kernel
theorem dX11_begin_26 : decode cX11_begin 26 = .ok (.getfield 66, 3) := by decide +kernel
theorem dX11_begin_29 : decode cX11_begin 29 = .ok (.invokevirtual 126, 3) := by decide +kernel
theorem dX11_begin_32 : decode cX11_begin 32 = .ok (.aload_n 0, 1) := by decide +kernel
theorem dX11_begin_33 : decode cX11_begin 33 = .ok (.getfield 66, 3) := by decide +kernel
theorem dX11_begin_36 : decode cX11_begin 36 = .ok (.ireturn, 1) := by decide +kernel
theorem dX11_apart_0 : decode cX11_apart 0 = .ok (.aload_n 0, 1) := by decide +kernel
theorem dX11_apart_1 : decode cX11_apart 1 = .ok (.invokevirtual 89, 3) := by decide +kernel
theorem dX11_apart_4 : decode cX11_apart 4 = .ok (.ifCond .ne 6, 3) := by decide +kernel
theorem dX11_apart_7 : decode cX11_apart 7 = .ok (.bipush (-103), 2) := by decide +kernel
theorem dX11_apart_9 : decode cX11_apart 9 = .ok (.ireturn, 1) := by decide +kernel
theorem dX11_apart_10 : decode cX11_apart 10 = .ok (.aload_n 0, 1) := by decide +kernel
theorem dX11_apart_11 : decode cX11_apart 11 = .ok (.getfield 12, 3) := by decide +kernel
theorem dX11_apart_14 : decode cX11_apart 14 = .ok (.iload_n 1, 1) := by decide +kernel
theorem dX11_apart_15 : decode cX11_apart 15 = .ok (.invokevirtual 128, 3) := by decide +kernel
theorem dX11_apart_18 : decode cX11_apart 18 = .ok (.ifCond .eq 14, 3) := by decide +kernel
theorem dX11_apart_21 : decode cX11_apart 21 = .ok (.aload_n 0, 1) := by decide +kernel
theorem dX11_apart_22 : decode cX11_apart 22 = .ok (.getfield 12, 3) := by decide +kernel
theorem dX11_apart_25 : decode cX11_apart 25 = .ok (.iload_n 2, 1) := by decide +kernel
theorem dX11_apart_26 : decode cX11_apart 26 = .ok (.invokevirtual 128, 3) := by decide +kernel
theorem dX11_apart_29 : decode cX11_apart 29 = .ok (.ifCond .ne 6, 3) := by decide +kernel
theorem dX11_apart_32 : decode cX11_apart 32 = .ok (.bipush (-102), 2) := by decide +kernel
theorem dX11_apart_34 : decode cX11_apart 34 = .ok (.ireturn, 1) := by decide +kernel
theorem dX11_apart_35 : decode cX11_apart 35 = .ok (.aload_n 0, 1) := by decide +kernel
theorem dX11_apart_36 : decode cX11_apart 36 = .ok (.getfield 12, 3) := by decide +kernel
theorem dX11_apart_39 : decode cX11_apart 39 = .ok (.iload_n 1, 1) := by decide +kernel
theorem dX11_apart_40 : decode cX11_apart 40 = .ok (.iload_n 2, 1) := by decide +kernel
theorem dX11_apart_41 : decode cX11_apart 41 = .ok (.invokevirtual 131, 3) := by decide +kernel
theorem dX11_apart_44 : decode cX11_apart 44 = .ok (.ireturn, 1) := by decide +kernel
theorem dX11_paint_0 : decode cX11_paint 0 = .ok (.aload_n 0, 1) := by decide +kernel
theorem dX11_paint_1 : decode cX11_paint 1 = .ok (.invokevirtual 89, 3) := by decide +kernel
theorem dX11_paint_4 : decode cX11_paint 4 = .ok (.ifCond .ne 6, 3) := by decide +kernel
theorem dX11_paint_7 : decode cX11_paint 7 = .ok (.bipush (-103), 2) := by decide +kernel
theorem dX11_paint_9 : decode cX11_paint 9 = .ok (.ireturn, 1) := by decide +kernel
theorem dX11_paint_10 : decode cX11_paint 10 = .ok (.aload_n 0, 1) := by decide +kernel
theorem dX11_paint_11 : decode cX11_paint 11 = .ok (.getfield 12, 3) := by decide +kernel
theorem dX11_paint_14 : decode cX11_paint 14 = .ok (.iload_n 1, 1) := by decide +kernel
theorem dX11_paint_15 : decode cX11_paint 15 = .ok (.invokevirtual 128, 3) := by decide +kernel
theorem dX11_paint_18 : decode cX11_paint 18 = .ok (.ifCond .ne 6, 3) := by decide +kernel
theorem dX11_paint_21 : decode cX11_paint 21 = .ok (.bipush (-102), 2) := by decide +kernel
theorem dX11_paint_23 : decode cX11_paint 23 = .ok (.ireturn, 1) := by decide +kernel
theorem dX11_paint_24 : decode cX11_paint 24 = .ok (.aload_n 0, 1) := by decide +kernel
theorem dX11_paint_25 : decode cX11_paint 25 = .ok (.getfield 12, 3) := by decide +kernel
theorem dX11_paint_28 : decode cX11_paint 28 = .ok (.aload_n 0, 1) := by decide +kernel
theorem dX11_paint_29 : decode cX11_paint 29 = .ok (.getfield 66, 3) := by decide +kernel
theorem dX11_paint_32 : decode cX11_paint 32 = .ok (.invokevirtual 134, 3) := by decide +kernel
theorem dX11_paint_35 : decode cX11_paint 35 = .ok (.istore_n 2, 1) := by decide +kernel
theorem dX11_paint_36 : decode cX11_paint 36 = .ok (.aload_n 0, 1) := by decide +kernel
theorem dX11_paint_37 : decode cX11_paint 37 = .ok (.getfield 21, 3) := by decide +kernel
theorem dX11_paint_40 : decode cX11_paint 40 = .ok (.aload_n 0, 1) := by decide +kernel
theorem dX11_paint_41 : decode cX11_paint 41 = .ok (.getfield 57, 3) := by decide +kernel
theorem dX11_paint_44 : decode cX11_paint 44 = .ok (.invokevirtual 138, 3) := by decide +kernel
theorem dX11_paint_47 : decode cX11_paint 47 = .ok (.iload_n 1, 1) := by decide +kernel
theorem dX11_paint_48 : decode cX11_paint 48 = .ok (.iload_n 2, 1) := by decide +kernel
theorem dX11_paint_49 : decode cX11_paint 49 = .ok (.invokevirtual 141, 3) := by decide +kernel
theorem dX11_paint_52 : decode cX11_paint 52 = .ok (.ifCond .ne 6, 3) := by decide +kernel
theorem dX11_paint_55 : decode cX11_paint 55 = .ok (.bipush (-103), 2) := by decide +kernel
theorem dX11_paint_57 : decode cX11_paint 57 = .ok (.ireturn, 1) := by decide +kernel
theorem dX11_paint_58 : decode cX11_paint 58 = .ok (.aload_n 0, 1) := by decide +kernel
theorem dX11_paint_59 : decode cX11_paint 59 = .ok (.getfield 57, 3) := by decide +kernel
theorem dX11_paint_62 : decode cX11_paint 62 = .ok (.invokevirtual 145, 3) := by decide +kernel
theorem dX11_paint_65 : decode cX11_paint 65 = .ok (.ifCond .eq 6, 3) := by decide +kernel
theorem dX11_paint_68 : decode cX11_paint 68 = .ok (.bipush (-104), 2) := by decide +kernel
theorem dX11_paint_70 : decode cX11_paint 70 = .ok (.ireturn, 1) := by decide +kernel
theorem dX11_paint_71 : decode cX11_paint 71 = .ok (.aload_n 0, 1) := by decide +kernel
theorem dX11_paint_72 : decode cX11_paint 72 = .ok (.iload_n 2, 1) := by decide +kernel
theorem dX11_paint_73 : decode cX11_paint 73 = .ok (.putfield 66, 3) := by decide +kernel
theorem dX11_paint_76 : decode cX11_paint 76 = .ok (.aload_n 0, 1) := by decide +kernel
theorem dX11_paint_77 : decode cX11_paint 77 = .ok (.getfield 57, 3) := by decide +kernel
theorem dX11_paint_80 : decode cX11_paint 80 = .ok (.iload_n 1, 1) := by decide +kernel
theorem dX11_paint_81 : decode cX11_paint 81 = .ok (.invokevirtual 126, 3) := by decide +kernel
theorem dX11_paint_84 : decode cX11_paint 84 = .ok (.aload_n 0, 1) := by decide +kernel
theorem dX11_paint_85 : decode cX11_paint 85 = .ok (.getfield 12, 3) := by decide +kernel
theorem dX11_paint_88 : decode cX11_paint 88 = .ok (.aload_n 0, 1) := by decide +kernel
theorem dX11_paint_89 : decode cX11_paint 89 = .ok (.getfield 66, 3) := by decide +kernel
theorem dX11_paint_92 : decode cX11_paint 92 = .ok (.iload_n 1, 1) := by decide +kernel
theorem dX11_paint_93 : decode cX11_paint 93 = .ok (.invokevirtual 131, 3) := by decide +kernel
theorem dX11_paint_96 : decode cX11_paint 96 = .ok (.ireturn, 1) := by decide +kernel
theorem dX11_line_0 : decode cX11_line 0 = .ok (.aload_n 0, 1) := by decide +kernel
theorem dX11_line_1 : decode cX11_line 1 = .ok (.getfield 57, 3) := by decide +kernel
theorem dX11_line_4 : decode cX11_line 4 = .ok (.iload_n 1, 1) := by decide +kernel
theorem dX11_line_5 : decode cX11_line 5 = .ok (.invokevirtual 146, 3) := by decide +kernel
theorem dX11_line_8 : decode cX11_line 8 = .ok (.ifCond .eq 14, 3) := by decide +kernel
theorem dX11_line_11 : decode cX11_line 11 = .ok (.aload_n 0, 1) := by decide +kernel
theorem dX11_line_12 : decode cX11_line 12 = .ok (.getfield 57, 3) := by decide +kernel
theorem dX11_line_15 : decode cX11_line 15 = .ok (.iload_n 1, 1) := by decide +kernel
theorem dX11_line_16 : decode cX11_line 16 = .ok (.invokevirtual 147, 3) := by decide +kernel
theorem dX11_line_19 : decode cX11_line 19 = .ok (.goto 5, 3) := by decide +kernel
theorem dX11_line_22 : decode cX11_line 22 = .ok (.bipush (-101), 2) := by decide +kernel
theorem dX11_line_24 : decode cX11_line 24 = .ok (.ireturn, 1) := by decide +kernel
theorem dX11_letters_0 : decode cX11_letters 0 = .ok (.lload_n 1, 1) := by decide +kernel
theorem dX11_letters_1 : decode cX11_letters 1 = .ok (.invokestatic 150, 3) := by decide +kernel
theorem dX11_letters_4 : decode cX11_letters 4 = .ok (.istore_n 3, 1) := by decide +kernel
theorem dX11_letters_5 : decode cX11_letters 5 = .ok (.iload_n 3, 1) := by decide +kernel
theorem dX11_letters_6 : decode cX11_letters 6 = .ok (.iconst (-1), 1) := by decide +kernel
theorem dX11_letters_7 : decode cX11_letters 7 = .ok (.if_icmp .ne 6, 3) := by decide +kernel
theorem dX11_letters_10 : decode cX11_letters 10 = .ok (.bipush (-102), 2) := by decide +kernel
theorem dX11_letters_12 : decode cX11_letters 12 = .ok (.ireturn, 1) := by decide +kernel
theorem dX11_letters_13 : decode cX11_letters 13 = .ok (.aload_n 0, 1) := by decide +kernel
theorem dX11_letters_14 : decode cX11_letters 14 = .ok (.getfield 53, 3) := by decide +kernel
theorem dX11_letters_17 : decode cX11_letters 17 = .ok (.invokevirtual 154, 3) := by decide +kernel
theorem dX11_letters_20 : decode cX11_letters 20 = .ok (.iload_n 3, 1) := by decide +kernel
theorem dX11_letters_21 : decode cX11_letters 21 = .ok (.iadd, 1) := by decide +kernel
theorem dX11_letters_22 : decode cX11_letters 22 = .ok (.bipush 10, 2) := by decide +kernel
theorem dX11_letters_24 : decode cX11_letters 24 = .ok (.if_icmp .le 6, 3) := by decide +kernel
theorem dX11_letters_27 : decode cX11_letters 27 = .ok (.bipush (-104), 2) := by decide +kernel
theorem dX11_letters_29 : decode cX11_letters 29 = .ok (.ireturn, 1) := by decide +kernel
theorem dX11_letters_30 : decode cX11_letters 30 = .ok (.iconst 0, 1) := by decide +kernel
theorem dX11_letters_31 : decode cX11_letters 31 = .ok (.istore 4, 2) := by decide +kernel
theorem dX11_letters_33 : decode cX11_letters 33 = .ok (.iload 4, 2) := by decide +kernel
theorem dX11_letters_35 : decode cX11_letters 35 = .ok (.iload_n 3, 1) := by decide +kernel
theorem dX11_letters_36 : decode cX11_letters 36 = .ok (.if_icmp .ge 22, 3) := by decide +kernel
theorem dX11_letters_39 : decode cX11_letters 39 = .ok (.aload_n 0, 1) := by decide +kernel
theorem dX11_letters_40 : decode cX11_letters 40 = .ok (.getfield 53, 3) := by decide +kernel
theorem dX11_letters_43 : decode cX11_letters 43 = .ok (.lload_n 1, 1) := by decide +kernel
theorem dX11_letters_44 : decode cX11_letters 44 = .ok (.iload 4, 2) := by decide +kernel
theorem dX11_letters_46 : decode cX11_letters 46 = .ok (.invokestatic 155, 3) := by decide +kernel
theorem dX11_letters_49 : decode cX11_letters 49 = .ok (.invokevirtual 126, 3) := by decide +kernel
theorem dX11_letters_52 : decode cX11_letters 52 = .ok (.iinc 4 1, 3) := by decide +kernel
theorem dX11_letters_55 : decode cX11_letters 55 = .ok (.goto (-22), 3) := by decide +kernel
theorem dX11_letters_58 : decode cX11_letters 58 = .ok (.aload_n 0, 1) := by decide +kernel
theorem dX11_letters_59 : decode cX11_letters 59 = .ok (.getfield 53, 3) := by decide +kernel
theorem dX11_letters_62 : decode cX11_letters 62 = .ok (.invokevirtual 154, 3) := by decide +kernel
theorem dX11_letters_65 : decode cX11_letters 65 = .ok (.ireturn, 1) := by decide +kernel
theorem dX11_blank_0 : decode cX11_blank 0 = .ok (.aload_n 0, 1) := by decide +kernel
theorem dX11_blank_1 : decode cX11_blank 1 = .ok (.getfield 53, 3) := by decide +kernel
theorem dX11_blank_4 : decode cX11_blank 4 = .ok (.invokevirtual 154, 3) := by decide +kernel
theorem dX11_blank_7 : decode cX11_blank 7 = .ok (.istore_n 1, 1) := by decide +kernel
theorem dX11_blank_8 : decode cX11_blank 8 = .ok (.aload_n 0, 1) := by decide +kernel
theorem dX11_blank_9 : decode cX11_blank 9 = .ok (.getfield 53, 3) := by decide +kernel
theorem dX11_blank_12 : decode cX11_blank 12 = .ok (.iconst 0, 1) := by decide +kernel
theorem dX11_blank_13 : decode cX11_blank 13 = .ok (.invokevirtual 159, 3) := by decide +kernel
theorem dX11_blank_16 : decode cX11_blank 16 = .ok (.iload_n 1, 1) := by decide +kernel
theorem dX11_blank_17 : decode cX11_blank 17 = .ok (.ireturn, 1) := by decide +kernel
theorem dX11_fault_0 : decode cX11_fault 0 = .ok (.aload_n 0, 1) := by decide +kernel
theorem dX11_fault_1 : decode cX11_fault 1 = .ok (.getfield 53, 3) := by decide +kernel
theorem dX11_fault_4 : decode cX11_fault 4 = .ok (.aload_n 0, 1) := by decide +kernel
theorem dX11_fault_5 : decode cX11_fault 5 = .ok (.getfield 12, 3) := by decide +kernel
theorem dX11_fault_8 : decode cX11_fault 8 = .ok (.invokevirtual 122, 3) := by decide +kernel
theorem dX11_fault_11 : decode cX11_fault 11 = .ok (.invokestatic 162, 3) := by decide +kernel
theorem dX11_fault_14 : decode cX11_fault 14 = .ok (.ireturn, 1) := by decide +kernel
theorem dX11_judge_0 : decode cX11_judge 0 = .ok (.aload_n 0, 1) := by decide +kernel
theorem dX11_judge_1 : decode cX11_judge 1 = .ok (.invokevirtual 89, 3) := by decide +kernel
theorem dX11_judge_4 : decode cX11_judge 4 = .ok (.ifCond .eq 20, 3) := by decide +kernel
theorem dX11_judge_7 : decode cX11_judge 7 = .ok (.aload_n 0, 1) := by decide +kernel
theorem dX11_judge_8 : decode cX11_judge 8 = .ok (.getfield 53, 3) := by decide +kernel
theorem dX11_judge_11 : decode cX11_judge 11 = .ok (.aload_n 0, 1) := by decide +kernel
theorem dX11_judge_12 : decode cX11_judge 12 = .ok (.getfield 12, 3) := by decide +kernel
theorem dX11_judge_15 : decode cX11_judge 15 = .ok (.invokevirtual 122, 3) := by decide +kernel
theorem dX11_judge_18 : decode cX11_judge 18 = .ok (.invokestatic 166, 3) := by decide +kernel
theorem dX11_judge_21 : decode cX11_judge 21 = .ok (.ifCond .ne 6, 3) := by decide +kernel
theorem dX11_judge_24 : decode cX11_judge 24 = .ok (.bipush (-103), 2) := by decide +kernel
theorem dX11_judge_26 : decode cX11_judge 26 = .ok (.ireturn, 1) := by decide +kernel
theorem dX11_judge_27 : decode cX11_judge 27 = .ok (.aload_n 0, 1) := by decide +kernel
theorem dX11_judge_28 : decode cX11_judge 28 = .ok (.getfield 21, 3) := by decide +kernel
theorem dX11_judge_31 : decode cX11_judge 31 = .ok (.invokevirtual 170, 3) := by decide +kernel
theorem dX11_judge_34 : decode cX11_judge 34 = .ok (.ifCond .eq 6, 3) := by decide +kernel
theorem dX11_judge_37 : decode cX11_judge 37 = .ok (.bipush (-104), 2) := by decide +kernel
theorem dX11_judge_39 : decode cX11_judge 39 = .ok (.ireturn, 1) := by decide +kernel
theorem dX11_judge_40 : decode cX11_judge 40 = .ok (.aload_n 0, 1) := by decide +kernel
theorem dX11_judge_41 : decode cX11_judge 41 = .ok (.getfield 21, 3) := by decide +kernel
theorem dX11_judge_44 : decode cX11_judge 44 = .ok (.aload_n 0, 1) := by decide +kernel
theorem dX11_judge_45 : decode cX11_judge 45 = .ok (.getfield 53, 3) := by decide +kernel
theorem dX11_judge_48 : decode cX11_judge 48 = .ok (.invokevirtual 171, 3) := by decide +kernel
theorem dX11_judge_51 : decode cX11_judge 51 = .ok (.istore_n 1, 1) := by decide +kernel
theorem dX11_judge_52 : decode cX11_judge 52 = .ok (.aload_n 0, 1) := by decide +kernel
theorem dX11_judge_53 : decode cX11_judge 53 = .ok (.getfield 53, 3) := by decide +kernel
theorem dX11_judge_56 : decode cX11_judge 56 = .ok (.iconst 0, 1) := by decide +kernel
theorem dX11_judge_57 : decode cX11_judge 57 = .ok (.invokevirtual 159, 3) := by decide +kernel
theorem dX11_judge_60 : decode cX11_judge 60 = .ok (.iload_n 1, 1) := by decide +kernel
theorem dX11_judge_61 : decode cX11_judge 61 = .ok (.ireturn, 1) := by decide +kernel
theorem dX11_told_0 : decode cX11_told 0 = .ok (.aload_n 0, 1) := by decide +kernel
theorem dX11_told_1 : decode cX11_told 1 = .ok (.getfield 21, 3) := by decide +kernel
theorem dX11_told_4 : decode cX11_told 4 = .ok (.iload_n 1, 1) := by decide +kernel
theorem dX11_told_5 : decode cX11_told 5 = .ok (.invokevirtual 174, 3) := by decide +kernel
theorem dX11_told_8 : decode cX11_told 8 = .ok (.ifCond .ne 6, 3) := by decide +kernel
theorem dX11_told_11 : decode cX11_told 11 = .ok (.bipush (-101), 2) := by decide +kernel
theorem dX11_told_13 : decode cX11_told 13 = .ok (.ireturn, 1) := by decide +kernel
theorem dX11_told_14 : decode cX11_told 14 = .ok (.iload_n 2, 1) := by decide +kernel
theorem dX11_told_15 : decode cX11_told 15 = .ok (.ifCond .lt 9, 3) := by decide +kernel
theorem dX11_told_18 : decode cX11_told 18 = .ok (.iload_n 2, 1) := by decide +kernel
theorem dX11_told_19 : decode cX11_told 19 = .ok (.bipush 6, 2) := by decide +kernel
theorem dX11_told_21 : decode cX11_told 21 = .ok (.if_icmp .lt 6, 3) := by decide +kernel
theorem dX11_told_24 : decode cX11_told 24 = .ok (.bipush (-102), 2) := by decide +kernel
theorem dX11_told_26 : decode cX11_told 26 = .ok (.ireturn, 1) := by decide +kernel
theorem dX11_told_27 : decode cX11_told 27 = .ok (.aload_n 0, 1) := by decide +kernel
theorem dX11_told_28 : decode cX11_told 28 = .ok (.getfield 21, 3) := by decide +kernel
theorem dX11_told_31 : decode cX11_told 31 = .ok (.iload_n 1, 1) := by decide +kernel
theorem dX11_told_32 : decode cX11_told 32 = .ok (.iload_n 2, 1) := by decide +kernel
theorem dX11_told_33 : decode cX11_told 33 = .ok (.invokevirtual 175, 3) := by decide +kernel
theorem dX11_told_36 : decode cX11_told 36 = .ok (.ireturn, 1) := by decide +kernel
theorem dX11_lets_0 : decode cX11_lets 0 = .ok (.aload_n 0, 1) := by decide +kernel
theorem dX11_lets_1 : decode cX11_lets 1 = .ok (.invokevirtual 89, 3) := by decide +kernel
theorem dX11_lets_4 : decode cX11_lets 4 = .ok (.ifCond .ne 6, 3) := by decide +kernel
theorem dX11_lets_7 : decode cX11_lets 7 = .ok (.bipush (-103), 2) := by decide +kernel
theorem dX11_lets_9 : decode cX11_lets 9 = .ok (.ireturn, 1) := by decide +kernel
theorem dX11_lets_10 : decode cX11_lets 10 = .ok (.aload_n 0, 1) := by decide +kernel
theorem dX11_lets_11 : decode cX11_lets 11 = .ok (.getfield 12, 3) := by decide +kernel
theorem dX11_lets_14 : decode cX11_lets 14 = .ok (.iload_n 1, 1) := by decide +kernel
theorem dX11_lets_15 : decode cX11_lets 15 = .ok (.invokevirtual 128, 3) := by decide +kernel
theorem dX11_lets_18 : decode cX11_lets 18 = .ok (.ifCond .eq 14, 3) := by decide +kernel
theorem dX11_lets_21 : decode cX11_lets 21 = .ok (.aload_n 0, 1) := by decide +kernel
theorem dX11_lets_22 : decode cX11_lets 22 = .ok (.getfield 12, 3) := by decide +kernel
theorem dX11_lets_25 : decode cX11_lets 25 = .ok (.iload_n 2, 1) := by decide +kernel
theorem dX11_lets_26 : decode cX11_lets 26 = .ok (.invokevirtual 128, 3) := by decide +kernel
theorem dX11_lets_29 : decode cX11_lets 29 = .ok (.ifCond .ne 6, 3) := by decide +kernel
theorem dX11_lets_32 : decode cX11_lets 32 = .ok (.bipush (-102), 2) := by decide +kernel
theorem dX11_lets_34 : decode cX11_lets 34 = .ok (.ireturn, 1) := by decide +kernel
theorem dX11_lets_35 : decode cX11_lets 35 = .ok (.aload_n 0, 1) := by decide +kernel
theorem dX11_lets_36 : decode cX11_lets 36 = .ok (.getfield 21, 3) := by decide +kernel
theorem dX11_lets_39 : decode cX11_lets 39 = .ok (.iload_n 1, 1) := by decide +kernel
theorem dX11_lets_40 : decode cX11_lets 40 = .ok (.iload_n 2, 1) := by decide +kernel
theorem dX11_lets_41 : decode cX11_lets 41 = .ok (.aload_n 0, 1) := by decide +kernel
theorem dX11_lets_42 : decode cX11_lets 42 = .ok (.getfield 66, 3) := by decide +kernel
theorem dX11_lets_45 : decode cX11_lets 45 = .ok (.invokevirtual 178, 3) := by decide +kernel
theorem dX11_lets_48 : decode cX11_lets 48 = .ok (.invokestatic 181, 3) := by decide +kernel
theorem dX11_lets_51 : decode cX11_lets 51 = .ok (.ireturn, 1) := by decide +kernel
theorem dX11_strict_0 : decode cX11_strict 0 = .ok (.aload_n 0, 1) := by decide +kernel
theorem dX11_strict_1 : decode cX11_strict 1 = .ok (.invokevirtual 89, 3) := by decide +kernel
theorem dX11_strict_4 : decode cX11_strict 4 = .ok (.ifCond .eq 10, 3) := by decide +kernel
theorem dX11_strict_7 : decode cX11_strict 7 = .ok (.aload_n 0, 1) := by decide +kernel
theorem dX11_strict_8 : decode cX11_strict 8 = .ok (.invokevirtual 186, 3) := by decide +kernel
theorem dX11_strict_11 : decode cX11_strict 11 = .ok (.goto 5, 3) := by decide +kernel
theorem dX11_strict_14 : decode cX11_strict 14 = .ok (.bipush (-103), 2) := by decide +kernel
theorem dX11_strict_16 : decode cX11_strict 16 = .ok (.ireturn, 1) := by decide +kernel
theorem dX11_slips_0 : decode cX11_slips 0 = .ok (.aload_n 0, 1) := by decide +kernel
theorem dX11_slips_1 : decode cX11_slips 1 = .ok (.invokevirtual 89, 3) := by decide +kernel
theorem dX11_slips_4 : decode cX11_slips 4 = .ok (.ifCond .ne 6, 3) := by decide +kernel
theorem dX11_slips_7 : decode cX11_slips 7 = .ok (.bipush (-103), 2) := by decide +kernel
theorem dX11_slips_9 : decode cX11_slips 9 = .ok (.ireturn, 1) := by decide +kernel
theorem dX11_slips_10 : decode cX11_slips 10 = .ok (.aload_n 0, 1) := by decide +kernel
theorem dX11_slips_11 : decode cX11_slips 11 = .ok (.getfield 12, 3) := by decide +kernel
theorem dX11_slips_14 : decode cX11_slips 14 = .ok (.iload_n 1, 1) := by decide +kernel
theorem dX11_slips_15 : decode cX11_slips 15 = .ok (.invokevirtual 128, 3) := by decide +kernel
theorem dX11_slips_18 : decode cX11_slips 18 = .ok (.ifCond .eq 14, 3) := by decide +kernel
theorem dX11_slips_21 : decode cX11_slips 21 = .ok (.aload_n 0, 1) := by decide +kernel
theorem dX11_slips_22 : decode cX11_slips 22 = .ok (.getfield 12, 3) := by decide +kernel
theorem dX11_slips_25 : decode cX11_slips 25 = .ok (.iload_n 2, 1) := by decide +kernel
theorem dX11_slips_26 : decode cX11_slips 26 = .ok (.invokevirtual 128, 3) := by decide +kernel
theorem dX11_slips_29 : decode cX11_slips 29 = .ok (.ifCond .ne 6, 3) := by decide +kernel
theorem dX11_slips_32 : decode cX11_slips 32 = .ok (.bipush (-102), 2) := by decide +kernel
theorem dX11_slips_34 : decode cX11_slips 34 = .ok (.ireturn, 1) := by decide +kernel
theorem dX11_slips_35 : decode cX11_slips 35 = .ok (.aload_n 0, 1) := by decide +kernel
theorem dX11_slips_36 : decode cX11_slips 36 = .ok (.getfield 37, 3) := by decide +kernel
theorem dX11_slips_39 : decode cX11_slips 39 = .ok (.iload_n 1, 1) := by decide +kernel
theorem dX11_slips_40 : decode cX11_slips 40 = .ok (.iload_n 2, 1) := by decide +kernel
theorem dX11_slips_41 : decode cX11_slips 41 = .ok (.aload_n 0, 1) := by decide +kernel
theorem dX11_slips_42 : decode cX11_slips 42 = .ok (.getfield 66, 3) := by decide +kernel
theorem dX11_slips_45 : decode cX11_slips 45 = .ok (.invokevirtual 189, 3) := by decide +kernel
theorem dX11_slips_48 : decode cX11_slips 48 = .ok (.ireturn, 1) := by decide +kernel
theorem dX11_truth_0 : decode cX11_truth 0 = .ok (.aload_n 0, 1) := by decide +kernel
theorem dX11_truth_1 : decode cX11_truth 1 = .ok (.invokevirtual 89, 3) := by decide +kernel
theorem dX11_truth_4 : decode cX11_truth 4 = .ok (.ifCond .ne 6, 3) := by decide +kernel
theorem dX11_truth_7 : decode cX11_truth 7 = .ok (.bipush (-103), 2) := by decide +kernel
theorem dX11_truth_9 : decode cX11_truth 9 = .ok (.ireturn, 1) := by decide +kernel
theorem dX11_truth_10 : decode cX11_truth 10 = .ok (.iload_n 1, 1) := by decide +kernel
theorem dX11_truth_11 : decode cX11_truth 11 = .ok (.ifCond .eq 11, 3) := by decide +kernel
theorem dX11_truth_14 : decode cX11_truth 14 = .ok (.iload_n 1, 1) := by decide +kernel
theorem dX11_truth_15 : decode cX11_truth 15 = .ok (.iconst 1, 1) := by decide +kernel
theorem dX11_truth_16 : decode cX11_truth 16 = .ok (.if_icmp .eq 6, 3) := by decide +kernel
theorem dX11_truth_19 : decode cX11_truth 19 = .ok (.bipush (-102), 2) := by decide +kernel
theorem dX11_truth_21 : decode cX11_truth 21 = .ok (.ireturn, 1) := by decide +kernel
theorem dX11_truth_22 : decode cX11_truth 22 = .ok (.aload_n 0, 1) := by decide +kernel
theorem dX11_truth_23 : decode cX11_truth 23 = .ok (.getfield 70, 3) := by decide +kernel
theorem dX11_truth_26 : decode cX11_truth 26 = .ok (.bipush 30, 2) := by decide +kernel
theorem dX11_truth_28 : decode cX11_truth 28 = .ok (.if_icmp .lt 6, 3) := by decide +kernel
theorem dX11_truth_31 : decode cX11_truth 31 = .ok (.bipush (-103), 2) := by decide +kernel
theorem dX11_truth_33 : decode cX11_truth 33 = .ok (.ireturn, 1) := by decide +kernel
theorem dX11_truth_34 : decode cX11_truth 34 = .ok (.aload_n 0, 1) := by decide +kernel
theorem dX11_truth_35 : decode cX11_truth 35 = .ok (.dup, 1) := by decide +kernel
theorem dX11_truth_36 : decode cX11_truth 36 = .ok (.getfield 70, 3) := by decide +kernel
theorem dX11_truth_39 : decode cX11_truth 39 = .ok (.iconst 1, 1) := by decide +kernel
theorem dX11_truth_40 : decode cX11_truth 40 = .ok (.iadd, 1) := by decide +kernel
theorem dX11_truth_41 : decode cX11_truth 41 = .ok (.putfield 70, 3) := by decide +kernel
theorem dX11_truth_44 : decode cX11_truth 44 = .ok (.aload_n 0, 1) := by decide +kernel
theorem dX11_truth_45 : decode cX11_truth 45 = .ok (.getfield 37, 3) := by decide +kernel
theorem dX11_truth_48 : decode cX11_truth 48 = .ok (.aload_n 0, 1) := by decide +kernel
theorem dX11_truth_49 : decode cX11_truth 49 = .ok (.getfield 57, 3) := by decide +kernel
theorem dX11_truth_52 : decode cX11_truth 52 = .ok (.invokevirtual 138, 3) := by decide +kernel
theorem dX11_truth_55 : decode cX11_truth 55 = .ok (.aload_n 0, 1) := by decide +kernel
theorem dX11_truth_56 : decode cX11_truth 56 = .ok (.getfield 66, 3) := by decide +kernel
theorem dX11_truth_59 : decode cX11_truth 59 = .ok (.invokevirtual 192, 3) := by decide +kernel
theorem dX11_truth_62 : decode cX11_truth 62 = .ok (.iload_n 1, 1) := by decide +kernel
theorem dX11_truth_63 : decode cX11_truth 63 = .ok (.ifCond .ne 13, 3) := by decide +kernel
theorem dX11_truth_66 : decode cX11_truth 66 = .ok (.aload_n 0, 1) := by decide +kernel
theorem dX11_truth_67 : decode cX11_truth 67 = .ok (.getfield 37, 3) := by decide +kernel
theorem dX11_truth_70 : decode cX11_truth 70 = .ok (.invokevirtual 196, 3) := by decide +kernel
theorem dX11_truth_73 : decode cX11_truth 73 = .ok (.goto 10, 3) := by decide +kernel
theorem dX11_truth_76 : decode cX11_truth 76 = .ok (.aload_n 0, 1) := by decide +kernel
end
section
theorem dX11_truth_77 : decode cX11_truth 77 = .ok (.getfield 37, 3) := by decide +kernel
theorem dX11_truth_80 : decode cX11_truth 80 = .ok (.invokevirtual 199, 3) := by decide +kernel
theorem dX11_truth_83 : decode cX11_truth 83 = .ok (.ireturn, 1) := by decide +kernel
theorem dX11_copies_0 : decode cX11_copies 0 = .ok (.aload_n 0, 1) := by decide +kernel
theorem dX11_copies_1 : decode cX11_copies 1 = .ok (.invokevirtual 89, 3) := by decide +kernel
theorem dX11_copies_4 : decode cX11_copies 4 = .ok (.ifCond .ne 6, 3) := by decide +kernel
theorem dX11_copies_7 : decode cX11_copies 7 = .ok (.bipush (-103), 2) := by decide +kernel
theorem dX11_copies_9 : decode cX11_copies 9 = .ok (.ireturn, 1) := by decide +kernel
theorem dX11_copies_10 : decode cX11_copies 10 = .ok (.iload_n 1, 1) := by decide +kernel
theorem dX11_copies_11 : decode cX11_copies 11 = .ok (.iconst 1, 1) := by decide +kernel
theorem dX11_copies_12 : decode cX11_copies 12 = .ok (.if_icmp .lt 22, 3) := by decide +kernel
theorem dX11_copies_15 : decode cX11_copies 15 = .ok (.iload_n 1, 1) := by decide +kernel
theorem dX11_copies_16 : decode cX11_copies 16 = .ok (.bipush 60, 2) := by decide +kernel
theorem dX11_copies_18 : decode cX11_copies 18 = .ok (.if_icmp .gt 16, 3) := by decide +kernel
theorem dX11_copies_21 : decode cX11_copies 21 = .ok (.iload_n 2, 1) := by decide +kernel
theorem dX11_copies_22 : decode cX11_copies 22 = .ok (.ifCond .lt 12, 3) := by decide +kernel
theorem dX11_copies_25 : decode cX11_copies 25 = .ok (.iload_n 3, 1) := by decide +kernel
theorem dX11_copies_26 : decode cX11_copies 26 = .ok (.ifCond .lt 8, 3) := by decide +kernel
theorem dX11_copies_29 : decode cX11_copies 29 = .ok (.iload_n 3, 1) := by decide +kernel
theorem dX11_copies_30 : decode cX11_copies 30 = .ok (.iconst 3, 1) := by decide +kernel
theorem dX11_copies_31 : decode cX11_copies 31 = .ok (.if_icmp .le 6, 3) := by decide +kernel
theorem dX11_copies_34 : decode cX11_copies 34 = .ok (.bipush (-102), 2) := by decide +kernel
theorem dX11_copies_36 : decode cX11_copies 36 = .ok (.ireturn, 1) := by decide +kernel
theorem dX11_copies_37 : decode cX11_copies 37 = .ok (.aload_n 0, 1) := by decide +kernel
theorem dX11_copies_38 : decode cX11_copies 38 = .ok (.iload_n 1, 1) := by decide +kernel
theorem dX11_copies_39 : decode cX11_copies 39 = .ok (.iload_n 2, 1) := by decide +kernel
theorem dX11_copies_40 : decode cX11_copies 40 = .ok (.iload_n 3, 1) := by decide +kernel
theorem dX11_copies_41 : decode cX11_copies 41 = .ok (.invokevirtual 202, 3) := by decide +kernel
theorem dX11_copies_44 : decode cX11_copies 44 = .ok (.ireturn, 1) := by decide +kernel
theorem dX11_back_0 : decode cX11_back 0 = .ok (.aload_n 0, 1) := by decide +kernel
theorem dX11_back_1 : decode cX11_back 1 = .ok (.invokevirtual 89, 3) := by decide +kernel
theorem dX11_back_4 : decode cX11_back 4 = .ok (.ifCond .ne 6, 3) := by decide +kernel
theorem dX11_back_7 : decode cX11_back 7 = .ok (.bipush (-103), 2) := by decide +kernel
theorem dX11_back_9 : decode cX11_back 9 = .ok (.ireturn, 1) := by decide +kernel
theorem dX11_back_10 : decode cX11_back 10 = .ok (.aload_n 0, 1) := by decide +kernel
theorem dX11_back_11 : decode cX11_back 11 = .ok (.getfield 12, 3) := by decide +kernel
theorem dX11_back_14 : decode cX11_back 14 = .ok (.iload_n 1, 1) := by decide +kernel
theorem dX11_back_15 : decode cX11_back 15 = .ok (.invokevirtual 128, 3) := by decide +kernel
theorem dX11_back_18 : decode cX11_back 18 = .ok (.ifCond .ne 6, 3) := by decide +kernel
theorem dX11_back_21 : decode cX11_back 21 = .ok (.bipush (-102), 2) := by decide +kernel
theorem dX11_back_23 : decode cX11_back 23 = .ok (.ireturn, 1) := by decide +kernel
theorem dX11_back_24 : decode cX11_back 24 = .ok (.aload_n 0, 1) := by decide +kernel
theorem dX11_back_25 : decode cX11_back 25 = .ok (.getfield 12, 3) := by decide +kernel
theorem dX11_back_28 : decode cX11_back 28 = .ok (.iload_n 1, 1) := by decide +kernel
theorem dX11_back_29 : decode cX11_back 29 = .ok (.aload_n 0, 1) := by decide +kernel
theorem dX11_back_30 : decode cX11_back 30 = .ok (.getfield 57, 3) := by decide +kernel
theorem dX11_back_33 : decode cX11_back 33 = .ok (.invokevirtual 138, 3) := by decide +kernel
theorem dX11_back_36 : decode cX11_back 36 = .ok (.invokevirtual 205, 3) := by decide +kernel
theorem dX11_back_39 : decode cX11_back 39 = .ok (.ireturn, 1) := by decide +kernel
theorem dX11_span_0 : decode cX11_span 0 = .ok (.aload_n 0, 1) := by decide +kernel
theorem dX11_span_1 : decode cX11_span 1 = .ok (.invokevirtual 89, 3) := by decide +kernel
theorem dX11_span_4 : decode cX11_span 4 = .ok (.ifCond .ne 6, 3) := by decide +kernel
theorem dX11_span_7 : decode cX11_span 7 = .ok (.bipush (-103), 2) := by decide +kernel
theorem dX11_span_9 : decode cX11_span 9 = .ok (.ireturn, 1) := by decide +kernel
theorem dX11_span_10 : decode cX11_span 10 = .ok (.iload_n 1, 1) := by decide +kernel
theorem dX11_span_11 : decode cX11_span 11 = .ok (.ifCond .lt 8, 3) := by decide +kernel
theorem dX11_span_14 : decode cX11_span 14 = .ok (.iload_n 1, 1) := by decide +kernel
theorem dX11_span_15 : decode cX11_span 15 = .ok (.iconst 3, 1) := by decide +kernel
theorem dX11_span_16 : decode cX11_span 16 = .ok (.if_icmp .le 6, 3) := by decide +kernel
theorem dX11_span_19 : decode cX11_span 19 = .ok (.bipush (-102), 2) := by decide +kernel
theorem dX11_span_21 : decode cX11_span 21 = .ok (.ireturn, 1) := by decide +kernel
theorem dX11_span_22 : decode cX11_span 22 = .ok (.aload_n 0, 1) := by decide +kernel
theorem dX11_span_23 : decode cX11_span 23 = .ok (.iload_n 1, 1) := by decide +kernel
theorem dX11_span_24 : decode cX11_span 24 = .ok (.invokevirtual 208, 3) := by decide +kernel
theorem dX11_span_27 : decode cX11_span 27 = .ok (.ireturn, 1) := by decide +kernel
theorem dX11_person_0 : decode cX11_person 0 = .ok (.aload_n 0, 1) := by decide +kernel
theorem dX11_person_1 : decode cX11_person 1 = .ok (.iload_n 1, 1) := by decide +kernel
theorem dX11_person_2 : decode cX11_person 2 = .ok (.aload_n 0, 1) := by decide +kernel
theorem dX11_person_3 : decode cX11_person 3 = .ok (.getfield 60, 3) := by decide +kernel
theorem dX11_person_6 : decode cX11_person 6 = .ok (.invokevirtual 211, 3) := by decide +kernel
theorem dX11_person_9 : decode cX11_person 9 = .ok (.istore_n 2, 1) := by decide +kernel
theorem dX11_person_10 : decode cX11_person 10 = .ok (.iload_n 2, 1) := by decide +kernel
theorem dX11_person_11 : decode cX11_person 11 = .ok (.ifCond .eq 5, 3) := by decide +kernel
theorem dX11_person_14 : decode cX11_person 14 = .ok (.iload_n 2, 1) := by decide +kernel
theorem dX11_person_15 : decode cX11_person 15 = .ok (.ireturn, 1) := by decide +kernel
theorem dX11_person_16 : decode cX11_person 16 = .ok (.aload_n 0, 1) := by decide +kernel
theorem dX11_person_17 : decode cX11_person 17 = .ok (.getfield 60, 3) := by decide +kernel
theorem dX11_person_20 : decode cX11_person 20 = .ok (.iload_n 1, 1) := by decide +kernel
theorem dX11_person_21 : decode cX11_person 21 = .ok (.invokevirtual 126, 3) := by decide +kernel
theorem dX11_person_24 : decode cX11_person 24 = .ok (.aload_n 0, 1) := by decide +kernel
theorem dX11_person_25 : decode cX11_person 25 = .ok (.getfield 60, 3) := by decide +kernel
theorem dX11_person_28 : decode cX11_person 28 = .ok (.invokevirtual 154, 3) := by decide +kernel
theorem dX11_person_31 : decode cX11_person 31 = .ok (.iconst 1, 1) := by decide +kernel
theorem dX11_person_32 : decode cX11_person 32 = .ok (.isub, 1) := by decide +kernel
theorem dX11_person_33 : decode cX11_person 33 = .ok (.ireturn, 1) := by decide +kernel
theorem dX11_gate_0 : decode cX11_gate 0 = .ok (.aload_n 0, 1) := by decide +kernel
theorem dX11_gate_1 : decode cX11_gate 1 = .ok (.invokevirtual 89, 3) := by decide +kernel
theorem dX11_gate_4 : decode cX11_gate 4 = .ok (.ifCond .eq 10, 3) := by decide +kernel
theorem dX11_gate_7 : decode cX11_gate 7 = .ok (.aload_n 0, 1) := by decide +kernel
theorem dX11_gate_8 : decode cX11_gate 8 = .ok (.invokevirtual 215, 3) := by decide +kernel
theorem dX11_gate_11 : decode cX11_gate 11 = .ok (.goto 5, 3) := by decide +kernel
theorem dX11_gate_14 : decode cX11_gate 14 = .ok (.bipush (-103), 2) := by decide +kernel
theorem dX11_gate_16 : decode cX11_gate 16 = .ok (.ireturn, 1) := by decide +kernel
theorem dX11_heap_0 : decode cX11_heap 0 = .ok (.aload_n 0, 1) := by decide +kernel
theorem dX11_heap_1 : decode cX11_heap 1 = .ok (.iload_n 1, 1) := by decide +kernel
theorem dX11_heap_2 : decode cX11_heap 2 = .ok (.aload_n 0, 1) := by decide +kernel
theorem dX11_heap_3 : decode cX11_heap 3 = .ok (.getfield 63, 3) := by decide +kernel
theorem dX11_heap_6 : decode cX11_heap 6 = .ok (.invokevirtual 211, 3) := by decide +kernel
theorem dX11_heap_9 : decode cX11_heap 9 = .ok (.istore_n 2, 1) := by decide +kernel
theorem dX11_heap_10 : decode cX11_heap 10 = .ok (.iload_n 2, 1) := by decide +kernel
theorem dX11_heap_11 : decode cX11_heap 11 = .ok (.ifCond .eq 5, 3) := by decide +kernel
theorem dX11_heap_14 : decode cX11_heap 14 = .ok (.iload_n 2, 1) := by decide +kernel
theorem dX11_heap_15 : decode cX11_heap 15 = .ok (.ireturn, 1) := by decide +kernel
theorem dX11_heap_16 : decode cX11_heap 16 = .ok (.aload_n 0, 1) := by decide +kernel
theorem dX11_heap_17 : decode cX11_heap 17 = .ok (.getfield 63, 3) := by decide +kernel
theorem dX11_heap_20 : decode cX11_heap 20 = .ok (.iload_n 1, 1) := by decide +kernel
theorem dX11_heap_21 : decode cX11_heap 21 = .ok (.invokevirtual 126, 3) := by decide +kernel
theorem dX11_heap_24 : decode cX11_heap 24 = .ok (.aload_n 0, 1) := by decide +kernel
theorem dX11_heap_25 : decode cX11_heap 25 = .ok (.getfield 63, 3) := by decide +kernel
theorem dX11_heap_28 : decode cX11_heap 28 = .ok (.invokevirtual 154, 3) := by decide +kernel
theorem dX11_heap_31 : decode cX11_heap 31 = .ok (.ireturn, 1) := by decide +kernel
theorem dX11_order_0 : decode cX11_order 0 = .ok (.aload_n 0, 1) := by decide +kernel
theorem dX11_order_1 : decode cX11_order 1 = .ok (.invokevirtual 89, 3) := by decide +kernel
theorem dX11_order_4 : decode cX11_order 4 = .ok (.ifCond .ne 6, 3) := by decide +kernel
theorem dX11_order_7 : decode cX11_order 7 = .ok (.bipush (-103), 2) := by decide +kernel
theorem dX11_order_9 : decode cX11_order 9 = .ok (.ireturn, 1) := by decide +kernel
theorem dX11_order_10 : decode cX11_order 10 = .ok (.iload_n 1, 1) := by decide +kernel
theorem dX11_order_11 : decode cX11_order 11 = .ok (.ifCond .eq 18, 3) := by decide +kernel
theorem dX11_order_14 : decode cX11_order 14 = .ok (.iload_n 1, 1) := by decide +kernel
theorem dX11_order_15 : decode cX11_order 15 = .ok (.bipush 10, 2) := by decide +kernel
theorem dX11_order_17 : decode cX11_order 17 = .ok (.if_icmp .lt 9, 3) := by decide +kernel
theorem dX11_order_20 : decode cX11_order 20 = .ok (.iload_n 1, 1) := by decide +kernel
theorem dX11_order_21 : decode cX11_order 21 = .ok (.bipush 16, 2) := by decide +kernel
theorem dX11_order_23 : decode cX11_order 23 = .ok (.if_icmp .lt 6, 3) := by decide +kernel
theorem dX11_order_26 : decode cX11_order 26 = .ok (.bipush (-102), 2) := by decide +kernel
theorem dX11_order_28 : decode cX11_order 28 = .ok (.ireturn, 1) := by decide +kernel
theorem dX11_order_29 : decode cX11_order 29 = .ok (.aload_n 0, 1) := by decide +kernel
theorem dX11_order_30 : decode cX11_order 30 = .ok (.getfield 44, 3) := by decide +kernel
theorem dX11_order_33 : decode cX11_order 33 = .ok (.aload_n 0, 1) := by decide +kernel
theorem dX11_order_34 : decode cX11_order 34 = .ok (.getfield 63, 3) := by decide +kernel
theorem dX11_order_37 : decode cX11_order 37 = .ok (.invokevirtual 218, 3) := by decide +kernel
theorem dX11_order_40 : decode cX11_order 40 = .ok (.iload_n 1, 1) := by decide +kernel
theorem dX11_order_41 : decode cX11_order 41 = .ok (.ifCond .ne 13, 3) := by decide +kernel
theorem dX11_order_44 : decode cX11_order 44 = .ok (.aload_n 0, 1) := by decide +kernel
theorem dX11_order_45 : decode cX11_order 45 = .ok (.getfield 44, 3) := by decide +kernel
theorem dX11_order_48 : decode cX11_order 48 = .ok (.invokevirtual 222, 3) := by decide +kernel
theorem dX11_order_51 : decode cX11_order 51 = .ok (.goto 14, 3) := by decide +kernel
theorem dX11_order_54 : decode cX11_order 54 = .ok (.aload_n 0, 1) := by decide +kernel
theorem dX11_order_55 : decode cX11_order 55 = .ok (.getfield 44, 3) := by decide +kernel
theorem dX11_order_58 : decode cX11_order 58 = .ok (.iload_n 1, 1) := by decide +kernel
theorem dX11_order_59 : decode cX11_order 59 = .ok (.bipush 10, 2) := by decide +kernel
theorem dX11_order_61 : decode cX11_order 61 = .ok (.isub, 1) := by decide +kernel
theorem dX11_order_62 : decode cX11_order 62 = .ok (.invokevirtual 225, 3) := by decide +kernel
theorem dX11_order_65 : decode cX11_order 65 = .ok (.ireturn, 1) := by decide +kernel
theorem dX11_image_0 : decode cX11_image 0 = .ok (.aload_n 0, 1) := by decide +kernel
theorem dX11_image_1 : decode cX11_image 1 = .ok (.invokevirtual 89, 3) := by decide +kernel
theorem dX11_image_4 : decode cX11_image 4 = .ok (.ifCond .ne 6, 3) := by decide +kernel
theorem dX11_image_7 : decode cX11_image 7 = .ok (.bipush (-103), 2) := by decide +kernel
theorem dX11_image_9 : decode cX11_image 9 = .ok (.ireturn, 1) := by decide +kernel
theorem dX11_image_10 : decode cX11_image 10 = .ok (.aload_n 0, 1) := by decide +kernel
theorem dX11_image_11 : decode cX11_image 11 = .ok (.aload_n 0, 1) := by decide +kernel
theorem dX11_image_12 : decode cX11_image 12 = .ok (.getfield 66, 3) := by decide +kernel
theorem dX11_image_15 : decode cX11_image 15 = .ok (.putfield 73, 3) := by decide +kernel
theorem dX11_image_18 : decode cX11_image 18 = .ok (.aload_n 0, 1) := by decide +kernel
theorem dX11_image_19 : decode cX11_image 19 = .ok (.aload_n 0, 1) := by decide +kernel
theorem dX11_image_20 : decode cX11_image 20 = .ok (.getfield 57, 3) := by decide +kernel
theorem dX11_image_23 : decode cX11_image 23 = .ok (.invokevirtual 154, 3) := by decide +kernel
theorem dX11_image_26 : decode cX11_image 26 = .ok (.putfield 76, 3) := by decide +kernel
theorem dX11_image_29 : decode cX11_image 29 = .ok (.aload_n 0, 1) := by decide +kernel
theorem dX11_image_30 : decode cX11_image 30 = .ok (.aload_n 0, 1) := by decide +kernel
theorem dX11_image_31 : decode cX11_image 31 = .ok (.getfield 60, 3) := by decide +kernel
theorem dX11_image_34 : decode cX11_image 34 = .ok (.invokevirtual 154, 3) := by decide +kernel
theorem dX11_image_37 : decode cX11_image 37 = .ok (.putfield 79, 3) := by decide +kernel
theorem dX11_image_40 : decode cX11_image 40 = .ok (.aload_n 0, 1) := by decide +kernel
theorem dX11_image_41 : decode cX11_image 41 = .ok (.aload_n 0, 1) := by decide +kernel
theorem dX11_image_42 : decode cX11_image 42 = .ok (.getfield 63, 3) := by decide +kernel
theorem dX11_image_45 : decode cX11_image 45 = .ok (.invokevirtual 154, 3) := by decide +kernel
theorem dX11_image_48 : decode cX11_image 48 = .ok (.putfield 82, 3) := by decide +kernel
theorem dX11_image_51 : decode cX11_image 51 = .ok (.aload_n 0, 1) := by decide +kernel
theorem dX11_image_52 : decode cX11_image 52 = .ok (.getfield 76, 3) := by decide +kernel
theorem dX11_image_55 : decode cX11_image 55 = .ok (.ireturn, 1) := by decide +kernel
theorem dX11_restore_0 : decode cX11_restore 0 = .ok (.aload_n 0, 1) := by decide +kernel
theorem dX11_restore_1 : decode cX11_restore 1 = .ok (.getfield 76, 3) := by decide +kernel
theorem dX11_restore_4 : decode cX11_restore 4 = .ok (.ifCond .ne 6, 3) := by decide +kernel
theorem dX11_restore_7 : decode cX11_restore 7 = .ok (.bipush (-103), 2) := by decide +kernel
theorem dX11_restore_9 : decode cX11_restore 9 = .ok (.ireturn, 1) := by decide +kernel
theorem dX11_restore_10 : decode cX11_restore 10 = .ok (.aload_n 0, 1) := by decide +kernel
theorem dX11_restore_11 : decode cX11_restore 11 = .ok (.aload_n 0, 1) := by decide +kernel
theorem dX11_restore_12 : decode cX11_restore 12 = .ok (.getfield 73, 3) := by decide +kernel
theorem dX11_restore_15 : decode cX11_restore 15 = .ok (.putfield 66, 3) := by decide +kernel
theorem dX11_restore_18 : decode cX11_restore 18 = .ok (.aload_n 0, 1) := by decide +kernel
theorem dX11_restore_19 : decode cX11_restore 19 = .ok (.getfield 57, 3) := by decide +kernel
theorem dX11_restore_22 : decode cX11_restore 22 = .ok (.aload_n 0, 1) := by decide +kernel
theorem dX11_restore_23 : decode cX11_restore 23 = .ok (.getfield 76, 3) := by decide +kernel
theorem dX11_restore_26 : decode cX11_restore 26 = .ok (.invokevirtual 159, 3) := by decide +kernel
theorem dX11_restore_29 : decode cX11_restore 29 = .ok (.aload_n 0, 1) := by decide +kernel
theorem dX11_restore_30 : decode cX11_restore 30 = .ok (.getfield 60, 3) := by decide +kernel
theorem dX11_restore_33 : decode cX11_restore 33 = .ok (.aload_n 0, 1) := by decide +kernel
theorem dX11_restore_34 : decode cX11_restore 34 = .ok (.getfield 79, 3) := by decide +kernel
theorem dX11_restore_37 : decode cX11_restore 37 = .ok (.invokevirtual 159, 3) := by decide +kernel
theorem dX11_restore_40 : decode cX11_restore 40 = .ok (.aload_n 0, 1) := by decide +kernel
theorem dX11_restore_41 : decode cX11_restore 41 = .ok (.getfield 63, 3) := by decide +kernel
theorem dX11_restore_44 : decode cX11_restore 44 = .ok (.aload_n 0, 1) := by decide +kernel
theorem dX11_restore_45 : decode cX11_restore 45 = .ok (.getfield 82, 3) := by decide +kernel
theorem dX11_restore_48 : decode cX11_restore 48 = .ok (.invokevirtual 159, 3) := by decide +kernel
theorem dX11_restore_51 : decode cX11_restore 51 = .ok (.aload_n 0, 1) := by decide +kernel
theorem dX11_restore_52 : decode cX11_restore 52 = .ok (.getfield 76, 3) := by decide +kernel
theorem dX11_restore_55 : decode cX11_restore 55 = .ok (.ireturn, 1) := by decide +kernel
theorem dX11_count_0 : decode cX11_count 0 = .ok (.iload_n 1, 1) := by decide +kernel
theorem dX11_count_1 : decode cX11_count 1 = .ok (.ifCond .lt 9, 3) := by decide +kernel
theorem dX11_count_4 : decode cX11_count 4 = .ok (.iload_n 1, 1) := by decide +kernel
theorem dX11_count_5 : decode cX11_count 5 = .ok (.bipush 8, 2) := by decide +kernel
theorem dX11_count_7 : decode cX11_count 7 = .ok (.if_icmp .lt 8, 3) := by decide +kernel
theorem dX11_count_10 : decode cX11_count 10 = .ok (.bipush (-102), 2) := by decide +kernel
theorem dX11_count_12 : decode cX11_count 12 = .ok (.goto 8, 3) := by decide +kernel
theorem dX11_count_15 : decode cX11_count 15 = .ok (.aload_n 0, 1) := by decide +kernel
theorem dX11_count_16 : decode cX11_count 16 = .ok (.iload_n 1, 1) := by decide +kernel
theorem dX11_count_17 : decode cX11_count 17 = .ok (.invokevirtual 228, 3) := by decide +kernel
theorem dX11_count_20 : decode cX11_count 20 = .ok (.ireturn, 1) := by decide +kernel
theorem dX11_digest_0 : decode cX11_digest 0 = .ok (.ldc2_w 231, 3) := by decide +kernel
theorem dX11_digest_3 : decode cX11_digest 3 = .ok (.lstore_n 1, 1) := by decide +kernel
theorem dX11_digest_4 : decode cX11_digest 4 = .ok (.iconst 0, 1) := by decide +kernel
theorem dX11_digest_5 : decode cX11_digest 5 = .ok (.istore_n 3, 1) := by decide +kernel
theorem dX11_digest_6 : decode cX11_digest 6 = .ok (.iload_n 3, 1) := by decide +kernel
theorem dX11_digest_7 : decode cX11_digest 7 = .ok (.aload_n 0, 1) := by decide +kernel
theorem dX11_digest_8 : decode cX11_digest 8 = .ok (.getfield 12, 3) := by decide +kernel
theorem dX11_digest_11 : decode cX11_digest 11 = .ok (.invokevirtual 122, 3) := by decide +kernel
theorem dX11_digest_14 : decode cX11_digest 14 = .ok (.if_icmp .ge 39, 3) := by decide +kernel
theorem dX11_digest_17 : decode cX11_digest 17 = .ok (.iconst 0, 1) := by decide +kernel
theorem dX11_digest_18 : decode cX11_digest 18 = .ok (.istore 4, 2) := by decide +kernel
theorem dX11_digest_20 : decode cX11_digest 20 = .ok (.iload 4, 2) := by decide +kernel
theorem dX11_digest_22 : decode cX11_digest 22 = .ok (.iconst 3, 1) := by decide +kernel
theorem dX11_digest_23 : decode cX11_digest 23 = .ok (.if_icmp .ge 24, 3) := by decide +kernel
theorem dX11_digest_26 : decode cX11_digest 26 = .ok (.ldc2_w 233, 3) := by decide +kernel
theorem dX11_digest_29 : decode cX11_digest 29 = .ok (.lload_n 1, 1) := by decide +kernel
theorem dX11_digest_30 : decode cX11_digest 30 = .ok (.lmul, 1) := by decide +kernel
theorem dX11_digest_31 : decode cX11_digest 31 = .ok (.aload_n 0, 1) := by decide +kernel
theorem dX11_digest_32 : decode cX11_digest 32 = .ok (.iload_n 3, 1) := by decide +kernel
theorem dX11_digest_33 : decode cX11_digest 33 = .ok (.iload 4, 2) := by decide +kernel
theorem dX11_digest_35 : decode cX11_digest 35 = .ok (.invokevirtual 111, 3) := by decide +kernel
theorem dX11_digest_38 : decode cX11_digest 38 = .ok (.i2l, 1) := by decide +kernel
theorem dX11_digest_39 : decode cX11_digest 39 = .ok (.ladd, 1) := by decide +kernel
theorem dX11_digest_40 : decode cX11_digest 40 = .ok (.lstore_n 1, 1) := by decide +kernel
theorem dX11_digest_41 : decode cX11_digest 41 = .ok (.iinc 4 1, 3) := by decide +kernel
theorem dX11_digest_44 : decode cX11_digest 44 = .ok (.goto (-24), 3) := by decide +kernel
theorem dX11_digest_47 : decode cX11_digest 47 = .ok (.iinc 3 1, 3) := by decide +kernel
theorem dX11_digest_50 : decode cX11_digest 50 = .ok (.goto (-44), 3) := by decide +kernel
theorem dX11_digest_53 : decode cX11_digest 53 = .ok (.lload_n 1, 1) := by decide +kernel
theorem dX11_digest_54 : decode cX11_digest 54 = .ok (.aload_n 0, 1) := by decide +kernel
theorem dX11_digest_55 : decode cX11_digest 55 = .ok (.getfield 57, 3) := by decide +kernel
theorem dX11_digest_58 : decode cX11_digest 58 = .ok (.invokestatic 235, 3) := by decide +kernel
theorem dX11_digest_61 : decode cX11_digest 61 = .ok (.lstore_n 1, 1) := by decide +kernel
theorem dX11_digest_62 : decode cX11_digest 62 = .ok (.iconst 0, 1) := by decide +kernel
theorem dX11_digest_63 : decode cX11_digest 63 = .ok (.istore_n 3, 1) := by decide +kernel
theorem dX11_digest_64 : decode cX11_digest 64 = .ok (.iload_n 3, 1) := by decide +kernel
theorem dX11_digest_65 : decode cX11_digest 65 = .ok (.aload_n 0, 1) := by decide +kernel
theorem dX11_digest_66 : decode cX11_digest 66 = .ok (.getfield 21, 3) := by decide +kernel
theorem dX11_digest_69 : decode cX11_digest 69 = .ok (.invokevirtual 239, 3) := by decide +kernel
theorem dX11_digest_72 : decode cX11_digest 72 = .ok (.if_icmp .ge 43, 3) := by decide +kernel
theorem dX11_digest_75 : decode cX11_digest 75 = .ok (.iconst 0, 1) := by decide +kernel
theorem dX11_digest_76 : decode cX11_digest 76 = .ok (.istore 4, 2) := by decide +kernel
theorem dX11_digest_78 : decode cX11_digest 78 = .ok (.iload 4, 2) := by decide +kernel
theorem dX11_digest_80 : decode cX11_digest 80 = .ok (.bipush 6, 2) := by decide +kernel
theorem dX11_digest_82 : decode cX11_digest 82 = .ok (.if_icmp .ge 27, 3) := by decide +kernel
theorem dX11_digest_85 : decode cX11_digest 85 = .ok (.ldc2_w 233, 3) := by decide +kernel
theorem dX11_digest_88 : decode cX11_digest 88 = .ok (.lload_n 1, 1) := by decide +kernel
theorem dX11_digest_89 : decode cX11_digest 89 = .ok (.lmul, 1) := by decide +kernel
theorem dX11_digest_90 : decode cX11_digest 90 = .ok (.aload_n 0, 1) := by decide +kernel
theorem dX11_digest_91 : decode cX11_digest 91 = .ok (.getfield 21, 3) := by decide +kernel
theorem dX11_digest_94 : decode cX11_digest 94 = .ok (.iload_n 3, 1) := by decide +kernel
theorem dX11_digest_95 : decode cX11_digest 95 = .ok (.iload 4, 2) := by decide +kernel
theorem dX11_digest_97 : decode cX11_digest 97 = .ok (.invokevirtual 175, 3) := by decide +kernel
theorem dX11_digest_100 : decode cX11_digest 100 = .ok (.i2l, 1) := by decide +kernel
theorem dX11_digest_101 : decode cX11_digest 101 = .ok (.ladd, 1) := by decide +kernel
theorem dX11_digest_102 : decode cX11_digest 102 = .ok (.lstore_n 1, 1) := by decide +kernel
theorem dX11_digest_103 : decode cX11_digest 103 = .ok (.iinc 4 1, 3) := by decide +kernel
theorem dX11_digest_106 : decode cX11_digest 106 = .ok (.goto (-28), 3) := by decide +kernel
theorem dX11_digest_109 : decode cX11_digest 109 = .ok (.iinc 3 1, 3) := by decide +kernel
theorem dX11_digest_112 : decode cX11_digest 112 = .ok (.goto (-48), 3) := by decide +kernel
theorem dX11_digest_115 : decode cX11_digest 115 = .ok (.aload_n 0, 1) := by decide +kernel
theorem dX11_digest_116 : decode cX11_digest 116 = .ok (.invokevirtual 89, 3) := by decide +kernel
theorem dX11_digest_119 : decode cX11_digest 119 = .ok (.ifCond .eq 9, 3) := by decide +kernel
theorem dX11_digest_122 : decode cX11_digest 122 = .ok (.aload_n 0, 1) := by decide +kernel
theorem dX11_digest_123 : decode cX11_digest 123 = .ok (.lload_n 1, 1) := by decide +kernel
theorem dX11_digest_124 : decode cX11_digest 124 = .ok (.invokevirtual 240, 3) := by decide +kernel
theorem dX11_digest_127 : decode cX11_digest 127 = .ok (.lstore_n 1, 1) := by decide +kernel
theorem dX11_digest_128 : decode cX11_digest 128 = .ok (.lload_n 1, 1) := by decide +kernel
theorem dX11_digest_129 : decode cX11_digest 129 = .ok (.aload_n 0, 1) := by decide +kernel
theorem dX11_digest_130 : decode cX11_digest 130 = .ok (.getfield 53, 3) := by decide +kernel
theorem dX11_digest_133 : decode cX11_digest 133 = .ok (.invokestatic 235, 3) := by decide +kernel
theorem dX11_digest_136 : decode cX11_digest 136 = .ok (.lstore_n 1, 1) := by decide +kernel
theorem dX11_digest_137 : decode cX11_digest 137 = .ok (.iconst 0, 1) := by decide +kernel
theorem dX11_digest_138 : decode cX11_digest 138 = .ok (.istore_n 3, 1) := by decide +kernel
theorem dX11_digest_139 : decode cX11_digest 139 = .ok (.iload_n 3, 1) := by decide +kernel
theorem dX11_digest_140 : decode cX11_digest 140 = .ok (.bipush 8, 2) := by decide +kernel
theorem dX11_digest_142 : decode cX11_digest 142 = .ok (.if_icmp .ge 22, 3) := by decide +kernel
theorem dX11_digest_145 : decode cX11_digest 145 = .ok (.ldc2_w 233, 3) := by decide +kernel
theorem dX11_digest_148 : decode cX11_digest 148 = .ok (.lload_n 1, 1) := by decide +kernel
theorem dX11_digest_149 : decode cX11_digest 149 = .ok (.lmul, 1) := by decide +kernel
theorem dX11_digest_150 : decode cX11_digest 150 = .ok (.aload_n 0, 1) := by decide +kernel
theorem dX11_digest_151 : decode cX11_digest 151 = .ok (.iload_n 3, 1) := by decide +kernel
theorem dX11_digest_152 : decode cX11_digest 152 = .ok (.invokevirtual 228, 3) := by decide +kernel
theorem dX11_digest_155 : decode cX11_digest 155 = .ok (.i2l, 1) := by decide +kernel
theorem dX11_digest_156 : decode cX11_digest 156 = .ok (.ladd, 1) := by decide +kernel
theorem dX11_digest_157 : decode cX11_digest 157 = .ok (.lstore_n 1, 1) := by decide +kernel
theorem dX11_digest_158 : decode cX11_digest 158 = .ok (.iinc 3 1, 3) := by decide +kernel
theorem dX11_digest_161 : decode cX11_digest 161 = .ok (.goto (-22), 3) := by decide +kernel
theorem dX11_digest_164 : decode cX11_digest 164 = .ok (.lload_n 1, 1) := by decide +kernel
theorem dX11_digest_165 : decode cX11_digest 165 = .ok (.lreturn, 1) := by decide +kernel
theorem dX11_hasLine_0 : decode cX11_hasLine 0 = .ok (.aload_n 0, 1) := by decide +kernel
theorem dX11_hasLine_1 : decode cX11_hasLine 1 = .ok (.getfield 57, 3) := by decide +kernel
theorem dX11_hasLine_4 : decode cX11_hasLine 4 = .ok (.invokevirtual 154, 3) := by decide +kernel
theorem dX11_hasLine_7 : decode cX11_hasLine 7 = .ok (.ifCond .le 7, 3) := by decide +kernel
theorem dX11_hasLine_10 : decode cX11_hasLine 10 = .ok (.iconst 1, 1) := by decide +kernel
theorem dX11_hasLine_11 : decode cX11_hasLine 11 = .ok (.goto 4, 3) := by decide +kernel
theorem dX11_hasLine_14 : decode cX11_hasLine 14 = .ok (.iconst 0, 1) := by decide +kernel
theorem dX11_hasLine_15 : decode cX11_hasLine 15 = .ok (.ireturn, 1) := by decide +kernel
theorem dX11_isKind_0 : decode cX11_isKind 0 = .ok (.iload_n 0, 1) := by decide +kernel
theorem dX11_isKind_1 : decode cX11_isKind 1 = .ok (.ifCond .lt 12, 3) := by decide +kernel
theorem dX11_isKind_4 : decode cX11_isKind 4 = .ok (.iload_n 0, 1) := by decide +kernel
theorem dX11_isKind_5 : decode cX11_isKind 5 = .ok (.iconst 4, 1) := by decide +kernel
theorem dX11_isKind_6 : decode cX11_isKind 6 = .ok (.if_icmp .gt 7, 3) := by decide +kernel
theorem dX11_isKind_9 : decode cX11_isKind 9 = .ok (.iconst 1, 1) := by decide +kernel
theorem dX11_isKind_10 : decode cX11_isKind 10 = .ok (.goto 4, 3) := by decide +kernel
theorem dX11_isKind_13 : decode cX11_isKind 13 = .ok (.iconst 0, 1) := by decide +kernel
theorem dX11_isKind_14 : decode cX11_isKind 14 = .ok (.ireturn, 1) := by decide +kernel
theorem dX11_ofKind_0 : decode cX11_ofKind 0 = .ok (.iload_n 0, 1) := by decide +kernel
theorem dX11_ofKind_1 : decode cX11_ofKind 1 = .ok (.tableswitch 63 1 4 #[31, 39, 47, 55], 31) := by decide +kernel
theorem dX11_ofKind_32 : decode cX11_ofKind 32 = .ok (.new 244, 3) := by decide +kernel
theorem dX11_ofKind_35 : decode cX11_ofKind 35 = .ok (.dup, 1) := by decide +kernel
theorem dX11_ofKind_36 : decode cX11_ofKind 36 = .ok (.invokespecial 246, 3) := by decide +kernel
theorem dX11_ofKind_39 : decode cX11_ofKind 39 = .ok (.areturn, 1) := by decide +kernel
theorem dX11_ofKind_40 : decode cX11_ofKind 40 = .ok (.new 247, 3) := by decide +kernel
theorem dX11_ofKind_43 : decode cX11_ofKind 43 = .ok (.dup, 1) := by decide +kernel
theorem dX11_ofKind_44 : decode cX11_ofKind 44 = .ok (.invokespecial 249, 3) := by decide +kernel
theorem dX11_ofKind_47 : decode cX11_ofKind 47 = .ok (.areturn, 1) := by decide +kernel
theorem dX11_ofKind_48 : decode cX11_ofKind 48 = .ok (.new 250, 3) := by decide +kernel
theorem dX11_ofKind_51 : decode cX11_ofKind 51 = .ok (.dup, 1) := by decide +kernel
theorem dX11_ofKind_52 : decode cX11_ofKind 52 = .ok (.invokespecial 252, 3) := by decide +kernel
theorem dX11_ofKind_55 : decode cX11_ofKind 55 = .ok (.areturn, 1) := by decide +kernel
theorem dX11_ofKind_56 : decode cX11_ofKind 56 = .ok (.new 253, 3) := by decide +kernel
theorem dX11_ofKind_59 : decode cX11_ofKind 59 = .ok (.dup, 1) := by decide +kernel
theorem dX11_ofKind_60 : decode cX11_ofKind 60 = .ok (.invokespecial 255, 3) := by decide +kernel
theorem dX11_ofKind_63 : decode cX11_ofKind 63 = .ok (.areturn, 1) := by decide +kernel
theorem dX11_ofKind_64 : decode cX11_ofKind 64 = .ok (.new 256, 3) := by decide +kernel
theorem dX11_ofKind_67 : decode cX11_ofKind 67 = .ok (.dup, 1) := by decide +kernel
theorem dX11_ofKind_68 : decode cX11_ofKind 68 = .ok (.invokespecial 258, 3) := by decide +kernel
theorem dX11_ofKind_71 : decode cX11_ofKind 71 = .ok (.areturn, 1) := by decide +kernel
theorem dX11_isSuch_0 : decode cX11_isSuch 0 = .ok (.iload_n 1, 1) := by decide +kernel
theorem dX11_isSuch_1 : decode cX11_isSuch 1 = .ok (.tableswitch 51 1 4 #[31, 36, 41, 46], 31) := by decide +kernel
theorem dX11_isSuch_32 : decode cX11_isSuch 32 = .ok (.aload_n 0, 1) := by decide +kernel
theorem dX11_isSuch_33 : decode cX11_isSuch 33 = .ok (.instanceof 244, 3) := by decide +kernel
theorem dX11_isSuch_36 : decode cX11_isSuch 36 = .ok (.ireturn, 1) := by decide +kernel
theorem dX11_isSuch_37 : decode cX11_isSuch 37 = .ok (.aload_n 0, 1) := by decide +kernel
theorem dX11_isSuch_38 : decode cX11_isSuch 38 = .ok (.instanceof 247, 3) := by decide +kernel
theorem dX11_isSuch_41 : decode cX11_isSuch 41 = .ok (.ireturn, 1) := by decide +kernel
theorem dX11_isSuch_42 : decode cX11_isSuch 42 = .ok (.aload_n 0, 1) := by decide +kernel
theorem dX11_isSuch_43 : decode cX11_isSuch 43 = .ok (.instanceof 250, 3) := by decide +kernel
theorem dX11_isSuch_46 : decode cX11_isSuch 46 = .ok (.ireturn, 1) := by decide +kernel
theorem dX11_isSuch_47 : decode cX11_isSuch 47 = .ok (.aload_n 0, 1) := by decide +kernel
theorem dX11_isSuch_48 : decode cX11_isSuch 48 = .ok (.instanceof 253, 3) := by decide +kernel
theorem dX11_isSuch_51 : decode cX11_isSuch 51 = .ok (.ireturn, 1) := by decide +kernel
theorem dX11_isSuch_52 : decode cX11_isSuch 52 = .ok (.iconst 1, 1) := by decide +kernel
theorem dX11_isSuch_53 : decode cX11_isSuch 53 = .ok (.ireturn, 1) := by decide +kernel
theorem dX11_tellAbout_0 : decode cX11_tellAbout 0 = .ok (.iload_n 2, 1) := by decide +kernel
theorem dX11_tellAbout_1 : decode cX11_tellAbout 1 = .ok (.lookupswitch 48 #[(0, 27), (1, 39)], 27) := by decide +kernel
theorem dX11_tellAbout_28 : decode cX11_tellAbout 28 = .ok (.aload_n 0, 1) := by decide +kernel
theorem dX11_tellAbout_29 : decode cX11_tellAbout 29 = .ok (.getfield 12, 3) := by decide +kernel
theorem dX11_tellAbout_32 : decode cX11_tellAbout 32 = .ok (.iload_n 1, 1) := by decide +kernel
theorem dX11_tellAbout_33 : decode cX11_tellAbout 33 = .ok (.invokevirtual 115, 3) := by decide +kernel
theorem dX11_tellAbout_36 : decode cX11_tellAbout 36 = .ok (.invokevirtual 259, 3) := by decide +kernel
theorem dX11_tellAbout_39 : decode cX11_tellAbout 39 = .ok (.ireturn, 1) := by decide +kernel
theorem dX11_tellAbout_40 : decode cX11_tellAbout 40 = .ok (.aload_n 0, 1) := by decide +kernel
theorem dX11_tellAbout_41 : decode cX11_tellAbout 41 = .ok (.getfield 66, 3) := by decide +kernel
theorem dX11_tellAbout_44 : decode cX11_tellAbout 44 = .ok (.iload_n 1, 1) := by decide +kernel
theorem dX11_tellAbout_45 : decode cX11_tellAbout 45 = .ok (.invokestatic 262, 3) := by decide +kernel
theorem dX11_tellAbout_48 : decode cX11_tellAbout 48 = .ok (.ireturn, 1) := by decide +kernel
theorem dX11_tellAbout_49 : decode cX11_tellAbout 49 = .ok (.aload_n 0, 1) := by decide +kernel
theorem dX11_tellAbout_50 : decode cX11_tellAbout 50 = .ok (.invokevirtual 89, 3) := by decide +kernel
theorem dX11_tellAbout_53 : decode cX11_tellAbout 53 = .ok (.ifCond .eq 17, 3) := by decide +kernel
theorem dX11_tellAbout_56 : decode cX11_tellAbout 56 = .ok (.aload_n 0, 1) := by decide +kernel
theorem dX11_tellAbout_57 : decode cX11_tellAbout 57 = .ok (.getfield 57, 3) := by decide +kernel
theorem dX11_tellAbout_60 : decode cX11_tellAbout 60 = .ok (.invokevirtual 138, 3) := by decide +kernel
theorem dX11_tellAbout_63 : decode cX11_tellAbout 63 = .ok (.iload_n 1, 1) := by decide +kernel
theorem dX11_tellAbout_64 : decode cX11_tellAbout 64 = .ok (.invokestatic 262, 3) := by decide +kernel
theorem dX11_tellAbout_67 : decode cX11_tellAbout 67 = .ok (.goto 4, 3) := by decide +kernel
theorem dX11_tellAbout_70 : decode cX11_tellAbout 70 = .ok (.iconst (-1), 1) := by decide +kernel
theorem dX11_tellAbout_71 : decode cX11_tellAbout 71 = .ok (.ireturn, 1) := by decide +kernel
theorem dX11_refusalOf_0 : decode cX11_refusalOf 0 = .ok (.aload_n 0, 1) := by decide +kernel
theorem dX11_refusalOf_1 : decode cX11_refusalOf 1 = .ok (.invokevirtual 89, 3) := by decide +kernel
theorem dX11_refusalOf_4 : decode cX11_refusalOf 4 = .ok (.ifCond .ne 6, 3) := by decide +kernel
theorem dX11_refusalOf_7 : decode cX11_refusalOf 7 = .ok (.bipush (-103), 2) := by decide +kernel
theorem dX11_refusalOf_9 : decode cX11_refusalOf 9 = .ok (.ireturn, 1) := by decide +kernel
theorem dX11_refusalOf_10 : decode cX11_refusalOf 10 = .ok (.aload_n 0, 1) := by decide +kernel
theorem dX11_refusalOf_11 : decode cX11_refusalOf 11 = .ok (.getfield 12, 3) := by decide +kernel
theorem dX11_refusalOf_14 : decode cX11_refusalOf 14 = .ok (.iload_n 1, 1) := by decide +kernel
theorem dX11_refusalOf_15 : decode cX11_refusalOf 15 = .ok (.invokevirtual 128, 3) := by decide +kernel
theorem dX11_refusalOf_18 : decode cX11_refusalOf 18 = .ok (.ifCond .ne 6, 3) := by decide +kernel
theorem dX11_refusalOf_21 : decode cX11_refusalOf 21 = .ok (.bipush (-102), 2) := by decide +kernel
theorem dX11_refusalOf_23 : decode cX11_refusalOf 23 = .ok (.ireturn, 1) := by decide +kernel
theorem dX11_refusalOf_24 : decode cX11_refusalOf 24 = .ok (.aload_n 2, 1) := by decide +kernel
theorem dX11_refusalOf_25 : decode cX11_refusalOf 25 = .ok (.invokevirtual 145, 3) := by decide +kernel
theorem dX11_refusalOf_28 : decode cX11_refusalOf 28 = .ok (.ifCond .eq 8, 3) := by decide +kernel
theorem dX11_refusalOf_31 : decode cX11_refusalOf 31 = .ok (.bipush (-104), 2) := by decide +kernel
theorem dX11_refusalOf_33 : decode cX11_refusalOf 33 = .ok (.goto 4, 3) := by decide +kernel
theorem dX11_refusalOf_36 : decode cX11_refusalOf 36 = .ok (.iconst 0, 1) := by decide +kernel
theorem dX11_refusalOf_37 : decode cX11_refusalOf 37 = .ok (.ireturn, 1) := by decide +kernel
theorem dX11_howMany_0 : decode cX11_howMany 0 = .ok (.iload_n 1, 1) := by decide +kernel
theorem dX11_howMany_1 : decode cX11_howMany 1 = .ok (.tableswitch 96 0 6 #[43, 51, 59, 67, 75, 83, 91], 43) := by decide +kernel
theorem dX11_howMany_44 : decode cX11_howMany 44 = .ok (.aload_n 0, 1) := by decide +kernel
theorem dX11_howMany_45 : decode cX11_howMany 45 = .ok (.getfield 12, 3) := by decide +kernel
theorem dX11_howMany_48 : decode cX11_howMany 48 = .ok (.invokevirtual 122, 3) := by decide +kernel
theorem dX11_howMany_51 : decode cX11_howMany 51 = .ok (.ireturn, 1) := by decide +kernel
theorem dX11_howMany_52 : decode cX11_howMany 52 = .ok (.aload_n 0, 1) := by decide +kernel
theorem dX11_howMany_53 : decode cX11_howMany 53 = .ok (.getfield 57, 3) := by decide +kernel
theorem dX11_howMany_56 : decode cX11_howMany 56 = .ok (.invokevirtual 154, 3) := by decide +kernel
theorem dX11_howMany_59 : decode cX11_howMany 59 = .ok (.ireturn, 1) := by decide +kernel
theorem dX11_howMany_60 : decode cX11_howMany 60 = .ok (.aload_n 0, 1) := by decide +kernel
theorem dX11_howMany_61 : decode cX11_howMany 61 = .ok (.getfield 21, 3) := by decide +kernel
theorem dX11_howMany_64 : decode cX11_howMany 64 = .ok (.invokevirtual 239, 3) := by decide +kernel
theorem dX11_howMany_67 : decode cX11_howMany 67 = .ok (.ireturn, 1) := by decide +kernel
theorem dX11_howMany_68 : decode cX11_howMany 68 = .ok (.aload_n 0, 1) := by decide +kernel
theorem dX11_howMany_69 : decode cX11_howMany 69 = .ok (.getfield 60, 3) := by decide +kernel
theorem dX11_howMany_72 : decode cX11_howMany 72 = .ok (.invokevirtual 154, 3) := by decide +kernel
theorem dX11_howMany_75 : decode cX11_howMany 75 = .ok (.ireturn, 1) := by decide +kernel
theorem dX11_howMany_76 : decode cX11_howMany 76 = .ok (.aload_n 0, 1) := by decide +kernel
theorem dX11_howMany_77 : decode cX11_howMany 77 = .ok (.getfield 63, 3) := by decide +kernel
theorem dX11_howMany_80 : decode cX11_howMany 80 = .ok (.invokevirtual 154, 3) := by decide +kernel
theorem dX11_howMany_83 : decode cX11_howMany 83 = .ok (.ireturn, 1) := by decide +kernel
theorem dX11_howMany_84 : decode cX11_howMany 84 = .ok (.aload_n 0, 1) := by decide +kernel
theorem dX11_howMany_85 : decode cX11_howMany 85 = .ok (.getfield 53, 3) := by decide +kernel
theorem dX11_howMany_88 : decode cX11_howMany 88 = .ok (.invokevirtual 154, 3) := by decide +kernel
theorem dX11_howMany_91 : decode cX11_howMany 91 = .ok (.ireturn, 1) := by decide +kernel
theorem dX11_howMany_92 : decode cX11_howMany 92 = .ok (.aload_n 0, 1) := by decide +kernel
theorem dX11_howMany_93 : decode cX11_howMany 93 = .ok (.getfield 70, 3) := by decide +kernel
theorem dX11_howMany_96 : decode cX11_howMany 96 = .ok (.ireturn, 1) := by decide +kernel
theorem dX11_howMany_97 : decode cX11_howMany 97 = .ok (.aload_n 0, 1) := by decide +kernel
theorem dX11_howMany_98 : decode cX11_howMany 98 = .ok (.invokevirtual 89, 3) := by decide +kernel
theorem dX11_howMany_101 : decode cX11_howMany 101 = .ok (.ifCond .eq 24, 3) := by decide +kernel
theorem dX11_howMany_104 : decode cX11_howMany 104 = .ok (.aload_n 0, 1) := by decide +kernel
theorem dX11_howMany_105 : decode cX11_howMany 105 = .ok (.getfield 12, 3) := by decide +kernel
theorem dX11_howMany_108 : decode cX11_howMany 108 = .ok (.aload_n 0, 1) := by decide +kernel
theorem dX11_howMany_109 : decode cX11_howMany 109 = .ok (.getfield 66, 3) := by decide +kernel
theorem dX11_howMany_112 : decode cX11_howMany 112 = .ok (.aload_n 0, 1) := by decide +kernel
theorem dX11_howMany_113 : decode cX11_howMany 113 = .ok (.getfield 57, 3) := by decide +kernel
theorem dX11_howMany_116 : decode cX11_howMany 116 = .ok (.invokevirtual 138, 3) := by decide +kernel
theorem dX11_howMany_119 : decode cX11_howMany 119 = .ok (.invokevirtual 131, 3) := by decide +kernel
theorem dX11_howMany_122 : decode cX11_howMany 122 = .ok (.goto 4, 3) := by decide +kernel
theorem dX11_howMany_125 : decode cX11_howMany 125 = .ok (.iconst 0, 1) := by decide +kernel
theorem dX11_howMany_126 : decode cX11_howMany 126 = .ok (.ireturn, 1) := by decide +kernel
theorem dX11_withRow_0 : decode cX11_withRow 0 = .ok (.iconst 0, 1) := by decide +kernel
theorem dX11_withRow_1 : decode cX11_withRow 1 = .ok (.istore_n 3, 1) := by decide +kernel
theorem dX11_withRow_2 : decode cX11_withRow 2 = .ok (.iload_n 3, 1) := by decide +kernel
theorem dX11_withRow_3 : decode cX11_withRow 3 = .ok (.aload_n 2, 1) := by decide +kernel
theorem dX11_withRow_4 : decode cX11_withRow 4 = .ok (.invokevirtual 154, 3) := by decide +kernel
theorem dX11_withRow_7 : decode cX11_withRow 7 = .ok (.if_icmp .ge 22, 3) := by decide +kernel
theorem dX11_withRow_10 : decode cX11_withRow 10 = .ok (.ldc2_w 233, 3) := by decide +kernel
theorem dX11_withRow_13 : decode cX11_withRow 13 = .ok (.lload_n 0, 1) := by decide +kernel
theorem dX11_withRow_14 : decode cX11_withRow 14 = .ok (.lmul, 1) := by decide +kernel
theorem dX11_withRow_15 : decode cX11_withRow 15 = .ok (.aload_n 2, 1) := by decide +kernel
theorem dX11_withRow_16 : decode cX11_withRow 16 = .ok (.iload_n 3, 1) := by decide +kernel
theorem dX11_withRow_17 : decode cX11_withRow 17 = .ok (.invokevirtual 147, 3) := by decide +kernel
theorem dX11_withRow_20 : decode cX11_withRow 20 = .ok (.i2l, 1) := by decide +kernel
theorem dX11_withRow_21 : decode cX11_withRow 21 = .ok (.ladd, 1) := by decide +kernel
theorem dX11_withRow_22 : decode cX11_withRow 22 = .ok (.lstore_n 0, 1) := by decide +kernel
theorem dX11_withRow_23 : decode cX11_withRow 23 = .ok (.iinc 3 1, 3) := by decide +kernel
theorem dX11_withRow_26 : decode cX11_withRow 26 = .ok (.goto (-24), 3) := by decide +kernel
theorem dX11_withRow_29 : decode cX11_withRow 29 = .ok (.lload_n 0, 1) := by decide +kernel
theorem dX11_withRow_30 : decode cX11_withRow 30 = .ok (.lreturn, 1) := by decide +kernel
theorem dX11_withFindings_0 : decode cX11_withFindings 0 = .ok (.ldc2_w 233, 3) := by decide +kernel
theorem dX11_withFindings_3 : decode cX11_withFindings 3 = .ok (.lload_n 1, 1) := by decide +kernel
theorem dX11_withFindings_4 : decode cX11_withFindings 4 = .ok (.lmul, 1) := by decide +kernel
theorem dX11_withFindings_5 : decode cX11_withFindings 5 = .ok (.aload_n 0, 1) := by decide +kernel
theorem dX11_withFindings_6 : decode cX11_withFindings 6 = .ok (.invokevirtual 186, 3) := by decide +kernel
theorem dX11_withFindings_9 : decode cX11_withFindings 9 = .ok (.i2l, 1) := by decide +kernel
theorem dX11_withFindings_10 : decode cX11_withFindings 10 = .ok (.ladd, 1) := by decide +kernel
theorem dX11_withFindings_11 : decode cX11_withFindings 11 = .ok (.lstore_n 1, 1) := by decide +kernel
theorem dX11_withFindings_12 : decode cX11_withFindings 12 = .ok (.ldc2_w 233, 3) := by decide +kernel
theorem dX11_withFindings_15 : decode cX11_withFindings 15 = .ok (.lload_n 1, 1) := by decide +kernel
theorem dX11_withFindings_16 : decode cX11_withFindings 16 = .ok (.lmul, 1) := by decide +kernel
theorem dX11_withFindings_17 : decode cX11_withFindings 17 = .ok (.aload_n 0, 1) := by decide +kernel
theorem dX11_withFindings_18 : decode cX11_withFindings 18 = .ok (.invokevirtual 215, 3) := by decide +kernel
theorem dX11_withFindings_21 : decode cX11_withFindings 21 = .ok (.i2l, 1) := by decide +kernel
theorem dX11_withFindings_22 : decode cX11_withFindings 22 = .ok (.ladd, 1) := by decide +kernel
theorem dX11_withFindings_23 : decode cX11_withFindings 23 = .ok (.lstore_n 1, 1) := by decide +kernel
theorem dX11_withFindings_24 : decode cX11_withFindings 24 = .ok (.aload_n 0, 1) := by decide +kernel
theorem dX11_withFindings_25 : decode cX11_withFindings 25 = .ok (.getfield 44, 3) := by decide +kernel
theorem dX11_withFindings_28 : decode cX11_withFindings 28 = .ok (.aload_n 0, 1) := by decide +kernel
theorem dX11_withFindings_29 : decode cX11_withFindings 29 = .ok (.getfield 63, 3) := by decide +kernel
theorem dX11_withFindings_32 : decode cX11_withFindings 32 = .ok (.invokevirtual 218, 3) := by decide +kernel
end
section
theorem dX11_withFindings_35 : decode cX11_withFindings 35 = .ok (.ldc2_w 233, 3) := by decide +kernel
theorem dX11_withFindings_38 : decode cX11_withFindings 38 = .ok (.lload_n 1, 1) := by decide +kernel
theorem dX11_withFindings_39 : decode cX11_withFindings 39 = .ok (.lmul, 1) := by decide +kernel
theorem dX11_withFindings_40 : decode cX11_withFindings 40 = .ok (.aload_n 0, 1) := by decide +kernel
theorem dX11_withFindings_41 : decode cX11_withFindings 41 = .ok (.getfield 44, 3) := by decide +kernel
theorem dX11_withFindings_44 : decode cX11_withFindings 44 = .ok (.invokevirtual 222, 3) := by decide +kernel
theorem dX11_withFindings_47 : decode cX11_withFindings 47 = .ok (.i2l, 1) := by decide +kernel
theorem dX11_withFindings_48 : decode cX11_withFindings 48 = .ok (.ladd, 1) := by decide +kernel
theorem dX11_withFindings_49 : decode cX11_withFindings 49 = .ok (.lstore_n 1, 1) := by decide +kernel
theorem dX11_withFindings_50 : decode cX11_withFindings 50 = .ok (.iconst 0, 1) := by decide +kernel
theorem dX11_withFindings_51 : decode cX11_withFindings 51 = .ok (.istore_n 3, 1) := by decide +kernel
theorem dX11_withFindings_52 : decode cX11_withFindings 52 = .ok (.iload_n 3, 1) := by decide +kernel
theorem dX11_withFindings_53 : decode cX11_withFindings 53 = .ok (.bipush 6, 2) := by decide +kernel
theorem dX11_withFindings_55 : decode cX11_withFindings 55 = .ok (.if_icmp .ge 25, 3) := by decide +kernel
theorem dX11_withFindings_58 : decode cX11_withFindings 58 = .ok (.ldc2_w 233, 3) := by decide +kernel
theorem dX11_withFindings_61 : decode cX11_withFindings 61 = .ok (.lload_n 1, 1) := by decide +kernel
theorem dX11_withFindings_62 : decode cX11_withFindings 62 = .ok (.lmul, 1) := by decide +kernel
theorem dX11_withFindings_63 : decode cX11_withFindings 63 = .ok (.aload_n 0, 1) := by decide +kernel
theorem dX11_withFindings_64 : decode cX11_withFindings 64 = .ok (.getfield 44, 3) := by decide +kernel
theorem dX11_withFindings_67 : decode cX11_withFindings 67 = .ok (.iload_n 3, 1) := by decide +kernel
theorem dX11_withFindings_68 : decode cX11_withFindings 68 = .ok (.invokevirtual 225, 3) := by decide +kernel
theorem dX11_withFindings_71 : decode cX11_withFindings 71 = .ok (.i2l, 1) := by decide +kernel
theorem dX11_withFindings_72 : decode cX11_withFindings 72 = .ok (.ladd, 1) := by decide +kernel
theorem dX11_withFindings_73 : decode cX11_withFindings 73 = .ok (.lstore_n 1, 1) := by decide +kernel
theorem dX11_withFindings_74 : decode cX11_withFindings 74 = .ok (.iinc 3 1, 3) := by decide +kernel
theorem dX11_withFindings_77 : decode cX11_withFindings 77 = .ok (.goto (-25), 3) := by decide +kernel
theorem dX11_withFindings_80 : decode cX11_withFindings 80 = .ok (.ldc2_w 233, 3) := by decide +kernel
theorem dX11_withFindings_83 : decode cX11_withFindings 83 = .ok (.lload_n 1, 1) := by decide +kernel
theorem dX11_withFindings_84 : decode cX11_withFindings 84 = .ok (.lmul, 1) := by decide +kernel
theorem dX11_withFindings_85 : decode cX11_withFindings 85 = .ok (.aload_n 0, 1) := by decide +kernel
theorem dX11_withFindings_86 : decode cX11_withFindings 86 = .ok (.iconst 2, 1) := by decide +kernel
theorem dX11_withFindings_87 : decode cX11_withFindings 87 = .ok (.invokevirtual 208, 3) := by decide +kernel
theorem dX11_withFindings_90 : decode cX11_withFindings 90 = .ok (.i2l, 1) := by decide +kernel
theorem dX11_withFindings_91 : decode cX11_withFindings 91 = .ok (.ladd, 1) := by decide +kernel
theorem dX11_withFindings_92 : decode cX11_withFindings 92 = .ok (.lstore_n 1, 1) := by decide +kernel
theorem dX11_withFindings_93 : decode cX11_withFindings 93 = .ok (.ldc2_w 233, 3) := by decide +kernel
theorem dX11_withFindings_96 : decode cX11_withFindings 96 = .ok (.lload_n 1, 1) := by decide +kernel
theorem dX11_withFindings_97 : decode cX11_withFindings 97 = .ok (.lmul, 1) := by decide +kernel
theorem dX11_withFindings_98 : decode cX11_withFindings 98 = .ok (.aload_n 0, 1) := by decide +kernel
theorem dX11_withFindings_99 : decode cX11_withFindings 99 = .ok (.getfield 37, 3) := by decide +kernel
theorem dX11_withFindings_102 : decode cX11_withFindings 102 = .ok (.aload_n 0, 1) := by decide +kernel
theorem dX11_withFindings_103 : decode cX11_withFindings 103 = .ok (.getfield 57, 3) := by decide +kernel
theorem dX11_withFindings_106 : decode cX11_withFindings 106 = .ok (.iconst 0, 1) := by decide +kernel
theorem dX11_withFindings_107 : decode cX11_withFindings 107 = .ok (.invokevirtual 147, 3) := by decide +kernel
theorem dX11_withFindings_110 : decode cX11_withFindings 110 = .ok (.aload_n 0, 1) := by decide +kernel
theorem dX11_withFindings_111 : decode cX11_withFindings 111 = .ok (.getfield 66, 3) := by decide +kernel
theorem dX11_withFindings_114 : decode cX11_withFindings 114 = .ok (.aload_n 0, 1) := by decide +kernel
theorem dX11_withFindings_115 : decode cX11_withFindings 115 = .ok (.getfield 66, 3) := by decide +kernel
theorem dX11_withFindings_118 : decode cX11_withFindings 118 = .ok (.invokevirtual 189, 3) := by decide +kernel
theorem dX11_withFindings_121 : decode cX11_withFindings 121 = .ok (.i2l, 1) := by decide +kernel
theorem dX11_withFindings_122 : decode cX11_withFindings 122 = .ok (.ladd, 1) := by decide +kernel
theorem dX11_withFindings_123 : decode cX11_withFindings 123 = .ok (.lreturn, 1) := by decide +kernel
theorem dX11_letterIn_0 : decode cX11_letterIn 0 = .ok (.lload_n 0, 1) := by decide +kernel
theorem dX11_letterIn_1 : decode cX11_letterIn 1 = .ok (.bipush 8, 2) := by decide +kernel
theorem dX11_letterIn_3 : decode cX11_letterIn 3 = .ok (.iload_n 2, 1) := by decide +kernel
theorem dX11_letterIn_4 : decode cX11_letterIn 4 = .ok (.imul, 1) := by decide +kernel
theorem dX11_letterIn_5 : decode cX11_letterIn 5 = .ok (.lushr, 1) := by decide +kernel
theorem dX11_letterIn_6 : decode cX11_letterIn 6 = .ok (.l2i, 1) := by decide +kernel
theorem dX11_letterIn_7 : decode cX11_letterIn 7 = .ok (.sipush 255, 3) := by decide +kernel
theorem dX11_letterIn_10 : decode cX11_letterIn 10 = .ok (.iand, 1) := by decide +kernel
theorem dX11_letterIn_11 : decode cX11_letterIn 11 = .ok (.ireturn, 1) := by decide +kernel
theorem dX11_lettersIn_0 : decode cX11_lettersIn 0 = .ok (.iconst 0, 1) := by decide +kernel
theorem dX11_lettersIn_1 : decode cX11_lettersIn 1 = .ok (.istore_n 2, 1) := by decide +kernel
theorem dX11_lettersIn_2 : decode cX11_lettersIn 2 = .ok (.iconst 0, 1) := by decide +kernel
theorem dX11_lettersIn_3 : decode cX11_lettersIn 3 = .ok (.istore_n 3, 1) := by decide +kernel
theorem dX11_lettersIn_4 : decode cX11_lettersIn 4 = .ok (.iload_n 3, 1) := by decide +kernel
theorem dX11_lettersIn_5 : decode cX11_lettersIn 5 = .ok (.bipush 8, 2) := by decide +kernel
theorem dX11_lettersIn_7 : decode cX11_lettersIn 7 = .ok (.if_icmp .ge 43, 3) := by decide +kernel
theorem dX11_lettersIn_10 : decode cX11_lettersIn 10 = .ok (.lload_n 0, 1) := by decide +kernel
theorem dX11_lettersIn_11 : decode cX11_lettersIn 11 = .ok (.iload_n 3, 1) := by decide +kernel
theorem dX11_lettersIn_12 : decode cX11_lettersIn 12 = .ok (.invokestatic 155, 3) := by decide +kernel
theorem dX11_lettersIn_15 : decode cX11_lettersIn 15 = .ok (.istore 4, 2) := by decide +kernel
theorem dX11_lettersIn_17 : decode cX11_lettersIn 17 = .ok (.iload 4, 2) := by decide +kernel
theorem dX11_lettersIn_19 : decode cX11_lettersIn 19 = .ok (.bipush 126, 2) := by decide +kernel
theorem dX11_lettersIn_21 : decode cX11_lettersIn 21 = .ok (.if_icmp .gt 13, 3) := by decide +kernel
theorem dX11_lettersIn_24 : decode cX11_lettersIn 24 = .ok (.iload 4, 2) := by decide +kernel
theorem dX11_lettersIn_26 : decode cX11_lettersIn 26 = .ok (.ifCond .eq 10, 3) := by decide +kernel
theorem dX11_lettersIn_29 : decode cX11_lettersIn 29 = .ok (.iload_n 2, 1) := by decide +kernel
theorem dX11_lettersIn_30 : decode cX11_lettersIn 30 = .ok (.iload_n 3, 1) := by decide +kernel
theorem dX11_lettersIn_31 : decode cX11_lettersIn 31 = .ok (.if_icmp .ge 5, 3) := by decide +kernel
theorem dX11_lettersIn_34 : decode cX11_lettersIn 34 = .ok (.iconst (-1), 1) := by decide +kernel
theorem dX11_lettersIn_35 : decode cX11_lettersIn 35 = .ok (.ireturn, 1) := by decide +kernel
theorem dX11_lettersIn_36 : decode cX11_lettersIn 36 = .ok (.iload 4, 2) := by decide +kernel
theorem dX11_lettersIn_38 : decode cX11_lettersIn 38 = .ok (.ifCond .eq 6, 3) := by decide +kernel
theorem dX11_lettersIn_41 : decode cX11_lettersIn 41 = .ok (.iinc 2 1, 3) := by decide +kernel
theorem dX11_lettersIn_44 : decode cX11_lettersIn 44 = .ok (.iinc 3 1, 3) := by decide +kernel
theorem dX11_lettersIn_47 : decode cX11_lettersIn 47 = .ok (.goto (-43), 3) := by decide +kernel
theorem dX11_lettersIn_50 : decode cX11_lettersIn 50 = .ok (.iload_n 2, 1) := by decide +kernel
theorem dX11_lettersIn_51 : decode cX11_lettersIn 51 = .ok (.ireturn, 1) := by decide +kernel
theorem dX11_isDigit_0 : decode cX11_isDigit 0 = .ok (.iload_n 0, 1) := by decide +kernel
theorem dX11_isDigit_1 : decode cX11_isDigit 1 = .ok (.bipush 48, 2) := by decide +kernel
theorem dX11_isDigit_3 : decode cX11_isDigit 3 = .ok (.iload_n 1, 1) := by decide +kernel
theorem dX11_isDigit_4 : decode cX11_isDigit 4 = .ok (.iadd, 1) := by decide +kernel
theorem dX11_isDigit_5 : decode cX11_isDigit 5 = .ok (.if_icmp .lt 13, 3) := by decide +kernel
theorem dX11_isDigit_8 : decode cX11_isDigit 8 = .ok (.iload_n 0, 1) := by decide +kernel
theorem dX11_isDigit_9 : decode cX11_isDigit 9 = .ok (.bipush 57, 2) := by decide +kernel
theorem dX11_isDigit_11 : decode cX11_isDigit 11 = .ok (.if_icmp .gt 7, 3) := by decide +kernel
theorem dX11_isDigit_14 : decode cX11_isDigit 14 = .ok (.iconst 1, 1) := by decide +kernel
theorem dX11_isDigit_15 : decode cX11_isDigit 15 = .ok (.goto 4, 3) := by decide +kernel
theorem dX11_isDigit_18 : decode cX11_isDigit 18 = .ok (.iconst 0, 1) := by decide +kernel
theorem dX11_isDigit_19 : decode cX11_isDigit 19 = .ok (.ireturn, 1) := by decide +kernel
theorem dX11_firstFault_0 : decode cX11_firstFault 0 = .ok (.aload_n 0, 1) := by decide +kernel
theorem dX11_firstFault_1 : decode cX11_firstFault 1 = .ok (.invokevirtual 154, 3) := by decide +kernel
theorem dX11_firstFault_4 : decode cX11_firstFault 4 = .ok (.istore_n 2, 1) := by decide +kernel
theorem dX11_firstFault_5 : decode cX11_firstFault 5 = .ok (.iconst 0, 1) := by decide +kernel
theorem dX11_firstFault_6 : decode cX11_firstFault 6 = .ok (.istore_n 3, 1) := by decide +kernel
theorem dX11_firstFault_7 : decode cX11_firstFault 7 = .ok (.iload_n 3, 1) := by decide +kernel
theorem dX11_firstFault_8 : decode cX11_firstFault 8 = .ok (.iload_n 2, 1) := by decide +kernel
theorem dX11_firstFault_9 : decode cX11_firstFault 9 = .ok (.if_icmp .ge 26, 3) := by decide +kernel
theorem dX11_firstFault_12 : decode cX11_firstFault 12 = .ok (.iload_n 3, 1) := by decide +kernel
theorem dX11_firstFault_13 : decode cX11_firstFault 13 = .ok (.iload_n 1, 1) := by decide +kernel
theorem dX11_firstFault_14 : decode cX11_firstFault 14 = .ok (.if_icmp .ge 21, 3) := by decide +kernel
theorem dX11_firstFault_17 : decode cX11_firstFault 17 = .ok (.aload_n 0, 1) := by decide +kernel
theorem dX11_firstFault_18 : decode cX11_firstFault 18 = .ok (.iload_n 3, 1) := by decide +kernel
theorem dX11_firstFault_19 : decode cX11_firstFault 19 = .ok (.invokevirtual 147, 3) := by decide +kernel
theorem dX11_firstFault_22 : decode cX11_firstFault 22 = .ok (.iconst 0, 1) := by decide +kernel
theorem dX11_firstFault_23 : decode cX11_firstFault 23 = .ok (.invokestatic 265, 3) := by decide +kernel
theorem dX11_firstFault_26 : decode cX11_firstFault 26 = .ok (.ifCond .eq 9, 3) := by decide +kernel
theorem dX11_firstFault_29 : decode cX11_firstFault 29 = .ok (.iinc 3 1, 3) := by decide +kernel
theorem dX11_firstFault_32 : decode cX11_firstFault 32 = .ok (.goto (-25), 3) := by decide +kernel
theorem dX11_firstFault_35 : decode cX11_firstFault 35 = .ok (.iload_n 3, 1) := by decide +kernel
theorem dX11_firstFault_36 : decode cX11_firstFault 36 = .ok (.iload_n 1, 1) := by decide +kernel
theorem dX11_firstFault_37 : decode cX11_firstFault 37 = .ok (.if_icmp .ge 5, 3) := by decide +kernel
theorem dX11_firstFault_40 : decode cX11_firstFault 40 = .ok (.iload_n 3, 1) := by decide +kernel
theorem dX11_firstFault_41 : decode cX11_firstFault 41 = .ok (.ireturn, 1) := by decide +kernel
theorem dX11_firstFault_42 : decode cX11_firstFault 42 = .ok (.iload_n 3, 1) := by decide +kernel
theorem dX11_firstFault_43 : decode cX11_firstFault 43 = .ok (.iload_n 2, 1) := by decide +kernel
theorem dX11_firstFault_44 : decode cX11_firstFault 44 = .ok (.if_icmp .ge 38, 3) := by decide +kernel
theorem dX11_firstFault_47 : decode cX11_firstFault 47 = .ok (.aload_n 0, 1) := by decide +kernel
theorem dX11_firstFault_48 : decode cX11_firstFault 48 = .ok (.iload_n 3, 1) := by decide +kernel
theorem dX11_firstFault_49 : decode cX11_firstFault 49 = .ok (.invokevirtual 147, 3) := by decide +kernel
theorem dX11_firstFault_52 : decode cX11_firstFault 52 = .ok (.bipush 43, 2) := by decide +kernel
theorem dX11_firstFault_54 : decode cX11_firstFault 54 = .ok (.if_icmp .ne 28, 3) := by decide +kernel
theorem dX11_firstFault_57 : decode cX11_firstFault 57 = .ok (.iinc 3 1, 3) := by decide +kernel
theorem dX11_firstFault_60 : decode cX11_firstFault 60 = .ok (.iload_n 3, 1) := by decide +kernel
theorem dX11_firstFault_61 : decode cX11_firstFault 61 = .ok (.iload_n 2, 1) := by decide +kernel
theorem dX11_firstFault_62 : decode cX11_firstFault 62 = .ok (.if_icmp .eq 15, 3) := by decide +kernel
theorem dX11_firstFault_65 : decode cX11_firstFault 65 = .ok (.aload_n 0, 1) := by decide +kernel
theorem dX11_firstFault_66 : decode cX11_firstFault 66 = .ok (.iload_n 3, 1) := by decide +kernel
theorem dX11_firstFault_67 : decode cX11_firstFault 67 = .ok (.invokevirtual 147, 3) := by decide +kernel
theorem dX11_firstFault_70 : decode cX11_firstFault 70 = .ok (.iconst 1, 1) := by decide +kernel
theorem dX11_firstFault_71 : decode cX11_firstFault 71 = .ok (.invokestatic 265, 3) := by decide +kernel
theorem dX11_firstFault_74 : decode cX11_firstFault 74 = .ok (.ifCond .ne 5, 3) := by decide +kernel
theorem dX11_firstFault_77 : decode cX11_firstFault 77 = .ok (.iload_n 3, 1) := by decide +kernel
theorem dX11_firstFault_78 : decode cX11_firstFault 78 = .ok (.ireturn, 1) := by decide +kernel
theorem dX11_firstFault_79 : decode cX11_firstFault 79 = .ok (.iinc 3 1, 3) := by decide +kernel
theorem dX11_firstFault_82 : decode cX11_firstFault 82 = .ok (.iload_n 3, 1) := by decide +kernel
theorem dX11_firstFault_83 : decode cX11_firstFault 83 = .ok (.iload_n 2, 1) := by decide +kernel
theorem dX11_firstFault_84 : decode cX11_firstFault 84 = .ok (.if_icmp .ge 16, 3) := by decide +kernel
theorem dX11_firstFault_87 : decode cX11_firstFault 87 = .ok (.aload_n 0, 1) := by decide +kernel
theorem dX11_firstFault_88 : decode cX11_firstFault 88 = .ok (.iload_n 3, 1) := by decide +kernel
theorem dX11_firstFault_89 : decode cX11_firstFault 89 = .ok (.invokevirtual 147, 3) := by decide +kernel
theorem dX11_firstFault_92 : decode cX11_firstFault 92 = .ok (.bipush 33, 2) := by decide +kernel
theorem dX11_firstFault_94 : decode cX11_firstFault 94 = .ok (.if_icmp .ne 6, 3) := by decide +kernel
theorem dX11_firstFault_97 : decode cX11_firstFault 97 = .ok (.iinc 3 1, 3) := by decide +kernel
theorem dX11_firstFault_100 : decode cX11_firstFault 100 = .ok (.iload_n 3, 1) := by decide +kernel
theorem dX11_firstFault_101 : decode cX11_firstFault 101 = .ok (.ireturn, 1) := by decide +kernel
theorem dX11_isJudge_0 : decode cX11_isJudge 0 = .ok (.aload_n 0, 1) := by decide +kernel
theorem dX11_isJudge_1 : decode cX11_isJudge 1 = .ok (.invokevirtual 154, 3) := by decide +kernel
theorem dX11_isJudge_4 : decode cX11_isJudge 4 = .ok (.istore_n 2, 1) := by decide +kernel
theorem dX11_isJudge_5 : decode cX11_isJudge 5 = .ok (.iload_n 2, 1) := by decide +kernel
theorem dX11_isJudge_6 : decode cX11_isJudge 6 = .ok (.iload_n 1, 1) := by decide +kernel
theorem dX11_isJudge_7 : decode cX11_isJudge 7 = .ok (.if_icmp .lt 25, 3) := by decide +kernel
theorem dX11_isJudge_10 : decode cX11_isJudge 10 = .ok (.aload_n 0, 1) := by decide +kernel
theorem dX11_isJudge_11 : decode cX11_isJudge 11 = .ok (.iload_n 1, 1) := by decide +kernel
theorem dX11_isJudge_12 : decode cX11_isJudge 12 = .ok (.invokestatic 162, 3) := by decide +kernel
theorem dX11_isJudge_15 : decode cX11_isJudge 15 = .ok (.iload_n 2, 1) := by decide +kernel
theorem dX11_isJudge_16 : decode cX11_isJudge 16 = .ok (.if_icmp .ne 16, 3) := by decide +kernel
theorem dX11_isJudge_19 : decode cX11_isJudge 19 = .ok (.aload_n 0, 1) := by decide +kernel
theorem dX11_isJudge_20 : decode cX11_isJudge 20 = .ok (.invokevirtual 138, 3) := by decide +kernel
theorem dX11_isJudge_23 : decode cX11_isJudge 23 = .ok (.bipush 43, 2) := by decide +kernel
theorem dX11_isJudge_25 : decode cX11_isJudge 25 = .ok (.if_icmp .eq 7, 3) := by decide +kernel
theorem dX11_isJudge_28 : decode cX11_isJudge 28 = .ok (.iconst 1, 1) := by decide +kernel
theorem dX11_isJudge_29 : decode cX11_isJudge 29 = .ok (.goto 4, 3) := by decide +kernel
theorem dX11_isJudge_32 : decode cX11_isJudge 32 = .ok (.iconst 0, 1) := by decide +kernel
theorem dX11_isJudge_33 : decode cX11_isJudge 33 = .ok (.ireturn, 1) := by decide +kernel
theorem dX11_strictest_0 : decode cX11_strictest 0 = .ok (.iconst (-1), 1) := by decide +kernel
theorem dX11_strictest_1 : decode cX11_strictest 1 = .ok (.istore_n 1, 1) := by decide +kernel
theorem dX11_strictest_2 : decode cX11_strictest 2 = .ok (.iconst 0, 1) := by decide +kernel
theorem dX11_strictest_3 : decode cX11_strictest 3 = .ok (.istore_n 2, 1) := by decide +kernel
theorem dX11_strictest_4 : decode cX11_strictest 4 = .ok (.iconst 0, 1) := by decide +kernel
theorem dX11_strictest_5 : decode cX11_strictest 5 = .ok (.istore_n 3, 1) := by decide +kernel
theorem dX11_strictest_6 : decode cX11_strictest 6 = .ok (.iload_n 3, 1) := by decide +kernel
theorem dX11_strictest_7 : decode cX11_strictest 7 = .ok (.aload_n 0, 1) := by decide +kernel
theorem dX11_strictest_8 : decode cX11_strictest 8 = .ok (.getfield 21, 3) := by decide +kernel
theorem dX11_strictest_11 : decode cX11_strictest 11 = .ok (.invokevirtual 239, 3) := by decide +kernel
theorem dX11_strictest_14 : decode cX11_strictest 14 = .ok (.if_icmp .ge 32, 3) := by decide +kernel
theorem dX11_strictest_17 : decode cX11_strictest 17 = .ok (.aload_n 0, 1) := by decide +kernel
theorem dX11_strictest_18 : decode cX11_strictest 18 = .ok (.iload_n 3, 1) := by decide +kernel
theorem dX11_strictest_19 : decode cX11_strictest 19 = .ok (.invokevirtual 269, 3) := by decide +kernel
theorem dX11_strictest_22 : decode cX11_strictest 22 = .ok (.istore 4, 2) := by decide +kernel
theorem dX11_strictest_24 : decode cX11_strictest 24 = .ok (.iload_n 1, 1) := by decide +kernel
theorem dX11_strictest_25 : decode cX11_strictest 25 = .ok (.iconst (-1), 1) := by decide +kernel
theorem dX11_strictest_26 : decode cX11_strictest 26 = .ok (.if_icmp .eq 9, 3) := by decide +kernel
theorem dX11_strictest_29 : decode cX11_strictest 29 = .ok (.iload 4, 2) := by decide +kernel
theorem dX11_strictest_31 : decode cX11_strictest 31 = .ok (.iload_n 2, 1) := by decide +kernel
theorem dX11_strictest_32 : decode cX11_strictest 32 = .ok (.if_icmp .ge 8, 3) := by decide +kernel
theorem dX11_strictest_35 : decode cX11_strictest 35 = .ok (.iload_n 3, 1) := by decide +kernel
theorem dX11_strictest_36 : decode cX11_strictest 36 = .ok (.istore_n 1, 1) := by decide +kernel
theorem dX11_strictest_37 : decode cX11_strictest 37 = .ok (.iload 4, 2) := by decide +kernel
theorem dX11_strictest_39 : decode cX11_strictest 39 = .ok (.istore_n 2, 1) := by decide +kernel
theorem dX11_strictest_40 : decode cX11_strictest 40 = .ok (.iinc 3 1, 3) := by decide +kernel
theorem dX11_strictest_43 : decode cX11_strictest 43 = .ok (.goto (-37), 3) := by decide +kernel
theorem dX11_strictest_46 : decode cX11_strictest 46 = .ok (.iload_n 1, 1) := by decide +kernel
theorem dX11_strictest_47 : decode cX11_strictest 47 = .ok (.ireturn, 1) := by decide +kernel
theorem dX11_passing_0 : decode cX11_passing 0 = .ok (.aload_n 0, 1) := by decide +kernel
theorem dX11_passing_1 : decode cX11_passing 1 = .ok (.getfield 57, 3) := by decide +kernel
theorem dX11_passing_4 : decode cX11_passing 4 = .ok (.invokevirtual 138, 3) := by decide +kernel
theorem dX11_passing_7 : decode cX11_passing 7 = .ok (.istore_n 2, 1) := by decide +kernel
theorem dX11_passing_8 : decode cX11_passing 8 = .ok (.aload_n 0, 1) := by decide +kernel
theorem dX11_passing_9 : decode cX11_passing 9 = .ok (.getfield 28, 3) := by decide +kernel
theorem dX11_passing_12 : decode cX11_passing 12 = .ok (.invokevirtual 272, 3) := by decide +kernel
theorem dX11_passing_15 : decode cX11_passing 15 = .ok (.iconst 0, 1) := by decide +kernel
theorem dX11_passing_16 : decode cX11_passing 16 = .ok (.istore_n 3, 1) := by decide +kernel
theorem dX11_passing_17 : decode cX11_passing 17 = .ok (.iload_n 3, 1) := by decide +kernel
theorem dX11_passing_18 : decode cX11_passing 18 = .ok (.aload_n 0, 1) := by decide +kernel
theorem dX11_passing_19 : decode cX11_passing 19 = .ok (.getfield 12, 3) := by decide +kernel
theorem dX11_passing_22 : decode cX11_passing 22 = .ok (.invokevirtual 122, 3) := by decide +kernel
theorem dX11_passing_25 : decode cX11_passing 25 = .ok (.if_icmp .ge 104, 3) := by decide +kernel
theorem dX11_passing_28 : decode cX11_passing 28 = .ok (.iload_n 2, 1) := by decide +kernel
theorem dX11_passing_29 : decode cX11_passing 29 = .ok (.iload_n 3, 1) := by decide +kernel
theorem dX11_passing_30 : decode cX11_passing 30 = .ok (.invokestatic 262, 3) := by decide +kernel
theorem dX11_passing_33 : decode cX11_passing 33 = .ok (.istore 4, 2) := by decide +kernel
theorem dX11_passing_35 : decode cX11_passing 35 = .ok (.iconst 0, 1) := by decide +kernel
theorem dX11_passing_36 : decode cX11_passing 36 = .ok (.istore 5, 2) := by decide +kernel
theorem dX11_passing_38 : decode cX11_passing 38 = .ok (.iload 5, 2) := by decide +kernel
theorem dX11_passing_40 : decode cX11_passing 40 = .ok (.bipush 10, 2) := by decide +kernel
theorem dX11_passing_42 : decode cX11_passing 42 = .ok (.if_icmp .ge 74, 3) := by decide +kernel
theorem dX11_passing_45 : decode cX11_passing 45 = .ok (.aload_n 0, 1) := by decide +kernel
theorem dX11_passing_46 : decode cX11_passing 46 = .ok (.getfield 12, 3) := by decide +kernel
theorem dX11_passing_49 : decode cX11_passing 49 = .ok (.iload_n 3, 1) := by decide +kernel
theorem dX11_passing_50 : decode cX11_passing 50 = .ok (.invokevirtual 115, 3) := by decide +kernel
theorem dX11_passing_53 : decode cX11_passing 53 = .ok (.iload 4, 2) := by decide +kernel
theorem dX11_passing_55 : decode cX11_passing 55 = .ok (.iload 5, 2) := by decide +kernel
theorem dX11_passing_57 : decode cX11_passing 57 = .ok (.invokevirtual 275, 3) := by decide +kernel
theorem dX11_passing_60 : decode cX11_passing 60 = .ok (.istore 6, 2) := by decide +kernel
theorem dX11_passing_62 : decode cX11_passing 62 = .ok (.aload_n 0, 1) := by decide +kernel
theorem dX11_passing_63 : decode cX11_passing 63 = .ok (.getfield 21, 3) := by decide +kernel
theorem dX11_passing_66 : decode cX11_passing 66 = .ok (.iload_n 1, 1) := by decide +kernel
theorem dX11_passing_67 : decode cX11_passing 67 = .ok (.iload_n 3, 1) := by decide +kernel
theorem dX11_passing_68 : decode cX11_passing 68 = .ok (.iload 6, 2) := by decide +kernel
theorem dX11_passing_70 : decode cX11_passing 70 = .ok (.invokevirtual 276, 3) := by decide +kernel
theorem dX11_passing_73 : decode cX11_passing 73 = .ok (.ifCond .eq 37, 3) := by decide +kernel
theorem dX11_passing_76 : decode cX11_passing 76 = .ok (.iload 5, 2) := by decide +kernel
theorem dX11_passing_78 : decode cX11_passing 78 = .ok (.aload_n 0, 1) := by decide +kernel
theorem dX11_passing_79 : decode cX11_passing 79 = .ok (.getfield 66, 3) := by decide +kernel
theorem dX11_passing_82 : decode cX11_passing 82 = .ok (.iload_n 3, 1) := by decide +kernel
theorem dX11_passing_83 : decode cX11_passing 83 = .ok (.invokestatic 262, 3) := by decide +kernel
theorem dX11_passing_86 : decode cX11_passing 86 = .ok (.if_icmp .eq 15, 3) := by decide +kernel
theorem dX11_passing_89 : decode cX11_passing 89 = .ok (.aload_n 0, 1) := by decide +kernel
theorem dX11_passing_90 : decode cX11_passing 90 = .ok (.getfield 21, 3) := by decide +kernel
theorem dX11_passing_93 : decode cX11_passing 93 = .ok (.iload_n 1, 1) := by decide +kernel
theorem dX11_passing_94 : decode cX11_passing 94 = .ok (.iload_n 3, 1) := by decide +kernel
theorem dX11_passing_95 : decode cX11_passing 95 = .ok (.invokevirtual 279, 3) := by decide +kernel
theorem dX11_passing_98 : decode cX11_passing 98 = .ok (.ifCond .ne 12, 3) := by decide +kernel
theorem dX11_passing_101 : decode cX11_passing 101 = .ok (.aload_n 0, 1) := by decide +kernel
theorem dX11_passing_102 : decode cX11_passing 102 = .ok (.getfield 28, 3) := by decide +kernel
theorem dX11_passing_105 : decode cX11_passing 105 = .ok (.iload 6, 2) := by decide +kernel
theorem dX11_passing_107 : decode cX11_passing 107 = .ok (.invokevirtual 282, 3) := by decide +kernel
theorem dX11_passing_110 : decode cX11_passing 110 = .ok (.iinc 5 1, 3) := by decide +kernel
theorem dX11_passing_113 : decode cX11_passing 113 = .ok (.goto (-75), 3) := by decide +kernel
theorem dX11_passing_116 : decode cX11_passing 116 = .ok (.aload_n 0, 1) := by decide +kernel
theorem dX11_passing_117 : decode cX11_passing 117 = .ok (.getfield 28, 3) := by decide +kernel
theorem dX11_passing_120 : decode cX11_passing 120 = .ok (.invokevirtual 285, 3) := by decide +kernel
theorem dX11_passing_123 : decode cX11_passing 123 = .ok (.iinc 3 1, 3) := by decide +kernel
theorem dX11_passing_126 : decode cX11_passing 126 = .ok (.goto (-109), 3) := by decide +kernel
theorem dX11_passing_129 : decode cX11_passing 129 = .ok (.aload_n 0, 1) := by decide +kernel
theorem dX11_passing_130 : decode cX11_passing 130 = .ok (.getfield 28, 3) := by decide +kernel
theorem dX11_passing_133 : decode cX11_passing 133 = .ok (.aload_n 0, 1) := by decide +kernel
theorem dX11_passing_134 : decode cX11_passing 134 = .ok (.getfield 21, 3) := by decide +kernel
theorem dX11_passing_137 : decode cX11_passing 137 = .ok (.iload_n 1, 1) := by decide +kernel
theorem dX11_passing_138 : decode cX11_passing 138 = .ok (.invokevirtual 288, 3) := by decide +kernel
theorem dX11_passing_141 : decode cX11_passing 141 = .ok (.invokevirtual 291, 3) := by decide +kernel
theorem dX11_passing_144 : decode cX11_passing 144 = .ok (.ireturn, 1) := by decide +kernel
theorem dX11_within_0 : decode cX11_within 0 = .ok (.aload_n 0, 1) := by decide +kernel
theorem dX11_within_1 : decode cX11_within 1 = .ok (.getfield 57, 3) := by decide +kernel
theorem dX11_within_4 : decode cX11_within 4 = .ok (.invokevirtual 138, 3) := by decide +kernel
theorem dX11_within_7 : decode cX11_within 7 = .ok (.istore_n 2, 1) := by decide +kernel
theorem dX11_within_8 : decode cX11_within 8 = .ok (.aload_n 0, 1) := by decide +kernel
theorem dX11_within_9 : decode cX11_within 9 = .ok (.getfield 28, 3) := by decide +kernel
theorem dX11_within_12 : decode cX11_within 12 = .ok (.invokevirtual 272, 3) := by decide +kernel
theorem dX11_within_15 : decode cX11_within 15 = .ok (.iconst 0, 1) := by decide +kernel
theorem dX11_within_16 : decode cX11_within 16 = .ok (.istore_n 3, 1) := by decide +kernel
theorem dX11_within_17 : decode cX11_within 17 = .ok (.iload_n 3, 1) := by decide +kernel
theorem dX11_within_18 : decode cX11_within 18 = .ok (.aload_n 0, 1) := by decide +kernel
theorem dX11_within_19 : decode cX11_within 19 = .ok (.getfield 12, 3) := by decide +kernel
theorem dX11_within_22 : decode cX11_within 22 = .ok (.invokevirtual 122, 3) := by decide +kernel
theorem dX11_within_25 : decode cX11_within 25 = .ok (.if_icmp .ge 61, 3) := by decide +kernel
theorem dX11_within_28 : decode cX11_within 28 = .ok (.iload_n 2, 1) := by decide +kernel
theorem dX11_within_29 : decode cX11_within 29 = .ok (.iload_n 3, 1) := by decide +kernel
theorem dX11_within_30 : decode cX11_within 30 = .ok (.invokestatic 262, 3) := by decide +kernel
theorem dX11_within_33 : decode cX11_within 33 = .ok (.istore 4, 2) := by decide +kernel
theorem dX11_within_35 : decode cX11_within 35 = .ok (.iconst 0, 1) := by decide +kernel
theorem dX11_within_36 : decode cX11_within 36 = .ok (.istore 5, 2) := by decide +kernel
theorem dX11_within_38 : decode cX11_within 38 = .ok (.iload 5, 2) := by decide +kernel
theorem dX11_within_40 : decode cX11_within 40 = .ok (.bipush 10, 2) := by decide +kernel
theorem dX11_within_42 : decode cX11_within 42 = .ok (.if_icmp .ge 31, 3) := by decide +kernel
theorem dX11_within_45 : decode cX11_within 45 = .ok (.aload_n 0, 1) := by decide +kernel
theorem dX11_within_46 : decode cX11_within 46 = .ok (.getfield 28, 3) := by decide +kernel
theorem dX11_within_49 : decode cX11_within 49 = .ok (.aload_n 0, 1) := by decide +kernel
theorem dX11_within_50 : decode cX11_within 50 = .ok (.getfield 12, 3) := by decide +kernel
theorem dX11_within_53 : decode cX11_within 53 = .ok (.iload_n 3, 1) := by decide +kernel
theorem dX11_within_54 : decode cX11_within 54 = .ok (.invokevirtual 115, 3) := by decide +kernel
theorem dX11_within_57 : decode cX11_within 57 = .ok (.iload 5, 2) := by decide +kernel
theorem dX11_within_59 : decode cX11_within 59 = .ok (.iload 4, 2) := by decide +kernel
theorem dX11_within_61 : decode cX11_within 61 = .ok (.invokevirtual 294, 3) := by decide +kernel
theorem dX11_within_64 : decode cX11_within 64 = .ok (.invokevirtual 282, 3) := by decide +kernel
theorem dX11_within_67 : decode cX11_within 67 = .ok (.iinc 5 1, 3) := by decide +kernel
theorem dX11_within_70 : decode cX11_within 70 = .ok (.goto (-32), 3) := by decide +kernel
theorem dX11_within_73 : decode cX11_within 73 = .ok (.aload_n 0, 1) := by decide +kernel
theorem dX11_within_74 : decode cX11_within 74 = .ok (.getfield 28, 3) := by decide +kernel
theorem dX11_within_77 : decode cX11_within 77 = .ok (.invokevirtual 285, 3) := by decide +kernel
theorem dX11_within_80 : decode cX11_within 80 = .ok (.iinc 3 1, 3) := by decide +kernel
theorem dX11_within_83 : decode cX11_within 83 = .ok (.goto (-66), 3) := by decide +kernel
theorem dX11_within_86 : decode cX11_within 86 = .ok (.aload_n 0, 1) := by decide +kernel
theorem dX11_within_87 : decode cX11_within 87 = .ok (.getfield 28, 3) := by decide +kernel
theorem dX11_within_90 : decode cX11_within 90 = .ok (.iload_n 1, 1) := by decide +kernel
theorem dX11_within_91 : decode cX11_within 91 = .ok (.invokevirtual 291, 3) := by decide +kernel
theorem dX11_within_94 : decode cX11_within 94 = .ok (.ireturn, 1) := by decide +kernel
theorem dX11_takenForKing_0 : decode cX11_takenForKing 0 = .ok (.aload_n 0, 1) := by decide +kernel
theorem dX11_takenForKing_1 : decode cX11_takenForKing 1 = .ok (.getfield 57, 3) := by decide +kernel
theorem dX11_takenForKing_4 : decode cX11_takenForKing 4 = .ok (.invokevirtual 138, 3) := by decide +kernel
theorem dX11_takenForKing_7 : decode cX11_takenForKing 7 = .ok (.istore_n 1, 1) := by decide +kernel
theorem dX11_takenForKing_8 : decode cX11_takenForKing 8 = .ok (.iconst (-1), 1) := by decide +kernel
theorem dX11_takenForKing_9 : decode cX11_takenForKing 9 = .ok (.istore_n 2, 1) := by decide +kernel
theorem dX11_takenForKing_10 : decode cX11_takenForKing 10 = .ok (.iconst 0, 1) := by decide +kernel
theorem dX11_takenForKing_11 : decode cX11_takenForKing 11 = .ok (.istore_n 3, 1) := by decide +kernel
theorem dX11_takenForKing_12 : decode cX11_takenForKing 12 = .ok (.iconst 0, 1) := by decide +kernel
theorem dX11_takenForKing_13 : decode cX11_takenForKing 13 = .ok (.istore 4, 2) := by decide +kernel
theorem dX11_takenForKing_15 : decode cX11_takenForKing 15 = .ok (.iconst 0, 1) := by decide +kernel
theorem dX11_takenForKing_16 : decode cX11_takenForKing 16 = .ok (.istore 5, 2) := by decide +kernel
theorem dX11_takenForKing_18 : decode cX11_takenForKing 18 = .ok (.iload 5, 2) := by decide +kernel
theorem dX11_takenForKing_20 : decode cX11_takenForKing 20 = .ok (.aload_n 0, 1) := by decide +kernel
theorem dX11_takenForKing_21 : decode cX11_takenForKing 21 = .ok (.getfield 60, 3) := by decide +kernel
theorem dX11_takenForKing_24 : decode cX11_takenForKing 24 = .ok (.invokevirtual 154, 3) := by decide +kernel
theorem dX11_takenForKing_27 : decode cX11_takenForKing 27 = .ok (.if_icmp .ge 115, 3) := by decide +kernel
theorem dX11_takenForKing_30 : decode cX11_takenForKing 30 = .ok (.aload_n 0, 1) := by decide +kernel
theorem dX11_takenForKing_31 : decode cX11_takenForKing 31 = .ok (.getfield 21, 3) := by decide +kernel
theorem dX11_takenForKing_34 : decode cX11_takenForKing 34 = .ok (.iload_n 1, 1) := by decide +kernel
theorem dX11_takenForKing_35 : decode cX11_takenForKing 35 = .ok (.aload_n 0, 1) := by decide +kernel
theorem dX11_takenForKing_36 : decode cX11_takenForKing 36 = .ok (.getfield 60, 3) := by decide +kernel
theorem dX11_takenForKing_39 : decode cX11_takenForKing 39 = .ok (.iload 5, 2) := by decide +kernel
theorem dX11_takenForKing_41 : decode cX11_takenForKing 41 = .ok (.invokevirtual 147, 3) := by decide +kernel
theorem dX11_takenForKing_44 : decode cX11_takenForKing 44 = .ok (.aload_n 0, 1) := by decide +kernel
theorem dX11_takenForKing_45 : decode cX11_takenForKing 45 = .ok (.getfield 66, 3) := by decide +kernel
theorem dX11_takenForKing_48 : decode cX11_takenForKing 48 = .ok (.invokevirtual 178, 3) := by decide +kernel
theorem dX11_takenForKing_51 : decode cX11_takenForKing 51 = .ok (.invokestatic 181, 3) := by decide +kernel
theorem dX11_takenForKing_54 : decode cX11_takenForKing 54 = .ok (.istore 6, 2) := by decide +kernel
theorem dX11_takenForKing_56 : decode cX11_takenForKing 56 = .ok (.aload_n 0, 1) := by decide +kernel
theorem dX11_takenForKing_57 : decode cX11_takenForKing 57 = .ok (.getfield 12, 3) := by decide +kernel
theorem dX11_takenForKing_60 : decode cX11_takenForKing 60 = .ok (.iload_n 1, 1) := by decide +kernel
theorem dX11_takenForKing_61 : decode cX11_takenForKing 61 = .ok (.aload_n 0, 1) := by decide +kernel
theorem dX11_takenForKing_62 : decode cX11_takenForKing 62 = .ok (.getfield 60, 3) := by decide +kernel
theorem dX11_takenForKing_65 : decode cX11_takenForKing 65 = .ok (.iload 5, 2) := by decide +kernel
theorem dX11_takenForKing_67 : decode cX11_takenForKing 67 = .ok (.invokevirtual 147, 3) := by decide +kernel
theorem dX11_takenForKing_70 : decode cX11_takenForKing 70 = .ok (.invokevirtual 131, 3) := by decide +kernel
theorem dX11_takenForKing_73 : decode cX11_takenForKing 73 = .ok (.istore 7, 2) := by decide +kernel
theorem dX11_takenForKing_75 : decode cX11_takenForKing 75 = .ok (.iload 6, 2) := by decide +kernel
theorem dX11_takenForKing_77 : decode cX11_takenForKing 77 = .ok (.ifCond .gt 13, 3) := by decide +kernel
theorem dX11_takenForKing_80 : decode cX11_takenForKing 80 = .ok (.aload_n 0, 1) := by decide +kernel
theorem dX11_takenForKing_81 : decode cX11_takenForKing 81 = .ok (.getfield 21, 3) := by decide +kernel
theorem dX11_takenForKing_84 : decode cX11_takenForKing 84 = .ok (.invokevirtual 239, 3) := by decide +kernel
theorem dX11_takenForKing_87 : decode cX11_takenForKing 87 = .ok (.ifCond .ne 7, 3) := by decide +kernel
theorem dX11_takenForKing_90 : decode cX11_takenForKing 90 = .ok (.iconst 1, 1) := by decide +kernel
theorem dX11_takenForKing_91 : decode cX11_takenForKing 91 = .ok (.goto 4, 3) := by decide +kernel
theorem dX11_takenForKing_94 : decode cX11_takenForKing 94 = .ok (.iconst 0, 1) := by decide +kernel
theorem dX11_takenForKing_95 : decode cX11_takenForKing 95 = .ok (.istore 8, 2) := by decide +kernel
theorem dX11_takenForKing_97 : decode cX11_takenForKing 97 = .ok (.iload 8, 2) := by decide +kernel
theorem dX11_takenForKing_99 : decode cX11_takenForKing 99 = .ok (.ifCond .eq 37, 3) := by decide +kernel
theorem dX11_takenForKing_102 : decode cX11_takenForKing 102 = .ok (.iload_n 2, 1) := by decide +kernel
theorem dX11_takenForKing_103 : decode cX11_takenForKing 103 = .ok (.iconst (-1), 1) := by decide +kernel
theorem dX11_takenForKing_104 : decode cX11_takenForKing 104 = .ok (.if_icmp .eq 22, 3) := by decide +kernel
theorem dX11_takenForKing_107 : decode cX11_takenForKing 107 = .ok (.iload 6, 2) := by decide +kernel
theorem dX11_takenForKing_109 : decode cX11_takenForKing 109 = .ok (.iload_n 3, 1) := by decide +kernel
theorem dX11_takenForKing_110 : decode cX11_takenForKing 110 = .ok (.if_icmp .gt 16, 3) := by decide +kernel
theorem dX11_takenForKing_113 : decode cX11_takenForKing 113 = .ok (.iload 6, 2) := by decide +kernel
theorem dX11_takenForKing_115 : decode cX11_takenForKing 115 = .ok (.iload_n 3, 1) := by decide +kernel
theorem dX11_takenForKing_116 : decode cX11_takenForKing 116 = .ok (.if_icmp .ne 20, 3) := by decide +kernel
theorem dX11_takenForKing_119 : decode cX11_takenForKing 119 = .ok (.iload 7, 2) := by decide +kernel
theorem dX11_takenForKing_121 : decode cX11_takenForKing 121 = .ok (.iload 4, 2) := by decide +kernel
theorem dX11_takenForKing_123 : decode cX11_takenForKing 123 = .ok (.if_icmp .ge 13, 3) := by decide +kernel
theorem dX11_takenForKing_126 : decode cX11_takenForKing 126 = .ok (.iload 5, 2) := by decide +kernel
theorem dX11_takenForKing_128 : decode cX11_takenForKing 128 = .ok (.istore_n 2, 1) := by decide +kernel
theorem dX11_takenForKing_129 : decode cX11_takenForKing 129 = .ok (.iload 6, 2) := by decide +kernel
theorem dX11_takenForKing_131 : decode cX11_takenForKing 131 = .ok (.istore_n 3, 1) := by decide +kernel
theorem dX11_takenForKing_132 : decode cX11_takenForKing 132 = .ok (.iload 7, 2) := by decide +kernel
theorem dX11_takenForKing_134 : decode cX11_takenForKing 134 = .ok (.istore 4, 2) := by decide +kernel
theorem dX11_takenForKing_136 : decode cX11_takenForKing 136 = .ok (.iinc 5 1, 3) := by decide +kernel
theorem dX11_takenForKing_139 : decode cX11_takenForKing 139 = .ok (.goto (-121), 3) := by decide +kernel
theorem dX11_takenForKing_142 : decode cX11_takenForKing 142 = .ok (.iload_n 2, 1) := by decide +kernel
theorem dX11_takenForKing_143 : decode cX11_takenForKing 143 = .ok (.ireturn, 1) := by decide +kernel
theorem dX11_copied_0 : decode cX11_copied 0 = .ok (.aload_n 0, 1) := by decide +kernel
theorem dX11_copied_1 : decode cX11_copied 1 = .ok (.getfield 57, 3) := by decide +kernel
theorem dX11_copied_4 : decode cX11_copied 4 = .ok (.invokevirtual 138, 3) := by decide +kernel
theorem dX11_copied_7 : decode cX11_copied 7 = .ok (.istore 4, 2) := by decide +kernel
theorem dX11_copied_9 : decode cX11_copied 9 = .ok (.aload_n 0, 1) := by decide +kernel
theorem dX11_copied_10 : decode cX11_copied 10 = .ok (.getfield 66, 3) := by decide +kernel
theorem dX11_copied_13 : decode cX11_copied 13 = .ok (.istore 5, 2) := by decide +kernel
theorem dX11_copied_15 : decode cX11_copied 15 = .ok (.iconst 0, 1) := by decide +kernel
theorem dX11_copied_16 : decode cX11_copied 16 = .ok (.istore 6, 2) := by decide +kernel
theorem dX11_copied_18 : decode cX11_copied 18 = .ok (.iload_n 2, 1) := by decide +kernel
theorem dX11_copied_19 : decode cX11_copied 19 = .ok (.istore 7, 2) := by decide +kernel
theorem dX11_copied_21 : decode cX11_copied 21 = .ok (.iconst 0, 1) := by decide +kernel
theorem dX11_copied_22 : decode cX11_copied 22 = .ok (.istore 8, 2) := by decide +kernel
theorem dX11_copied_24 : decode cX11_copied 24 = .ok (.iload 8, 2) := by decide +kernel
theorem dX11_copied_26 : decode cX11_copied 26 = .ok (.iload_n 1, 1) := by decide +kernel
theorem dX11_copied_27 : decode cX11_copied 27 = .ok (.if_icmp .ge 105, 3) := by decide +kernel
theorem dX11_copied_30 : decode cX11_copied 30 = .ok (.aload_n 0, 1) := by decide +kernel
theorem dX11_copied_31 : decode cX11_copied 31 = .ok (.getfield 12, 3) := by decide +kernel
theorem dX11_copied_34 : decode cX11_copied 34 = .ok (.iload 5, 2) := by decide +kernel
theorem dX11_copied_36 : decode cX11_copied 36 = .ok (.invokevirtual 134, 3) := by decide +kernel
theorem dX11_copied_39 : decode cX11_copied 39 = .ok (.istore 5, 2) := by decide +kernel
theorem dX11_copied_41 : decode cX11_copied 41 = .ok (.iload 7, 2) := by decide +kernel
theorem dX11_copied_43 : decode cX11_copied 43 = .ok (.invokestatic 295, 3) := by decide +kernel
theorem dX11_copied_46 : decode cX11_copied 46 = .ok (.istore 7, 2) := by decide +kernel
theorem dX11_copied_48 : decode cX11_copied 48 = .ok (.iload 7, 2) := by decide +kernel
theorem dX11_copied_50 : decode cX11_copied 50 = .ok (.aload_n 0, 1) := by decide +kernel
theorem dX11_copied_51 : decode cX11_copied 51 = .ok (.getfield 12, 3) := by decide +kernel
theorem dX11_copied_54 : decode cX11_copied 54 = .ok (.invokevirtual 122, 3) := by decide +kernel
theorem dX11_copied_57 : decode cX11_copied 57 = .ok (.invokestatic 298, 3) := by decide +kernel
theorem dX11_copied_60 : decode cX11_copied 60 = .ok (.istore 9, 2) := by decide +kernel
theorem dX11_copied_62 : decode cX11_copied 62 = .ok (.iload 7, 2) := by decide +kernel
theorem dX11_copied_64 : decode cX11_copied 64 = .ok (.invokestatic 295, 3) := by decide +kernel
theorem dX11_copied_67 : decode cX11_copied 67 = .ok (.istore 7, 2) := by decide +kernel
theorem dX11_copied_69 : decode cX11_copied 69 = .ok (.aload_n 0, 1) := by decide +kernel
theorem dX11_copied_70 : decode cX11_copied 70 = .ok (.getfield 12, 3) := by decide +kernel
theorem dX11_copied_73 : decode cX11_copied 73 = .ok (.iload 4, 2) := by decide +kernel
theorem dX11_copied_75 : decode cX11_copied 75 = .ok (.iload 9, 2) := by decide +kernel
theorem dX11_copied_77 : decode cX11_copied 77 = .ok (.iload 7, 2) := by decide +kernel
theorem dX11_copied_79 : decode cX11_copied 79 = .ok (.iconst 2, 1) := by decide +kernel
theorem dX11_copied_80 : decode cX11_copied 80 = .ok (.invokestatic 298, 3) := by decide +kernel
theorem dX11_copied_83 : decode cX11_copied 83 = .ok (.iconst 1, 1) := by decide +kernel
theorem dX11_copied_84 : decode cX11_copied 84 = .ok (.if_icmp .ne 7, 3) := by decide +kernel
theorem dX11_copied_87 : decode cX11_copied 87 = .ok (.iconst 1, 1) := by decide +kernel
theorem dX11_copied_88 : decode cX11_copied 88 = .ok (.goto 4, 3) := by decide +kernel
theorem dX11_copied_91 : decode cX11_copied 91 = .ok (.iconst (-1), 1) := by decide +kernel
theorem dX11_copied_92 : decode cX11_copied 92 = .ok (.invokevirtual 301, 3) := by decide +kernel
theorem dX11_copied_95 : decode cX11_copied 95 = .ok (.istore 10, 2) := by decide +kernel
theorem dX11_copied_97 : decode cX11_copied 97 = .ok (.iload 10, 2) := by decide +kernel
theorem dX11_copied_99 : decode cX11_copied 99 = .ok (.iconst (-1), 1) := by decide +kernel
theorem dX11_copied_100 : decode cX11_copied 100 = .ok (.if_icmp .eq 26, 3) := by decide +kernel
theorem dX11_copied_103 : decode cX11_copied 103 = .ok (.aload_n 0, 1) := by decide +kernel
theorem dX11_copied_104 : decode cX11_copied 104 = .ok (.getfield 21, 3) := by decide +kernel
theorem dX11_copied_107 : decode cX11_copied 107 = .ok (.iload 4, 2) := by decide +kernel
theorem dX11_copied_109 : decode cX11_copied 109 = .ok (.iload 10, 2) := by decide +kernel
theorem dX11_copied_111 : decode cX11_copied 111 = .ok (.iload 5, 2) := by decide +kernel
theorem dX11_copied_113 : decode cX11_copied 113 = .ok (.invokevirtual 141, 3) := by decide +kernel
theorem dX11_copied_116 : decode cX11_copied 116 = .ok (.ifCond .eq 10, 3) := by decide +kernel
theorem dX11_copied_119 : decode cX11_copied 119 = .ok (.iload 10, 2) := by decide +kernel
theorem dX11_copied_121 : decode cX11_copied 121 = .ok (.istore 4, 2) := by decide +kernel
theorem dX11_copied_123 : decode cX11_copied 123 = .ok (.iinc 6 1, 3) := by decide +kernel
theorem dX11_copied_126 : decode cX11_copied 126 = .ok (.iinc 8 1, 3) := by decide +kernel
theorem dX11_copied_129 : decode cX11_copied 129 = .ok (.goto (-105), 3) := by decide +kernel
theorem dX11_copied_132 : decode cX11_copied 132 = .ok (.iload_n 3, 1) := by decide +kernel
theorem dX11_copied_133 : decode cX11_copied 133 = .ok (.tableswitch 45 0 2 #[27, 30, 42], 27) := by decide +kernel
theorem dX11_copied_160 : decode cX11_copied 160 = .ok (.iload 4, 2) := by decide +kernel
theorem dX11_copied_162 : decode cX11_copied 162 = .ok (.ireturn, 1) := by decide +kernel
theorem dX11_copied_163 : decode cX11_copied 163 = .ok (.aload_n 0, 1) := by decide +kernel
theorem dX11_copied_164 : decode cX11_copied 164 = .ok (.getfield 12, 3) := by decide +kernel
theorem dX11_copied_167 : decode cX11_copied 167 = .ok (.iload 4, 2) := by decide +kernel
theorem dX11_copied_169 : decode cX11_copied 169 = .ok (.iload 5, 2) := by decide +kernel
theorem dX11_copied_171 : decode cX11_copied 171 = .ok (.invokevirtual 131, 3) := by decide +kernel
theorem dX11_copied_174 : decode cX11_copied 174 = .ok (.ireturn, 1) := by decide +kernel
theorem dX11_copied_175 : decode cX11_copied 175 = .ok (.iload 6, 2) := by decide +kernel
theorem dX11_copied_177 : decode cX11_copied 177 = .ok (.ireturn, 1) := by decide +kernel
theorem dX11_copied_178 : decode cX11_copied 178 = .ok (.iload 7, 2) := by decide +kernel
theorem dX11_copied_180 : decode cX11_copied 180 = .ok (.ireturn, 1) := by decide +kernel
theorem dX11_nextSeed_0 : decode cX11_nextSeed 0 = .ok (.ldc2_w 304, 3) := by decide +kernel
theorem dX11_nextSeed_3 : decode cX11_nextSeed 3 = .ok (.iload_n 0, 1) := by decide +kernel
theorem dX11_nextSeed_4 : decode cX11_nextSeed 4 = .ok (.i2l, 1) := by decide +kernel
theorem dX11_nextSeed_5 : decode cX11_nextSeed 5 = .ok (.lmul, 1) := by decide +kernel
theorem dX11_nextSeed_6 : decode cX11_nextSeed 6 = .ok (.ldc2_w 306, 3) := by decide +kernel
theorem dX11_nextSeed_9 : decode cX11_nextSeed 9 = .ok (.ladd, 1) := by decide +kernel
theorem dX11_nextSeed_10 : decode cX11_nextSeed 10 = .ok (.ldc2_w 308, 3) := by decide +kernel
theorem dX11_nextSeed_13 : decode cX11_nextSeed 13 = .ok (.land, 1) := by decide +kernel
theorem dX11_nextSeed_14 : decode cX11_nextSeed 14 = .ok (.l2i, 1) := by decide +kernel
theorem dX11_nextSeed_15 : decode cX11_nextSeed 15 = .ok (.ireturn, 1) := by decide +kernel
theorem dX11_drawn_0 : decode cX11_drawn 0 = .ok (.iload_n 1, 1) := by decide +kernel
theorem dX11_drawn_1 : decode cX11_drawn 1 = .ok (.ifCond .le 13, 3) := by decide +kernel
theorem dX11_drawn_4 : decode cX11_drawn 4 = .ok (.iload_n 0, 1) := by decide +kernel
end
section
theorem dX11_drawn_5 : decode cX11_drawn 5 = .ok (.ldc_w 310, 3) := by decide +kernel
theorem dX11_drawn_8 : decode cX11_drawn 8 = .ok (.idiv, 1) := by decide +kernel
theorem dX11_drawn_9 : decode cX11_drawn 9 = .ok (.iload_n 1, 1) := by decide +kernel
theorem dX11_drawn_10 : decode cX11_drawn 10 = .ok (.irem, 1) := by decide +kernel
theorem dX11_drawn_11 : decode cX11_drawn 11 = .ok (.goto 4, 3) := by decide +kernel
theorem dX11_drawn_14 : decode cX11_drawn 14 = .ok (.iconst 0, 1) := by decide +kernel
theorem dX11_drawn_15 : decode cX11_drawn 15 = .ok (.ireturn, 1) := by decide +kernel
theorem dX12_init_0 : decode cX12_init 0 = .ok (.aload_n 0, 1) := by decide +kernel
theorem dX12_init_1 : decode cX12_init 1 = .ok (.invokespecial 1, 3) := by decide +kernel
theorem dX12_init_4 : decode cX12_init 4 = .ok (.aload_n 0, 1) := by decide +kernel
theorem dX12_init_5 : decode cX12_init 5 = .ok (.iconst 4, 1) := by decide +kernel
theorem dX12_init_6 : decode cX12_init 6 = .ok (.newarray .int, 2) := by decide +kernel
theorem dX12_init_8 : decode cX12_init 8 = .ok (.putfield 7, 3) := by decide +kernel
theorem dX12_init_11 : decode cX12_init 11 = .ok (.aload_n 0, 1) := by decide +kernel
theorem dX12_init_12 : decode cX12_init 12 = .ok (.iconst 4, 1) := by decide +kernel
theorem dX12_init_13 : decode cX12_init 13 = .ok (.newarray .int, 2) := by decide +kernel
theorem dX12_init_15 : decode cX12_init 15 = .ok (.putfield 13, 3) := by decide +kernel
theorem dX12_init_18 : decode cX12_init 18 = .ok (.aload_n 0, 1) := by decide +kernel
theorem dX12_init_19 : decode cX12_init 19 = .ok (.bipush 60, 2) := by decide +kernel
theorem dX12_init_21 : decode cX12_init 21 = .ok (.newarray .int, 2) := by decide +kernel
theorem dX12_init_23 : decode cX12_init 23 = .ok (.putfield 16, 3) := by decide +kernel
theorem dX12_init_26 : decode cX12_init 26 = .ok (.aload_n 0, 1) := by decide +kernel
theorem dX12_init_27 : decode cX12_init 27 = .ok (.iconst 4, 1) := by decide +kernel
theorem dX12_init_28 : decode cX12_init 28 = .ok (.newarray .int, 2) := by decide +kernel
theorem dX12_init_30 : decode cX12_init 30 = .ok (.putfield 19, 3) := by decide +kernel
theorem dX12_init_33 : decode cX12_init 33 = .ok (.aload_n 0, 1) := by decide +kernel
theorem dX12_init_34 : decode cX12_init 34 = .ok (.bipush 10, 2) := by decide +kernel
theorem dX12_init_36 : decode cX12_init 36 = .ok (.newarray .int, 2) := by decide +kernel
theorem dX12_init_38 : decode cX12_init 38 = .ok (.putfield 22, 3) := by decide +kernel
theorem dX12_init_41 : decode cX12_init 41 = .ok (.aload_n 0, 1) := by decide +kernel
theorem dX12_init_42 : decode cX12_init 42 = .ok (.bipush 6, 2) := by decide +kernel
theorem dX12_init_44 : decode cX12_init 44 = .ok (.newarray .int, 2) := by decide +kernel
theorem dX12_init_46 : decode cX12_init 46 = .ok (.putfield 25, 3) := by decide +kernel
theorem dX12_init_49 : decode cX12_init 49 = .ok (.aload_n 0, 1) := by decide +kernel
theorem dX12_init_50 : decode cX12_init 50 = .ok (.bipush 30, 2) := by decide +kernel
theorem dX12_init_52 : decode cX12_init 52 = .ok (.newarray .int, 2) := by decide +kernel
theorem dX12_init_54 : decode cX12_init 54 = .ok (.putfield 28, 3) := by decide +kernel
theorem dX12_init_57 : decode cX12_init 57 = .ok (.aload_n 0, 1) := by decide +kernel
theorem dX12_init_58 : decode cX12_init 58 = .ok (.sipush 10000, 3) := by decide +kernel
theorem dX12_init_61 : decode cX12_init 61 = .ok (.newarray .int, 2) := by decide +kernel
theorem dX12_init_63 : decode cX12_init 63 = .ok (.putfield 31, 3) := by decide +kernel
theorem dX12_init_66 : decode cX12_init 66 = .ok (.aload_n 0, 1) := by decide +kernel
theorem dX12_init_67 : decode cX12_init 67 = .ok (.sipush 10000, 3) := by decide +kernel
theorem dX12_init_70 : decode cX12_init 70 = .ok (.newarray .int, 2) := by decide +kernel
theorem dX12_init_72 : decode cX12_init 72 = .ok (.putfield 34, 3) := by decide +kernel
theorem dX12_init_75 : decode cX12_init 75 = .ok (.aload_n 0, 1) := by decide +kernel
theorem dX12_init_76 : decode cX12_init 76 = .ok (.bipush 6, 2) := by decide +kernel
theorem dX12_init_78 : decode cX12_init 78 = .ok (.newarray .int, 2) := by decide +kernel
theorem dX12_init_80 : decode cX12_init 80 = .ok (.putfield 37, 3) := by decide +kernel
theorem dX12_init_83 : decode cX12_init 83 = .ok (.aload_n 0, 1) := by decide +kernel
theorem dX12_init_84 : decode cX12_init 84 = .ok (.bipush 6, 2) := by decide +kernel
theorem dX12_init_86 : decode cX12_init 86 = .ok (.newarray .int, 2) := by decide +kernel
theorem dX12_init_88 : decode cX12_init 88 = .ok (.putfield 40, 3) := by decide +kernel
theorem dX12_init_91 : decode cX12_init 91 = .ok (.aload_n 0, 1) := by decide +kernel
theorem dX12_init_92 : decode cX12_init 92 = .ok (.bipush 6, 2) := by decide +kernel
theorem dX12_init_94 : decode cX12_init 94 = .ok (.newarray .int, 2) := by decide +kernel
theorem dX12_init_96 : decode cX12_init 96 = .ok (.putfield 43, 3) := by decide +kernel
theorem dX12_init_99 : decode cX12_init 99 = .ok (.aload_n 0, 1) := by decide +kernel
theorem dX12_init_100 : decode cX12_init 100 = .ok (.bipush 6, 2) := by decide +kernel
theorem dX12_init_102 : decode cX12_init 102 = .ok (.newarray .int, 2) := by decide +kernel
theorem dX12_init_104 : decode cX12_init 104 = .ok (.putfield 46, 3) := by decide +kernel
theorem dX12_init_107 : decode cX12_init 107 = .ok (.aload_n 0, 1) := by decide +kernel
theorem dX12_init_108 : decode cX12_init 108 = .ok (.iconst 4, 1) := by decide +kernel
theorem dX12_init_109 : decode cX12_init 109 = .ok (.newarray .int, 2) := by decide +kernel
theorem dX12_init_111 : decode cX12_init 111 = .ok (.putfield 49, 3) := by decide +kernel
theorem dX12_init_114 : decode cX12_init 114 = .ok (.aload_n 0, 1) := by decide +kernel
theorem dX12_init_115 : decode cX12_init 115 = .ok (.bipush 60, 2) := by decide +kernel
theorem dX12_init_117 : decode cX12_init 117 = .ok (.newarray .int, 2) := by decide +kernel
theorem dX12_init_119 : decode cX12_init 119 = .ok (.putfield 52, 3) := by decide +kernel
theorem dX12_init_122 : decode cX12_init 122 = .ok (.aload_n 0, 1) := by decide +kernel
theorem dX12_init_123 : decode cX12_init 123 = .ok (.bipush 6, 2) := by decide +kernel
theorem dX12_init_125 : decode cX12_init 125 = .ok (.newarray .int, 2) := by decide +kernel
theorem dX12_init_127 : decode cX12_init 127 = .ok (.putfield 55, 3) := by decide +kernel
theorem dX12_init_130 : decode cX12_init 130 = .ok (.aload_n 0, 1) := by decide +kernel
theorem dX12_init_131 : decode cX12_init 131 = .ok (.bipush 6, 2) := by decide +kernel
theorem dX12_init_133 : decode cX12_init 133 = .ok (.newarray .int, 2) := by decide +kernel
theorem dX12_init_135 : decode cX12_init 135 = .ok (.putfield 58, 3) := by decide +kernel
theorem dX12_init_138 : decode cX12_init 138 = .ok (.aload_n 0, 1) := by decide +kernel
theorem dX12_init_139 : decode cX12_init 139 = .ok (.iconst (-1), 1) := by decide +kernel
theorem dX12_init_140 : decode cX12_init 140 = .ok (.putfield 61, 3) := by decide +kernel
theorem dX12_init_143 : decode cX12_init 143 = .ok (.return_, 1) := by decide +kernel
theorem dX12_in_0 : decode cX12_in 0 = .ok (.lload_n 0, 1) := by decide +kernel
theorem dX12_in_1 : decode cX12_in 1 = .ok (.lload_n 2, 1) := by decide +kernel
theorem dX12_in_2 : decode cX12_in 2 = .ok (.lcmp, 1) := by decide +kernel
theorem dX12_in_3 : decode cX12_in 3 = .ok (.ifCond .lt 14, 3) := by decide +kernel
theorem dX12_in_6 : decode cX12_in 6 = .ok (.lload_n 0, 1) := by decide +kernel
theorem dX12_in_7 : decode cX12_in 7 = .ok (.lload 4, 2) := by decide +kernel
theorem dX12_in_9 : decode cX12_in 9 = .ok (.lcmp, 1) := by decide +kernel
theorem dX12_in_10 : decode cX12_in 10 = .ok (.ifCond .gt 7, 3) := by decide +kernel
theorem dX12_in_13 : decode cX12_in 13 = .ok (.iconst 1, 1) := by decide +kernel
theorem dX12_in_14 : decode cX12_in 14 = .ok (.goto 4, 3) := by decide +kernel
theorem dX12_in_17 : decode cX12_in 17 = .ok (.iconst 0, 1) := by decide +kernel
theorem dX12_in_18 : decode cX12_in 18 = .ok (.ireturn, 1) := by decide +kernel
theorem dX12_isFeature_0 : decode cX12_isFeature 0 = .ok (.iload_n 1, 1) := by decide +kernel
theorem dX12_isFeature_1 : decode cX12_isFeature 1 = .ok (.i2l, 1) := by decide +kernel
theorem dX12_isFeature_2 : decode cX12_isFeature 2 = .ok (.lconst 0, 1) := by decide +kernel
theorem dX12_isFeature_3 : decode cX12_isFeature 3 = .ok (.aload_n 0, 1) := by decide +kernel
theorem dX12_isFeature_4 : decode cX12_isFeature 4 = .ok (.getfield 65, 3) := by decide +kernel
theorem dX12_isFeature_7 : decode cX12_isFeature 7 = .ok (.iconst 1, 1) := by decide +kernel
theorem dX12_isFeature_8 : decode cX12_isFeature 8 = .ok (.isub, 1) := by decide +kernel
theorem dX12_isFeature_9 : decode cX12_isFeature 9 = .ok (.i2l, 1) := by decide +kernel
theorem dX12_isFeature_10 : decode cX12_isFeature 10 = .ok (.invokestatic 68, 3) := by decide +kernel
theorem dX12_isFeature_13 : decode cX12_isFeature 13 = .ok (.ireturn, 1) := by decide +kernel
theorem dX12_lacks_0 : decode cX12_lacks 0 = .ok (.aload_n 0, 1) := by decide +kernel
theorem dX12_lacks_1 : decode cX12_lacks 1 = .ok (.getfield 72, 3) := by decide +kernel
theorem dX12_lacks_4 : decode cX12_lacks 4 = .ok (.ifCond .ne 7, 3) := by decide +kernel
theorem dX12_lacks_7 : decode cX12_lacks 7 = .ok (.iconst 1, 1) := by decide +kernel
theorem dX12_lacks_8 : decode cX12_lacks 8 = .ok (.goto 4, 3) := by decide +kernel
theorem dX12_lacks_11 : decode cX12_lacks 11 = .ok (.iconst 0, 1) := by decide +kernel
theorem dX12_lacks_12 : decode cX12_lacks 12 = .ok (.ireturn, 1) := by decide +kernel
theorem dX12_feature_0 : decode cX12_feature 0 = .ok (.iload_n 1, 1) := by decide +kernel
theorem dX12_feature_1 : decode cX12_feature 1 = .ok (.i2l, 1) := by decide +kernel
theorem dX12_feature_2 : decode cX12_feature 2 = .ok (.lconst 0, 1) := by decide +kernel
theorem dX12_feature_3 : decode cX12_feature 3 = .ok (.ldc2_w 75, 3) := by decide +kernel
theorem dX12_feature_6 : decode cX12_feature 6 = .ok (.invokestatic 68, 3) := by decide +kernel
theorem dX12_feature_9 : decode cX12_feature 9 = .ok (.ifCond .eq 15, 3) := by decide +kernel
theorem dX12_feature_12 : decode cX12_feature 12 = .ok (.iload_n 2, 1) := by decide +kernel
theorem dX12_feature_13 : decode cX12_feature 13 = .ok (.i2l, 1) := by decide +kernel
theorem dX12_feature_14 : decode cX12_feature 14 = .ok (.lconst 0, 1) := by decide +kernel
theorem dX12_feature_15 : decode cX12_feature 15 = .ok (.ldc2_w 77, 3) := by decide +kernel
theorem dX12_feature_18 : decode cX12_feature 18 = .ok (.invokestatic 68, 3) := by decide +kernel
theorem dX12_feature_21 : decode cX12_feature 21 = .ok (.ifCond .ne 6, 3) := by decide +kernel
theorem dX12_feature_24 : decode cX12_feature 24 = .ok (.bipush (-102), 2) := by decide +kernel
theorem dX12_feature_26 : decode cX12_feature 26 = .ok (.ireturn, 1) := by decide +kernel
theorem dX12_feature_27 : decode cX12_feature 27 = .ok (.aload_n 0, 1) := by decide +kernel
theorem dX12_feature_28 : decode cX12_feature 28 = .ok (.invokevirtual 79, 3) := by decide +kernel
theorem dX12_feature_31 : decode cX12_feature 31 = .ok (.ifCond .ne 6, 3) := by decide +kernel
theorem dX12_feature_34 : decode cX12_feature 34 = .ok (.bipush (-103), 2) := by decide +kernel
theorem dX12_feature_36 : decode cX12_feature 36 = .ok (.ireturn, 1) := by decide +kernel
theorem dX12_feature_37 : decode cX12_feature 37 = .ok (.aload_n 0, 1) := by decide +kernel
theorem dX12_feature_38 : decode cX12_feature 38 = .ok (.getfield 65, 3) := by decide +kernel
theorem dX12_feature_41 : decode cX12_feature 41 = .ok (.iconst 4, 1) := by decide +kernel
theorem dX12_feature_42 : decode cX12_feature 42 = .ok (.if_icmp .ne 6, 3) := by decide +kernel
theorem dX12_feature_45 : decode cX12_feature 45 = .ok (.bipush (-104), 2) := by decide +kernel
theorem dX12_feature_47 : decode cX12_feature 47 = .ok (.ireturn, 1) := by decide +kernel
theorem dX12_feature_48 : decode cX12_feature 48 = .ok (.aload_n 0, 1) := by decide +kernel
theorem dX12_feature_49 : decode cX12_feature 49 = .ok (.getfield 7, 3) := by decide +kernel
theorem dX12_feature_52 : decode cX12_feature 52 = .ok (.aload_n 0, 1) := by decide +kernel
theorem dX12_feature_53 : decode cX12_feature 53 = .ok (.getfield 65, 3) := by decide +kernel
theorem dX12_feature_56 : decode cX12_feature 56 = .ok (.iload_n 1, 1) := by decide +kernel
theorem dX12_feature_57 : decode cX12_feature 57 = .ok (.iastore, 1) := by decide +kernel
theorem dX12_feature_58 : decode cX12_feature 58 = .ok (.aload_n 0, 1) := by decide +kernel
theorem dX12_feature_59 : decode cX12_feature 59 = .ok (.getfield 13, 3) := by decide +kernel
theorem dX12_feature_62 : decode cX12_feature 62 = .ok (.aload_n 0, 1) := by decide +kernel
theorem dX12_feature_63 : decode cX12_feature 63 = .ok (.getfield 65, 3) := by decide +kernel
theorem dX12_feature_66 : decode cX12_feature 66 = .ok (.iload_n 2, 1) := by decide +kernel
theorem dX12_feature_67 : decode cX12_feature 67 = .ok (.iastore, 1) := by decide +kernel
theorem dX12_feature_68 : decode cX12_feature 68 = .ok (.aload_n 0, 1) := by decide +kernel
theorem dX12_feature_69 : decode cX12_feature 69 = .ok (.dup, 1) := by decide +kernel
theorem dX12_feature_70 : decode cX12_feature 70 = .ok (.getfield 65, 3) := by decide +kernel
theorem dX12_feature_73 : decode cX12_feature 73 = .ok (.iconst 1, 1) := by decide +kernel
theorem dX12_feature_74 : decode cX12_feature 74 = .ok (.iadd, 1) := by decide +kernel
theorem dX12_feature_75 : decode cX12_feature 75 = .ok (.putfield 65, 3) := by decide +kernel
theorem dX12_feature_78 : decode cX12_feature 78 = .ok (.aload_n 0, 1) := by decide +kernel
theorem dX12_feature_79 : decode cX12_feature 79 = .ok (.getfield 65, 3) := by decide +kernel
theorem dX12_feature_82 : decode cX12_feature 82 = .ok (.iconst 1, 1) := by decide +kernel
theorem dX12_feature_83 : decode cX12_feature 83 = .ok (.isub, 1) := by decide +kernel
theorem dX12_feature_84 : decode cX12_feature 84 = .ok (.ireturn, 1) := by decide +kernel
theorem dX12_portraits_0 : decode cX12_portraits 0 = .ok (.iconst 1, 1) := by decide +kernel
theorem dX12_portraits_1 : decode cX12_portraits 1 = .ok (.istore_n 1, 1) := by decide +kernel
theorem dX12_portraits_2 : decode cX12_portraits 2 = .ok (.iconst 0, 1) := by decide +kernel
theorem dX12_portraits_3 : decode cX12_portraits 3 = .ok (.istore_n 2, 1) := by decide +kernel
theorem dX12_portraits_4 : decode cX12_portraits 4 = .ok (.iload_n 2, 1) := by decide +kernel
theorem dX12_portraits_5 : decode cX12_portraits 5 = .ok (.aload_n 0, 1) := by decide +kernel
theorem dX12_portraits_6 : decode cX12_portraits 6 = .ok (.getfield 65, 3) := by decide +kernel
theorem dX12_portraits_9 : decode cX12_portraits 9 = .ok (.if_icmp .ge 14, 3) := by decide +kernel
theorem dX12_portraits_12 : decode cX12_portraits 12 = .ok (.iload_n 1, 1) := by decide +kernel
theorem dX12_portraits_13 : decode cX12_portraits 13 = .ok (.bipush 10, 2) := by decide +kernel
theorem dX12_portraits_15 : decode cX12_portraits 15 = .ok (.imul, 1) := by decide +kernel
theorem dX12_portraits_16 : decode cX12_portraits 16 = .ok (.istore_n 1, 1) := by decide +kernel
theorem dX12_portraits_17 : decode cX12_portraits 17 = .ok (.iinc 2 1, 3) := by decide +kernel
theorem dX12_portraits_20 : decode cX12_portraits 20 = .ok (.goto (-16), 3) := by decide +kernel
theorem dX12_portraits_23 : decode cX12_portraits 23 = .ok (.iload_n 1, 1) := by decide +kernel
theorem dX12_portraits_24 : decode cX12_portraits 24 = .ok (.ireturn, 1) := by decide +kernel
theorem dX12_isPortrait_0 : decode cX12_isPortrait 0 = .ok (.iload_n 1, 1) := by decide +kernel
theorem dX12_isPortrait_1 : decode cX12_isPortrait 1 = .ok (.i2l, 1) := by decide +kernel
theorem dX12_isPortrait_2 : decode cX12_isPortrait 2 = .ok (.lconst 0, 1) := by decide +kernel
theorem dX12_isPortrait_3 : decode cX12_isPortrait 3 = .ok (.aload_n 0, 1) := by decide +kernel
theorem dX12_isPortrait_4 : decode cX12_isPortrait 4 = .ok (.invokevirtual 83, 3) := by decide +kernel
theorem dX12_isPortrait_7 : decode cX12_isPortrait 7 = .ok (.iconst 1, 1) := by decide +kernel
theorem dX12_isPortrait_8 : decode cX12_isPortrait 8 = .ok (.isub, 1) := by decide +kernel
theorem dX12_isPortrait_9 : decode cX12_isPortrait 9 = .ok (.i2l, 1) := by decide +kernel
theorem dX12_isPortrait_10 : decode cX12_isPortrait 10 = .ok (.invokestatic 68, 3) := by decide +kernel
theorem dX12_isPortrait_13 : decode cX12_isPortrait 13 = .ok (.ireturn, 1) := by decide +kernel
theorem dX12_sizeOf_0 : decode cX12_sizeOf 0 = .ok (.iload_n 0, 1) := by decide +kernel
theorem dX12_sizeOf_1 : decode cX12_sizeOf 1 = .ok (.istore_n 2, 1) := by decide +kernel
theorem dX12_sizeOf_2 : decode cX12_sizeOf 2 = .ok (.iconst 0, 1) := by decide +kernel
theorem dX12_sizeOf_3 : decode cX12_sizeOf 3 = .ok (.istore_n 3, 1) := by decide +kernel
theorem dX12_sizeOf_4 : decode cX12_sizeOf 4 = .ok (.iload_n 3, 1) := by decide +kernel
theorem dX12_sizeOf_5 : decode cX12_sizeOf 5 = .ok (.iload_n 1, 1) := by decide +kernel
theorem dX12_sizeOf_6 : decode cX12_sizeOf 6 = .ok (.if_icmp .ge 14, 3) := by decide +kernel
theorem dX12_sizeOf_9 : decode cX12_sizeOf 9 = .ok (.iload_n 2, 1) := by decide +kernel
theorem dX12_sizeOf_10 : decode cX12_sizeOf 10 = .ok (.bipush 10, 2) := by decide +kernel
theorem dX12_sizeOf_12 : decode cX12_sizeOf 12 = .ok (.idiv, 1) := by decide +kernel
theorem dX12_sizeOf_13 : decode cX12_sizeOf 13 = .ok (.istore_n 2, 1) := by decide +kernel
theorem dX12_sizeOf_14 : decode cX12_sizeOf 14 = .ok (.iinc 3 1, 3) := by decide +kernel
theorem dX12_sizeOf_17 : decode cX12_sizeOf 17 = .ok (.goto (-13), 3) := by decide +kernel
theorem dX12_sizeOf_20 : decode cX12_sizeOf 20 = .ok (.iload_n 2, 1) := by decide +kernel
theorem dX12_sizeOf_21 : decode cX12_sizeOf 21 = .ok (.bipush 10, 2) := by decide +kernel
theorem dX12_sizeOf_23 : decode cX12_sizeOf 23 = .ok (.irem, 1) := by decide +kernel
theorem dX12_sizeOf_24 : decode cX12_sizeOf 24 = .ok (.ireturn, 1) := by decide +kernel
theorem dX12_unit_0 : decode cX12_unit 0 = .ok (.iload_n 0, 1) := by decide +kernel
theorem dX12_unit_1 : decode cX12_unit 1 = .ok (.ifCond .ne 7, 3) := by decide +kernel
theorem dX12_unit_4 : decode cX12_unit 4 = .ok (.iconst 1, 1) := by decide +kernel
theorem dX12_unit_5 : decode cX12_unit 5 = .ok (.goto 26, 3) := by decide +kernel
theorem dX12_unit_8 : decode cX12_unit 8 = .ok (.iload_n 0, 1) := by decide +kernel
theorem dX12_unit_9 : decode cX12_unit 9 = .ok (.iconst 1, 1) := by decide +kernel
theorem dX12_unit_10 : decode cX12_unit 10 = .ok (.if_icmp .ne 8, 3) := by decide +kernel
theorem dX12_unit_13 : decode cX12_unit 13 = .ok (.bipush 10, 2) := by decide +kernel
theorem dX12_unit_15 : decode cX12_unit 15 = .ok (.goto 16, 3) := by decide +kernel
theorem dX12_unit_18 : decode cX12_unit 18 = .ok (.iload_n 0, 1) := by decide +kernel
theorem dX12_unit_19 : decode cX12_unit 19 = .ok (.iconst 2, 1) := by decide +kernel
theorem dX12_unit_20 : decode cX12_unit 20 = .ok (.if_icmp .ne 8, 3) := by decide +kernel
theorem dX12_unit_23 : decode cX12_unit 23 = .ok (.bipush 100, 2) := by decide +kernel
theorem dX12_unit_25 : decode cX12_unit 25 = .ok (.goto 6, 3) := by decide +kernel
theorem dX12_unit_28 : decode cX12_unit 28 = .ok (.sipush 1000, 3) := by decide +kernel
theorem dX12_unit_31 : decode cX12_unit 31 = .ok (.ireturn, 1) := by decide +kernel
theorem dX12_kingAsPortrait_0 : decode cX12_kingAsPortrait 0 = .ok (.iconst 0, 1) := by decide +kernel
theorem dX12_kingAsPortrait_1 : decode cX12_kingAsPortrait 1 = .ok (.istore_n 1, 1) := by decide +kernel
theorem dX12_kingAsPortrait_2 : decode cX12_kingAsPortrait 2 = .ok (.iconst 0, 1) := by decide +kernel
theorem dX12_kingAsPortrait_3 : decode cX12_kingAsPortrait 3 = .ok (.istore_n 2, 1) := by decide +kernel
theorem dX12_kingAsPortrait_4 : decode cX12_kingAsPortrait 4 = .ok (.iload_n 2, 1) := by decide +kernel
theorem dX12_kingAsPortrait_5 : decode cX12_kingAsPortrait 5 = .ok (.aload_n 0, 1) := by decide +kernel
theorem dX12_kingAsPortrait_6 : decode cX12_kingAsPortrait 6 = .ok (.getfield 65, 3) := by decide +kernel
theorem dX12_kingAsPortrait_9 : decode cX12_kingAsPortrait 9 = .ok (.if_icmp .ge 23, 3) := by decide +kernel
theorem dX12_kingAsPortrait_12 : decode cX12_kingAsPortrait 12 = .ok (.iload_n 1, 1) := by decide +kernel
theorem dX12_kingAsPortrait_13 : decode cX12_kingAsPortrait 13 = .ok (.iload_n 2, 1) := by decide +kernel
theorem dX12_kingAsPortrait_14 : decode cX12_kingAsPortrait 14 = .ok (.invokestatic 87, 3) := by decide +kernel
theorem dX12_kingAsPortrait_17 : decode cX12_kingAsPortrait 17 = .ok (.aload_n 0, 1) := by decide +kernel
theorem dX12_kingAsPortrait_18 : decode cX12_kingAsPortrait 18 = .ok (.getfield 13, 3) := by decide +kernel
theorem dX12_kingAsPortrait_21 : decode cX12_kingAsPortrait 21 = .ok (.iload_n 2, 1) := by decide +kernel
theorem dX12_kingAsPortrait_22 : decode cX12_kingAsPortrait 22 = .ok (.iaload, 1) := by decide +kernel
theorem dX12_kingAsPortrait_23 : decode cX12_kingAsPortrait 23 = .ok (.imul, 1) := by decide +kernel
theorem dX12_kingAsPortrait_24 : decode cX12_kingAsPortrait 24 = .ok (.iadd, 1) := by decide +kernel
theorem dX12_kingAsPortrait_25 : decode cX12_kingAsPortrait 25 = .ok (.istore_n 1, 1) := by decide +kernel
theorem dX12_kingAsPortrait_26 : decode cX12_kingAsPortrait 26 = .ok (.iinc 2 1, 3) := by decide +kernel
theorem dX12_kingAsPortrait_29 : decode cX12_kingAsPortrait 29 = .ok (.goto (-25), 3) := by decide +kernel
theorem dX12_kingAsPortrait_32 : decode cX12_kingAsPortrait 32 = .ok (.iload_n 1, 1) := by decide +kernel
theorem dX12_kingAsPortrait_33 : decode cX12_kingAsPortrait 33 = .ok (.ireturn, 1) := by decide +kernel
theorem dX12_last_0 : decode cX12_last 0 = .ok (.aload_n 0, 1) := by decide +kernel
theorem dX12_last_1 : decode cX12_last 1 = .ok (.getfield 16, 3) := by decide +kernel
theorem dX12_last_4 : decode cX12_last 4 = .ok (.aload_n 0, 1) := by decide +kernel
theorem dX12_last_5 : decode cX12_last 5 = .ok (.getfield 72, 3) := by decide +kernel
theorem dX12_last_8 : decode cX12_last 8 = .ok (.iconst 1, 1) := by decide +kernel
theorem dX12_last_9 : decode cX12_last 9 = .ok (.isub, 1) := by decide +kernel
theorem dX12_last_10 : decode cX12_last 10 = .ok (.iaload, 1) := by decide +kernel
theorem dX12_last_11 : decode cX12_last 11 = .ok (.ireturn, 1) := by decide +kernel
theorem dX12_tellFeature_0 : decode cX12_tellFeature 0 = .ok (.iload_n 2, 1) := by decide +kernel
theorem dX12_tellFeature_1 : decode cX12_tellFeature 1 = .ok (.ifCond .ne 12, 3) := by decide +kernel
theorem dX12_tellFeature_4 : decode cX12_tellFeature 4 = .ok (.aload_n 0, 1) := by decide +kernel
theorem dX12_tellFeature_5 : decode cX12_tellFeature 5 = .ok (.getfield 7, 3) := by decide +kernel
theorem dX12_tellFeature_8 : decode cX12_tellFeature 8 = .ok (.iload_n 1, 1) := by decide +kernel
theorem dX12_tellFeature_9 : decode cX12_tellFeature 9 = .ok (.iaload, 1) := by decide +kernel
theorem dX12_tellFeature_10 : decode cX12_tellFeature 10 = .ok (.goto 46, 3) := by decide +kernel
theorem dX12_tellFeature_13 : decode cX12_tellFeature 13 = .ok (.iload_n 2, 1) := by decide +kernel
theorem dX12_tellFeature_14 : decode cX12_tellFeature 14 = .ok (.iconst 1, 1) := by decide +kernel
theorem dX12_tellFeature_15 : decode cX12_tellFeature 15 = .ok (.if_icmp .ne 12, 3) := by decide +kernel
theorem dX12_tellFeature_18 : decode cX12_tellFeature 18 = .ok (.aload_n 0, 1) := by decide +kernel
theorem dX12_tellFeature_19 : decode cX12_tellFeature 19 = .ok (.getfield 13, 3) := by decide +kernel
theorem dX12_tellFeature_22 : decode cX12_tellFeature 22 = .ok (.iload_n 1, 1) := by decide +kernel
theorem dX12_tellFeature_23 : decode cX12_tellFeature 23 = .ok (.iaload, 1) := by decide +kernel
theorem dX12_tellFeature_24 : decode cX12_tellFeature 24 = .ok (.goto 32, 3) := by decide +kernel
theorem dX12_tellFeature_27 : decode cX12_tellFeature 27 = .ok (.iload_n 2, 1) := by decide +kernel
theorem dX12_tellFeature_28 : decode cX12_tellFeature 28 = .ok (.iconst 2, 1) := by decide +kernel
theorem dX12_tellFeature_29 : decode cX12_tellFeature 29 = .ok (.if_icmp .ne 25, 3) := by decide +kernel
theorem dX12_tellFeature_32 : decode cX12_tellFeature 32 = .ok (.aload_n 0, 1) := by decide +kernel
theorem dX12_tellFeature_33 : decode cX12_tellFeature 33 = .ok (.invokevirtual 79, 3) := by decide +kernel
theorem dX12_tellFeature_36 : decode cX12_tellFeature 36 = .ok (.ifCond .eq 7, 3) := by decide +kernel
theorem dX12_tellFeature_39 : decode cX12_tellFeature 39 = .ok (.iconst (-1), 1) := by decide +kernel
theorem dX12_tellFeature_40 : decode cX12_tellFeature 40 = .ok (.goto 16, 3) := by decide +kernel
theorem dX12_tellFeature_43 : decode cX12_tellFeature 43 = .ok (.aload_n 0, 1) := by decide +kernel
theorem dX12_tellFeature_44 : decode cX12_tellFeature 44 = .ok (.invokevirtual 91, 3) := by decide +kernel
theorem dX12_tellFeature_47 : decode cX12_tellFeature 47 = .ok (.iload_n 1, 1) := by decide +kernel
theorem dX12_tellFeature_48 : decode cX12_tellFeature 48 = .ok (.invokestatic 94, 3) := by decide +kernel
theorem dX12_tellFeature_51 : decode cX12_tellFeature 51 = .ok (.goto 5, 3) := by decide +kernel
theorem dX12_tellFeature_54 : decode cX12_tellFeature 54 = .ok (.bipush (-102), 2) := by decide +kernel
theorem dX12_tellFeature_56 : decode cX12_tellFeature 56 = .ok (.ireturn, 1) := by decide +kernel
theorem dX12_about_0 : decode cX12_about 0 = .ok (.aload_n 0, 1) := by decide +kernel
theorem dX12_about_1 : decode cX12_about 1 = .ok (.iload_n 1, 1) := by decide +kernel
theorem dX12_about_2 : decode cX12_about 2 = .ok (.invokevirtual 98, 3) := by decide +kernel
theorem dX12_about_5 : decode cX12_about 5 = .ok (.ifCond .eq 12, 3) := by decide +kernel
theorem dX12_about_8 : decode cX12_about 8 = .ok (.aload_n 0, 1) := by decide +kernel
theorem dX12_about_9 : decode cX12_about 9 = .ok (.iload_n 1, 1) := by decide +kernel
theorem dX12_about_10 : decode cX12_about 10 = .ok (.iload_n 2, 1) := by decide +kernel
theorem dX12_about_11 : decode cX12_about 11 = .ok (.invokevirtual 102, 3) := by decide +kernel
theorem dX12_about_14 : decode cX12_about 14 = .ok (.goto 5, 3) := by decide +kernel
theorem dX12_about_17 : decode cX12_about 17 = .ok (.bipush (-101), 2) := by decide +kernel
theorem dX12_about_19 : decode cX12_about 19 = .ok (.ireturn, 1) := by decide +kernel
theorem dX12_as_0 : decode cX12_as 0 = .ok (.aload_n 0, 1) := by decide +kernel
theorem dX12_as_1 : decode cX12_as 1 = .ok (.iload_n 1, 1) := by decide +kernel
theorem dX12_as_2 : decode cX12_as 2 = .ok (.invokevirtual 98, 3) := by decide +kernel
theorem dX12_as_5 : decode cX12_as 5 = .ok (.ifCond .ne 6, 3) := by decide +kernel
theorem dX12_as_8 : decode cX12_as 8 = .ok (.bipush (-101), 2) := by decide +kernel
theorem dX12_as_10 : decode cX12_as 10 = .ok (.ireturn, 1) := by decide +kernel
theorem dX12_as_11 : decode cX12_as 11 = .ok (.iload_n 2, 1) := by decide +kernel
theorem dX12_as_12 : decode cX12_as 12 = .ok (.i2l, 1) := by decide +kernel
theorem dX12_as_13 : decode cX12_as 13 = .ok (.lconst 0, 1) := by decide +kernel
theorem dX12_as_14 : decode cX12_as 14 = .ok (.ldc2_w 75, 3) := by decide +kernel
theorem dX12_as_17 : decode cX12_as 17 = .ok (.invokestatic 68, 3) := by decide +kernel
theorem dX12_as_20 : decode cX12_as 20 = .ok (.ifCond .ne 6, 3) := by decide +kernel
theorem dX12_as_23 : decode cX12_as 23 = .ok (.bipush (-102), 2) := by decide +kernel
theorem dX12_as_25 : decode cX12_as 25 = .ok (.ireturn, 1) := by decide +kernel
theorem dX12_as_26 : decode cX12_as 26 = .ok (.iload_n 2, 1) := by decide +kernel
theorem dX12_as_27 : decode cX12_as 27 = .ok (.ifCond .eq 28, 3) := by decide +kernel
theorem dX12_as_30 : decode cX12_as 30 = .ok (.iload_n 2, 1) := by decide +kernel
theorem dX12_as_31 : decode cX12_as 31 = .ok (.aload_n 0, 1) := by decide +kernel
theorem dX12_as_32 : decode cX12_as 32 = .ok (.getfield 7, 3) := by decide +kernel
theorem dX12_as_35 : decode cX12_as 35 = .ok (.iload_n 1, 1) := by decide +kernel
theorem dX12_as_36 : decode cX12_as 36 = .ok (.iaload, 1) := by decide +kernel
theorem dX12_as_37 : decode cX12_as 37 = .ok (.if_icmp .eq 18, 3) := by decide +kernel
theorem dX12_as_40 : decode cX12_as 40 = .ok (.iload_n 2, 1) := by decide +kernel
theorem dX12_as_41 : decode cX12_as 41 = .ok (.iconst 2, 1) := by decide +kernel
theorem dX12_as_42 : decode cX12_as 42 = .ok (.if_icmp .ne 17, 3) := by decide +kernel
theorem dX12_as_45 : decode cX12_as 45 = .ok (.aload_n 0, 1) := by decide +kernel
theorem dX12_as_46 : decode cX12_as 46 = .ok (.getfield 7, 3) := by decide +kernel
theorem dX12_as_49 : decode cX12_as 49 = .ok (.iload_n 1, 1) := by decide +kernel
theorem dX12_as_50 : decode cX12_as 50 = .ok (.iaload, 1) := by decide +kernel
theorem dX12_as_51 : decode cX12_as 51 = .ok (.iconst 4, 1) := by decide +kernel
theorem dX12_as_52 : decode cX12_as 52 = .ok (.if_icmp .ne 7, 3) := by decide +kernel
theorem dX12_as_55 : decode cX12_as 55 = .ok (.iconst 1, 1) := by decide +kernel
theorem dX12_as_56 : decode cX12_as 56 = .ok (.goto 4, 3) := by decide +kernel
theorem dX12_as_59 : decode cX12_as 59 = .ok (.iconst 0, 1) := by decide +kernel
theorem dX12_as_60 : decode cX12_as 60 = .ok (.istore_n 3, 1) := by decide +kernel
theorem dX12_as_61 : decode cX12_as 61 = .ok (.iload_n 3, 1) := by decide +kernel
theorem dX12_as_62 : decode cX12_as 62 = .ok (.ifCond .eq 7, 3) := by decide +kernel
theorem dX12_as_65 : decode cX12_as 65 = .ok (.iload_n 1, 1) := by decide +kernel
theorem dX12_as_66 : decode cX12_as 66 = .ok (.goto 4, 3) := by decide +kernel
theorem dX12_as_69 : decode cX12_as 69 = .ok (.iconst (-1), 1) := by decide +kernel
theorem dX12_as_70 : decode cX12_as 70 = .ok (.ireturn, 1) := by decide +kernel
theorem dX12_begin_0 : decode cX12_begin 0 = .ok (.aload_n 0, 1) := by decide +kernel
theorem dX12_begin_1 : decode cX12_begin 1 = .ok (.invokevirtual 79, 3) := by decide +kernel
theorem dX12_begin_4 : decode cX12_begin 4 = .ok (.ifCond .eq 11, 3) := by decide +kernel
theorem dX12_begin_7 : decode cX12_begin 7 = .ok (.aload_n 0, 1) := by decide +kernel
theorem dX12_begin_8 : decode cX12_begin 8 = .ok (.getfield 65, 3) := by decide +kernel
theorem dX12_begin_11 : decode cX12_begin 11 = .ok (.iconst 2, 1) := by decide +kernel
theorem dX12_begin_12 : decode cX12_begin 12 = .ok (.if_icmp .ge 6, 3) := by decide +kernel
theorem dX12_begin_15 : decode cX12_begin 15 = .ok (.bipush (-103), 2) := by decide +kernel
theorem dX12_begin_17 : decode cX12_begin 17 = .ok (.ireturn, 1) := by decide +kernel
theorem dX12_begin_18 : decode cX12_begin 18 = .ok (.aload_n 0, 1) := by decide +kernel
theorem dX12_begin_19 : decode cX12_begin 19 = .ok (.getfield 16, 3) := by decide +kernel
theorem dX12_begin_22 : decode cX12_begin 22 = .ok (.iconst 0, 1) := by decide +kernel
theorem dX12_begin_23 : decode cX12_begin 23 = .ok (.aload_n 0, 1) := by decide +kernel
theorem dX12_begin_24 : decode cX12_begin 24 = .ok (.invokevirtual 105, 3) := by decide +kernel
theorem dX12_begin_27 : decode cX12_begin 27 = .ok (.iastore, 1) := by decide +kernel
theorem dX12_begin_28 : decode cX12_begin 28 = .ok (.aload_n 0, 1) := by decide +kernel
theorem dX12_begin_29 : decode cX12_begin 29 = .ok (.iconst 1, 1) := by decide +kernel
theorem dX12_begin_30 : decode cX12_begin 30 = .ok (.putfield 72, 3) := by decide +kernel
theorem dX12_begin_33 : decode cX12_begin 33 = .ok (.aload_n 0, 1) := by decide +kernel
theorem dX12_begin_34 : decode cX12_begin 34 = .ok (.getfield 16, 3) := by decide +kernel
theorem dX12_begin_37 : decode cX12_begin 37 = .ok (.iconst 0, 1) := by decide +kernel
theorem dX12_begin_38 : decode cX12_begin 38 = .ok (.iaload, 1) := by decide +kernel
theorem dX12_begin_39 : decode cX12_begin 39 = .ok (.ireturn, 1) := by decide +kernel
theorem dX12_gap_0 : decode cX12_gap 0 = .ok (.iload_n 0, 1) := by decide +kernel
theorem dX12_gap_1 : decode cX12_gap 1 = .ok (.iload_n 1, 1) := by decide +kernel
theorem dX12_gap_2 : decode cX12_gap 2 = .ok (.if_icmp .le 9, 3) := by decide +kernel
theorem dX12_gap_5 : decode cX12_gap 5 = .ok (.iload_n 0, 1) := by decide +kernel
theorem dX12_gap_6 : decode cX12_gap 6 = .ok (.iload_n 1, 1) := by decide +kernel
theorem dX12_gap_7 : decode cX12_gap 7 = .ok (.isub, 1) := by decide +kernel
theorem dX12_gap_8 : decode cX12_gap 8 = .ok (.goto 6, 3) := by decide +kernel
theorem dX12_gap_11 : decode cX12_gap 11 = .ok (.iload_n 1, 1) := by decide +kernel
theorem dX12_gap_12 : decode cX12_gap 12 = .ok (.iload_n 0, 1) := by decide +kernel
theorem dX12_gap_13 : decode cX12_gap 13 = .ok (.isub, 1) := by decide +kernel
theorem dX12_gap_14 : decode cX12_gap 14 = .ok (.ireturn, 1) := by decide +kernel
theorem dX12_stepsOf_0 : decode cX12_stepsOf 0 = .ok (.iload_n 2, 1) := by decide +kernel
theorem dX12_stepsOf_1 : decode cX12_stepsOf 1 = .ok (.iload_n 1, 1) := by decide +kernel
theorem dX12_stepsOf_2 : decode cX12_stepsOf 2 = .ok (.invokestatic 94, 3) := by decide +kernel
theorem dX12_stepsOf_5 : decode cX12_stepsOf 5 = .ok (.iload_n 3, 1) := by decide +kernel
theorem dX12_stepsOf_6 : decode cX12_stepsOf 6 = .ok (.iload_n 1, 1) := by decide +kernel
theorem dX12_stepsOf_7 : decode cX12_stepsOf 7 = .ok (.invokestatic 94, 3) := by decide +kernel
theorem dX12_stepsOf_10 : decode cX12_stepsOf 10 = .ok (.invokestatic 108, 3) := by decide +kernel
theorem dX12_stepsOf_13 : decode cX12_stepsOf 13 = .ok (.istore 4, 2) := by decide +kernel
theorem dX12_stepsOf_15 : decode cX12_stepsOf 15 = .ok (.aload_n 0, 1) := by decide +kernel
theorem dX12_stepsOf_16 : decode cX12_stepsOf 16 = .ok (.getfield 7, 3) := by decide +kernel
theorem dX12_stepsOf_19 : decode cX12_stepsOf 19 = .ok (.iload_n 1, 1) := by decide +kernel
theorem dX12_stepsOf_20 : decode cX12_stepsOf 20 = .ok (.iaload, 1) := by decide +kernel
theorem dX12_stepsOf_21 : decode cX12_stepsOf 21 = .ok (.iconst 3, 1) := by decide +kernel
theorem dX12_stepsOf_22 : decode cX12_stepsOf 22 = .ok (.if_icmp .ne 17, 3) := by decide +kernel
theorem dX12_stepsOf_25 : decode cX12_stepsOf 25 = .ok (.iload 4, 2) := by decide +kernel
theorem dX12_stepsOf_27 : decode cX12_stepsOf 27 = .ok (.iconst 5, 1) := by decide +kernel
theorem dX12_stepsOf_28 : decode cX12_stepsOf 28 = .ok (.if_icmp .le 11, 3) := by decide +kernel
theorem dX12_stepsOf_31 : decode cX12_stepsOf 31 = .ok (.bipush 10, 2) := by decide +kernel
theorem dX12_stepsOf_33 : decode cX12_stepsOf 33 = .ok (.iload 4, 2) := by decide +kernel
theorem dX12_stepsOf_35 : decode cX12_stepsOf 35 = .ok (.isub, 1) := by decide +kernel
theorem dX12_stepsOf_36 : decode cX12_stepsOf 36 = .ok (.goto 5, 3) := by decide +kernel
theorem dX12_stepsOf_39 : decode cX12_stepsOf 39 = .ok (.iload 4, 2) := by decide +kernel
theorem dX12_stepsOf_41 : decode cX12_stepsOf 41 = .ok (.ireturn, 1) := by decide +kernel
theorem dX12_apartIn_0 : decode cX12_apartIn 0 = .ok (.aload_n 0, 1) := by decide +kernel
theorem dX12_apartIn_1 : decode cX12_apartIn 1 = .ok (.iload_n 1, 1) := by decide +kernel
theorem dX12_apartIn_2 : decode cX12_apartIn 2 = .ok (.iload_n 2, 1) := by decide +kernel
theorem dX12_apartIn_3 : decode cX12_apartIn 3 = .ok (.iload_n 3, 1) := by decide +kernel
theorem dX12_apartIn_4 : decode cX12_apartIn 4 = .ok (.invokevirtual 111, 3) := by decide +kernel
theorem dX12_apartIn_7 : decode cX12_apartIn 7 = .ok (.istore 4, 2) := by decide +kernel
theorem dX12_apartIn_9 : decode cX12_apartIn 9 = .ok (.aload_n 0, 1) := by decide +kernel
theorem dX12_apartIn_10 : decode cX12_apartIn 10 = .ok (.getfield 7, 3) := by decide +kernel
theorem dX12_apartIn_13 : decode cX12_apartIn 13 = .ok (.iload_n 1, 1) := by decide +kernel
theorem dX12_apartIn_14 : decode cX12_apartIn 14 = .ok (.iaload, 1) := by decide +kernel
theorem dX12_apartIn_15 : decode cX12_apartIn 15 = .ok (.iconst 2, 1) := by decide +kernel
theorem dX12_apartIn_16 : decode cX12_apartIn 16 = .ok (.if_icmp .eq 13, 3) := by decide +kernel
theorem dX12_apartIn_19 : decode cX12_apartIn 19 = .ok (.aload_n 0, 1) := by decide +kernel
theorem dX12_apartIn_20 : decode cX12_apartIn 20 = .ok (.getfield 7, 3) := by decide +kernel
theorem dX12_apartIn_23 : decode cX12_apartIn 23 = .ok (.iload_n 1, 1) := by decide +kernel
theorem dX12_apartIn_24 : decode cX12_apartIn 24 = .ok (.iaload, 1) := by decide +kernel
theorem dX12_apartIn_25 : decode cX12_apartIn 25 = .ok (.iconst 4, 1) := by decide +kernel
theorem dX12_apartIn_26 : decode cX12_apartIn 26 = .ok (.if_icmp .ne 13, 3) := by decide +kernel
theorem dX12_apartIn_29 : decode cX12_apartIn 29 = .ok (.iload 4, 2) := by decide +kernel
theorem dX12_apartIn_31 : decode cX12_apartIn 31 = .ok (.ifCond .le 8, 3) := by decide +kernel
theorem dX12_apartIn_34 : decode cX12_apartIn 34 = .ok (.bipush 9, 2) := by decide +kernel
theorem dX12_apartIn_36 : decode cX12_apartIn 36 = .ok (.goto 5, 3) := by decide +kernel
theorem dX12_apartIn_39 : decode cX12_apartIn 39 = .ok (.iload 4, 2) := by decide +kernel
theorem dX12_apartIn_41 : decode cX12_apartIn 41 = .ok (.ireturn, 1) := by decide +kernel
theorem dX12_apartOf_0 : decode cX12_apartOf 0 = .ok (.iconst 0, 1) := by decide +kernel
theorem dX12_apartOf_1 : decode cX12_apartOf 1 = .ok (.istore_n 3, 1) := by decide +kernel
theorem dX12_apartOf_2 : decode cX12_apartOf 2 = .ok (.iconst 0, 1) := by decide +kernel
theorem dX12_apartOf_3 : decode cX12_apartOf 3 = .ok (.istore 4, 2) := by decide +kernel
theorem dX12_apartOf_5 : decode cX12_apartOf 5 = .ok (.iload 4, 2) := by decide +kernel
theorem dX12_apartOf_7 : decode cX12_apartOf 7 = .ok (.aload_n 0, 1) := by decide +kernel
theorem dX12_apartOf_8 : decode cX12_apartOf 8 = .ok (.getfield 65, 3) := by decide +kernel
theorem dX12_apartOf_11 : decode cX12_apartOf 11 = .ok (.if_icmp .ge 20, 3) := by decide +kernel
theorem dX12_apartOf_14 : decode cX12_apartOf 14 = .ok (.iload_n 3, 1) := by decide +kernel
theorem dX12_apartOf_15 : decode cX12_apartOf 15 = .ok (.aload_n 0, 1) := by decide +kernel
theorem dX12_apartOf_16 : decode cX12_apartOf 16 = .ok (.iload 4, 2) := by decide +kernel
theorem dX12_apartOf_18 : decode cX12_apartOf 18 = .ok (.iload_n 1, 1) := by decide +kernel
theorem dX12_apartOf_19 : decode cX12_apartOf 19 = .ok (.iload_n 2, 1) := by decide +kernel
theorem dX12_apartOf_20 : decode cX12_apartOf 20 = .ok (.invokevirtual 115, 3) := by decide +kernel
theorem dX12_apartOf_23 : decode cX12_apartOf 23 = .ok (.iadd, 1) := by decide +kernel
theorem dX12_apartOf_24 : decode cX12_apartOf 24 = .ok (.istore_n 3, 1) := by decide +kernel
theorem dX12_apartOf_25 : decode cX12_apartOf 25 = .ok (.iinc 4 1, 3) := by decide +kernel
theorem dX12_apartOf_28 : decode cX12_apartOf 28 = .ok (.goto (-23), 3) := by decide +kernel
theorem dX12_apartOf_31 : decode cX12_apartOf 31 = .ok (.iload_n 3, 1) := by decide +kernel
theorem dX12_apartOf_32 : decode cX12_apartOf 32 = .ok (.ireturn, 1) := by decide +kernel
theorem dX12_apart_0 : decode cX12_apart 0 = .ok (.aload_n 0, 1) := by decide +kernel
theorem dX12_apart_1 : decode cX12_apart 1 = .ok (.invokevirtual 79, 3) := by decide +kernel
theorem dX12_apart_4 : decode cX12_apart 4 = .ok (.ifCond .eq 6, 3) := by decide +kernel
theorem dX12_apart_7 : decode cX12_apart 7 = .ok (.bipush (-103), 2) := by decide +kernel
theorem dX12_apart_9 : decode cX12_apart 9 = .ok (.ireturn, 1) := by decide +kernel
theorem dX12_apart_10 : decode cX12_apart 10 = .ok (.aload_n 0, 1) := by decide +kernel
theorem dX12_apart_11 : decode cX12_apart 11 = .ok (.iload_n 1, 1) := by decide +kernel
theorem dX12_apart_12 : decode cX12_apart 12 = .ok (.invokevirtual 118, 3) := by decide +kernel
theorem dX12_apart_15 : decode cX12_apart 15 = .ok (.ifCond .eq 20, 3) := by decide +kernel
theorem dX12_apart_18 : decode cX12_apart 18 = .ok (.aload_n 0, 1) := by decide +kernel
theorem dX12_apart_19 : decode cX12_apart 19 = .ok (.iload_n 2, 1) := by decide +kernel
theorem dX12_apart_20 : decode cX12_apart 20 = .ok (.invokevirtual 118, 3) := by decide +kernel
theorem dX12_apart_23 : decode cX12_apart 23 = .ok (.ifCond .eq 12, 3) := by decide +kernel
theorem dX12_apart_26 : decode cX12_apart 26 = .ok (.aload_n 0, 1) := by decide +kernel
theorem dX12_apart_27 : decode cX12_apart 27 = .ok (.iload_n 1, 1) := by decide +kernel
theorem dX12_apart_28 : decode cX12_apart 28 = .ok (.iload_n 2, 1) := by decide +kernel
theorem dX12_apart_29 : decode cX12_apart 29 = .ok (.invokevirtual 121, 3) := by decide +kernel
theorem dX12_apart_32 : decode cX12_apart 32 = .ok (.goto 5, 3) := by decide +kernel
theorem dX12_apart_35 : decode cX12_apart 35 = .ok (.bipush (-102), 2) := by decide +kernel
theorem dX12_apart_37 : decode cX12_apart 37 = .ok (.ireturn, 1) := by decide +kernel
theorem dX12_age_0 : decode cX12_age 0 = .ok (.iconst 0, 1) := by decide +kernel
theorem dX12_age_1 : decode cX12_age 1 = .ok (.istore_n 1, 1) := by decide +kernel
theorem dX12_age_2 : decode cX12_age 2 = .ok (.iload_n 1, 1) := by decide +kernel
theorem dX12_age_3 : decode cX12_age 3 = .ok (.aload_n 0, 1) := by decide +kernel
theorem dX12_age_4 : decode cX12_age 4 = .ok (.getfield 65, 3) := by decide +kernel
theorem dX12_age_7 : decode cX12_age 7 = .ok (.if_icmp .ge 75, 3) := by decide +kernel
theorem dX12_age_10 : decode cX12_age 10 = .ok (.aload_n 0, 1) := by decide +kernel
theorem dX12_age_11 : decode cX12_age 11 = .ok (.getfield 13, 3) := by decide +kernel
theorem dX12_age_14 : decode cX12_age 14 = .ok (.iload_n 1, 1) := by decide +kernel
theorem dX12_age_15 : decode cX12_age 15 = .ok (.aload_n 0, 1) := by decide +kernel
theorem dX12_age_16 : decode cX12_age 16 = .ok (.getfield 7, 3) := by decide +kernel
theorem dX12_age_19 : decode cX12_age 19 = .ok (.iload_n 1, 1) := by decide +kernel
theorem dX12_age_20 : decode cX12_age 20 = .ok (.iaload, 1) := by decide +kernel
theorem dX12_age_21 : decode cX12_age 21 = .ok (.iconst 1, 1) := by decide +kernel
theorem dX12_age_22 : decode cX12_age 22 = .ok (.if_icmp .ne 23, 3) := by decide +kernel
theorem dX12_age_25 : decode cX12_age 25 = .ok (.aload_n 0, 1) := by decide +kernel
theorem dX12_age_26 : decode cX12_age 26 = .ok (.getfield 13, 3) := by decide +kernel
theorem dX12_age_29 : decode cX12_age 29 = .ok (.iload_n 1, 1) := by decide +kernel
theorem dX12_age_30 : decode cX12_age 30 = .ok (.iaload, 1) := by decide +kernel
theorem dX12_age_31 : decode cX12_age 31 = .ok (.ifCond .le 14, 3) := by decide +kernel
theorem dX12_age_34 : decode cX12_age 34 = .ok (.aload_n 0, 1) := by decide +kernel
theorem dX12_age_35 : decode cX12_age 35 = .ok (.getfield 13, 3) := by decide +kernel
theorem dX12_age_38 : decode cX12_age 38 = .ok (.iload_n 1, 1) := by decide +kernel
theorem dX12_age_39 : decode cX12_age 39 = .ok (.iaload, 1) := by decide +kernel
theorem dX12_age_40 : decode cX12_age 40 = .ok (.iconst 1, 1) := by decide +kernel
theorem dX12_age_41 : decode cX12_age 41 = .ok (.isub, 1) := by decide +kernel
theorem dX12_age_42 : decode cX12_age 42 = .ok (.goto 33, 3) := by decide +kernel
theorem dX12_age_45 : decode cX12_age 45 = .ok (.aload_n 0, 1) := by decide +kernel
theorem dX12_age_46 : decode cX12_age 46 = .ok (.getfield 7, 3) := by decide +kernel
theorem dX12_age_49 : decode cX12_age 49 = .ok (.iload_n 1, 1) := by decide +kernel
end
section
theorem dX12_age_50 : decode cX12_age 50 = .ok (.iaload, 1) := by decide +kernel
theorem dX12_age_51 : decode cX12_age 51 = .ok (.iconst 3, 1) := by decide +kernel
theorem dX12_age_52 : decode cX12_age 52 = .ok (.if_icmp .ne 17, 3) := by decide +kernel
theorem dX12_age_55 : decode cX12_age 55 = .ok (.aload_n 0, 1) := by decide +kernel
theorem dX12_age_56 : decode cX12_age 56 = .ok (.getfield 13, 3) := by decide +kernel
theorem dX12_age_59 : decode cX12_age 59 = .ok (.iload_n 1, 1) := by decide +kernel
theorem dX12_age_60 : decode cX12_age 60 = .ok (.iaload, 1) := by decide +kernel
theorem dX12_age_61 : decode cX12_age 61 = .ok (.iconst 1, 1) := by decide +kernel
theorem dX12_age_62 : decode cX12_age 62 = .ok (.iadd, 1) := by decide +kernel
theorem dX12_age_63 : decode cX12_age 63 = .ok (.bipush 10, 2) := by decide +kernel
theorem dX12_age_65 : decode cX12_age 65 = .ok (.irem, 1) := by decide +kernel
theorem dX12_age_66 : decode cX12_age 66 = .ok (.goto 9, 3) := by decide +kernel
theorem dX12_age_69 : decode cX12_age 69 = .ok (.aload_n 0, 1) := by decide +kernel
theorem dX12_age_70 : decode cX12_age 70 = .ok (.getfield 13, 3) := by decide +kernel
theorem dX12_age_73 : decode cX12_age 73 = .ok (.iload_n 1, 1) := by decide +kernel
theorem dX12_age_74 : decode cX12_age 74 = .ok (.iaload, 1) := by decide +kernel
theorem dX12_age_75 : decode cX12_age 75 = .ok (.iastore, 1) := by decide +kernel
theorem dX12_age_76 : decode cX12_age 76 = .ok (.iinc 1 1, 3) := by decide +kernel
theorem dX12_age_79 : decode cX12_age 79 = .ok (.goto (-77), 3) := by decide +kernel
theorem dX12_age_82 : decode cX12_age 82 = .ok (.return_, 1) := by decide +kernel
theorem dX12_keepKing_0 : decode cX12_keepKing 0 = .ok (.iconst 0, 1) := by decide +kernel
theorem dX12_keepKing_1 : decode cX12_keepKing 1 = .ok (.istore_n 1, 1) := by decide +kernel
theorem dX12_keepKing_2 : decode cX12_keepKing 2 = .ok (.iload_n 1, 1) := by decide +kernel
theorem dX12_keepKing_3 : decode cX12_keepKing 3 = .ok (.iconst 4, 1) := by decide +kernel
theorem dX12_keepKing_4 : decode cX12_keepKing 4 = .ok (.if_icmp .ge 21, 3) := by decide +kernel
theorem dX12_keepKing_7 : decode cX12_keepKing 7 = .ok (.aload_n 0, 1) := by decide +kernel
theorem dX12_keepKing_8 : decode cX12_keepKing 8 = .ok (.getfield 19, 3) := by decide +kernel
theorem dX12_keepKing_11 : decode cX12_keepKing 11 = .ok (.iload_n 1, 1) := by decide +kernel
theorem dX12_keepKing_12 : decode cX12_keepKing 12 = .ok (.aload_n 0, 1) := by decide +kernel
theorem dX12_keepKing_13 : decode cX12_keepKing 13 = .ok (.getfield 13, 3) := by decide +kernel
theorem dX12_keepKing_16 : decode cX12_keepKing 16 = .ok (.iload_n 1, 1) := by decide +kernel
theorem dX12_keepKing_17 : decode cX12_keepKing 17 = .ok (.iaload, 1) := by decide +kernel
theorem dX12_keepKing_18 : decode cX12_keepKing 18 = .ok (.iastore, 1) := by decide +kernel
theorem dX12_keepKing_19 : decode cX12_keepKing 19 = .ok (.iinc 1 1, 3) := by decide +kernel
theorem dX12_keepKing_22 : decode cX12_keepKing 22 = .ok (.goto (-20), 3) := by decide +kernel
theorem dX12_keepKing_25 : decode cX12_keepKing 25 = .ok (.return_, 1) := by decide +kernel
theorem dX12_putBack_0 : decode cX12_putBack 0 = .ok (.iconst 0, 1) := by decide +kernel
theorem dX12_putBack_1 : decode cX12_putBack 1 = .ok (.istore_n 1, 1) := by decide +kernel
theorem dX12_putBack_2 : decode cX12_putBack 2 = .ok (.iload_n 1, 1) := by decide +kernel
theorem dX12_putBack_3 : decode cX12_putBack 3 = .ok (.iconst 4, 1) := by decide +kernel
theorem dX12_putBack_4 : decode cX12_putBack 4 = .ok (.if_icmp .ge 21, 3) := by decide +kernel
theorem dX12_putBack_7 : decode cX12_putBack 7 = .ok (.aload_n 0, 1) := by decide +kernel
theorem dX12_putBack_8 : decode cX12_putBack 8 = .ok (.getfield 13, 3) := by decide +kernel
theorem dX12_putBack_11 : decode cX12_putBack 11 = .ok (.iload_n 1, 1) := by decide +kernel
theorem dX12_putBack_12 : decode cX12_putBack 12 = .ok (.aload_n 0, 1) := by decide +kernel
theorem dX12_putBack_13 : decode cX12_putBack 13 = .ok (.getfield 19, 3) := by decide +kernel
theorem dX12_putBack_16 : decode cX12_putBack 16 = .ok (.iload_n 1, 1) := by decide +kernel
theorem dX12_putBack_17 : decode cX12_putBack 17 = .ok (.iaload, 1) := by decide +kernel
theorem dX12_putBack_18 : decode cX12_putBack 18 = .ok (.iastore, 1) := by decide +kernel
theorem dX12_putBack_19 : decode cX12_putBack 19 = .ok (.iinc 1 1, 3) := by decide +kernel
theorem dX12_putBack_22 : decode cX12_putBack 22 = .ok (.goto (-20), 3) := by decide +kernel
theorem dX12_putBack_25 : decode cX12_putBack 25 = .ok (.return_, 1) := by decide +kernel
theorem dX12_paint_0 : decode cX12_paint 0 = .ok (.aload_n 0, 1) := by decide +kernel
theorem dX12_paint_1 : decode cX12_paint 1 = .ok (.invokevirtual 79, 3) := by decide +kernel
theorem dX12_paint_4 : decode cX12_paint 4 = .ok (.ifCond .eq 6, 3) := by decide +kernel
theorem dX12_paint_7 : decode cX12_paint 7 = .ok (.bipush (-103), 2) := by decide +kernel
theorem dX12_paint_9 : decode cX12_paint 9 = .ok (.ireturn, 1) := by decide +kernel
theorem dX12_paint_10 : decode cX12_paint 10 = .ok (.aload_n 0, 1) := by decide +kernel
theorem dX12_paint_11 : decode cX12_paint 11 = .ok (.iload_n 1, 1) := by decide +kernel
theorem dX12_paint_12 : decode cX12_paint 12 = .ok (.invokevirtual 118, 3) := by decide +kernel
theorem dX12_paint_15 : decode cX12_paint 15 = .ok (.ifCond .ne 6, 3) := by decide +kernel
theorem dX12_paint_18 : decode cX12_paint 18 = .ok (.bipush (-102), 2) := by decide +kernel
theorem dX12_paint_20 : decode cX12_paint 20 = .ok (.ireturn, 1) := by decide +kernel
theorem dX12_paint_21 : decode cX12_paint 21 = .ok (.aload_n 0, 1) := by decide +kernel
theorem dX12_paint_22 : decode cX12_paint 22 = .ok (.invokevirtual 124, 3) := by decide +kernel
theorem dX12_paint_25 : decode cX12_paint 25 = .ok (.aload_n 0, 1) := by decide +kernel
theorem dX12_paint_26 : decode cX12_paint 26 = .ok (.invokevirtual 127, 3) := by decide +kernel
theorem dX12_paint_29 : decode cX12_paint 29 = .ok (.aload_n 0, 1) := by decide +kernel
theorem dX12_paint_30 : decode cX12_paint 30 = .ok (.aload_n 0, 1) := by decide +kernel
theorem dX12_paint_31 : decode cX12_paint 31 = .ok (.invokevirtual 91, 3) := by decide +kernel
theorem dX12_paint_34 : decode cX12_paint 34 = .ok (.iload_n 1, 1) := by decide +kernel
theorem dX12_paint_35 : decode cX12_paint 35 = .ok (.invokevirtual 130, 3) := by decide +kernel
theorem dX12_paint_38 : decode cX12_paint 38 = .ok (.istore_n 2, 1) := by decide +kernel
theorem dX12_paint_39 : decode cX12_paint 39 = .ok (.iload_n 2, 1) := by decide +kernel
theorem dX12_paint_40 : decode cX12_paint 40 = .ok (.ifCond .eq 12, 3) := by decide +kernel
theorem dX12_paint_43 : decode cX12_paint 43 = .ok (.aload_n 0, 1) := by decide +kernel
theorem dX12_paint_44 : decode cX12_paint 44 = .ok (.getfield 72, 3) := by decide +kernel
theorem dX12_paint_47 : decode cX12_paint 47 = .ok (.bipush 60, 2) := by decide +kernel
theorem dX12_paint_49 : decode cX12_paint 49 = .ok (.if_icmp .ne 19, 3) := by decide +kernel
theorem dX12_paint_52 : decode cX12_paint 52 = .ok (.aload_n 0, 1) := by decide +kernel
theorem dX12_paint_53 : decode cX12_paint 53 = .ok (.invokevirtual 134, 3) := by decide +kernel
theorem dX12_paint_56 : decode cX12_paint 56 = .ok (.iload_n 2, 1) := by decide +kernel
theorem dX12_paint_57 : decode cX12_paint 57 = .ok (.ifCond .eq 8, 3) := by decide +kernel
theorem dX12_paint_60 : decode cX12_paint 60 = .ok (.bipush (-104), 2) := by decide +kernel
theorem dX12_paint_62 : decode cX12_paint 62 = .ok (.goto 5, 3) := by decide +kernel
theorem dX12_paint_65 : decode cX12_paint 65 = .ok (.bipush (-103), 2) := by decide +kernel
theorem dX12_paint_67 : decode cX12_paint 67 = .ok (.ireturn, 1) := by decide +kernel
theorem dX12_paint_68 : decode cX12_paint 68 = .ok (.aload_n 0, 1) := by decide +kernel
theorem dX12_paint_69 : decode cX12_paint 69 = .ok (.getfield 16, 3) := by decide +kernel
theorem dX12_paint_72 : decode cX12_paint 72 = .ok (.aload_n 0, 1) := by decide +kernel
theorem dX12_paint_73 : decode cX12_paint 73 = .ok (.getfield 72, 3) := by decide +kernel
theorem dX12_paint_76 : decode cX12_paint 76 = .ok (.iload_n 1, 1) := by decide +kernel
theorem dX12_paint_77 : decode cX12_paint 77 = .ok (.iastore, 1) := by decide +kernel
theorem dX12_paint_78 : decode cX12_paint 78 = .ok (.aload_n 0, 1) := by decide +kernel
theorem dX12_paint_79 : decode cX12_paint 79 = .ok (.dup, 1) := by decide +kernel
theorem dX12_paint_80 : decode cX12_paint 80 = .ok (.getfield 72, 3) := by decide +kernel
theorem dX12_paint_83 : decode cX12_paint 83 = .ok (.iconst 1, 1) := by decide +kernel
theorem dX12_paint_84 : decode cX12_paint 84 = .ok (.iadd, 1) := by decide +kernel
theorem dX12_paint_85 : decode cX12_paint 85 = .ok (.putfield 72, 3) := by decide +kernel
theorem dX12_paint_88 : decode cX12_paint 88 = .ok (.aload_n 0, 1) := by decide +kernel
theorem dX12_paint_89 : decode cX12_paint 89 = .ok (.aload_n 0, 1) := by decide +kernel
theorem dX12_paint_90 : decode cX12_paint 90 = .ok (.invokevirtual 105, 3) := by decide +kernel
theorem dX12_paint_93 : decode cX12_paint 93 = .ok (.iload_n 1, 1) := by decide +kernel
theorem dX12_paint_94 : decode cX12_paint 94 = .ok (.invokevirtual 121, 3) := by decide +kernel
theorem dX12_paint_97 : decode cX12_paint 97 = .ok (.ireturn, 1) := by decide +kernel
theorem dX12_line_0 : decode cX12_line 0 = .ok (.iload_n 1, 1) := by decide +kernel
theorem dX12_line_1 : decode cX12_line 1 = .ok (.i2l, 1) := by decide +kernel
theorem dX12_line_2 : decode cX12_line 2 = .ok (.lconst 0, 1) := by decide +kernel
theorem dX12_line_3 : decode cX12_line 3 = .ok (.aload_n 0, 1) := by decide +kernel
theorem dX12_line_4 : decode cX12_line 4 = .ok (.getfield 72, 3) := by decide +kernel
theorem dX12_line_7 : decode cX12_line 7 = .ok (.iconst 1, 1) := by decide +kernel
theorem dX12_line_8 : decode cX12_line 8 = .ok (.isub, 1) := by decide +kernel
theorem dX12_line_9 : decode cX12_line 9 = .ok (.i2l, 1) := by decide +kernel
theorem dX12_line_10 : decode cX12_line 10 = .ok (.invokestatic 68, 3) := by decide +kernel
theorem dX12_line_13 : decode cX12_line 13 = .ok (.ifCond .eq 12, 3) := by decide +kernel
theorem dX12_line_16 : decode cX12_line 16 = .ok (.aload_n 0, 1) := by decide +kernel
theorem dX12_line_17 : decode cX12_line 17 = .ok (.getfield 16, 3) := by decide +kernel
theorem dX12_line_20 : decode cX12_line 20 = .ok (.iload_n 1, 1) := by decide +kernel
theorem dX12_line_21 : decode cX12_line 21 = .ok (.iaload, 1) := by decide +kernel
theorem dX12_line_22 : decode cX12_line 22 = .ok (.goto 5, 3) := by decide +kernel
theorem dX12_line_25 : decode cX12_line 25 = .ok (.bipush (-101), 2) := by decide +kernel
theorem dX12_line_27 : decode cX12_line 27 = .ok (.ireturn, 1) := by decide +kernel
theorem dX12_letters_0 : decode cX12_letters 0 = .ok (.iconst 0, 1) := by decide +kernel
theorem dX12_letters_1 : decode cX12_letters 1 = .ok (.istore_n 3, 1) := by decide +kernel
theorem dX12_letters_2 : decode cX12_letters 2 = .ok (.iconst 1, 1) := by decide +kernel
theorem dX12_letters_3 : decode cX12_letters 3 = .ok (.istore 4, 2) := by decide +kernel
theorem dX12_letters_5 : decode cX12_letters 5 = .ok (.lload_n 1, 1) := by decide +kernel
theorem dX12_letters_6 : decode cX12_letters 6 = .ok (.lstore 5, 2) := by decide +kernel
theorem dX12_letters_8 : decode cX12_letters 8 = .ok (.iconst 0, 1) := by decide +kernel
theorem dX12_letters_9 : decode cX12_letters 9 = .ok (.istore 7, 2) := by decide +kernel
theorem dX12_letters_11 : decode cX12_letters 11 = .ok (.iload 7, 2) := by decide +kernel
theorem dX12_letters_13 : decode cX12_letters 13 = .ok (.bipush 8, 2) := by decide +kernel
theorem dX12_letters_15 : decode cX12_letters 15 = .ok (.if_icmp .ge 68, 3) := by decide +kernel
theorem dX12_letters_18 : decode cX12_letters 18 = .ok (.lload 5, 2) := by decide +kernel
theorem dX12_letters_20 : decode cX12_letters 20 = .ok (.ldc2_w 137, 3) := by decide +kernel
theorem dX12_letters_23 : decode cX12_letters 23 = .ok (.land, 1) := by decide +kernel
theorem dX12_letters_24 : decode cX12_letters 24 = .ok (.l2i, 1) := by decide +kernel
theorem dX12_letters_25 : decode cX12_letters 25 = .ok (.istore 8, 2) := by decide +kernel
theorem dX12_letters_27 : decode cX12_letters 27 = .ok (.lload 5, 2) := by decide +kernel
theorem dX12_letters_29 : decode cX12_letters 29 = .ok (.bipush 8, 2) := by decide +kernel
theorem dX12_letters_31 : decode cX12_letters 31 = .ok (.lushr, 1) := by decide +kernel
theorem dX12_letters_32 : decode cX12_letters 32 = .ok (.lstore 5, 2) := by decide +kernel
theorem dX12_letters_34 : decode cX12_letters 34 = .ok (.iload 4, 2) := by decide +kernel
theorem dX12_letters_36 : decode cX12_letters 36 = .ok (.ifCond .eq 25, 3) := by decide +kernel
theorem dX12_letters_39 : decode cX12_letters 39 = .ok (.iload 8, 2) := by decide +kernel
theorem dX12_letters_41 : decode cX12_letters 41 = .ok (.bipush 126, 2) := by decide +kernel
theorem dX12_letters_43 : decode cX12_letters 43 = .ok (.if_icmp .gt 18, 3) := by decide +kernel
theorem dX12_letters_46 : decode cX12_letters 46 = .ok (.iload 8, 2) := by decide +kernel
theorem dX12_letters_48 : decode cX12_letters 48 = .ok (.ifCond .eq 9, 3) := by decide +kernel
theorem dX12_letters_51 : decode cX12_letters 51 = .ok (.iload_n 3, 1) := by decide +kernel
theorem dX12_letters_52 : decode cX12_letters 52 = .ok (.iload 7, 2) := by decide +kernel
theorem dX12_letters_54 : decode cX12_letters 54 = .ok (.if_icmp .ne 7, 3) := by decide +kernel
theorem dX12_letters_57 : decode cX12_letters 57 = .ok (.iconst 1, 1) := by decide +kernel
theorem dX12_letters_58 : decode cX12_letters 58 = .ok (.goto 4, 3) := by decide +kernel
theorem dX12_letters_61 : decode cX12_letters 61 = .ok (.iconst 0, 1) := by decide +kernel
theorem dX12_letters_62 : decode cX12_letters 62 = .ok (.istore 4, 2) := by decide +kernel
theorem dX12_letters_64 : decode cX12_letters 64 = .ok (.iload_n 3, 1) := by decide +kernel
theorem dX12_letters_65 : decode cX12_letters 65 = .ok (.iload 8, 2) := by decide +kernel
theorem dX12_letters_67 : decode cX12_letters 67 = .ok (.ifCond .le 7, 3) := by decide +kernel
theorem dX12_letters_70 : decode cX12_letters 70 = .ok (.iconst 1, 1) := by decide +kernel
theorem dX12_letters_71 : decode cX12_letters 71 = .ok (.goto 4, 3) := by decide +kernel
theorem dX12_letters_74 : decode cX12_letters 74 = .ok (.iconst 0, 1) := by decide +kernel
theorem dX12_letters_75 : decode cX12_letters 75 = .ok (.iadd, 1) := by decide +kernel
theorem dX12_letters_76 : decode cX12_letters 76 = .ok (.istore_n 3, 1) := by decide +kernel
theorem dX12_letters_77 : decode cX12_letters 77 = .ok (.iinc 7 1, 3) := by decide +kernel
theorem dX12_letters_80 : decode cX12_letters 80 = .ok (.goto (-69), 3) := by decide +kernel
theorem dX12_letters_83 : decode cX12_letters 83 = .ok (.iload 4, 2) := by decide +kernel
theorem dX12_letters_85 : decode cX12_letters 85 = .ok (.ifCond .ne 6, 3) := by decide +kernel
theorem dX12_letters_88 : decode cX12_letters 88 = .ok (.bipush (-102), 2) := by decide +kernel
theorem dX12_letters_90 : decode cX12_letters 90 = .ok (.ireturn, 1) := by decide +kernel
theorem dX12_letters_91 : decode cX12_letters 91 = .ok (.aload_n 0, 1) := by decide +kernel
theorem dX12_letters_92 : decode cX12_letters 92 = .ok (.getfield 139, 3) := by decide +kernel
theorem dX12_letters_95 : decode cX12_letters 95 = .ok (.iload_n 3, 1) := by decide +kernel
theorem dX12_letters_96 : decode cX12_letters 96 = .ok (.iadd, 1) := by decide +kernel
theorem dX12_letters_97 : decode cX12_letters 97 = .ok (.bipush 10, 2) := by decide +kernel
theorem dX12_letters_99 : decode cX12_letters 99 = .ok (.if_icmp .le 6, 3) := by decide +kernel
theorem dX12_letters_102 : decode cX12_letters 102 = .ok (.bipush (-104), 2) := by decide +kernel
theorem dX12_letters_104 : decode cX12_letters 104 = .ok (.ireturn, 1) := by decide +kernel
theorem dX12_letters_105 : decode cX12_letters 105 = .ok (.iconst 0, 1) := by decide +kernel
theorem dX12_letters_106 : decode cX12_letters 106 = .ok (.istore 7, 2) := by decide +kernel
theorem dX12_letters_108 : decode cX12_letters 108 = .ok (.iload 7, 2) := by decide +kernel
theorem dX12_letters_110 : decode cX12_letters 110 = .ok (.iload_n 3, 1) := by decide +kernel
theorem dX12_letters_111 : decode cX12_letters 111 = .ok (.if_icmp .ge 40, 3) := by decide +kernel
theorem dX12_letters_114 : decode cX12_letters 114 = .ok (.aload_n 0, 1) := by decide +kernel
theorem dX12_letters_115 : decode cX12_letters 115 = .ok (.getfield 22, 3) := by decide +kernel
theorem dX12_letters_118 : decode cX12_letters 118 = .ok (.aload_n 0, 1) := by decide +kernel
theorem dX12_letters_119 : decode cX12_letters 119 = .ok (.getfield 139, 3) := by decide +kernel
theorem dX12_letters_122 : decode cX12_letters 122 = .ok (.lload_n 1, 1) := by decide +kernel
theorem dX12_letters_123 : decode cX12_letters 123 = .ok (.bipush 8, 2) := by decide +kernel
theorem dX12_letters_125 : decode cX12_letters 125 = .ok (.iload 7, 2) := by decide +kernel
theorem dX12_letters_127 : decode cX12_letters 127 = .ok (.imul, 1) := by decide +kernel
theorem dX12_letters_128 : decode cX12_letters 128 = .ok (.lushr, 1) := by decide +kernel
theorem dX12_letters_129 : decode cX12_letters 129 = .ok (.ldc2_w 137, 3) := by decide +kernel
theorem dX12_letters_132 : decode cX12_letters 132 = .ok (.land, 1) := by decide +kernel
theorem dX12_letters_133 : decode cX12_letters 133 = .ok (.l2i, 1) := by decide +kernel
theorem dX12_letters_134 : decode cX12_letters 134 = .ok (.iastore, 1) := by decide +kernel
theorem dX12_letters_135 : decode cX12_letters 135 = .ok (.aload_n 0, 1) := by decide +kernel
theorem dX12_letters_136 : decode cX12_letters 136 = .ok (.dup, 1) := by decide +kernel
theorem dX12_letters_137 : decode cX12_letters 137 = .ok (.getfield 139, 3) := by decide +kernel
theorem dX12_letters_140 : decode cX12_letters 140 = .ok (.iconst 1, 1) := by decide +kernel
theorem dX12_letters_141 : decode cX12_letters 141 = .ok (.iadd, 1) := by decide +kernel
theorem dX12_letters_142 : decode cX12_letters 142 = .ok (.putfield 139, 3) := by decide +kernel
theorem dX12_letters_145 : decode cX12_letters 145 = .ok (.iinc 7 1, 3) := by decide +kernel
theorem dX12_letters_148 : decode cX12_letters 148 = .ok (.goto (-40), 3) := by decide +kernel
theorem dX12_letters_151 : decode cX12_letters 151 = .ok (.aload_n 0, 1) := by decide +kernel
theorem dX12_letters_152 : decode cX12_letters 152 = .ok (.getfield 139, 3) := by decide +kernel
theorem dX12_letters_155 : decode cX12_letters 155 = .ok (.ireturn, 1) := by decide +kernel
theorem dX12_blank_0 : decode cX12_blank 0 = .ok (.aload_n 0, 1) := by decide +kernel
theorem dX12_blank_1 : decode cX12_blank 1 = .ok (.getfield 139, 3) := by decide +kernel
theorem dX12_blank_4 : decode cX12_blank 4 = .ok (.istore_n 1, 1) := by decide +kernel
theorem dX12_blank_5 : decode cX12_blank 5 = .ok (.aload_n 0, 1) := by decide +kernel
theorem dX12_blank_6 : decode cX12_blank 6 = .ok (.iconst 0, 1) := by decide +kernel
theorem dX12_blank_7 : decode cX12_blank 7 = .ok (.putfield 139, 3) := by decide +kernel
theorem dX12_blank_10 : decode cX12_blank 10 = .ok (.iload_n 1, 1) := by decide +kernel
theorem dX12_blank_11 : decode cX12_blank 11 = .ok (.ireturn, 1) := by decide +kernel
theorem dX12_go_0 : decode cX12_go 0 = .ok (.iload_n 1, 1) := by decide +kernel
theorem dX12_go_1 : decode cX12_go 1 = .ok (.bipush 48, 2) := by decide +kernel
theorem dX12_go_3 : decode cX12_go 3 = .ok (.isub, 1) := by decide +kernel
theorem dX12_go_4 : decode cX12_go 4 = .ok (.istore_n 2, 1) := by decide +kernel
theorem dX12_go_5 : decode cX12_go 5 = .ok (.aload_n 0, 1) := by decide +kernel
theorem dX12_go_6 : decode cX12_go 6 = .ok (.getfield 142, 3) := by decide +kernel
theorem dX12_go_9 : decode cX12_go 9 = .ok (.ifCond .ne 44, 3) := by decide +kernel
theorem dX12_go_12 : decode cX12_go 12 = .ok (.aload_n 0, 1) := by decide +kernel
theorem dX12_go_13 : decode cX12_go 13 = .ok (.getfield 145, 3) := by decide +kernel
theorem dX12_go_16 : decode cX12_go 16 = .ok (.aload_n 0, 1) := by decide +kernel
theorem dX12_go_17 : decode cX12_go 17 = .ok (.getfield 65, 3) := by decide +kernel
theorem dX12_go_20 : decode cX12_go 20 = .ok (.if_icmp .ge 33, 3) := by decide +kernel
theorem dX12_go_23 : decode cX12_go 23 = .ok (.aload_n 0, 1) := by decide +kernel
theorem dX12_go_24 : decode cX12_go 24 = .ok (.getfield 25, 3) := by decide +kernel
theorem dX12_go_27 : decode cX12_go 27 = .ok (.aload_n 0, 1) := by decide +kernel
theorem dX12_go_28 : decode cX12_go 28 = .ok (.getfield 145, 3) := by decide +kernel
theorem dX12_go_31 : decode cX12_go 31 = .ok (.iload_n 2, 1) := by decide +kernel
theorem dX12_go_32 : decode cX12_go 32 = .ok (.iastore, 1) := by decide +kernel
theorem dX12_go_33 : decode cX12_go 33 = .ok (.aload_n 0, 1) := by decide +kernel
theorem dX12_go_34 : decode cX12_go 34 = .ok (.dup, 1) := by decide +kernel
theorem dX12_go_35 : decode cX12_go 35 = .ok (.getfield 145, 3) := by decide +kernel
theorem dX12_go_38 : decode cX12_go 38 = .ok (.iconst 1, 1) := by decide +kernel
theorem dX12_go_39 : decode cX12_go 39 = .ok (.iadd, 1) := by decide +kernel
theorem dX12_go_40 : decode cX12_go 40 = .ok (.putfield 145, 3) := by decide +kernel
theorem dX12_go_43 : decode cX12_go 43 = .ok (.iload_n 2, 1) := by decide +kernel
theorem dX12_go_44 : decode cX12_go 44 = .ok (.i2l, 1) := by decide +kernel
theorem dX12_go_45 : decode cX12_go 45 = .ok (.lconst 0, 1) := by decide +kernel
theorem dX12_go_46 : decode cX12_go 46 = .ok (.ldc2_w 77, 3) := by decide +kernel
theorem dX12_go_49 : decode cX12_go 49 = .ok (.invokestatic 68, 3) := by decide +kernel
theorem dX12_go_52 : decode cX12_go 52 = .ok (.ireturn, 1) := by decide +kernel
theorem dX12_go_53 : decode cX12_go 53 = .ok (.aload_n 0, 1) := by decide +kernel
theorem dX12_go_54 : decode cX12_go 54 = .ok (.getfield 142, 3) := by decide +kernel
theorem dX12_go_57 : decode cX12_go 57 = .ok (.iconst 1, 1) := by decide +kernel
theorem dX12_go_58 : decode cX12_go 58 = .ok (.if_icmp .ne 25, 3) := by decide +kernel
theorem dX12_go_61 : decode cX12_go 61 = .ok (.aload_n 0, 1) := by decide +kernel
theorem dX12_go_62 : decode cX12_go 62 = .ok (.getfield 25, 3) := by decide +kernel
theorem dX12_go_65 : decode cX12_go 65 = .ok (.iconst 4, 1) := by decide +kernel
theorem dX12_go_66 : decode cX12_go 66 = .ok (.iload_n 2, 1) := by decide +kernel
theorem dX12_go_67 : decode cX12_go 67 = .ok (.iastore, 1) := by decide +kernel
theorem dX12_go_68 : decode cX12_go 68 = .ok (.aload_n 0, 1) := by decide +kernel
theorem dX12_go_69 : decode cX12_go 69 = .ok (.iconst 2, 1) := by decide +kernel
theorem dX12_go_70 : decode cX12_go 70 = .ok (.putfield 142, 3) := by decide +kernel
theorem dX12_go_73 : decode cX12_go 73 = .ok (.iload_n 2, 1) := by decide +kernel
theorem dX12_go_74 : decode cX12_go 74 = .ok (.i2l, 1) := by decide +kernel
theorem dX12_go_75 : decode cX12_go 75 = .ok (.lconst 1, 1) := by decide +kernel
theorem dX12_go_76 : decode cX12_go 76 = .ok (.ldc2_w 77, 3) := by decide +kernel
theorem dX12_go_79 : decode cX12_go 79 = .ok (.invokestatic 68, 3) := by decide +kernel
theorem dX12_go_82 : decode cX12_go 82 = .ok (.ireturn, 1) := by decide +kernel
theorem dX12_go_83 : decode cX12_go 83 = .ok (.iload_n 1, 1) := by decide +kernel
theorem dX12_go_84 : decode cX12_go 84 = .ok (.bipush 43, 2) := by decide +kernel
theorem dX12_go_86 : decode cX12_go 86 = .ok (.if_icmp .ne 10, 3) := by decide +kernel
theorem dX12_go_89 : decode cX12_go 89 = .ok (.aload_n 0, 1) := by decide +kernel
theorem dX12_go_90 : decode cX12_go 90 = .ok (.getfield 142, 3) := by decide +kernel
theorem dX12_go_93 : decode cX12_go 93 = .ok (.ifCond .eq 17, 3) := by decide +kernel
theorem dX12_go_96 : decode cX12_go 96 = .ok (.iload_n 1, 1) := by decide +kernel
theorem dX12_go_97 : decode cX12_go 97 = .ok (.bipush 33, 2) := by decide +kernel
theorem dX12_go_99 : decode cX12_go 99 = .ok (.if_icmp .ne 15, 3) := by decide +kernel
theorem dX12_go_102 : decode cX12_go 102 = .ok (.aload_n 0, 1) := by decide +kernel
theorem dX12_go_103 : decode cX12_go 103 = .ok (.getfield 142, 3) := by decide +kernel
theorem dX12_go_106 : decode cX12_go 106 = .ok (.iconst 3, 1) := by decide +kernel
theorem dX12_go_107 : decode cX12_go 107 = .ok (.if_icmp .eq 7, 3) := by decide +kernel
theorem dX12_go_110 : decode cX12_go 110 = .ok (.iconst 1, 1) := by decide +kernel
theorem dX12_go_111 : decode cX12_go 111 = .ok (.goto 4, 3) := by decide +kernel
theorem dX12_go_114 : decode cX12_go 114 = .ok (.iconst 0, 1) := by decide +kernel
theorem dX12_go_115 : decode cX12_go 115 = .ok (.istore_n 3, 1) := by decide +kernel
theorem dX12_go_116 : decode cX12_go 116 = .ok (.aload_n 0, 1) := by decide +kernel
theorem dX12_go_117 : decode cX12_go 117 = .ok (.getfield 25, 3) := by decide +kernel
theorem dX12_go_120 : decode cX12_go 120 = .ok (.iconst 5, 1) := by decide +kernel
theorem dX12_go_121 : decode cX12_go 121 = .ok (.iload_n 1, 1) := by decide +kernel
theorem dX12_go_122 : decode cX12_go 122 = .ok (.bipush 33, 2) := by decide +kernel
theorem dX12_go_124 : decode cX12_go 124 = .ok (.if_icmp .ne 7, 3) := by decide +kernel
theorem dX12_go_127 : decode cX12_go 127 = .ok (.iconst 1, 1) := by decide +kernel
theorem dX12_go_128 : decode cX12_go 128 = .ok (.goto 9, 3) := by decide +kernel
theorem dX12_go_131 : decode cX12_go 131 = .ok (.aload_n 0, 1) := by decide +kernel
theorem dX12_go_132 : decode cX12_go 132 = .ok (.getfield 25, 3) := by decide +kernel
theorem dX12_go_135 : decode cX12_go 135 = .ok (.iconst 5, 1) := by decide +kernel
theorem dX12_go_136 : decode cX12_go 136 = .ok (.iaload, 1) := by decide +kernel
theorem dX12_go_137 : decode cX12_go 137 = .ok (.iastore, 1) := by decide +kernel
theorem dX12_go_138 : decode cX12_go 138 = .ok (.aload_n 0, 1) := by decide +kernel
theorem dX12_go_139 : decode cX12_go 139 = .ok (.iload_n 1, 1) := by decide +kernel
theorem dX12_go_140 : decode cX12_go 140 = .ok (.bipush 43, 2) := by decide +kernel
theorem dX12_go_142 : decode cX12_go 142 = .ok (.if_icmp .ne 7, 3) := by decide +kernel
theorem dX12_go_145 : decode cX12_go 145 = .ok (.iconst 1, 1) := by decide +kernel
theorem dX12_go_146 : decode cX12_go 146 = .ok (.goto 4, 3) := by decide +kernel
theorem dX12_go_149 : decode cX12_go 149 = .ok (.iconst 3, 1) := by decide +kernel
theorem dX12_go_150 : decode cX12_go 150 = .ok (.putfield 142, 3) := by decide +kernel
theorem dX12_go_153 : decode cX12_go 153 = .ok (.iload_n 3, 1) := by decide +kernel
theorem dX12_go_154 : decode cX12_go 154 = .ok (.ireturn, 1) := by decide +kernel
theorem dX12_faultOf_0 : decode cX12_faultOf 0 = .ok (.aload_n 0, 1) := by decide +kernel
theorem dX12_faultOf_1 : decode cX12_faultOf 1 = .ok (.iconst 0, 1) := by decide +kernel
theorem dX12_faultOf_2 : decode cX12_faultOf 2 = .ok (.putfield 145, 3) := by decide +kernel
theorem dX12_faultOf_5 : decode cX12_faultOf 5 = .ok (.aload_n 0, 1) := by decide +kernel
theorem dX12_faultOf_6 : decode cX12_faultOf 6 = .ok (.iconst 0, 1) := by decide +kernel
theorem dX12_faultOf_7 : decode cX12_faultOf 7 = .ok (.putfield 142, 3) := by decide +kernel
theorem dX12_faultOf_10 : decode cX12_faultOf 10 = .ok (.iconst 0, 1) := by decide +kernel
theorem dX12_faultOf_11 : decode cX12_faultOf 11 = .ok (.istore_n 1, 1) := by decide +kernel
theorem dX12_faultOf_12 : decode cX12_faultOf 12 = .ok (.iload_n 1, 1) := by decide +kernel
theorem dX12_faultOf_13 : decode cX12_faultOf 13 = .ok (.bipush 6, 2) := by decide +kernel
theorem dX12_faultOf_15 : decode cX12_faultOf 15 = .ok (.if_icmp .ge 25, 3) := by decide +kernel
theorem dX12_faultOf_18 : decode cX12_faultOf 18 = .ok (.aload_n 0, 1) := by decide +kernel
theorem dX12_faultOf_19 : decode cX12_faultOf 19 = .ok (.getfield 25, 3) := by decide +kernel
theorem dX12_faultOf_22 : decode cX12_faultOf 22 = .ok (.iload_n 1, 1) := by decide +kernel
theorem dX12_faultOf_23 : decode cX12_faultOf 23 = .ok (.iload_n 1, 1) := by decide +kernel
theorem dX12_faultOf_24 : decode cX12_faultOf 24 = .ok (.iconst 5, 1) := by decide +kernel
theorem dX12_faultOf_25 : decode cX12_faultOf 25 = .ok (.if_icmp .ge 7, 3) := by decide +kernel
theorem dX12_faultOf_28 : decode cX12_faultOf 28 = .ok (.iconst (-1), 1) := by decide +kernel
theorem dX12_faultOf_29 : decode cX12_faultOf 29 = .ok (.goto 4, 3) := by decide +kernel
theorem dX12_faultOf_32 : decode cX12_faultOf 32 = .ok (.iconst 0, 1) := by decide +kernel
theorem dX12_faultOf_33 : decode cX12_faultOf 33 = .ok (.iastore, 1) := by decide +kernel
theorem dX12_faultOf_34 : decode cX12_faultOf 34 = .ok (.iinc 1 1, 3) := by decide +kernel
theorem dX12_faultOf_37 : decode cX12_faultOf 37 = .ok (.goto (-25), 3) := by decide +kernel
theorem dX12_faultOf_40 : decode cX12_faultOf 40 = .ok (.iconst 0, 1) := by decide +kernel
theorem dX12_faultOf_41 : decode cX12_faultOf 41 = .ok (.istore_n 1, 1) := by decide +kernel
theorem dX12_faultOf_42 : decode cX12_faultOf 42 = .ok (.iload_n 1, 1) := by decide +kernel
theorem dX12_faultOf_43 : decode cX12_faultOf 43 = .ok (.aload_n 0, 1) := by decide +kernel
theorem dX12_faultOf_44 : decode cX12_faultOf 44 = .ok (.getfield 139, 3) := by decide +kernel
theorem dX12_faultOf_47 : decode cX12_faultOf 47 = .ok (.if_icmp .ge 22, 3) := by decide +kernel
theorem dX12_faultOf_50 : decode cX12_faultOf 50 = .ok (.aload_n 0, 1) := by decide +kernel
theorem dX12_faultOf_51 : decode cX12_faultOf 51 = .ok (.aload_n 0, 1) := by decide +kernel
theorem dX12_faultOf_52 : decode cX12_faultOf 52 = .ok (.getfield 22, 3) := by decide +kernel
theorem dX12_faultOf_55 : decode cX12_faultOf 55 = .ok (.iload_n 1, 1) := by decide +kernel
theorem dX12_faultOf_56 : decode cX12_faultOf 56 = .ok (.iaload, 1) := by decide +kernel
theorem dX12_faultOf_57 : decode cX12_faultOf 57 = .ok (.invokevirtual 148, 3) := by decide +kernel
theorem dX12_faultOf_60 : decode cX12_faultOf 60 = .ok (.ifCond .eq 9, 3) := by decide +kernel
theorem dX12_faultOf_63 : decode cX12_faultOf 63 = .ok (.iinc 1 1, 3) := by decide +kernel
theorem dX12_faultOf_66 : decode cX12_faultOf 66 = .ok (.goto (-24), 3) := by decide +kernel
theorem dX12_faultOf_69 : decode cX12_faultOf 69 = .ok (.iload_n 1, 1) := by decide +kernel
theorem dX12_faultOf_70 : decode cX12_faultOf 70 = .ok (.ireturn, 1) := by decide +kernel
theorem dX12_fault_0 : decode cX12_fault 0 = .ok (.aload_n 0, 1) := by decide +kernel
theorem dX12_fault_1 : decode cX12_fault 1 = .ok (.invokevirtual 151, 3) := by decide +kernel
theorem dX12_fault_4 : decode cX12_fault 4 = .ok (.ireturn, 1) := by decide +kernel
theorem dX12_judge_0 : decode cX12_judge 0 = .ok (.aload_n 0, 1) := by decide +kernel
theorem dX12_judge_1 : decode cX12_judge 1 = .ok (.invokevirtual 79, 3) := by decide +kernel
theorem dX12_judge_4 : decode cX12_judge 4 = .ok (.ifCond .ne 33, 3) := by decide +kernel
theorem dX12_judge_7 : decode cX12_judge 7 = .ok (.aload_n 0, 1) := by decide +kernel
theorem dX12_judge_8 : decode cX12_judge 8 = .ok (.invokevirtual 151, 3) := by decide +kernel
theorem dX12_judge_11 : decode cX12_judge 11 = .ok (.aload_n 0, 1) := by decide +kernel
theorem dX12_judge_12 : decode cX12_judge 12 = .ok (.getfield 139, 3) := by decide +kernel
theorem dX12_judge_15 : decode cX12_judge 15 = .ok (.if_icmp .lt 22, 3) := by decide +kernel
theorem dX12_judge_18 : decode cX12_judge 18 = .ok (.aload_n 0, 1) := by decide +kernel
theorem dX12_judge_19 : decode cX12_judge 19 = .ok (.getfield 145, 3) := by decide +kernel
theorem dX12_judge_22 : decode cX12_judge 22 = .ok (.aload_n 0, 1) := by decide +kernel
theorem dX12_judge_23 : decode cX12_judge 23 = .ok (.getfield 65, 3) := by decide +kernel
theorem dX12_judge_26 : decode cX12_judge 26 = .ok (.if_icmp .lt 11, 3) := by decide +kernel
theorem dX12_judge_29 : decode cX12_judge 29 = .ok (.aload_n 0, 1) := by decide +kernel
theorem dX12_judge_30 : decode cX12_judge 30 = .ok (.getfield 142, 3) := by decide +kernel
theorem dX12_judge_33 : decode cX12_judge 33 = .ok (.iconst 1, 1) := by decide +kernel
theorem dX12_judge_34 : decode cX12_judge 34 = .ok (.if_icmp .ne 6, 3) := by decide +kernel
theorem dX12_judge_37 : decode cX12_judge 37 = .ok (.bipush (-103), 2) := by decide +kernel
theorem dX12_judge_39 : decode cX12_judge 39 = .ok (.ireturn, 1) := by decide +kernel
theorem dX12_judge_40 : decode cX12_judge 40 = .ok (.aload_n 0, 1) := by decide +kernel
theorem dX12_judge_41 : decode cX12_judge 41 = .ok (.getfield 154, 3) := by decide +kernel
theorem dX12_judge_44 : decode cX12_judge 44 = .ok (.iconst 5, 1) := by decide +kernel
theorem dX12_judge_45 : decode cX12_judge 45 = .ok (.if_icmp .ne 6, 3) := by decide +kernel
theorem dX12_judge_48 : decode cX12_judge 48 = .ok (.bipush (-104), 2) := by decide +kernel
theorem dX12_judge_50 : decode cX12_judge 50 = .ok (.ireturn, 1) := by decide +kernel
theorem dX12_judge_51 : decode cX12_judge 51 = .ok (.iconst 0, 1) := by decide +kernel
theorem dX12_judge_52 : decode cX12_judge 52 = .ok (.istore_n 1, 1) := by decide +kernel
theorem dX12_judge_53 : decode cX12_judge 53 = .ok (.iload_n 1, 1) := by decide +kernel
theorem dX12_judge_54 : decode cX12_judge 54 = .ok (.bipush 6, 2) := by decide +kernel
theorem dX12_judge_56 : decode cX12_judge 56 = .ok (.if_icmp .ge 29, 3) := by decide +kernel
theorem dX12_judge_59 : decode cX12_judge 59 = .ok (.aload_n 0, 1) := by decide +kernel
theorem dX12_judge_60 : decode cX12_judge 60 = .ok (.getfield 28, 3) := by decide +kernel
theorem dX12_judge_63 : decode cX12_judge 63 = .ok (.bipush 6, 2) := by decide +kernel
theorem dX12_judge_65 : decode cX12_judge 65 = .ok (.aload_n 0, 1) := by decide +kernel
theorem dX12_judge_66 : decode cX12_judge 66 = .ok (.getfield 154, 3) := by decide +kernel
theorem dX12_judge_69 : decode cX12_judge 69 = .ok (.imul, 1) := by decide +kernel
theorem dX12_judge_70 : decode cX12_judge 70 = .ok (.iload_n 1, 1) := by decide +kernel
theorem dX12_judge_71 : decode cX12_judge 71 = .ok (.iadd, 1) := by decide +kernel
theorem dX12_judge_72 : decode cX12_judge 72 = .ok (.aload_n 0, 1) := by decide +kernel
theorem dX12_judge_73 : decode cX12_judge 73 = .ok (.getfield 25, 3) := by decide +kernel
theorem dX12_judge_76 : decode cX12_judge 76 = .ok (.iload_n 1, 1) := by decide +kernel
theorem dX12_judge_77 : decode cX12_judge 77 = .ok (.iaload, 1) := by decide +kernel
theorem dX12_judge_78 : decode cX12_judge 78 = .ok (.iastore, 1) := by decide +kernel
theorem dX12_judge_79 : decode cX12_judge 79 = .ok (.iinc 1 1, 3) := by decide +kernel
theorem dX12_judge_82 : decode cX12_judge 82 = .ok (.goto (-29), 3) := by decide +kernel
theorem dX12_judge_85 : decode cX12_judge 85 = .ok (.aload_n 0, 1) := by decide +kernel
theorem dX12_judge_86 : decode cX12_judge 86 = .ok (.dup, 1) := by decide +kernel
theorem dX12_judge_87 : decode cX12_judge 87 = .ok (.getfield 154, 3) := by decide +kernel
theorem dX12_judge_90 : decode cX12_judge 90 = .ok (.iconst 1, 1) := by decide +kernel
theorem dX12_judge_91 : decode cX12_judge 91 = .ok (.iadd, 1) := by decide +kernel
theorem dX12_judge_92 : decode cX12_judge 92 = .ok (.putfield 154, 3) := by decide +kernel
theorem dX12_judge_95 : decode cX12_judge 95 = .ok (.aload_n 0, 1) := by decide +kernel
theorem dX12_judge_96 : decode cX12_judge 96 = .ok (.iconst 0, 1) := by decide +kernel
theorem dX12_judge_97 : decode cX12_judge 97 = .ok (.putfield 139, 3) := by decide +kernel
theorem dX12_judge_100 : decode cX12_judge 100 = .ok (.aload_n 0, 1) := by decide +kernel
theorem dX12_judge_101 : decode cX12_judge 101 = .ok (.getfield 154, 3) := by decide +kernel
theorem dX12_judge_104 : decode cX12_judge 104 = .ok (.iconst 1, 1) := by decide +kernel
theorem dX12_judge_105 : decode cX12_judge 105 = .ok (.isub, 1) := by decide +kernel
theorem dX12_judge_106 : decode cX12_judge 106 = .ok (.ireturn, 1) := by decide +kernel
theorem dX12_told_0 : decode cX12_told 0 = .ok (.iload_n 1, 1) := by decide +kernel
theorem dX12_told_1 : decode cX12_told 1 = .ok (.i2l, 1) := by decide +kernel
theorem dX12_told_2 : decode cX12_told 2 = .ok (.lconst 0, 1) := by decide +kernel
theorem dX12_told_3 : decode cX12_told 3 = .ok (.aload_n 0, 1) := by decide +kernel
theorem dX12_told_4 : decode cX12_told 4 = .ok (.getfield 154, 3) := by decide +kernel
theorem dX12_told_7 : decode cX12_told 7 = .ok (.iconst 1, 1) := by decide +kernel
theorem dX12_told_8 : decode cX12_told 8 = .ok (.isub, 1) := by decide +kernel
theorem dX12_told_9 : decode cX12_told 9 = .ok (.i2l, 1) := by decide +kernel
theorem dX12_told_10 : decode cX12_told 10 = .ok (.invokestatic 68, 3) := by decide +kernel
theorem dX12_told_13 : decode cX12_told 13 = .ok (.ifCond .ne 6, 3) := by decide +kernel
theorem dX12_told_16 : decode cX12_told 16 = .ok (.bipush (-101), 2) := by decide +kernel
theorem dX12_told_18 : decode cX12_told 18 = .ok (.ireturn, 1) := by decide +kernel
theorem dX12_told_19 : decode cX12_told 19 = .ok (.iload_n 2, 1) := by decide +kernel
theorem dX12_told_20 : decode cX12_told 20 = .ok (.i2l, 1) := by decide +kernel
theorem dX12_told_21 : decode cX12_told 21 = .ok (.lconst 0, 1) := by decide +kernel
theorem dX12_told_22 : decode cX12_told 22 = .ok (.ldc2_w 157, 3) := by decide +kernel
theorem dX12_told_25 : decode cX12_told 25 = .ok (.invokestatic 68, 3) := by decide +kernel
theorem dX12_told_28 : decode cX12_told 28 = .ok (.ifCond .eq 17, 3) := by decide +kernel
theorem dX12_told_31 : decode cX12_told 31 = .ok (.aload_n 0, 1) := by decide +kernel
theorem dX12_told_32 : decode cX12_told 32 = .ok (.getfield 28, 3) := by decide +kernel
theorem dX12_told_35 : decode cX12_told 35 = .ok (.bipush 6, 2) := by decide +kernel
theorem dX12_told_37 : decode cX12_told 37 = .ok (.iload_n 1, 1) := by decide +kernel
theorem dX12_told_38 : decode cX12_told 38 = .ok (.imul, 1) := by decide +kernel
theorem dX12_told_39 : decode cX12_told 39 = .ok (.iload_n 2, 1) := by decide +kernel
theorem dX12_told_40 : decode cX12_told 40 = .ok (.iadd, 1) := by decide +kernel
theorem dX12_told_41 : decode cX12_told 41 = .ok (.iaload, 1) := by decide +kernel
theorem dX12_told_42 : decode cX12_told 42 = .ok (.goto 5, 3) := by decide +kernel
theorem dX12_told_45 : decode cX12_told 45 = .ok (.bipush (-102), 2) := by decide +kernel
theorem dX12_told_47 : decode cX12_told 47 = .ok (.ireturn, 1) := by decide +kernel
theorem dX12_letsOne_0 : decode cX12_letsOne 0 = .ok (.bipush 6, 2) := by decide +kernel
theorem dX12_letsOne_2 : decode cX12_letsOne 2 = .ok (.iload_n 1, 1) := by decide +kernel
theorem dX12_letsOne_3 : decode cX12_letsOne 3 = .ok (.imul, 1) := by decide +kernel
theorem dX12_letsOne_4 : decode cX12_letsOne 4 = .ok (.istore 4, 2) := by decide +kernel
theorem dX12_letsOne_6 : decode cX12_letsOne 6 = .ok (.aload_n 0, 1) := by decide +kernel
theorem dX12_letsOne_7 : decode cX12_letsOne 7 = .ok (.getfield 28, 3) := by decide +kernel
theorem dX12_letsOne_10 : decode cX12_letsOne 10 = .ok (.iload 4, 2) := by decide +kernel
theorem dX12_letsOne_12 : decode cX12_letsOne 12 = .ok (.iconst 4, 1) := by decide +kernel
theorem dX12_letsOne_13 : decode cX12_letsOne 13 = .ok (.iadd, 1) := by decide +kernel
theorem dX12_letsOne_14 : decode cX12_letsOne 14 = .ok (.iaload, 1) := by decide +kernel
theorem dX12_letsOne_15 : decode cX12_letsOne 15 = .ok (.iconst (-1), 1) := by decide +kernel
theorem dX12_letsOne_16 : decode cX12_letsOne 16 = .ok (.if_icmp .eq 23, 3) := by decide +kernel
theorem dX12_letsOne_19 : decode cX12_letsOne 19 = .ok (.aload_n 0, 1) := by decide +kernel
theorem dX12_letsOne_20 : decode cX12_letsOne 20 = .ok (.iload_n 2, 1) := by decide +kernel
theorem dX12_letsOne_21 : decode cX12_letsOne 21 = .ok (.iload_n 3, 1) := by decide +kernel
theorem dX12_letsOne_22 : decode cX12_letsOne 22 = .ok (.invokevirtual 121, 3) := by decide +kernel
theorem dX12_letsOne_25 : decode cX12_letsOne 25 = .ok (.iconst 3, 1) := by decide +kernel
theorem dX12_letsOne_26 : decode cX12_letsOne 26 = .ok (.aload_n 0, 1) := by decide +kernel
theorem dX12_letsOne_27 : decode cX12_letsOne 27 = .ok (.getfield 28, 3) := by decide +kernel
theorem dX12_letsOne_30 : decode cX12_letsOne 30 = .ok (.iload 4, 2) := by decide +kernel
theorem dX12_letsOne_32 : decode cX12_letsOne 32 = .ok (.iconst 4, 1) := by decide +kernel
theorem dX12_letsOne_33 : decode cX12_letsOne 33 = .ok (.iadd, 1) := by decide +kernel
theorem dX12_letsOne_34 : decode cX12_letsOne 34 = .ok (.iaload, 1) := by decide +kernel
theorem dX12_letsOne_35 : decode cX12_letsOne 35 = .ok (.imul, 1) := by decide +kernel
theorem dX12_letsOne_36 : decode cX12_letsOne 36 = .ok (.if_icmp .gt 7, 3) := by decide +kernel
theorem dX12_letsOne_39 : decode cX12_letsOne 39 = .ok (.iconst 1, 1) := by decide +kernel
theorem dX12_letsOne_40 : decode cX12_letsOne 40 = .ok (.goto 4, 3) := by decide +kernel
theorem dX12_letsOne_43 : decode cX12_letsOne 43 = .ok (.iconst 0, 1) := by decide +kernel
theorem dX12_letsOne_44 : decode cX12_letsOne 44 = .ok (.istore 5, 2) := by decide +kernel
theorem dX12_letsOne_46 : decode cX12_letsOne 46 = .ok (.iconst 0, 1) := by decide +kernel
theorem dX12_letsOne_47 : decode cX12_letsOne 47 = .ok (.istore 6, 2) := by decide +kernel
theorem dX12_letsOne_49 : decode cX12_letsOne 49 = .ok (.iload 6, 2) := by decide +kernel
theorem dX12_letsOne_51 : decode cX12_letsOne 51 = .ok (.aload_n 0, 1) := by decide +kernel
theorem dX12_letsOne_52 : decode cX12_letsOne 52 = .ok (.getfield 65, 3) := by decide +kernel
theorem dX12_letsOne_55 : decode cX12_letsOne 55 = .ok (.if_icmp .ge 92, 3) := by decide +kernel
theorem dX12_letsOne_58 : decode cX12_letsOne 58 = .ok (.iload 5, 2) := by decide +kernel
theorem dX12_letsOne_60 : decode cX12_letsOne 60 = .ok (.ifCond .eq 87, 3) := by decide +kernel
theorem dX12_letsOne_63 : decode cX12_letsOne 63 = .ok (.aload_n 0, 1) := by decide +kernel
theorem dX12_letsOne_64 : decode cX12_letsOne 64 = .ok (.getfield 28, 3) := by decide +kernel
theorem dX12_letsOne_67 : decode cX12_letsOne 67 = .ok (.iload 4, 2) := by decide +kernel
theorem dX12_letsOne_69 : decode cX12_letsOne 69 = .ok (.iload 6, 2) := by decide +kernel
theorem dX12_letsOne_71 : decode cX12_letsOne 71 = .ok (.iadd, 1) := by decide +kernel
theorem dX12_letsOne_72 : decode cX12_letsOne 72 = .ok (.iaload, 1) := by decide +kernel
theorem dX12_letsOne_73 : decode cX12_letsOne 73 = .ok (.istore 7, 2) := by decide +kernel
theorem dX12_letsOne_75 : decode cX12_letsOne 75 = .ok (.aload_n 0, 1) := by decide +kernel
theorem dX12_letsOne_76 : decode cX12_letsOne 76 = .ok (.getfield 28, 3) := by decide +kernel
end
section
theorem dX12_letsOne_79 : decode cX12_letsOne 79 = .ok (.iload 4, 2) := by decide +kernel
theorem dX12_letsOne_81 : decode cX12_letsOne 81 = .ok (.iconst 5, 1) := by decide +kernel
theorem dX12_letsOne_82 : decode cX12_letsOne 82 = .ok (.iadd, 1) := by decide +kernel
theorem dX12_letsOne_83 : decode cX12_letsOne 83 = .ok (.iaload, 1) := by decide +kernel
theorem dX12_letsOne_84 : decode cX12_letsOne 84 = .ok (.iconst 1, 1) := by decide +kernel
theorem dX12_letsOne_85 : decode cX12_letsOne 85 = .ok (.if_icmp .ne 12, 3) := by decide +kernel
theorem dX12_letsOne_88 : decode cX12_letsOne 88 = .ok (.iload 7, 2) := by decide +kernel
theorem dX12_letsOne_90 : decode cX12_letsOne 90 = .ok (.ifCond .ne 7, 3) := by decide +kernel
theorem dX12_letsOne_93 : decode cX12_letsOne 93 = .ok (.iconst 1, 1) := by decide +kernel
theorem dX12_letsOne_94 : decode cX12_letsOne 94 = .ok (.goto 4, 3) := by decide +kernel
theorem dX12_letsOne_97 : decode cX12_letsOne 97 = .ok (.iconst 0, 1) := by decide +kernel
theorem dX12_letsOne_98 : decode cX12_letsOne 98 = .ok (.istore 8, 2) := by decide +kernel
theorem dX12_letsOne_100 : decode cX12_letsOne 100 = .ok (.aload_n 0, 1) := by decide +kernel
theorem dX12_letsOne_101 : decode cX12_letsOne 101 = .ok (.iload 6, 2) := by decide +kernel
theorem dX12_letsOne_103 : decode cX12_letsOne 103 = .ok (.iload_n 2, 1) := by decide +kernel
theorem dX12_letsOne_104 : decode cX12_letsOne 104 = .ok (.iload_n 3, 1) := by decide +kernel
theorem dX12_letsOne_105 : decode cX12_letsOne 105 = .ok (.invokevirtual 115, 3) := by decide +kernel
theorem dX12_letsOne_108 : decode cX12_letsOne 108 = .ok (.iload 7, 2) := by decide +kernel
theorem dX12_letsOne_110 : decode cX12_letsOne 110 = .ok (.if_icmp .gt 28, 3) := by decide +kernel
theorem dX12_letsOne_113 : decode cX12_letsOne 113 = .ok (.iload 8, 2) := by decide +kernel
theorem dX12_letsOne_115 : decode cX12_letsOne 115 = .ok (.ifCond .eq 19, 3) := by decide +kernel
theorem dX12_letsOne_118 : decode cX12_letsOne 118 = .ok (.iload_n 3, 1) := by decide +kernel
theorem dX12_letsOne_119 : decode cX12_letsOne 119 = .ok (.iload 6, 2) := by decide +kernel
theorem dX12_letsOne_121 : decode cX12_letsOne 121 = .ok (.invokestatic 94, 3) := by decide +kernel
theorem dX12_letsOne_124 : decode cX12_letsOne 124 = .ok (.aload_n 0, 1) := by decide +kernel
theorem dX12_letsOne_125 : decode cX12_letsOne 125 = .ok (.getfield 13, 3) := by decide +kernel
theorem dX12_letsOne_128 : decode cX12_letsOne 128 = .ok (.iload 6, 2) := by decide +kernel
theorem dX12_letsOne_130 : decode cX12_letsOne 130 = .ok (.iaload, 1) := by decide +kernel
theorem dX12_letsOne_131 : decode cX12_letsOne 131 = .ok (.if_icmp .ne 7, 3) := by decide +kernel
theorem dX12_letsOne_134 : decode cX12_letsOne 134 = .ok (.iconst 1, 1) := by decide +kernel
theorem dX12_letsOne_135 : decode cX12_letsOne 135 = .ok (.goto 4, 3) := by decide +kernel
theorem dX12_letsOne_138 : decode cX12_letsOne 138 = .ok (.iconst 0, 1) := by decide +kernel
theorem dX12_letsOne_139 : decode cX12_letsOne 139 = .ok (.istore 5, 2) := by decide +kernel
theorem dX12_letsOne_141 : decode cX12_letsOne 141 = .ok (.iinc 6 1, 3) := by decide +kernel
theorem dX12_letsOne_144 : decode cX12_letsOne 144 = .ok (.goto (-95), 3) := by decide +kernel
theorem dX12_letsOne_147 : decode cX12_letsOne 147 = .ok (.iload 5, 2) := by decide +kernel
theorem dX12_letsOne_149 : decode cX12_letsOne 149 = .ok (.ireturn, 1) := by decide +kernel
theorem dX12_letsMany_0 : decode cX12_letsMany 0 = .ok (.iconst 0, 1) := by decide +kernel
theorem dX12_letsMany_1 : decode cX12_letsMany 1 = .ok (.istore_n 3, 1) := by decide +kernel
theorem dX12_letsMany_2 : decode cX12_letsMany 2 = .ok (.iconst 0, 1) := by decide +kernel
theorem dX12_letsMany_3 : decode cX12_letsMany 3 = .ok (.istore 4, 2) := by decide +kernel
theorem dX12_letsMany_5 : decode cX12_letsMany 5 = .ok (.iload 4, 2) := by decide +kernel
theorem dX12_letsMany_7 : decode cX12_letsMany 7 = .ok (.aload_n 0, 1) := by decide +kernel
theorem dX12_letsMany_8 : decode cX12_letsMany 8 = .ok (.getfield 154, 3) := by decide +kernel
theorem dX12_letsMany_11 : decode cX12_letsMany 11 = .ok (.if_icmp .ge 28, 3) := by decide +kernel
theorem dX12_letsMany_14 : decode cX12_letsMany 14 = .ok (.iload_n 3, 1) := by decide +kernel
theorem dX12_letsMany_15 : decode cX12_letsMany 15 = .ok (.aload_n 0, 1) := by decide +kernel
theorem dX12_letsMany_16 : decode cX12_letsMany 16 = .ok (.iload 4, 2) := by decide +kernel
theorem dX12_letsMany_18 : decode cX12_letsMany 18 = .ok (.iload_n 1, 1) := by decide +kernel
theorem dX12_letsMany_19 : decode cX12_letsMany 19 = .ok (.iload_n 2, 1) := by decide +kernel
theorem dX12_letsMany_20 : decode cX12_letsMany 20 = .ok (.invokevirtual 159, 3) := by decide +kernel
theorem dX12_letsMany_23 : decode cX12_letsMany 23 = .ok (.ifCond .eq 7, 3) := by decide +kernel
theorem dX12_letsMany_26 : decode cX12_letsMany 26 = .ok (.iconst 1, 1) := by decide +kernel
theorem dX12_letsMany_27 : decode cX12_letsMany 27 = .ok (.goto 4, 3) := by decide +kernel
theorem dX12_letsMany_30 : decode cX12_letsMany 30 = .ok (.iconst 0, 1) := by decide +kernel
theorem dX12_letsMany_31 : decode cX12_letsMany 31 = .ok (.iadd, 1) := by decide +kernel
theorem dX12_letsMany_32 : decode cX12_letsMany 32 = .ok (.istore_n 3, 1) := by decide +kernel
theorem dX12_letsMany_33 : decode cX12_letsMany 33 = .ok (.iinc 4 1, 3) := by decide +kernel
theorem dX12_letsMany_36 : decode cX12_letsMany 36 = .ok (.goto (-31), 3) := by decide +kernel
theorem dX12_letsMany_39 : decode cX12_letsMany 39 = .ok (.iload_n 3, 1) := by decide +kernel
theorem dX12_letsMany_40 : decode cX12_letsMany 40 = .ok (.ireturn, 1) := by decide +kernel
theorem dX12_isLet_0 : decode cX12_isLet 0 = .ok (.aload_n 0, 1) := by decide +kernel
theorem dX12_isLet_1 : decode cX12_isLet 1 = .ok (.getfield 154, 3) := by decide +kernel
theorem dX12_isLet_4 : decode cX12_isLet 4 = .ok (.ifCond .eq 18, 3) := by decide +kernel
theorem dX12_isLet_7 : decode cX12_isLet 7 = .ok (.iconst 2, 1) := by decide +kernel
theorem dX12_isLet_8 : decode cX12_isLet 8 = .ok (.aload_n 0, 1) := by decide +kernel
theorem dX12_isLet_9 : decode cX12_isLet 9 = .ok (.iload_n 1, 1) := by decide +kernel
theorem dX12_isLet_10 : decode cX12_isLet 10 = .ok (.iload_n 2, 1) := by decide +kernel
theorem dX12_isLet_11 : decode cX12_isLet 11 = .ok (.invokevirtual 163, 3) := by decide +kernel
theorem dX12_isLet_14 : decode cX12_isLet 14 = .ok (.imul, 1) := by decide +kernel
theorem dX12_isLet_15 : decode cX12_isLet 15 = .ok (.aload_n 0, 1) := by decide +kernel
theorem dX12_isLet_16 : decode cX12_isLet 16 = .ok (.getfield 154, 3) := by decide +kernel
theorem dX12_isLet_19 : decode cX12_isLet 19 = .ok (.if_icmp .le 7, 3) := by decide +kernel
theorem dX12_isLet_22 : decode cX12_isLet 22 = .ok (.iconst 1, 1) := by decide +kernel
theorem dX12_isLet_23 : decode cX12_isLet 23 = .ok (.goto 4, 3) := by decide +kernel
theorem dX12_isLet_26 : decode cX12_isLet 26 = .ok (.iconst 0, 1) := by decide +kernel
theorem dX12_isLet_27 : decode cX12_isLet 27 = .ok (.ireturn, 1) := by decide +kernel
theorem dX12_lets_0 : decode cX12_lets 0 = .ok (.aload_n 0, 1) := by decide +kernel
theorem dX12_lets_1 : decode cX12_lets 1 = .ok (.invokevirtual 79, 3) := by decide +kernel
theorem dX12_lets_4 : decode cX12_lets 4 = .ok (.ifCond .eq 6, 3) := by decide +kernel
theorem dX12_lets_7 : decode cX12_lets 7 = .ok (.bipush (-103), 2) := by decide +kernel
theorem dX12_lets_9 : decode cX12_lets 9 = .ok (.ireturn, 1) := by decide +kernel
theorem dX12_lets_10 : decode cX12_lets 10 = .ok (.aload_n 0, 1) := by decide +kernel
theorem dX12_lets_11 : decode cX12_lets 11 = .ok (.iload_n 1, 1) := by decide +kernel
theorem dX12_lets_12 : decode cX12_lets 12 = .ok (.invokevirtual 118, 3) := by decide +kernel
theorem dX12_lets_15 : decode cX12_lets 15 = .ok (.ifCond .eq 20, 3) := by decide +kernel
theorem dX12_lets_18 : decode cX12_lets 18 = .ok (.aload_n 0, 1) := by decide +kernel
theorem dX12_lets_19 : decode cX12_lets 19 = .ok (.iload_n 2, 1) := by decide +kernel
theorem dX12_lets_20 : decode cX12_lets 20 = .ok (.invokevirtual 118, 3) := by decide +kernel
theorem dX12_lets_23 : decode cX12_lets 23 = .ok (.ifCond .eq 12, 3) := by decide +kernel
theorem dX12_lets_26 : decode cX12_lets 26 = .ok (.aload_n 0, 1) := by decide +kernel
theorem dX12_lets_27 : decode cX12_lets 27 = .ok (.iload_n 1, 1) := by decide +kernel
theorem dX12_lets_28 : decode cX12_lets 28 = .ok (.iload_n 2, 1) := by decide +kernel
theorem dX12_lets_29 : decode cX12_lets 29 = .ok (.invokevirtual 163, 3) := by decide +kernel
theorem dX12_lets_32 : decode cX12_lets 32 = .ok (.goto 5, 3) := by decide +kernel
theorem dX12_lets_35 : decode cX12_lets 35 = .ok (.bipush (-102), 2) := by decide +kernel
theorem dX12_lets_37 : decode cX12_lets 37 = .ok (.ireturn, 1) := by decide +kernel
theorem dX12_strictOf_0 : decode cX12_strictOf 0 = .ok (.iconst (-1), 1) := by decide +kernel
theorem dX12_strictOf_1 : decode cX12_strictOf 1 = .ok (.istore_n 1, 1) := by decide +kernel
theorem dX12_strictOf_2 : decode cX12_strictOf 2 = .ok (.ldc 166, 2) := by decide +kernel
theorem dX12_strictOf_4 : decode cX12_strictOf 4 = .ok (.istore_n 2, 1) := by decide +kernel
theorem dX12_strictOf_5 : decode cX12_strictOf 5 = .ok (.iconst 0, 1) := by decide +kernel
theorem dX12_strictOf_6 : decode cX12_strictOf 6 = .ok (.istore_n 3, 1) := by decide +kernel
theorem dX12_strictOf_7 : decode cX12_strictOf 7 = .ok (.iload_n 3, 1) := by decide +kernel
theorem dX12_strictOf_8 : decode cX12_strictOf 8 = .ok (.aload_n 0, 1) := by decide +kernel
theorem dX12_strictOf_9 : decode cX12_strictOf 9 = .ok (.getfield 154, 3) := by decide +kernel
theorem dX12_strictOf_12 : decode cX12_strictOf 12 = .ok (.if_icmp .ge 79, 3) := by decide +kernel
theorem dX12_strictOf_15 : decode cX12_strictOf 15 = .ok (.iconst 0, 1) := by decide +kernel
theorem dX12_strictOf_16 : decode cX12_strictOf 16 = .ok (.istore 4, 2) := by decide +kernel
theorem dX12_strictOf_18 : decode cX12_strictOf 18 = .ok (.iconst 0, 1) := by decide +kernel
theorem dX12_strictOf_19 : decode cX12_strictOf 19 = .ok (.istore 5, 2) := by decide +kernel
theorem dX12_strictOf_21 : decode cX12_strictOf 21 = .ok (.iload 5, 2) := by decide +kernel
theorem dX12_strictOf_23 : decode cX12_strictOf 23 = .ok (.aload_n 0, 1) := by decide +kernel
theorem dX12_strictOf_24 : decode cX12_strictOf 24 = .ok (.invokevirtual 83, 3) := by decide +kernel
theorem dX12_strictOf_27 : decode cX12_strictOf 27 = .ok (.if_icmp .ge 33, 3) := by decide +kernel
theorem dX12_strictOf_30 : decode cX12_strictOf 30 = .ok (.iload 4, 2) := by decide +kernel
theorem dX12_strictOf_32 : decode cX12_strictOf 32 = .ok (.aload_n 0, 1) := by decide +kernel
theorem dX12_strictOf_33 : decode cX12_strictOf 33 = .ok (.iload_n 3, 1) := by decide +kernel
theorem dX12_strictOf_34 : decode cX12_strictOf 34 = .ok (.aload_n 0, 1) := by decide +kernel
theorem dX12_strictOf_35 : decode cX12_strictOf 35 = .ok (.invokevirtual 91, 3) := by decide +kernel
theorem dX12_strictOf_38 : decode cX12_strictOf 38 = .ok (.iload 5, 2) := by decide +kernel
theorem dX12_strictOf_40 : decode cX12_strictOf 40 = .ok (.invokevirtual 159, 3) := by decide +kernel
theorem dX12_strictOf_43 : decode cX12_strictOf 43 = .ok (.ifCond .eq 7, 3) := by decide +kernel
theorem dX12_strictOf_46 : decode cX12_strictOf 46 = .ok (.iconst 1, 1) := by decide +kernel
theorem dX12_strictOf_47 : decode cX12_strictOf 47 = .ok (.goto 4, 3) := by decide +kernel
theorem dX12_strictOf_50 : decode cX12_strictOf 50 = .ok (.iconst 0, 1) := by decide +kernel
theorem dX12_strictOf_51 : decode cX12_strictOf 51 = .ok (.iadd, 1) := by decide +kernel
theorem dX12_strictOf_52 : decode cX12_strictOf 52 = .ok (.istore 4, 2) := by decide +kernel
theorem dX12_strictOf_54 : decode cX12_strictOf 54 = .ok (.iinc 5 1, 3) := by decide +kernel
theorem dX12_strictOf_57 : decode cX12_strictOf 57 = .ok (.goto (-36), 3) := by decide +kernel
theorem dX12_strictOf_60 : decode cX12_strictOf 60 = .ok (.iload 4, 2) := by decide +kernel
theorem dX12_strictOf_62 : decode cX12_strictOf 62 = .ok (.iload_n 2, 1) := by decide +kernel
theorem dX12_strictOf_63 : decode cX12_strictOf 63 = .ok (.if_icmp .ge 7, 3) := by decide +kernel
theorem dX12_strictOf_66 : decode cX12_strictOf 66 = .ok (.iload_n 3, 1) := by decide +kernel
theorem dX12_strictOf_67 : decode cX12_strictOf 67 = .ok (.goto 4, 3) := by decide +kernel
theorem dX12_strictOf_70 : decode cX12_strictOf 70 = .ok (.iload_n 1, 1) := by decide +kernel
theorem dX12_strictOf_71 : decode cX12_strictOf 71 = .ok (.istore_n 1, 1) := by decide +kernel
theorem dX12_strictOf_72 : decode cX12_strictOf 72 = .ok (.iload 4, 2) := by decide +kernel
theorem dX12_strictOf_74 : decode cX12_strictOf 74 = .ok (.iload_n 2, 1) := by decide +kernel
theorem dX12_strictOf_75 : decode cX12_strictOf 75 = .ok (.if_icmp .ge 8, 3) := by decide +kernel
theorem dX12_strictOf_78 : decode cX12_strictOf 78 = .ok (.iload 4, 2) := by decide +kernel
theorem dX12_strictOf_80 : decode cX12_strictOf 80 = .ok (.goto 4, 3) := by decide +kernel
theorem dX12_strictOf_83 : decode cX12_strictOf 83 = .ok (.iload_n 2, 1) := by decide +kernel
theorem dX12_strictOf_84 : decode cX12_strictOf 84 = .ok (.istore_n 2, 1) := by decide +kernel
theorem dX12_strictOf_85 : decode cX12_strictOf 85 = .ok (.iinc 3 1, 3) := by decide +kernel
theorem dX12_strictOf_88 : decode cX12_strictOf 88 = .ok (.goto (-81), 3) := by decide +kernel
theorem dX12_strictOf_91 : decode cX12_strictOf 91 = .ok (.iload_n 1, 1) := by decide +kernel
theorem dX12_strictOf_92 : decode cX12_strictOf 92 = .ok (.ireturn, 1) := by decide +kernel
theorem dX12_strict_0 : decode cX12_strict 0 = .ok (.aload_n 0, 1) := by decide +kernel
theorem dX12_strict_1 : decode cX12_strict 1 = .ok (.invokevirtual 79, 3) := by decide +kernel
theorem dX12_strict_4 : decode cX12_strict 4 = .ok (.ifCond .eq 8, 3) := by decide +kernel
theorem dX12_strict_7 : decode cX12_strict 7 = .ok (.bipush (-103), 2) := by decide +kernel
theorem dX12_strict_9 : decode cX12_strict 9 = .ok (.goto 7, 3) := by decide +kernel
theorem dX12_strict_12 : decode cX12_strict 12 = .ok (.aload_n 0, 1) := by decide +kernel
theorem dX12_strict_13 : decode cX12_strict 13 = .ok (.invokevirtual 167, 3) := by decide +kernel
theorem dX12_strict_16 : decode cX12_strict 16 = .ok (.ireturn, 1) := by decide +kernel
theorem dX12_slipOf_0 : decode cX12_slipOf 0 = .ok (.iload_n 1, 1) := by decide +kernel
theorem dX12_slipOf_1 : decode cX12_slipOf 1 = .ok (.iload_n 2, 1) := by decide +kernel
theorem dX12_slipOf_2 : decode cX12_slipOf 2 = .ok (.invokestatic 94, 3) := by decide +kernel
theorem dX12_slipOf_5 : decode cX12_slipOf 5 = .ok (.istore 4, 2) := by decide +kernel
theorem dX12_slipOf_7 : decode cX12_slipOf 7 = .ok (.iload_n 3, 1) := by decide +kernel
theorem dX12_slipOf_8 : decode cX12_slipOf 8 = .ok (.iconst 1, 1) := by decide +kernel
theorem dX12_slipOf_9 : decode cX12_slipOf 9 = .ok (.if_icmp .ne 10, 3) := by decide +kernel
theorem dX12_slipOf_12 : decode cX12_slipOf 12 = .ok (.iload 4, 2) := by decide +kernel
theorem dX12_slipOf_14 : decode cX12_slipOf 14 = .ok (.iconst 1, 1) := by decide +kernel
theorem dX12_slipOf_15 : decode cX12_slipOf 15 = .ok (.iadd, 1) := by decide +kernel
theorem dX12_slipOf_16 : decode cX12_slipOf 16 = .ok (.goto 7, 3) := by decide +kernel
theorem dX12_slipOf_19 : decode cX12_slipOf 19 = .ok (.iload 4, 2) := by decide +kernel
theorem dX12_slipOf_21 : decode cX12_slipOf 21 = .ok (.iconst 1, 1) := by decide +kernel
theorem dX12_slipOf_22 : decode cX12_slipOf 22 = .ok (.isub, 1) := by decide +kernel
theorem dX12_slipOf_23 : decode cX12_slipOf 23 = .ok (.istore 5, 2) := by decide +kernel
theorem dX12_slipOf_25 : decode cX12_slipOf 25 = .ok (.aload_n 0, 1) := by decide +kernel
theorem dX12_slipOf_26 : decode cX12_slipOf 26 = .ok (.getfield 7, 3) := by decide +kernel
theorem dX12_slipOf_29 : decode cX12_slipOf 29 = .ok (.iload_n 2, 1) := by decide +kernel
theorem dX12_slipOf_30 : decode cX12_slipOf 30 = .ok (.iaload, 1) := by decide +kernel
theorem dX12_slipOf_31 : decode cX12_slipOf 31 = .ok (.iconst 3, 1) := by decide +kernel
theorem dX12_slipOf_32 : decode cX12_slipOf 32 = .ok (.if_icmp .ne 14, 3) := by decide +kernel
theorem dX12_slipOf_35 : decode cX12_slipOf 35 = .ok (.iload 5, 2) := by decide +kernel
theorem dX12_slipOf_37 : decode cX12_slipOf 37 = .ok (.bipush 10, 2) := by decide +kernel
theorem dX12_slipOf_39 : decode cX12_slipOf 39 = .ok (.iadd, 1) := by decide +kernel
theorem dX12_slipOf_40 : decode cX12_slipOf 40 = .ok (.bipush 10, 2) := by decide +kernel
theorem dX12_slipOf_42 : decode cX12_slipOf 42 = .ok (.irem, 1) := by decide +kernel
theorem dX12_slipOf_43 : decode cX12_slipOf 43 = .ok (.goto 5, 3) := by decide +kernel
theorem dX12_slipOf_46 : decode cX12_slipOf 46 = .ok (.iload 5, 2) := by decide +kernel
theorem dX12_slipOf_48 : decode cX12_slipOf 48 = .ok (.istore 5, 2) := by decide +kernel
theorem dX12_slipOf_50 : decode cX12_slipOf 50 = .ok (.iload 5, 2) := by decide +kernel
theorem dX12_slipOf_52 : decode cX12_slipOf 52 = .ok (.i2l, 1) := by decide +kernel
theorem dX12_slipOf_53 : decode cX12_slipOf 53 = .ok (.lconst 0, 1) := by decide +kernel
theorem dX12_slipOf_54 : decode cX12_slipOf 54 = .ok (.ldc2_w 77, 3) := by decide +kernel
theorem dX12_slipOf_57 : decode cX12_slipOf 57 = .ok (.invokestatic 68, 3) := by decide +kernel
theorem dX12_slipOf_60 : decode cX12_slipOf 60 = .ok (.ifCond .eq 18, 3) := by decide +kernel
theorem dX12_slipOf_63 : decode cX12_slipOf 63 = .ok (.iload_n 1, 1) := by decide +kernel
theorem dX12_slipOf_64 : decode cX12_slipOf 64 = .ok (.iload_n 2, 1) := by decide +kernel
theorem dX12_slipOf_65 : decode cX12_slipOf 65 = .ok (.invokestatic 87, 3) := by decide +kernel
theorem dX12_slipOf_68 : decode cX12_slipOf 68 = .ok (.iload 5, 2) := by decide +kernel
theorem dX12_slipOf_70 : decode cX12_slipOf 70 = .ok (.iload 4, 2) := by decide +kernel
theorem dX12_slipOf_72 : decode cX12_slipOf 72 = .ok (.isub, 1) := by decide +kernel
theorem dX12_slipOf_73 : decode cX12_slipOf 73 = .ok (.imul, 1) := by decide +kernel
theorem dX12_slipOf_74 : decode cX12_slipOf 74 = .ok (.iadd, 1) := by decide +kernel
theorem dX12_slipOf_75 : decode cX12_slipOf 75 = .ok (.goto 4, 3) := by decide +kernel
theorem dX12_slipOf_78 : decode cX12_slipOf 78 = .ok (.iload_n 1, 1) := by decide +kernel
theorem dX12_slipOf_79 : decode cX12_slipOf 79 = .ok (.ireturn, 1) := by decide +kernel
theorem dX12_slipsOf_0 : decode cX12_slipsOf 0 = .ok (.iconst 0, 1) := by decide +kernel
theorem dX12_slipsOf_1 : decode cX12_slipsOf 1 = .ok (.istore_n 3, 1) := by decide +kernel
theorem dX12_slipsOf_2 : decode cX12_slipsOf 2 = .ok (.iload_n 3, 1) := by decide +kernel
theorem dX12_slipsOf_3 : decode cX12_slipsOf 3 = .ok (.sipush 10000, 3) := by decide +kernel
theorem dX12_slipsOf_6 : decode cX12_slipsOf 6 = .ok (.if_icmp .ge 25, 3) := by decide +kernel
theorem dX12_slipsOf_9 : decode cX12_slipsOf 9 = .ok (.aload_n 0, 1) := by decide +kernel
theorem dX12_slipsOf_10 : decode cX12_slipsOf 10 = .ok (.getfield 31, 3) := by decide +kernel
theorem dX12_slipsOf_13 : decode cX12_slipsOf 13 = .ok (.iload_n 3, 1) := by decide +kernel
theorem dX12_slipsOf_14 : decode cX12_slipsOf 14 = .ok (.iload_n 3, 1) := by decide +kernel
theorem dX12_slipsOf_15 : decode cX12_slipsOf 15 = .ok (.iload_n 1, 1) := by decide +kernel
theorem dX12_slipsOf_16 : decode cX12_slipsOf 16 = .ok (.if_icmp .ne 7, 3) := by decide +kernel
theorem dX12_slipsOf_19 : decode cX12_slipsOf 19 = .ok (.iconst 0, 1) := by decide +kernel
theorem dX12_slipsOf_20 : decode cX12_slipsOf 20 = .ok (.goto 4, 3) := by decide +kernel
theorem dX12_slipsOf_23 : decode cX12_slipsOf 23 = .ok (.iconst (-1), 1) := by decide +kernel
theorem dX12_slipsOf_24 : decode cX12_slipsOf 24 = .ok (.iastore, 1) := by decide +kernel
theorem dX12_slipsOf_25 : decode cX12_slipsOf 25 = .ok (.iinc 3 1, 3) := by decide +kernel
theorem dX12_slipsOf_28 : decode cX12_slipsOf 28 = .ok (.goto (-26), 3) := by decide +kernel
theorem dX12_slipsOf_31 : decode cX12_slipsOf 31 = .ok (.aload_n 0, 1) := by decide +kernel
theorem dX12_slipsOf_32 : decode cX12_slipsOf 32 = .ok (.getfield 34, 3) := by decide +kernel
theorem dX12_slipsOf_35 : decode cX12_slipsOf 35 = .ok (.iconst 0, 1) := by decide +kernel
theorem dX12_slipsOf_36 : decode cX12_slipsOf 36 = .ok (.iload_n 1, 1) := by decide +kernel
theorem dX12_slipsOf_37 : decode cX12_slipsOf 37 = .ok (.iastore, 1) := by decide +kernel
theorem dX12_slipsOf_38 : decode cX12_slipsOf 38 = .ok (.iconst 1, 1) := by decide +kernel
theorem dX12_slipsOf_39 : decode cX12_slipsOf 39 = .ok (.istore_n 3, 1) := by decide +kernel
theorem dX12_slipsOf_40 : decode cX12_slipsOf 40 = .ok (.iconst 0, 1) := by decide +kernel
theorem dX12_slipsOf_41 : decode cX12_slipsOf 41 = .ok (.istore 4, 2) := by decide +kernel
theorem dX12_slipsOf_43 : decode cX12_slipsOf 43 = .ok (.iload 4, 2) := by decide +kernel
theorem dX12_slipsOf_45 : decode cX12_slipsOf 45 = .ok (.iload_n 3, 1) := by decide +kernel
theorem dX12_slipsOf_46 : decode cX12_slipsOf 46 = .ok (.if_icmp .ge 125, 3) := by decide +kernel
theorem dX12_slipsOf_49 : decode cX12_slipsOf 49 = .ok (.aload_n 0, 1) := by decide +kernel
theorem dX12_slipsOf_50 : decode cX12_slipsOf 50 = .ok (.getfield 31, 3) := by decide +kernel
theorem dX12_slipsOf_53 : decode cX12_slipsOf 53 = .ok (.iload_n 2, 1) := by decide +kernel
theorem dX12_slipsOf_54 : decode cX12_slipsOf 54 = .ok (.iaload, 1) := by decide +kernel
theorem dX12_slipsOf_55 : decode cX12_slipsOf 55 = .ok (.iconst (-1), 1) := by decide +kernel
theorem dX12_slipsOf_56 : decode cX12_slipsOf 56 = .ok (.if_icmp .ne 115, 3) := by decide +kernel
theorem dX12_slipsOf_59 : decode cX12_slipsOf 59 = .ok (.aload_n 0, 1) := by decide +kernel
theorem dX12_slipsOf_60 : decode cX12_slipsOf 60 = .ok (.getfield 34, 3) := by decide +kernel
theorem dX12_slipsOf_63 : decode cX12_slipsOf 63 = .ok (.iload 4, 2) := by decide +kernel
theorem dX12_slipsOf_65 : decode cX12_slipsOf 65 = .ok (.iaload, 1) := by decide +kernel
theorem dX12_slipsOf_66 : decode cX12_slipsOf 66 = .ok (.istore 5, 2) := by decide +kernel
theorem dX12_slipsOf_68 : decode cX12_slipsOf 68 = .ok (.iconst 0, 1) := by decide +kernel
theorem dX12_slipsOf_69 : decode cX12_slipsOf 69 = .ok (.istore 6, 2) := by decide +kernel
theorem dX12_slipsOf_71 : decode cX12_slipsOf 71 = .ok (.iload 6, 2) := by decide +kernel
theorem dX12_slipsOf_73 : decode cX12_slipsOf 73 = .ok (.iconst 2, 1) := by decide +kernel
theorem dX12_slipsOf_74 : decode cX12_slipsOf 74 = .ok (.aload_n 0, 1) := by decide +kernel
theorem dX12_slipsOf_75 : decode cX12_slipsOf 75 = .ok (.getfield 65, 3) := by decide +kernel
theorem dX12_slipsOf_78 : decode cX12_slipsOf 78 = .ok (.imul, 1) := by decide +kernel
theorem dX12_slipsOf_79 : decode cX12_slipsOf 79 = .ok (.if_icmp .ge 86, 3) := by decide +kernel
theorem dX12_slipsOf_82 : decode cX12_slipsOf 82 = .ok (.aload_n 0, 1) := by decide +kernel
theorem dX12_slipsOf_83 : decode cX12_slipsOf 83 = .ok (.getfield 31, 3) := by decide +kernel
theorem dX12_slipsOf_86 : decode cX12_slipsOf 86 = .ok (.iload 5, 2) := by decide +kernel
theorem dX12_slipsOf_88 : decode cX12_slipsOf 88 = .ok (.iaload, 1) := by decide +kernel
theorem dX12_slipsOf_89 : decode cX12_slipsOf 89 = .ok (.bipush 20, 2) := by decide +kernel
theorem dX12_slipsOf_91 : decode cX12_slipsOf 91 = .ok (.if_icmp .ge 74, 3) := by decide +kernel
theorem dX12_slipsOf_94 : decode cX12_slipsOf 94 = .ok (.aload_n 0, 1) := by decide +kernel
theorem dX12_slipsOf_95 : decode cX12_slipsOf 95 = .ok (.iload 5, 2) := by decide +kernel
theorem dX12_slipsOf_97 : decode cX12_slipsOf 97 = .ok (.iload 6, 2) := by decide +kernel
theorem dX12_slipsOf_99 : decode cX12_slipsOf 99 = .ok (.iconst 2, 1) := by decide +kernel
theorem dX12_slipsOf_100 : decode cX12_slipsOf 100 = .ok (.idiv, 1) := by decide +kernel
theorem dX12_slipsOf_101 : decode cX12_slipsOf 101 = .ok (.iload 6, 2) := by decide +kernel
theorem dX12_slipsOf_103 : decode cX12_slipsOf 103 = .ok (.iconst 2, 1) := by decide +kernel
theorem dX12_slipsOf_104 : decode cX12_slipsOf 104 = .ok (.irem, 1) := by decide +kernel
theorem dX12_slipsOf_105 : decode cX12_slipsOf 105 = .ok (.invokevirtual 170, 3) := by decide +kernel
theorem dX12_slipsOf_108 : decode cX12_slipsOf 108 = .ok (.istore 7, 2) := by decide +kernel
theorem dX12_slipsOf_110 : decode cX12_slipsOf 110 = .ok (.aload_n 0, 1) := by decide +kernel
theorem dX12_slipsOf_111 : decode cX12_slipsOf 111 = .ok (.getfield 31, 3) := by decide +kernel
theorem dX12_slipsOf_114 : decode cX12_slipsOf 114 = .ok (.iload 7, 2) := by decide +kernel
theorem dX12_slipsOf_116 : decode cX12_slipsOf 116 = .ok (.iaload, 1) := by decide +kernel
theorem dX12_slipsOf_117 : decode cX12_slipsOf 117 = .ok (.iconst (-1), 1) := by decide +kernel
theorem dX12_slipsOf_118 : decode cX12_slipsOf 118 = .ok (.if_icmp .ne 41, 3) := by decide +kernel
theorem dX12_slipsOf_121 : decode cX12_slipsOf 121 = .ok (.aload_n 0, 1) := by decide +kernel
theorem dX12_slipsOf_122 : decode cX12_slipsOf 122 = .ok (.iload 5, 2) := by decide +kernel
theorem dX12_slipsOf_124 : decode cX12_slipsOf 124 = .ok (.iload 7, 2) := by decide +kernel
theorem dX12_slipsOf_126 : decode cX12_slipsOf 126 = .ok (.invokevirtual 130, 3) := by decide +kernel
theorem dX12_slipsOf_129 : decode cX12_slipsOf 129 = .ok (.ifCond .eq 30, 3) := by decide +kernel
theorem dX12_slipsOf_132 : decode cX12_slipsOf 132 = .ok (.aload_n 0, 1) := by decide +kernel
theorem dX12_slipsOf_133 : decode cX12_slipsOf 133 = .ok (.getfield 31, 3) := by decide +kernel
theorem dX12_slipsOf_136 : decode cX12_slipsOf 136 = .ok (.iload 7, 2) := by decide +kernel
theorem dX12_slipsOf_138 : decode cX12_slipsOf 138 = .ok (.aload_n 0, 1) := by decide +kernel
theorem dX12_slipsOf_139 : decode cX12_slipsOf 139 = .ok (.getfield 31, 3) := by decide +kernel
theorem dX12_slipsOf_142 : decode cX12_slipsOf 142 = .ok (.iload 5, 2) := by decide +kernel
theorem dX12_slipsOf_144 : decode cX12_slipsOf 144 = .ok (.iaload, 1) := by decide +kernel
theorem dX12_slipsOf_145 : decode cX12_slipsOf 145 = .ok (.iconst 1, 1) := by decide +kernel
theorem dX12_slipsOf_146 : decode cX12_slipsOf 146 = .ok (.iadd, 1) := by decide +kernel
theorem dX12_slipsOf_147 : decode cX12_slipsOf 147 = .ok (.iastore, 1) := by decide +kernel
theorem dX12_slipsOf_148 : decode cX12_slipsOf 148 = .ok (.aload_n 0, 1) := by decide +kernel
theorem dX12_slipsOf_149 : decode cX12_slipsOf 149 = .ok (.getfield 34, 3) := by decide +kernel
theorem dX12_slipsOf_152 : decode cX12_slipsOf 152 = .ok (.iload_n 3, 1) := by decide +kernel
theorem dX12_slipsOf_153 : decode cX12_slipsOf 153 = .ok (.iload 7, 2) := by decide +kernel
theorem dX12_slipsOf_155 : decode cX12_slipsOf 155 = .ok (.iastore, 1) := by decide +kernel
theorem dX12_slipsOf_156 : decode cX12_slipsOf 156 = .ok (.iinc 3 1, 3) := by decide +kernel
theorem dX12_slipsOf_159 : decode cX12_slipsOf 159 = .ok (.iinc 6 1, 3) := by decide +kernel
theorem dX12_slipsOf_162 : decode cX12_slipsOf 162 = .ok (.goto (-91), 3) := by decide +kernel
theorem dX12_slipsOf_165 : decode cX12_slipsOf 165 = .ok (.iinc 4 1, 3) := by decide +kernel
theorem dX12_slipsOf_168 : decode cX12_slipsOf 168 = .ok (.goto (-125), 3) := by decide +kernel
theorem dX12_slipsOf_171 : decode cX12_slipsOf 171 = .ok (.aload_n 0, 1) := by decide +kernel
theorem dX12_slipsOf_172 : decode cX12_slipsOf 172 = .ok (.getfield 31, 3) := by decide +kernel
theorem dX12_slipsOf_175 : decode cX12_slipsOf 175 = .ok (.iload_n 2, 1) := by decide +kernel
theorem dX12_slipsOf_176 : decode cX12_slipsOf 176 = .ok (.iaload, 1) := by decide +kernel
theorem dX12_slipsOf_177 : decode cX12_slipsOf 177 = .ok (.ireturn, 1) := by decide +kernel
theorem dX12_slips_0 : decode cX12_slips 0 = .ok (.aload_n 0, 1) := by decide +kernel
theorem dX12_slips_1 : decode cX12_slips 1 = .ok (.invokevirtual 79, 3) := by decide +kernel
theorem dX12_slips_4 : decode cX12_slips 4 = .ok (.ifCond .eq 6, 3) := by decide +kernel
theorem dX12_slips_7 : decode cX12_slips 7 = .ok (.bipush (-103), 2) := by decide +kernel
theorem dX12_slips_9 : decode cX12_slips 9 = .ok (.ireturn, 1) := by decide +kernel
theorem dX12_slips_10 : decode cX12_slips 10 = .ok (.aload_n 0, 1) := by decide +kernel
theorem dX12_slips_11 : decode cX12_slips 11 = .ok (.iload_n 1, 1) := by decide +kernel
theorem dX12_slips_12 : decode cX12_slips 12 = .ok (.invokevirtual 118, 3) := by decide +kernel
theorem dX12_slips_15 : decode cX12_slips 15 = .ok (.ifCond .eq 20, 3) := by decide +kernel
theorem dX12_slips_18 : decode cX12_slips 18 = .ok (.aload_n 0, 1) := by decide +kernel
theorem dX12_slips_19 : decode cX12_slips 19 = .ok (.iload_n 2, 1) := by decide +kernel
theorem dX12_slips_20 : decode cX12_slips 20 = .ok (.invokevirtual 118, 3) := by decide +kernel
theorem dX12_slips_23 : decode cX12_slips 23 = .ok (.ifCond .eq 12, 3) := by decide +kernel
theorem dX12_slips_26 : decode cX12_slips 26 = .ok (.aload_n 0, 1) := by decide +kernel
theorem dX12_slips_27 : decode cX12_slips 27 = .ok (.iload_n 1, 1) := by decide +kernel
theorem dX12_slips_28 : decode cX12_slips 28 = .ok (.iload_n 2, 1) := by decide +kernel
theorem dX12_slips_29 : decode cX12_slips 29 = .ok (.invokevirtual 173, 3) := by decide +kernel
theorem dX12_slips_32 : decode cX12_slips 32 = .ok (.goto 5, 3) := by decide +kernel
theorem dX12_slips_35 : decode cX12_slips 35 = .ok (.bipush (-102), 2) := by decide +kernel
theorem dX12_slips_37 : decode cX12_slips 37 = .ok (.ireturn, 1) := by decide +kernel
theorem dX12_madeTrue_0 : decode cX12_madeTrue 0 = .ok (.iload_n 2, 1) := by decide +kernel
theorem dX12_madeTrue_1 : decode cX12_madeTrue 1 = .ok (.aload_n 0, 1) := by decide +kernel
theorem dX12_madeTrue_2 : decode cX12_madeTrue 2 = .ok (.getfield 65, 3) := by decide +kernel
theorem dX12_madeTrue_5 : decode cX12_madeTrue 5 = .ok (.if_icmp .ne 7, 3) := by decide +kernel
theorem dX12_madeTrue_8 : decode cX12_madeTrue 8 = .ok (.iload_n 1, 1) := by decide +kernel
theorem dX12_madeTrue_9 : decode cX12_madeTrue 9 = .ok (.goto 22, 3) := by decide +kernel
theorem dX12_madeTrue_12 : decode cX12_madeTrue 12 = .ok (.iload_n 1, 1) := by decide +kernel
theorem dX12_madeTrue_13 : decode cX12_madeTrue 13 = .ok (.iload_n 2, 1) := by decide +kernel
theorem dX12_madeTrue_14 : decode cX12_madeTrue 14 = .ok (.invokestatic 87, 3) := by decide +kernel
theorem dX12_madeTrue_17 : decode cX12_madeTrue 17 = .ok (.aload_n 0, 1) := by decide +kernel
theorem dX12_madeTrue_18 : decode cX12_madeTrue 18 = .ok (.getfield 13, 3) := by decide +kernel
theorem dX12_madeTrue_21 : decode cX12_madeTrue 21 = .ok (.iload_n 2, 1) := by decide +kernel
theorem dX12_madeTrue_22 : decode cX12_madeTrue 22 = .ok (.iaload, 1) := by decide +kernel
theorem dX12_madeTrue_23 : decode cX12_madeTrue 23 = .ok (.iload_n 1, 1) := by decide +kernel
theorem dX12_madeTrue_24 : decode cX12_madeTrue 24 = .ok (.iload_n 2, 1) := by decide +kernel
theorem dX12_madeTrue_25 : decode cX12_madeTrue 25 = .ok (.invokestatic 94, 3) := by decide +kernel
theorem dX12_madeTrue_28 : decode cX12_madeTrue 28 = .ok (.isub, 1) := by decide +kernel
theorem dX12_madeTrue_29 : decode cX12_madeTrue 29 = .ok (.imul, 1) := by decide +kernel
theorem dX12_madeTrue_30 : decode cX12_madeTrue 30 = .ok (.iadd, 1) := by decide +kernel
theorem dX12_madeTrue_31 : decode cX12_madeTrue 31 = .ok (.ireturn, 1) := by decide +kernel
theorem dX12_truthBy_0 : decode cX12_truthBy 0 = .ok (.aload_n 0, 1) := by decide +kernel
theorem dX12_truthBy_1 : decode cX12_truthBy 1 = .ok (.invokevirtual 124, 3) := by decide +kernel
theorem dX12_truthBy_4 : decode cX12_truthBy 4 = .ok (.iconst 0, 1) := by decide +kernel
theorem dX12_truthBy_5 : decode cX12_truthBy 5 = .ok (.istore_n 2, 1) := by decide +kernel
theorem dX12_truthBy_6 : decode cX12_truthBy 6 = .ok (.iload_n 2, 1) := by decide +kernel
theorem dX12_truthBy_7 : decode cX12_truthBy 7 = .ok (.sipush 10000, 3) := by decide +kernel
theorem dX12_truthBy_10 : decode cX12_truthBy 10 = .ok (.if_icmp .ge 16, 3) := by decide +kernel
theorem dX12_truthBy_13 : decode cX12_truthBy 13 = .ok (.aload_n 0, 1) := by decide +kernel
theorem dX12_truthBy_14 : decode cX12_truthBy 14 = .ok (.getfield 31, 3) := by decide +kernel
theorem dX12_truthBy_17 : decode cX12_truthBy 17 = .ok (.iload_n 2, 1) := by decide +kernel
theorem dX12_truthBy_18 : decode cX12_truthBy 18 = .ok (.iconst 0, 1) := by decide +kernel
theorem dX12_truthBy_19 : decode cX12_truthBy 19 = .ok (.iastore, 1) := by decide +kernel
theorem dX12_truthBy_20 : decode cX12_truthBy 20 = .ok (.iinc 2 1, 3) := by decide +kernel
theorem dX12_truthBy_23 : decode cX12_truthBy 23 = .ok (.goto (-17), 3) := by decide +kernel
theorem dX12_truthBy_26 : decode cX12_truthBy 26 = .ok (.aload_n 0, 1) := by decide +kernel
theorem dX12_truthBy_27 : decode cX12_truthBy 27 = .ok (.invokevirtual 127, 3) := by decide +kernel
theorem dX12_truthBy_30 : decode cX12_truthBy 30 = .ok (.iload_n 1, 1) := by decide +kernel
theorem dX12_truthBy_31 : decode cX12_truthBy 31 = .ok (.aload_n 0, 1) := by decide +kernel
theorem dX12_truthBy_32 : decode cX12_truthBy 32 = .ok (.getfield 65, 3) := by decide +kernel
theorem dX12_truthBy_35 : decode cX12_truthBy 35 = .ok (.if_icmp .eq 23, 3) := by decide +kernel
theorem dX12_truthBy_38 : decode cX12_truthBy 38 = .ok (.aload_n 0, 1) := by decide +kernel
theorem dX12_truthBy_39 : decode cX12_truthBy 39 = .ok (.aload_n 0, 1) := by decide +kernel
theorem dX12_truthBy_40 : decode cX12_truthBy 40 = .ok (.invokevirtual 91, 3) := by decide +kernel
theorem dX12_truthBy_43 : decode cX12_truthBy 43 = .ok (.aload_n 0, 1) := by decide +kernel
theorem dX12_truthBy_44 : decode cX12_truthBy 44 = .ok (.aload_n 0, 1) := by decide +kernel
theorem dX12_truthBy_45 : decode cX12_truthBy 45 = .ok (.invokevirtual 91, 3) := by decide +kernel
theorem dX12_truthBy_48 : decode cX12_truthBy 48 = .ok (.iload_n 1, 1) := by decide +kernel
theorem dX12_truthBy_49 : decode cX12_truthBy 49 = .ok (.invokevirtual 176, 3) := by decide +kernel
theorem dX12_truthBy_52 : decode cX12_truthBy 52 = .ok (.invokevirtual 130, 3) := by decide +kernel
theorem dX12_truthBy_55 : decode cX12_truthBy 55 = .ok (.ifCond .eq 7, 3) := by decide +kernel
theorem dX12_truthBy_58 : decode cX12_truthBy 58 = .ok (.iconst 1, 1) := by decide +kernel
theorem dX12_truthBy_59 : decode cX12_truthBy 59 = .ok (.goto 4, 3) := by decide +kernel
theorem dX12_truthBy_62 : decode cX12_truthBy 62 = .ok (.iconst 0, 1) := by decide +kernel
theorem dX12_truthBy_63 : decode cX12_truthBy 63 = .ok (.istore_n 2, 1) := by decide +kernel
theorem dX12_truthBy_64 : decode cX12_truthBy 64 = .ok (.iconst 0, 1) := by decide +kernel
theorem dX12_truthBy_65 : decode cX12_truthBy 65 = .ok (.istore_n 3, 1) := by decide +kernel
theorem dX12_truthBy_66 : decode cX12_truthBy 66 = .ok (.iload_n 2, 1) := by decide +kernel
theorem dX12_truthBy_67 : decode cX12_truthBy 67 = .ok (.ifCond .eq 32, 3) := by decide +kernel
theorem dX12_truthBy_70 : decode cX12_truthBy 70 = .ok (.aload_n 0, 1) := by decide +kernel
theorem dX12_truthBy_71 : decode cX12_truthBy 71 = .ok (.getfield 34, 3) := by decide +kernel
theorem dX12_truthBy_74 : decode cX12_truthBy 74 = .ok (.iconst 0, 1) := by decide +kernel
theorem dX12_truthBy_75 : decode cX12_truthBy 75 = .ok (.aload_n 0, 1) := by decide +kernel
theorem dX12_truthBy_76 : decode cX12_truthBy 76 = .ok (.aload_n 0, 1) := by decide +kernel
theorem dX12_truthBy_77 : decode cX12_truthBy 77 = .ok (.invokevirtual 91, 3) := by decide +kernel
theorem dX12_truthBy_80 : decode cX12_truthBy 80 = .ok (.iload_n 1, 1) := by decide +kernel
theorem dX12_truthBy_81 : decode cX12_truthBy 81 = .ok (.invokevirtual 176, 3) := by decide +kernel
theorem dX12_truthBy_84 : decode cX12_truthBy 84 = .ok (.iastore, 1) := by decide +kernel
theorem dX12_truthBy_85 : decode cX12_truthBy 85 = .ok (.aload_n 0, 1) := by decide +kernel
theorem dX12_truthBy_86 : decode cX12_truthBy 86 = .ok (.getfield 31, 3) := by decide +kernel
theorem dX12_truthBy_89 : decode cX12_truthBy 89 = .ok (.aload_n 0, 1) := by decide +kernel
theorem dX12_truthBy_90 : decode cX12_truthBy 90 = .ok (.getfield 34, 3) := by decide +kernel
theorem dX12_truthBy_93 : decode cX12_truthBy 93 = .ok (.iconst 0, 1) := by decide +kernel
theorem dX12_truthBy_94 : decode cX12_truthBy 94 = .ok (.iaload, 1) := by decide +kernel
theorem dX12_truthBy_95 : decode cX12_truthBy 95 = .ok (.iconst 1, 1) := by decide +kernel
theorem dX12_truthBy_96 : decode cX12_truthBy 96 = .ok (.iastore, 1) := by decide +kernel
theorem dX12_truthBy_97 : decode cX12_truthBy 97 = .ok (.iconst 1, 1) := by decide +kernel
theorem dX12_truthBy_98 : decode cX12_truthBy 98 = .ok (.istore_n 3, 1) := by decide +kernel
theorem dX12_truthBy_99 : decode cX12_truthBy 99 = .ok (.ldc 166, 2) := by decide +kernel
theorem dX12_truthBy_101 : decode cX12_truthBy 101 = .ok (.istore 4, 2) := by decide +kernel
theorem dX12_truthBy_103 : decode cX12_truthBy 103 = .ok (.iconst 1, 1) := by decide +kernel
theorem dX12_truthBy_104 : decode cX12_truthBy 104 = .ok (.istore 5, 2) := by decide +kernel
theorem dX12_truthBy_106 : decode cX12_truthBy 106 = .ok (.iload 5, 2) := by decide +kernel
theorem dX12_truthBy_108 : decode cX12_truthBy 108 = .ok (.bipush 13, 2) := by decide +kernel
theorem dX12_truthBy_110 : decode cX12_truthBy 110 = .ok (.if_icmp .ge 140, 3) := by decide +kernel
theorem dX12_truthBy_113 : decode cX12_truthBy 113 = .ok (.iload 4, 2) := by decide +kernel
theorem dX12_truthBy_115 : decode cX12_truthBy 115 = .ok (.ldc 166, 2) := by decide +kernel
theorem dX12_truthBy_117 : decode cX12_truthBy 117 = .ok (.if_icmp .ne 133, 3) := by decide +kernel
theorem dX12_truthBy_120 : decode cX12_truthBy 120 = .ok (.iload_n 3, 1) := by decide +kernel
theorem dX12_truthBy_121 : decode cX12_truthBy 121 = .ok (.ifCond .le 129, 3) := by decide +kernel
theorem dX12_truthBy_124 : decode cX12_truthBy 124 = .ok (.aload_n 0, 1) := by decide +kernel
theorem dX12_truthBy_125 : decode cX12_truthBy 125 = .ok (.getfield 31, 3) := by decide +kernel
theorem dX12_truthBy_128 : decode cX12_truthBy 128 = .ok (.aload_n 0, 1) := by decide +kernel
theorem dX12_truthBy_129 : decode cX12_truthBy 129 = .ok (.invokevirtual 105, 3) := by decide +kernel
theorem dX12_truthBy_132 : decode cX12_truthBy 132 = .ok (.iaload, 1) := by decide +kernel
theorem dX12_truthBy_133 : decode cX12_truthBy 133 = .ok (.ifCond .le 10, 3) := by decide +kernel
theorem dX12_truthBy_136 : decode cX12_truthBy 136 = .ok (.iload 5, 2) := by decide +kernel
theorem dX12_truthBy_138 : decode cX12_truthBy 138 = .ok (.istore 4, 2) := by decide +kernel
theorem dX12_truthBy_140 : decode cX12_truthBy 140 = .ok (.goto 104, 3) := by decide +kernel
theorem dX12_truthBy_143 : decode cX12_truthBy 143 = .ok (.aload_n 0, 1) := by decide +kernel
theorem dX12_truthBy_144 : decode cX12_truthBy 144 = .ok (.invokevirtual 127, 3) := by decide +kernel
theorem dX12_truthBy_147 : decode cX12_truthBy 147 = .ok (.iload_n 3, 1) := by decide +kernel
theorem dX12_truthBy_148 : decode cX12_truthBy 148 = .ok (.istore 6, 2) := by decide +kernel
theorem dX12_truthBy_150 : decode cX12_truthBy 150 = .ok (.iconst 0, 1) := by decide +kernel
theorem dX12_truthBy_151 : decode cX12_truthBy 151 = .ok (.istore 7, 2) := by decide +kernel
theorem dX12_truthBy_153 : decode cX12_truthBy 153 = .ok (.iload 7, 2) := by decide +kernel
theorem dX12_truthBy_155 : decode cX12_truthBy 155 = .ok (.iload 6, 2) := by decide +kernel
theorem dX12_truthBy_157 : decode cX12_truthBy 157 = .ok (.if_icmp .ge 87, 3) := by decide +kernel
theorem dX12_truthBy_160 : decode cX12_truthBy 160 = .ok (.iconst 0, 1) := by decide +kernel
theorem dX12_truthBy_161 : decode cX12_truthBy 161 = .ok (.istore 8, 2) := by decide +kernel
theorem dX12_truthBy_163 : decode cX12_truthBy 163 = .ok (.iload 8, 2) := by decide +kernel
theorem dX12_truthBy_165 : decode cX12_truthBy 165 = .ok (.aload_n 0, 1) := by decide +kernel
theorem dX12_truthBy_166 : decode cX12_truthBy 166 = .ok (.getfield 65, 3) := by decide +kernel
theorem dX12_truthBy_169 : decode cX12_truthBy 169 = .ok (.if_icmp .ge 69, 3) := by decide +kernel
theorem dX12_truthBy_172 : decode cX12_truthBy 172 = .ok (.aload_n 0, 1) := by decide +kernel
theorem dX12_truthBy_173 : decode cX12_truthBy 173 = .ok (.aload_n 0, 1) := by decide +kernel
theorem dX12_truthBy_174 : decode cX12_truthBy 174 = .ok (.getfield 34, 3) := by decide +kernel
theorem dX12_truthBy_177 : decode cX12_truthBy 177 = .ok (.iload 7, 2) := by decide +kernel
theorem dX12_truthBy_179 : decode cX12_truthBy 179 = .ok (.iaload, 1) := by decide +kernel
theorem dX12_truthBy_180 : decode cX12_truthBy 180 = .ok (.iload 8, 2) := by decide +kernel
theorem dX12_truthBy_182 : decode cX12_truthBy 182 = .ok (.invokevirtual 176, 3) := by decide +kernel
theorem dX12_truthBy_185 : decode cX12_truthBy 185 = .ok (.istore 9, 2) := by decide +kernel
theorem dX12_truthBy_187 : decode cX12_truthBy 187 = .ok (.aload_n 0, 1) := by decide +kernel
theorem dX12_truthBy_188 : decode cX12_truthBy 188 = .ok (.getfield 31, 3) := by decide +kernel
theorem dX12_truthBy_191 : decode cX12_truthBy 191 = .ok (.iload 9, 2) := by decide +kernel
theorem dX12_truthBy_193 : decode cX12_truthBy 193 = .ok (.iaload, 1) := by decide +kernel
theorem dX12_truthBy_194 : decode cX12_truthBy 194 = .ok (.ifCond .ne 38, 3) := by decide +kernel
theorem dX12_truthBy_197 : decode cX12_truthBy 197 = .ok (.aload_n 0, 1) := by decide +kernel
theorem dX12_truthBy_198 : decode cX12_truthBy 198 = .ok (.aload_n 0, 1) := by decide +kernel
theorem dX12_truthBy_199 : decode cX12_truthBy 199 = .ok (.getfield 34, 3) := by decide +kernel
theorem dX12_truthBy_202 : decode cX12_truthBy 202 = .ok (.iload 7, 2) := by decide +kernel
theorem dX12_truthBy_204 : decode cX12_truthBy 204 = .ok (.iaload, 1) := by decide +kernel
theorem dX12_truthBy_205 : decode cX12_truthBy 205 = .ok (.iload 9, 2) := by decide +kernel
theorem dX12_truthBy_207 : decode cX12_truthBy 207 = .ok (.invokevirtual 130, 3) := by decide +kernel
theorem dX12_truthBy_210 : decode cX12_truthBy 210 = .ok (.ifCond .eq 22, 3) := by decide +kernel
theorem dX12_truthBy_213 : decode cX12_truthBy 213 = .ok (.aload_n 0, 1) := by decide +kernel
theorem dX12_truthBy_214 : decode cX12_truthBy 214 = .ok (.getfield 31, 3) := by decide +kernel
theorem dX12_truthBy_217 : decode cX12_truthBy 217 = .ok (.iload 9, 2) := by decide +kernel
theorem dX12_truthBy_219 : decode cX12_truthBy 219 = .ok (.iconst 1, 1) := by decide +kernel
theorem dX12_truthBy_220 : decode cX12_truthBy 220 = .ok (.iastore, 1) := by decide +kernel
theorem dX12_truthBy_221 : decode cX12_truthBy 221 = .ok (.aload_n 0, 1) := by decide +kernel
theorem dX12_truthBy_222 : decode cX12_truthBy 222 = .ok (.getfield 34, 3) := by decide +kernel
theorem dX12_truthBy_225 : decode cX12_truthBy 225 = .ok (.iload_n 3, 1) := by decide +kernel
theorem dX12_truthBy_226 : decode cX12_truthBy 226 = .ok (.iload 9, 2) := by decide +kernel
theorem dX12_truthBy_228 : decode cX12_truthBy 228 = .ok (.iastore, 1) := by decide +kernel
theorem dX12_truthBy_229 : decode cX12_truthBy 229 = .ok (.iinc 3 1, 3) := by decide +kernel
theorem dX12_truthBy_232 : decode cX12_truthBy 232 = .ok (.iinc 8 1, 3) := by decide +kernel
theorem dX12_truthBy_235 : decode cX12_truthBy 235 = .ok (.goto (-72), 3) := by decide +kernel
theorem dX12_truthBy_238 : decode cX12_truthBy 238 = .ok (.iinc 7 1, 3) := by decide +kernel
theorem dX12_truthBy_241 : decode cX12_truthBy 241 = .ok (.goto (-88), 3) := by decide +kernel
theorem dX12_truthBy_244 : decode cX12_truthBy 244 = .ok (.iinc 5 1, 3) := by decide +kernel
theorem dX12_truthBy_247 : decode cX12_truthBy 247 = .ok (.goto (-141), 3) := by decide +kernel
theorem dX12_truthBy_250 : decode cX12_truthBy 250 = .ok (.aload_n 0, 1) := by decide +kernel
theorem dX12_truthBy_251 : decode cX12_truthBy 251 = .ok (.invokevirtual 134, 3) := by decide +kernel
theorem dX12_truthBy_254 : decode cX12_truthBy 254 = .ok (.iload 4, 2) := by decide +kernel
theorem dX12_truthBy_256 : decode cX12_truthBy 256 = .ok (.ireturn, 1) := by decide +kernel
theorem dX12_truth_0 : decode cX12_truth 0 = .ok (.aload_n 0, 1) := by decide +kernel
theorem dX12_truth_1 : decode cX12_truth 1 = .ok (.invokevirtual 79, 3) := by decide +kernel
theorem dX12_truth_4 : decode cX12_truth 4 = .ok (.ifCond .eq 6, 3) := by decide +kernel
end
section
theorem dX12_truth_7 : decode cX12_truth 7 = .ok (.bipush (-103), 2) := by decide +kernel
theorem dX12_truth_9 : decode cX12_truth 9 = .ok (.ireturn, 1) := by decide +kernel
theorem dX12_truth_10 : decode cX12_truth 10 = .ok (.iload_n 1, 1) := by decide +kernel
theorem dX12_truth_11 : decode cX12_truth 11 = .ok (.i2l, 1) := by decide +kernel
theorem dX12_truth_12 : decode cX12_truth 12 = .ok (.lconst 0, 1) := by decide +kernel
theorem dX12_truth_13 : decode cX12_truth 13 = .ok (.lconst 1, 1) := by decide +kernel
theorem dX12_truth_14 : decode cX12_truth 14 = .ok (.invokestatic 68, 3) := by decide +kernel
theorem dX12_truth_17 : decode cX12_truth 17 = .ok (.ifCond .ne 6, 3) := by decide +kernel
theorem dX12_truth_20 : decode cX12_truth 20 = .ok (.bipush (-102), 2) := by decide +kernel
theorem dX12_truth_22 : decode cX12_truth 22 = .ok (.ireturn, 1) := by decide +kernel
theorem dX12_truth_23 : decode cX12_truth 23 = .ok (.aload_n 0, 1) := by decide +kernel
theorem dX12_truth_24 : decode cX12_truth 24 = .ok (.getfield 179, 3) := by decide +kernel
theorem dX12_truth_27 : decode cX12_truth 27 = .ok (.bipush 30, 2) := by decide +kernel
theorem dX12_truth_29 : decode cX12_truth 29 = .ok (.if_icmp .ne 6, 3) := by decide +kernel
theorem dX12_truth_32 : decode cX12_truth 32 = .ok (.bipush (-103), 2) := by decide +kernel
theorem dX12_truth_34 : decode cX12_truth 34 = .ok (.ireturn, 1) := by decide +kernel
theorem dX12_truth_35 : decode cX12_truth 35 = .ok (.aload_n 0, 1) := by decide +kernel
theorem dX12_truth_36 : decode cX12_truth 36 = .ok (.dup, 1) := by decide +kernel
theorem dX12_truth_37 : decode cX12_truth 37 = .ok (.getfield 179, 3) := by decide +kernel
theorem dX12_truth_40 : decode cX12_truth 40 = .ok (.iconst 1, 1) := by decide +kernel
theorem dX12_truth_41 : decode cX12_truth 41 = .ok (.iadd, 1) := by decide +kernel
theorem dX12_truth_42 : decode cX12_truth 42 = .ok (.putfield 179, 3) := by decide +kernel
theorem dX12_truth_45 : decode cX12_truth 45 = .ok (.aload_n 0, 1) := by decide +kernel
theorem dX12_truth_46 : decode cX12_truth 46 = .ok (.invokevirtual 105, 3) := by decide +kernel
theorem dX12_truth_49 : decode cX12_truth 49 = .ok (.aload_n 0, 1) := by decide +kernel
theorem dX12_truth_50 : decode cX12_truth 50 = .ok (.invokevirtual 91, 3) := by decide +kernel
theorem dX12_truth_53 : decode cX12_truth 53 = .ok (.if_icmp .ne 13, 3) := by decide +kernel
theorem dX12_truth_56 : decode cX12_truth 56 = .ok (.iload_n 1, 1) := by decide +kernel
theorem dX12_truth_57 : decode cX12_truth 57 = .ok (.ifCond .ne 7, 3) := by decide +kernel
theorem dX12_truth_60 : decode cX12_truth 60 = .ok (.iconst 0, 1) := by decide +kernel
theorem dX12_truth_61 : decode cX12_truth 61 = .ok (.goto 4, 3) := by decide +kernel
theorem dX12_truth_64 : decode cX12_truth 64 = .ok (.iconst (-1), 1) := by decide +kernel
theorem dX12_truth_65 : decode cX12_truth 65 = .ok (.ireturn, 1) := by decide +kernel
theorem dX12_truth_66 : decode cX12_truth 66 = .ok (.ldc 166, 2) := by decide +kernel
theorem dX12_truth_68 : decode cX12_truth 68 = .ok (.istore_n 2, 1) := by decide +kernel
theorem dX12_truth_69 : decode cX12_truth 69 = .ok (.iconst (-1), 1) := by decide +kernel
theorem dX12_truth_70 : decode cX12_truth 70 = .ok (.istore_n 3, 1) := by decide +kernel
theorem dX12_truth_71 : decode cX12_truth 71 = .ok (.iconst 0, 1) := by decide +kernel
theorem dX12_truth_72 : decode cX12_truth 72 = .ok (.istore 4, 2) := by decide +kernel
theorem dX12_truth_74 : decode cX12_truth 74 = .ok (.iload 4, 2) := by decide +kernel
theorem dX12_truth_76 : decode cX12_truth 76 = .ok (.aload_n 0, 1) := by decide +kernel
theorem dX12_truth_77 : decode cX12_truth 77 = .ok (.getfield 65, 3) := by decide +kernel
theorem dX12_truth_80 : decode cX12_truth 80 = .ok (.if_icmp .gt 43, 3) := by decide +kernel
theorem dX12_truth_83 : decode cX12_truth 83 = .ok (.aload_n 0, 1) := by decide +kernel
theorem dX12_truth_84 : decode cX12_truth 84 = .ok (.iload 4, 2) := by decide +kernel
theorem dX12_truth_86 : decode cX12_truth 86 = .ok (.invokevirtual 182, 3) := by decide +kernel
theorem dX12_truth_89 : decode cX12_truth 89 = .ok (.istore 5, 2) := by decide +kernel
theorem dX12_truth_91 : decode cX12_truth 91 = .ok (.iload 5, 2) := by decide +kernel
theorem dX12_truth_93 : decode cX12_truth 93 = .ok (.iload_n 2, 1) := by decide +kernel
theorem dX12_truth_94 : decode cX12_truth 94 = .ok (.if_icmp .ge 8, 3) := by decide +kernel
theorem dX12_truth_97 : decode cX12_truth 97 = .ok (.iload 4, 2) := by decide +kernel
theorem dX12_truth_99 : decode cX12_truth 99 = .ok (.goto 4, 3) := by decide +kernel
theorem dX12_truth_102 : decode cX12_truth 102 = .ok (.iload_n 3, 1) := by decide +kernel
theorem dX12_truth_103 : decode cX12_truth 103 = .ok (.istore_n 3, 1) := by decide +kernel
theorem dX12_truth_104 : decode cX12_truth 104 = .ok (.iload 5, 2) := by decide +kernel
theorem dX12_truth_106 : decode cX12_truth 106 = .ok (.iload_n 2, 1) := by decide +kernel
theorem dX12_truth_107 : decode cX12_truth 107 = .ok (.if_icmp .ge 8, 3) := by decide +kernel
theorem dX12_truth_110 : decode cX12_truth 110 = .ok (.iload 5, 2) := by decide +kernel
theorem dX12_truth_112 : decode cX12_truth 112 = .ok (.goto 4, 3) := by decide +kernel
theorem dX12_truth_115 : decode cX12_truth 115 = .ok (.iload_n 2, 1) := by decide +kernel
theorem dX12_truth_116 : decode cX12_truth 116 = .ok (.istore_n 2, 1) := by decide +kernel
theorem dX12_truth_117 : decode cX12_truth 117 = .ok (.iinc 4 1, 3) := by decide +kernel
theorem dX12_truth_120 : decode cX12_truth 120 = .ok (.goto (-46), 3) := by decide +kernel
theorem dX12_truth_123 : decode cX12_truth 123 = .ok (.iload_n 2, 1) := by decide +kernel
theorem dX12_truth_124 : decode cX12_truth 124 = .ok (.ldc 166, 2) := by decide +kernel
theorem dX12_truth_126 : decode cX12_truth 126 = .ok (.if_icmp .ne 5, 3) := by decide +kernel
theorem dX12_truth_129 : decode cX12_truth 129 = .ok (.iconst (-1), 1) := by decide +kernel
theorem dX12_truth_130 : decode cX12_truth 130 = .ok (.ireturn, 1) := by decide +kernel
theorem dX12_truth_131 : decode cX12_truth 131 = .ok (.iload_n 1, 1) := by decide +kernel
theorem dX12_truth_132 : decode cX12_truth 132 = .ok (.ifCond .ne 7, 3) := by decide +kernel
theorem dX12_truth_135 : decode cX12_truth 135 = .ok (.iload_n 2, 1) := by decide +kernel
theorem dX12_truth_136 : decode cX12_truth 136 = .ok (.goto 16, 3) := by decide +kernel
theorem dX12_truth_139 : decode cX12_truth 139 = .ok (.iload_n 3, 1) := by decide +kernel
theorem dX12_truth_140 : decode cX12_truth 140 = .ok (.aload_n 0, 1) := by decide +kernel
theorem dX12_truth_141 : decode cX12_truth 141 = .ok (.getfield 65, 3) := by decide +kernel
theorem dX12_truth_144 : decode cX12_truth 144 = .ok (.if_icmp .ne 7, 3) := by decide +kernel
theorem dX12_truth_147 : decode cX12_truth 147 = .ok (.iconst (-1), 1) := by decide +kernel
theorem dX12_truth_148 : decode cX12_truth 148 = .ok (.goto 4, 3) := by decide +kernel
theorem dX12_truth_151 : decode cX12_truth 151 = .ok (.iload_n 3, 1) := by decide +kernel
theorem dX12_truth_152 : decode cX12_truth 152 = .ok (.ireturn, 1) := by decide +kernel
theorem dX12_draw_0 : decode cX12_draw 0 = .ok (.aload_n 0, 1) := by decide +kernel
theorem dX12_draw_1 : decode cX12_draw 1 = .ok (.ldc2_w 185, 3) := by decide +kernel
theorem dX12_draw_4 : decode cX12_draw 4 = .ok (.aload_n 0, 1) := by decide +kernel
theorem dX12_draw_5 : decode cX12_draw 5 = .ok (.getfield 187, 3) := by decide +kernel
theorem dX12_draw_8 : decode cX12_draw 8 = .ok (.i2l, 1) := by decide +kernel
theorem dX12_draw_9 : decode cX12_draw 9 = .ok (.lmul, 1) := by decide +kernel
theorem dX12_draw_10 : decode cX12_draw 10 = .ok (.ldc2_w 190, 3) := by decide +kernel
theorem dX12_draw_13 : decode cX12_draw 13 = .ok (.ladd, 1) := by decide +kernel
theorem dX12_draw_14 : decode cX12_draw 14 = .ok (.ldc2_w 192, 3) := by decide +kernel
theorem dX12_draw_17 : decode cX12_draw 17 = .ok (.land, 1) := by decide +kernel
theorem dX12_draw_18 : decode cX12_draw 18 = .ok (.l2i, 1) := by decide +kernel
theorem dX12_draw_19 : decode cX12_draw 19 = .ok (.putfield 187, 3) := by decide +kernel
theorem dX12_draw_22 : decode cX12_draw 22 = .ok (.aload_n 0, 1) := by decide +kernel
theorem dX12_draw_23 : decode cX12_draw 23 = .ok (.getfield 187, 3) := by decide +kernel
theorem dX12_draw_26 : decode cX12_draw 26 = .ok (.ldc 194, 2) := by decide +kernel
theorem dX12_draw_28 : decode cX12_draw 28 = .ok (.idiv, 1) := by decide +kernel
theorem dX12_draw_29 : decode cX12_draw 29 = .ok (.iload_n 1, 1) := by decide +kernel
theorem dX12_draw_30 : decode cX12_draw 30 = .ok (.irem, 1) := by decide +kernel
theorem dX12_draw_31 : decode cX12_draw 31 = .ok (.ireturn, 1) := by decide +kernel
theorem dX12_copies_0 : decode cX12_copies 0 = .ok (.aload_n 0, 1) := by decide +kernel
theorem dX12_copies_1 : decode cX12_copies 1 = .ok (.invokevirtual 79, 3) := by decide +kernel
theorem dX12_copies_4 : decode cX12_copies 4 = .ok (.ifCond .eq 6, 3) := by decide +kernel
theorem dX12_copies_7 : decode cX12_copies 7 = .ok (.bipush (-103), 2) := by decide +kernel
theorem dX12_copies_9 : decode cX12_copies 9 = .ok (.ireturn, 1) := by decide +kernel
theorem dX12_copies_10 : decode cX12_copies 10 = .ok (.iload_n 1, 1) := by decide +kernel
theorem dX12_copies_11 : decode cX12_copies 11 = .ok (.i2l, 1) := by decide +kernel
theorem dX12_copies_12 : decode cX12_copies 12 = .ok (.lconst 1, 1) := by decide +kernel
theorem dX12_copies_13 : decode cX12_copies 13 = .ok (.ldc2_w 195, 3) := by decide +kernel
theorem dX12_copies_16 : decode cX12_copies 16 = .ok (.invokestatic 68, 3) := by decide +kernel
theorem dX12_copies_19 : decode cX12_copies 19 = .ok (.ifCond .eq 19, 3) := by decide +kernel
theorem dX12_copies_22 : decode cX12_copies 22 = .ok (.iload_n 2, 1) := by decide +kernel
theorem dX12_copies_23 : decode cX12_copies 23 = .ok (.ifCond .lt 15, 3) := by decide +kernel
theorem dX12_copies_26 : decode cX12_copies 26 = .ok (.iload_n 3, 1) := by decide +kernel
theorem dX12_copies_27 : decode cX12_copies 27 = .ok (.i2l, 1) := by decide +kernel
theorem dX12_copies_28 : decode cX12_copies 28 = .ok (.lconst 0, 1) := by decide +kernel
theorem dX12_copies_29 : decode cX12_copies 29 = .ok (.ldc2_w 197, 3) := by decide +kernel
theorem dX12_copies_32 : decode cX12_copies 32 = .ok (.invokestatic 68, 3) := by decide +kernel
theorem dX12_copies_35 : decode cX12_copies 35 = .ok (.ifCond .ne 6, 3) := by decide +kernel
theorem dX12_copies_38 : decode cX12_copies 38 = .ok (.bipush (-102), 2) := by decide +kernel
theorem dX12_copies_40 : decode cX12_copies 40 = .ok (.ireturn, 1) := by decide +kernel
theorem dX12_copies_41 : decode cX12_copies 41 = .ok (.aload_n 0, 1) := by decide +kernel
theorem dX12_copies_42 : decode cX12_copies 42 = .ok (.invokevirtual 124, 3) := by decide +kernel
theorem dX12_copies_45 : decode cX12_copies 45 = .ok (.aload_n 0, 1) := by decide +kernel
theorem dX12_copies_46 : decode cX12_copies 46 = .ok (.iload_n 2, 1) := by decide +kernel
theorem dX12_copies_47 : decode cX12_copies 47 = .ok (.putfield 187, 3) := by decide +kernel
theorem dX12_copies_50 : decode cX12_copies 50 = .ok (.aload_n 0, 1) := by decide +kernel
theorem dX12_copies_51 : decode cX12_copies 51 = .ok (.invokevirtual 91, 3) := by decide +kernel
theorem dX12_copies_54 : decode cX12_copies 54 = .ok (.istore 4, 2) := by decide +kernel
theorem dX12_copies_56 : decode cX12_copies 56 = .ok (.iconst 0, 1) := by decide +kernel
theorem dX12_copies_57 : decode cX12_copies 57 = .ok (.istore 5, 2) := by decide +kernel
theorem dX12_copies_59 : decode cX12_copies 59 = .ok (.iconst 0, 1) := by decide +kernel
theorem dX12_copies_60 : decode cX12_copies 60 = .ok (.istore 6, 2) := by decide +kernel
theorem dX12_copies_62 : decode cX12_copies 62 = .ok (.iload 6, 2) := by decide +kernel
theorem dX12_copies_64 : decode cX12_copies 64 = .ok (.iload_n 1, 1) := by decide +kernel
theorem dX12_copies_65 : decode cX12_copies 65 = .ok (.if_icmp .ge 67, 3) := by decide +kernel
theorem dX12_copies_68 : decode cX12_copies 68 = .ok (.aload_n 0, 1) := by decide +kernel
theorem dX12_copies_69 : decode cX12_copies 69 = .ok (.invokevirtual 127, 3) := by decide +kernel
theorem dX12_copies_72 : decode cX12_copies 72 = .ok (.aload_n 0, 1) := by decide +kernel
theorem dX12_copies_73 : decode cX12_copies 73 = .ok (.aload_n 0, 1) := by decide +kernel
theorem dX12_copies_74 : decode cX12_copies 74 = .ok (.getfield 65, 3) := by decide +kernel
theorem dX12_copies_77 : decode cX12_copies 77 = .ok (.invokevirtual 199, 3) := by decide +kernel
theorem dX12_copies_80 : decode cX12_copies 80 = .ok (.istore 7, 2) := by decide +kernel
theorem dX12_copies_82 : decode cX12_copies 82 = .ok (.aload_n 0, 1) := by decide +kernel
theorem dX12_copies_83 : decode cX12_copies 83 = .ok (.iconst 2, 1) := by decide +kernel
theorem dX12_copies_84 : decode cX12_copies 84 = .ok (.invokevirtual 199, 3) := by decide +kernel
theorem dX12_copies_87 : decode cX12_copies 87 = .ok (.istore 8, 2) := by decide +kernel
theorem dX12_copies_89 : decode cX12_copies 89 = .ok (.aload_n 0, 1) := by decide +kernel
theorem dX12_copies_90 : decode cX12_copies 90 = .ok (.iload 4, 2) := by decide +kernel
theorem dX12_copies_92 : decode cX12_copies 92 = .ok (.iload 7, 2) := by decide +kernel
theorem dX12_copies_94 : decode cX12_copies 94 = .ok (.iload 8, 2) := by decide +kernel
theorem dX12_copies_96 : decode cX12_copies 96 = .ok (.invokevirtual 170, 3) := by decide +kernel
theorem dX12_copies_99 : decode cX12_copies 99 = .ok (.istore 9, 2) := by decide +kernel
theorem dX12_copies_101 : decode cX12_copies 101 = .ok (.iload 9, 2) := by decide +kernel
theorem dX12_copies_103 : decode cX12_copies 103 = .ok (.iload 4, 2) := by decide +kernel
theorem dX12_copies_105 : decode cX12_copies 105 = .ok (.if_icmp .eq 21, 3) := by decide +kernel
theorem dX12_copies_108 : decode cX12_copies 108 = .ok (.aload_n 0, 1) := by decide +kernel
theorem dX12_copies_109 : decode cX12_copies 109 = .ok (.iload 4, 2) := by decide +kernel
theorem dX12_copies_111 : decode cX12_copies 111 = .ok (.iload 9, 2) := by decide +kernel
theorem dX12_copies_113 : decode cX12_copies 113 = .ok (.invokevirtual 130, 3) := by decide +kernel
theorem dX12_copies_116 : decode cX12_copies 116 = .ok (.ifCond .eq 10, 3) := by decide +kernel
theorem dX12_copies_119 : decode cX12_copies 119 = .ok (.iload 9, 2) := by decide +kernel
theorem dX12_copies_121 : decode cX12_copies 121 = .ok (.istore 4, 2) := by decide +kernel
theorem dX12_copies_123 : decode cX12_copies 123 = .ok (.iinc 5 1, 3) := by decide +kernel
theorem dX12_copies_126 : decode cX12_copies 126 = .ok (.iinc 6 1, 3) := by decide +kernel
theorem dX12_copies_129 : decode cX12_copies 129 = .ok (.goto (-67), 3) := by decide +kernel
theorem dX12_copies_132 : decode cX12_copies 132 = .ok (.aload_n 0, 1) := by decide +kernel
theorem dX12_copies_133 : decode cX12_copies 133 = .ok (.aload_n 0, 1) := by decide +kernel
theorem dX12_copies_134 : decode cX12_copies 134 = .ok (.invokevirtual 105, 3) := by decide +kernel
theorem dX12_copies_137 : decode cX12_copies 137 = .ok (.iload 4, 2) := by decide +kernel
theorem dX12_copies_139 : decode cX12_copies 139 = .ok (.invokevirtual 121, 3) := by decide +kernel
theorem dX12_copies_142 : decode cX12_copies 142 = .ok (.istore 6, 2) := by decide +kernel
theorem dX12_copies_144 : decode cX12_copies 144 = .ok (.aload_n 0, 1) := by decide +kernel
theorem dX12_copies_145 : decode cX12_copies 145 = .ok (.invokevirtual 134, 3) := by decide +kernel
theorem dX12_copies_148 : decode cX12_copies 148 = .ok (.iload_n 3, 1) := by decide +kernel
theorem dX12_copies_149 : decode cX12_copies 149 = .ok (.ifCond .ne 8, 3) := by decide +kernel
theorem dX12_copies_152 : decode cX12_copies 152 = .ok (.iload 4, 2) := by decide +kernel
theorem dX12_copies_154 : decode cX12_copies 154 = .ok (.goto 27, 3) := by decide +kernel
theorem dX12_copies_157 : decode cX12_copies 157 = .ok (.iload_n 3, 1) := by decide +kernel
theorem dX12_copies_158 : decode cX12_copies 158 = .ok (.iconst 1, 1) := by decide +kernel
theorem dX12_copies_159 : decode cX12_copies 159 = .ok (.if_icmp .ne 8, 3) := by decide +kernel
theorem dX12_copies_162 : decode cX12_copies 162 = .ok (.iload 6, 2) := by decide +kernel
theorem dX12_copies_164 : decode cX12_copies 164 = .ok (.goto 17, 3) := by decide +kernel
theorem dX12_copies_167 : decode cX12_copies 167 = .ok (.iload_n 3, 1) := by decide +kernel
theorem dX12_copies_168 : decode cX12_copies 168 = .ok (.iconst 2, 1) := by decide +kernel
theorem dX12_copies_169 : decode cX12_copies 169 = .ok (.if_icmp .ne 8, 3) := by decide +kernel
theorem dX12_copies_172 : decode cX12_copies 172 = .ok (.iload 5, 2) := by decide +kernel
theorem dX12_copies_174 : decode cX12_copies 174 = .ok (.goto 7, 3) := by decide +kernel
theorem dX12_copies_177 : decode cX12_copies 177 = .ok (.aload_n 0, 1) := by decide +kernel
theorem dX12_copies_178 : decode cX12_copies 178 = .ok (.getfield 187, 3) := by decide +kernel
theorem dX12_copies_181 : decode cX12_copies 181 = .ok (.ireturn, 1) := by decide +kernel
theorem dX12_backOf_0 : decode cX12_backOf 0 = .ok (.iconst 0, 1) := by decide +kernel
theorem dX12_backOf_1 : decode cX12_backOf 1 = .ok (.istore_n 2, 1) := by decide +kernel
theorem dX12_backOf_2 : decode cX12_backOf 2 = .ok (.iconst 0, 1) := by decide +kernel
theorem dX12_backOf_3 : decode cX12_backOf 3 = .ok (.istore_n 3, 1) := by decide +kernel
theorem dX12_backOf_4 : decode cX12_backOf 4 = .ok (.iload_n 3, 1) := by decide +kernel
theorem dX12_backOf_5 : decode cX12_backOf 5 = .ok (.aload_n 0, 1) := by decide +kernel
theorem dX12_backOf_6 : decode cX12_backOf 6 = .ok (.getfield 65, 3) := by decide +kernel
theorem dX12_backOf_9 : decode cX12_backOf 9 = .ok (.if_icmp .ge 22, 3) := by decide +kernel
theorem dX12_backOf_12 : decode cX12_backOf 12 = .ok (.iload_n 2, 1) := by decide +kernel
theorem dX12_backOf_13 : decode cX12_backOf 13 = .ok (.aload_n 0, 1) := by decide +kernel
theorem dX12_backOf_14 : decode cX12_backOf 14 = .ok (.iload_n 3, 1) := by decide +kernel
theorem dX12_backOf_15 : decode cX12_backOf 15 = .ok (.iload_n 1, 1) := by decide +kernel
theorem dX12_backOf_16 : decode cX12_backOf 16 = .ok (.aload_n 0, 1) := by decide +kernel
theorem dX12_backOf_17 : decode cX12_backOf 17 = .ok (.invokevirtual 91, 3) := by decide +kernel
theorem dX12_backOf_20 : decode cX12_backOf 20 = .ok (.invokevirtual 111, 3) := by decide +kernel
theorem dX12_backOf_23 : decode cX12_backOf 23 = .ok (.iadd, 1) := by decide +kernel
theorem dX12_backOf_24 : decode cX12_backOf 24 = .ok (.istore_n 2, 1) := by decide +kernel
theorem dX12_backOf_25 : decode cX12_backOf 25 = .ok (.iinc 3 1, 3) := by decide +kernel
theorem dX12_backOf_28 : decode cX12_backOf 28 = .ok (.goto (-24), 3) := by decide +kernel
theorem dX12_backOf_31 : decode cX12_backOf 31 = .ok (.iload_n 2, 1) := by decide +kernel
theorem dX12_backOf_32 : decode cX12_backOf 32 = .ok (.ireturn, 1) := by decide +kernel
theorem dX12_back_0 : decode cX12_back 0 = .ok (.aload_n 0, 1) := by decide +kernel
theorem dX12_back_1 : decode cX12_back 1 = .ok (.invokevirtual 79, 3) := by decide +kernel
theorem dX12_back_4 : decode cX12_back 4 = .ok (.ifCond .eq 6, 3) := by decide +kernel
theorem dX12_back_7 : decode cX12_back 7 = .ok (.bipush (-103), 2) := by decide +kernel
theorem dX12_back_9 : decode cX12_back 9 = .ok (.ireturn, 1) := by decide +kernel
theorem dX12_back_10 : decode cX12_back 10 = .ok (.aload_n 0, 1) := by decide +kernel
theorem dX12_back_11 : decode cX12_back 11 = .ok (.iload_n 1, 1) := by decide +kernel
theorem dX12_back_12 : decode cX12_back 12 = .ok (.invokevirtual 118, 3) := by decide +kernel
theorem dX12_back_15 : decode cX12_back 15 = .ok (.ifCond .eq 11, 3) := by decide +kernel
theorem dX12_back_18 : decode cX12_back 18 = .ok (.aload_n 0, 1) := by decide +kernel
theorem dX12_back_19 : decode cX12_back 19 = .ok (.iload_n 1, 1) := by decide +kernel
theorem dX12_back_20 : decode cX12_back 20 = .ok (.invokevirtual 202, 3) := by decide +kernel
theorem dX12_back_23 : decode cX12_back 23 = .ok (.goto 5, 3) := by decide +kernel
theorem dX12_back_26 : decode cX12_back 26 = .ok (.bipush (-102), 2) := by decide +kernel
theorem dX12_back_28 : decode cX12_back 28 = .ok (.ireturn, 1) := by decide +kernel
theorem dX12_spanOf_0 : decode cX12_spanOf 0 = .ok (.iconst 0, 1) := by decide +kernel
theorem dX12_spanOf_1 : decode cX12_spanOf 1 = .ok (.istore_n 2, 1) := by decide +kernel
theorem dX12_spanOf_2 : decode cX12_spanOf 2 = .ok (.iconst 0, 1) := by decide +kernel
theorem dX12_spanOf_3 : decode cX12_spanOf 3 = .ok (.istore_n 3, 1) := by decide +kernel
theorem dX12_spanOf_4 : decode cX12_spanOf 4 = .ok (.iload_n 3, 1) := by decide +kernel
theorem dX12_spanOf_5 : decode cX12_spanOf 5 = .ok (.aload_n 0, 1) := by decide +kernel
theorem dX12_spanOf_6 : decode cX12_spanOf 6 = .ok (.invokevirtual 83, 3) := by decide +kernel
theorem dX12_spanOf_9 : decode cX12_spanOf 9 = .ok (.if_icmp .ge 26, 3) := by decide +kernel
theorem dX12_spanOf_12 : decode cX12_spanOf 12 = .ok (.iload_n 2, 1) := by decide +kernel
theorem dX12_spanOf_13 : decode cX12_spanOf 13 = .ok (.aload_n 0, 1) := by decide +kernel
theorem dX12_spanOf_14 : decode cX12_spanOf 14 = .ok (.iload_n 3, 1) := by decide +kernel
theorem dX12_spanOf_15 : decode cX12_spanOf 15 = .ok (.invokevirtual 202, 3) := by decide +kernel
theorem dX12_spanOf_18 : decode cX12_spanOf 18 = .ok (.iload_n 1, 1) := by decide +kernel
theorem dX12_spanOf_19 : decode cX12_spanOf 19 = .ok (.if_icmp .gt 7, 3) := by decide +kernel
theorem dX12_spanOf_22 : decode cX12_spanOf 22 = .ok (.iconst 1, 1) := by decide +kernel
theorem dX12_spanOf_23 : decode cX12_spanOf 23 = .ok (.goto 4, 3) := by decide +kernel
theorem dX12_spanOf_26 : decode cX12_spanOf 26 = .ok (.iconst 0, 1) := by decide +kernel
theorem dX12_spanOf_27 : decode cX12_spanOf 27 = .ok (.iadd, 1) := by decide +kernel
theorem dX12_spanOf_28 : decode cX12_spanOf 28 = .ok (.istore_n 2, 1) := by decide +kernel
theorem dX12_spanOf_29 : decode cX12_spanOf 29 = .ok (.iinc 3 1, 3) := by decide +kernel
theorem dX12_spanOf_32 : decode cX12_spanOf 32 = .ok (.goto (-28), 3) := by decide +kernel
theorem dX12_spanOf_35 : decode cX12_spanOf 35 = .ok (.iload_n 2, 1) := by decide +kernel
theorem dX12_spanOf_36 : decode cX12_spanOf 36 = .ok (.ireturn, 1) := by decide +kernel
theorem dX12_span_0 : decode cX12_span 0 = .ok (.aload_n 0, 1) := by decide +kernel
theorem dX12_span_1 : decode cX12_span 1 = .ok (.invokevirtual 79, 3) := by decide +kernel
theorem dX12_span_4 : decode cX12_span 4 = .ok (.ifCond .eq 6, 3) := by decide +kernel
theorem dX12_span_7 : decode cX12_span 7 = .ok (.bipush (-103), 2) := by decide +kernel
theorem dX12_span_9 : decode cX12_span 9 = .ok (.ireturn, 1) := by decide +kernel
theorem dX12_span_10 : decode cX12_span 10 = .ok (.iload_n 1, 1) := by decide +kernel
theorem dX12_span_11 : decode cX12_span 11 = .ok (.i2l, 1) := by decide +kernel
theorem dX12_span_12 : decode cX12_span 12 = .ok (.lconst 0, 1) := by decide +kernel
theorem dX12_span_13 : decode cX12_span 13 = .ok (.ldc2_w 197, 3) := by decide +kernel
theorem dX12_span_16 : decode cX12_span 16 = .ok (.invokestatic 68, 3) := by decide +kernel
theorem dX12_span_19 : decode cX12_span 19 = .ok (.ifCond .eq 11, 3) := by decide +kernel
theorem dX12_span_22 : decode cX12_span 22 = .ok (.aload_n 0, 1) := by decide +kernel
theorem dX12_span_23 : decode cX12_span 23 = .ok (.iload_n 1, 1) := by decide +kernel
theorem dX12_span_24 : decode cX12_span 24 = .ok (.invokevirtual 205, 3) := by decide +kernel
theorem dX12_span_27 : decode cX12_span 27 = .ok (.goto 5, 3) := by decide +kernel
theorem dX12_span_30 : decode cX12_span 30 = .ok (.bipush (-102), 2) := by decide +kernel
theorem dX12_span_32 : decode cX12_span 32 = .ok (.ireturn, 1) := by decide +kernel
theorem dX12_person_0 : decode cX12_person 0 = .ok (.aload_n 0, 1) := by decide +kernel
theorem dX12_person_1 : decode cX12_person 1 = .ok (.invokevirtual 79, 3) := by decide +kernel
theorem dX12_person_4 : decode cX12_person 4 = .ok (.ifCond .eq 6, 3) := by decide +kernel
theorem dX12_person_7 : decode cX12_person 7 = .ok (.bipush (-103), 2) := by decide +kernel
theorem dX12_person_9 : decode cX12_person 9 = .ok (.ireturn, 1) := by decide +kernel
theorem dX12_person_10 : decode cX12_person 10 = .ok (.aload_n 0, 1) := by decide +kernel
theorem dX12_person_11 : decode cX12_person 11 = .ok (.iload_n 1, 1) := by decide +kernel
theorem dX12_person_12 : decode cX12_person 12 = .ok (.invokevirtual 118, 3) := by decide +kernel
theorem dX12_person_15 : decode cX12_person 15 = .ok (.ifCond .ne 6, 3) := by decide +kernel
theorem dX12_person_18 : decode cX12_person 18 = .ok (.bipush (-102), 2) := by decide +kernel
theorem dX12_person_20 : decode cX12_person 20 = .ok (.ireturn, 1) := by decide +kernel
theorem dX12_person_21 : decode cX12_person 21 = .ok (.aload_n 0, 1) := by decide +kernel
theorem dX12_person_22 : decode cX12_person 22 = .ok (.getfield 208, 3) := by decide +kernel
theorem dX12_person_25 : decode cX12_person 25 = .ok (.bipush 6, 2) := by decide +kernel
theorem dX12_person_27 : decode cX12_person 27 = .ok (.if_icmp .ne 6, 3) := by decide +kernel
theorem dX12_person_30 : decode cX12_person 30 = .ok (.bipush (-104), 2) := by decide +kernel
theorem dX12_person_32 : decode cX12_person 32 = .ok (.ireturn, 1) := by decide +kernel
theorem dX12_person_33 : decode cX12_person 33 = .ok (.aload_n 0, 1) := by decide +kernel
theorem dX12_person_34 : decode cX12_person 34 = .ok (.getfield 37, 3) := by decide +kernel
theorem dX12_person_37 : decode cX12_person 37 = .ok (.aload_n 0, 1) := by decide +kernel
theorem dX12_person_38 : decode cX12_person 38 = .ok (.getfield 208, 3) := by decide +kernel
theorem dX12_person_41 : decode cX12_person 41 = .ok (.iload_n 1, 1) := by decide +kernel
theorem dX12_person_42 : decode cX12_person 42 = .ok (.iastore, 1) := by decide +kernel
theorem dX12_person_43 : decode cX12_person 43 = .ok (.aload_n 0, 1) := by decide +kernel
theorem dX12_person_44 : decode cX12_person 44 = .ok (.dup, 1) := by decide +kernel
theorem dX12_person_45 : decode cX12_person 45 = .ok (.getfield 208, 3) := by decide +kernel
theorem dX12_person_48 : decode cX12_person 48 = .ok (.iconst 1, 1) := by decide +kernel
theorem dX12_person_49 : decode cX12_person 49 = .ok (.iadd, 1) := by decide +kernel
theorem dX12_person_50 : decode cX12_person 50 = .ok (.putfield 208, 3) := by decide +kernel
theorem dX12_person_53 : decode cX12_person 53 = .ok (.aload_n 0, 1) := by decide +kernel
theorem dX12_person_54 : decode cX12_person 54 = .ok (.getfield 208, 3) := by decide +kernel
theorem dX12_person_57 : decode cX12_person 57 = .ok (.iconst 1, 1) := by decide +kernel
theorem dX12_person_58 : decode cX12_person 58 = .ok (.isub, 1) := by decide +kernel
theorem dX12_person_59 : decode cX12_person 59 = .ok (.ireturn, 1) := by decide +kernel
theorem dX12_gateOf_0 : decode cX12_gateOf 0 = .ok (.iconst (-1), 1) := by decide +kernel
theorem dX12_gateOf_1 : decode cX12_gateOf 1 = .ok (.istore_n 1, 1) := by decide +kernel
theorem dX12_gateOf_2 : decode cX12_gateOf 2 = .ok (.iconst 0, 1) := by decide +kernel
theorem dX12_gateOf_3 : decode cX12_gateOf 3 = .ok (.istore_n 2, 1) := by decide +kernel
theorem dX12_gateOf_4 : decode cX12_gateOf 4 = .ok (.ldc 166, 2) := by decide +kernel
theorem dX12_gateOf_6 : decode cX12_gateOf 6 = .ok (.istore_n 3, 1) := by decide +kernel
theorem dX12_gateOf_7 : decode cX12_gateOf 7 = .ok (.iconst 0, 1) := by decide +kernel
theorem dX12_gateOf_8 : decode cX12_gateOf 8 = .ok (.istore 4, 2) := by decide +kernel
theorem dX12_gateOf_10 : decode cX12_gateOf 10 = .ok (.iload 4, 2) := by decide +kernel
theorem dX12_gateOf_12 : decode cX12_gateOf 12 = .ok (.aload_n 0, 1) := by decide +kernel
theorem dX12_gateOf_13 : decode cX12_gateOf 13 = .ok (.getfield 208, 3) := by decide +kernel
theorem dX12_gateOf_16 : decode cX12_gateOf 16 = .ok (.if_icmp .ge 121, 3) := by decide +kernel
theorem dX12_gateOf_19 : decode cX12_gateOf 19 = .ok (.aload_n 0, 1) := by decide +kernel
theorem dX12_gateOf_20 : decode cX12_gateOf 20 = .ok (.aload_n 0, 1) := by decide +kernel
theorem dX12_gateOf_21 : decode cX12_gateOf 21 = .ok (.invokevirtual 91, 3) := by decide +kernel
theorem dX12_gateOf_24 : decode cX12_gateOf 24 = .ok (.aload_n 0, 1) := by decide +kernel
theorem dX12_gateOf_25 : decode cX12_gateOf 25 = .ok (.getfield 37, 3) := by decide +kernel
theorem dX12_gateOf_28 : decode cX12_gateOf 28 = .ok (.iload 4, 2) := by decide +kernel
theorem dX12_gateOf_30 : decode cX12_gateOf 30 = .ok (.iaload, 1) := by decide +kernel
theorem dX12_gateOf_31 : decode cX12_gateOf 31 = .ok (.invokevirtual 163, 3) := by decide +kernel
theorem dX12_gateOf_34 : decode cX12_gateOf 34 = .ok (.istore 5, 2) := by decide +kernel
theorem dX12_gateOf_36 : decode cX12_gateOf 36 = .ok (.aload_n 0, 1) := by decide +kernel
theorem dX12_gateOf_37 : decode cX12_gateOf 37 = .ok (.aload_n 0, 1) := by decide +kernel
theorem dX12_gateOf_38 : decode cX12_gateOf 38 = .ok (.invokevirtual 91, 3) := by decide +kernel
theorem dX12_gateOf_41 : decode cX12_gateOf 41 = .ok (.aload_n 0, 1) := by decide +kernel
theorem dX12_gateOf_42 : decode cX12_gateOf 42 = .ok (.getfield 37, 3) := by decide +kernel
theorem dX12_gateOf_45 : decode cX12_gateOf 45 = .ok (.iload 4, 2) := by decide +kernel
theorem dX12_gateOf_47 : decode cX12_gateOf 47 = .ok (.iaload, 1) := by decide +kernel
theorem dX12_gateOf_48 : decode cX12_gateOf 48 = .ok (.invokevirtual 121, 3) := by decide +kernel
theorem dX12_gateOf_51 : decode cX12_gateOf 51 = .ok (.istore 6, 2) := by decide +kernel
theorem dX12_gateOf_53 : decode cX12_gateOf 53 = .ok (.iload 5, 2) := by decide +kernel
theorem dX12_gateOf_55 : decode cX12_gateOf 55 = .ok (.ifCond .gt 10, 3) := by decide +kernel
theorem dX12_gateOf_58 : decode cX12_gateOf 58 = .ok (.aload_n 0, 1) := by decide +kernel
theorem dX12_gateOf_59 : decode cX12_gateOf 59 = .ok (.getfield 154, 3) := by decide +kernel
theorem dX12_gateOf_62 : decode cX12_gateOf 62 = .ok (.ifCond .ne 30, 3) := by decide +kernel
theorem dX12_gateOf_65 : decode cX12_gateOf 65 = .ok (.iload_n 1, 1) := by decide +kernel
theorem dX12_gateOf_66 : decode cX12_gateOf 66 = .ok (.iconst (-1), 1) := by decide +kernel
theorem dX12_gateOf_67 : decode cX12_gateOf 67 = .ok (.if_icmp .eq 21, 3) := by decide +kernel
theorem dX12_gateOf_70 : decode cX12_gateOf 70 = .ok (.iload 5, 2) := by decide +kernel
theorem dX12_gateOf_72 : decode cX12_gateOf 72 = .ok (.iload_n 2, 1) := by decide +kernel
theorem dX12_gateOf_73 : decode cX12_gateOf 73 = .ok (.if_icmp .gt 15, 3) := by decide +kernel
theorem dX12_gateOf_76 : decode cX12_gateOf 76 = .ok (.iload 5, 2) := by decide +kernel
theorem dX12_gateOf_78 : decode cX12_gateOf 78 = .ok (.iload_n 2, 1) := by decide +kernel
theorem dX12_gateOf_79 : decode cX12_gateOf 79 = .ok (.if_icmp .ne 13, 3) := by decide +kernel
theorem dX12_gateOf_82 : decode cX12_gateOf 82 = .ok (.iload 6, 2) := by decide +kernel
theorem dX12_gateOf_84 : decode cX12_gateOf 84 = .ok (.iload_n 3, 1) := by decide +kernel
theorem dX12_gateOf_85 : decode cX12_gateOf 85 = .ok (.if_icmp .ge 7, 3) := by decide +kernel
theorem dX12_gateOf_88 : decode cX12_gateOf 88 = .ok (.iconst 1, 1) := by decide +kernel
theorem dX12_gateOf_89 : decode cX12_gateOf 89 = .ok (.goto 4, 3) := by decide +kernel
theorem dX12_gateOf_92 : decode cX12_gateOf 92 = .ok (.iconst 0, 1) := by decide +kernel
theorem dX12_gateOf_93 : decode cX12_gateOf 93 = .ok (.istore 7, 2) := by decide +kernel
theorem dX12_gateOf_95 : decode cX12_gateOf 95 = .ok (.iload 7, 2) := by decide +kernel
theorem dX12_gateOf_97 : decode cX12_gateOf 97 = .ok (.ifCond .eq 8, 3) := by decide +kernel
theorem dX12_gateOf_100 : decode cX12_gateOf 100 = .ok (.iload 4, 2) := by decide +kernel
theorem dX12_gateOf_102 : decode cX12_gateOf 102 = .ok (.goto 4, 3) := by decide +kernel
theorem dX12_gateOf_105 : decode cX12_gateOf 105 = .ok (.iload_n 1, 1) := by decide +kernel
theorem dX12_gateOf_106 : decode cX12_gateOf 106 = .ok (.istore_n 1, 1) := by decide +kernel
theorem dX12_gateOf_107 : decode cX12_gateOf 107 = .ok (.iload 7, 2) := by decide +kernel
theorem dX12_gateOf_109 : decode cX12_gateOf 109 = .ok (.ifCond .eq 8, 3) := by decide +kernel
theorem dX12_gateOf_112 : decode cX12_gateOf 112 = .ok (.iload 5, 2) := by decide +kernel
theorem dX12_gateOf_114 : decode cX12_gateOf 114 = .ok (.goto 4, 3) := by decide +kernel
theorem dX12_gateOf_117 : decode cX12_gateOf 117 = .ok (.iload_n 2, 1) := by decide +kernel
theorem dX12_gateOf_118 : decode cX12_gateOf 118 = .ok (.istore_n 2, 1) := by decide +kernel
theorem dX12_gateOf_119 : decode cX12_gateOf 119 = .ok (.iload 7, 2) := by decide +kernel
theorem dX12_gateOf_121 : decode cX12_gateOf 121 = .ok (.ifCond .eq 8, 3) := by decide +kernel
theorem dX12_gateOf_124 : decode cX12_gateOf 124 = .ok (.iload 6, 2) := by decide +kernel
theorem dX12_gateOf_126 : decode cX12_gateOf 126 = .ok (.goto 4, 3) := by decide +kernel
theorem dX12_gateOf_129 : decode cX12_gateOf 129 = .ok (.iload_n 3, 1) := by decide +kernel
theorem dX12_gateOf_130 : decode cX12_gateOf 130 = .ok (.istore_n 3, 1) := by decide +kernel
theorem dX12_gateOf_131 : decode cX12_gateOf 131 = .ok (.iinc 4 1, 3) := by decide +kernel
theorem dX12_gateOf_134 : decode cX12_gateOf 134 = .ok (.goto (-124), 3) := by decide +kernel
theorem dX12_gateOf_137 : decode cX12_gateOf 137 = .ok (.iload_n 1, 1) := by decide +kernel
theorem dX12_gateOf_138 : decode cX12_gateOf 138 = .ok (.ireturn, 1) := by decide +kernel
theorem dX12_gate_0 : decode cX12_gate 0 = .ok (.aload_n 0, 1) := by decide +kernel
theorem dX12_gate_1 : decode cX12_gate 1 = .ok (.invokevirtual 79, 3) := by decide +kernel
theorem dX12_gate_4 : decode cX12_gate 4 = .ok (.ifCond .eq 8, 3) := by decide +kernel
theorem dX12_gate_7 : decode cX12_gate 7 = .ok (.bipush (-103), 2) := by decide +kernel
theorem dX12_gate_9 : decode cX12_gate 9 = .ok (.goto 7, 3) := by decide +kernel
theorem dX12_gate_12 : decode cX12_gate 12 = .ok (.aload_n 0, 1) := by decide +kernel
theorem dX12_gate_13 : decode cX12_gate 13 = .ok (.invokevirtual 211, 3) := by decide +kernel
theorem dX12_gate_16 : decode cX12_gate 16 = .ok (.ireturn, 1) := by decide +kernel
theorem dX12_heap_0 : decode cX12_heap 0 = .ok (.aload_n 0, 1) := by decide +kernel
theorem dX12_heap_1 : decode cX12_heap 1 = .ok (.invokevirtual 79, 3) := by decide +kernel
theorem dX12_heap_4 : decode cX12_heap 4 = .ok (.ifCond .eq 6, 3) := by decide +kernel
theorem dX12_heap_7 : decode cX12_heap 7 = .ok (.bipush (-103), 2) := by decide +kernel
theorem dX12_heap_9 : decode cX12_heap 9 = .ok (.ireturn, 1) := by decide +kernel
theorem dX12_heap_10 : decode cX12_heap 10 = .ok (.aload_n 0, 1) := by decide +kernel
theorem dX12_heap_11 : decode cX12_heap 11 = .ok (.iload_n 1, 1) := by decide +kernel
theorem dX12_heap_12 : decode cX12_heap 12 = .ok (.invokevirtual 118, 3) := by decide +kernel
theorem dX12_heap_15 : decode cX12_heap 15 = .ok (.ifCond .ne 6, 3) := by decide +kernel
theorem dX12_heap_18 : decode cX12_heap 18 = .ok (.bipush (-102), 2) := by decide +kernel
theorem dX12_heap_20 : decode cX12_heap 20 = .ok (.ireturn, 1) := by decide +kernel
theorem dX12_heap_21 : decode cX12_heap 21 = .ok (.aload_n 0, 1) := by decide +kernel
theorem dX12_heap_22 : decode cX12_heap 22 = .ok (.getfield 214, 3) := by decide +kernel
theorem dX12_heap_25 : decode cX12_heap 25 = .ok (.bipush 6, 2) := by decide +kernel
theorem dX12_heap_27 : decode cX12_heap 27 = .ok (.if_icmp .ne 6, 3) := by decide +kernel
theorem dX12_heap_30 : decode cX12_heap 30 = .ok (.bipush (-104), 2) := by decide +kernel
theorem dX12_heap_32 : decode cX12_heap 32 = .ok (.ireturn, 1) := by decide +kernel
theorem dX12_heap_33 : decode cX12_heap 33 = .ok (.aload_n 0, 1) := by decide +kernel
theorem dX12_heap_34 : decode cX12_heap 34 = .ok (.getfield 40, 3) := by decide +kernel
theorem dX12_heap_37 : decode cX12_heap 37 = .ok (.aload_n 0, 1) := by decide +kernel
theorem dX12_heap_38 : decode cX12_heap 38 = .ok (.getfield 214, 3) := by decide +kernel
theorem dX12_heap_41 : decode cX12_heap 41 = .ok (.iload_n 1, 1) := by decide +kernel
theorem dX12_heap_42 : decode cX12_heap 42 = .ok (.iastore, 1) := by decide +kernel
theorem dX12_heap_43 : decode cX12_heap 43 = .ok (.aload_n 0, 1) := by decide +kernel
theorem dX12_heap_44 : decode cX12_heap 44 = .ok (.dup, 1) := by decide +kernel
theorem dX12_heap_45 : decode cX12_heap 45 = .ok (.getfield 214, 3) := by decide +kernel
theorem dX12_heap_48 : decode cX12_heap 48 = .ok (.iconst 1, 1) := by decide +kernel
theorem dX12_heap_49 : decode cX12_heap 49 = .ok (.iadd, 1) := by decide +kernel
theorem dX12_heap_50 : decode cX12_heap 50 = .ok (.putfield 214, 3) := by decide +kernel
theorem dX12_heap_53 : decode cX12_heap 53 = .ok (.aload_n 0, 1) := by decide +kernel
theorem dX12_heap_54 : decode cX12_heap 54 = .ok (.getfield 214, 3) := by decide +kernel
theorem dX12_heap_57 : decode cX12_heap 57 = .ok (.ireturn, 1) := by decide +kernel
theorem dX12_nextRow_0 : decode cX12_nextRow 0 = .ok (.aload_n 0, 1) := by decide +kernel
theorem dX12_nextRow_1 : decode cX12_nextRow 1 = .ok (.getfield 214, 3) := by decide +kernel
theorem dX12_nextRow_4 : decode cX12_nextRow 4 = .ok (.iconst 2, 1) := by decide +kernel
theorem dX12_nextRow_5 : decode cX12_nextRow 5 = .ok (.isub, 1) := by decide +kernel
theorem dX12_nextRow_6 : decode cX12_nextRow 6 = .ok (.istore_n 1, 1) := by decide +kernel
theorem dX12_nextRow_7 : decode cX12_nextRow 7 = .ok (.iload_n 1, 1) := by decide +kernel
theorem dX12_nextRow_8 : decode cX12_nextRow 8 = .ok (.ifCond .lt 26, 3) := by decide +kernel
theorem dX12_nextRow_11 : decode cX12_nextRow 11 = .ok (.aload_n 0, 1) := by decide +kernel
theorem dX12_nextRow_12 : decode cX12_nextRow 12 = .ok (.getfield 43, 3) := by decide +kernel
theorem dX12_nextRow_15 : decode cX12_nextRow 15 = .ok (.iload_n 1, 1) := by decide +kernel
theorem dX12_nextRow_16 : decode cX12_nextRow 16 = .ok (.iaload, 1) := by decide +kernel
theorem dX12_nextRow_17 : decode cX12_nextRow 17 = .ok (.aload_n 0, 1) := by decide +kernel
theorem dX12_nextRow_18 : decode cX12_nextRow 18 = .ok (.getfield 43, 3) := by decide +kernel
theorem dX12_nextRow_21 : decode cX12_nextRow 21 = .ok (.iload_n 1, 1) := by decide +kernel
theorem dX12_nextRow_22 : decode cX12_nextRow 22 = .ok (.iconst 1, 1) := by decide +kernel
theorem dX12_nextRow_23 : decode cX12_nextRow 23 = .ok (.iadd, 1) := by decide +kernel
theorem dX12_nextRow_24 : decode cX12_nextRow 24 = .ok (.iaload, 1) := by decide +kernel
theorem dX12_nextRow_25 : decode cX12_nextRow 25 = .ok (.if_icmp .le 9, 3) := by decide +kernel
theorem dX12_nextRow_28 : decode cX12_nextRow 28 = .ok (.iinc 1 (-1), 3) := by decide +kernel
theorem dX12_nextRow_31 : decode cX12_nextRow 31 = .ok (.goto (-24), 3) := by decide +kernel
theorem dX12_nextRow_34 : decode cX12_nextRow 34 = .ok (.iload_n 1, 1) := by decide +kernel
theorem dX12_nextRow_35 : decode cX12_nextRow 35 = .ok (.ifCond .ge 5, 3) := by decide +kernel
theorem dX12_nextRow_38 : decode cX12_nextRow 38 = .ok (.iconst 0, 1) := by decide +kernel
theorem dX12_nextRow_39 : decode cX12_nextRow 39 = .ok (.ireturn, 1) := by decide +kernel
theorem dX12_nextRow_40 : decode cX12_nextRow 40 = .ok (.aload_n 0, 1) := by decide +kernel
theorem dX12_nextRow_41 : decode cX12_nextRow 41 = .ok (.getfield 214, 3) := by decide +kernel
theorem dX12_nextRow_44 : decode cX12_nextRow 44 = .ok (.iconst 1, 1) := by decide +kernel
theorem dX12_nextRow_45 : decode cX12_nextRow 45 = .ok (.isub, 1) := by decide +kernel
theorem dX12_nextRow_46 : decode cX12_nextRow 46 = .ok (.istore_n 2, 1) := by decide +kernel
theorem dX12_nextRow_47 : decode cX12_nextRow 47 = .ok (.aload_n 0, 1) := by decide +kernel
theorem dX12_nextRow_48 : decode cX12_nextRow 48 = .ok (.getfield 43, 3) := by decide +kernel
theorem dX12_nextRow_51 : decode cX12_nextRow 51 = .ok (.iload_n 2, 1) := by decide +kernel
theorem dX12_nextRow_52 : decode cX12_nextRow 52 = .ok (.iaload, 1) := by decide +kernel
theorem dX12_nextRow_53 : decode cX12_nextRow 53 = .ok (.aload_n 0, 1) := by decide +kernel
theorem dX12_nextRow_54 : decode cX12_nextRow 54 = .ok (.getfield 43, 3) := by decide +kernel
theorem dX12_nextRow_57 : decode cX12_nextRow 57 = .ok (.iload_n 1, 1) := by decide +kernel
theorem dX12_nextRow_58 : decode cX12_nextRow 58 = .ok (.iaload, 1) := by decide +kernel
theorem dX12_nextRow_59 : decode cX12_nextRow 59 = .ok (.if_icmp .ge 9, 3) := by decide +kernel
theorem dX12_nextRow_62 : decode cX12_nextRow 62 = .ok (.iinc 2 (-1), 3) := by decide +kernel
theorem dX12_nextRow_65 : decode cX12_nextRow 65 = .ok (.goto (-18), 3) := by decide +kernel
theorem dX12_nextRow_68 : decode cX12_nextRow 68 = .ok (.aload_n 0, 1) := by decide +kernel
theorem dX12_nextRow_69 : decode cX12_nextRow 69 = .ok (.getfield 43, 3) := by decide +kernel
theorem dX12_nextRow_72 : decode cX12_nextRow 72 = .ok (.iload_n 1, 1) := by decide +kernel
theorem dX12_nextRow_73 : decode cX12_nextRow 73 = .ok (.iaload, 1) := by decide +kernel
theorem dX12_nextRow_74 : decode cX12_nextRow 74 = .ok (.istore_n 3, 1) := by decide +kernel
theorem dX12_nextRow_75 : decode cX12_nextRow 75 = .ok (.aload_n 0, 1) := by decide +kernel
theorem dX12_nextRow_76 : decode cX12_nextRow 76 = .ok (.getfield 43, 3) := by decide +kernel
theorem dX12_nextRow_79 : decode cX12_nextRow 79 = .ok (.iload_n 1, 1) := by decide +kernel
theorem dX12_nextRow_80 : decode cX12_nextRow 80 = .ok (.aload_n 0, 1) := by decide +kernel
theorem dX12_nextRow_81 : decode cX12_nextRow 81 = .ok (.getfield 43, 3) := by decide +kernel
theorem dX12_nextRow_84 : decode cX12_nextRow 84 = .ok (.iload_n 2, 1) := by decide +kernel
theorem dX12_nextRow_85 : decode cX12_nextRow 85 = .ok (.iaload, 1) := by decide +kernel
theorem dX12_nextRow_86 : decode cX12_nextRow 86 = .ok (.iastore, 1) := by decide +kernel
theorem dX12_nextRow_87 : decode cX12_nextRow 87 = .ok (.aload_n 0, 1) := by decide +kernel
theorem dX12_nextRow_88 : decode cX12_nextRow 88 = .ok (.getfield 43, 3) := by decide +kernel
theorem dX12_nextRow_91 : decode cX12_nextRow 91 = .ok (.iload_n 2, 1) := by decide +kernel
theorem dX12_nextRow_92 : decode cX12_nextRow 92 = .ok (.iload_n 3, 1) := by decide +kernel
theorem dX12_nextRow_93 : decode cX12_nextRow 93 = .ok (.iastore, 1) := by decide +kernel
theorem dX12_nextRow_94 : decode cX12_nextRow 94 = .ok (.aload_n 0, 1) := by decide +kernel
theorem dX12_nextRow_95 : decode cX12_nextRow 95 = .ok (.getfield 214, 3) := by decide +kernel
theorem dX12_nextRow_98 : decode cX12_nextRow 98 = .ok (.iconst 1, 1) := by decide +kernel
theorem dX12_nextRow_99 : decode cX12_nextRow 99 = .ok (.isub, 1) := by decide +kernel
theorem dX12_nextRow_100 : decode cX12_nextRow 100 = .ok (.istore 4, 2) := by decide +kernel
theorem dX12_nextRow_102 : decode cX12_nextRow 102 = .ok (.iload_n 1, 1) := by decide +kernel
theorem dX12_nextRow_103 : decode cX12_nextRow 103 = .ok (.iconst 1, 1) := by decide +kernel
theorem dX12_nextRow_104 : decode cX12_nextRow 104 = .ok (.iadd, 1) := by decide +kernel
theorem dX12_nextRow_105 : decode cX12_nextRow 105 = .ok (.istore 5, 2) := by decide +kernel
end
section
theorem dX12_nextRow_107 : decode cX12_nextRow 107 = .ok (.iload 5, 2) := by decide +kernel
theorem dX12_nextRow_109 : decode cX12_nextRow 109 = .ok (.iload 4, 2) := by decide +kernel
theorem dX12_nextRow_111 : decode cX12_nextRow 111 = .ok (.if_icmp .ge 42, 3) := by decide +kernel
theorem dX12_nextRow_114 : decode cX12_nextRow 114 = .ok (.aload_n 0, 1) := by decide +kernel
theorem dX12_nextRow_115 : decode cX12_nextRow 115 = .ok (.getfield 43, 3) := by decide +kernel
theorem dX12_nextRow_118 : decode cX12_nextRow 118 = .ok (.iload 5, 2) := by decide +kernel
theorem dX12_nextRow_120 : decode cX12_nextRow 120 = .ok (.iaload, 1) := by decide +kernel
theorem dX12_nextRow_121 : decode cX12_nextRow 121 = .ok (.istore_n 3, 1) := by decide +kernel
theorem dX12_nextRow_122 : decode cX12_nextRow 122 = .ok (.aload_n 0, 1) := by decide +kernel
theorem dX12_nextRow_123 : decode cX12_nextRow 123 = .ok (.getfield 43, 3) := by decide +kernel
theorem dX12_nextRow_126 : decode cX12_nextRow 126 = .ok (.iload 5, 2) := by decide +kernel
theorem dX12_nextRow_128 : decode cX12_nextRow 128 = .ok (.aload_n 0, 1) := by decide +kernel
theorem dX12_nextRow_129 : decode cX12_nextRow 129 = .ok (.getfield 43, 3) := by decide +kernel
theorem dX12_nextRow_132 : decode cX12_nextRow 132 = .ok (.iload 4, 2) := by decide +kernel
theorem dX12_nextRow_134 : decode cX12_nextRow 134 = .ok (.iaload, 1) := by decide +kernel
theorem dX12_nextRow_135 : decode cX12_nextRow 135 = .ok (.iastore, 1) := by decide +kernel
theorem dX12_nextRow_136 : decode cX12_nextRow 136 = .ok (.aload_n 0, 1) := by decide +kernel
theorem dX12_nextRow_137 : decode cX12_nextRow 137 = .ok (.getfield 43, 3) := by decide +kernel
theorem dX12_nextRow_140 : decode cX12_nextRow 140 = .ok (.iload 4, 2) := by decide +kernel
theorem dX12_nextRow_142 : decode cX12_nextRow 142 = .ok (.iload_n 3, 1) := by decide +kernel
theorem dX12_nextRow_143 : decode cX12_nextRow 143 = .ok (.iastore, 1) := by decide +kernel
theorem dX12_nextRow_144 : decode cX12_nextRow 144 = .ok (.iinc 4 (-1), 3) := by decide +kernel
theorem dX12_nextRow_147 : decode cX12_nextRow 147 = .ok (.iinc 5 1, 3) := by decide +kernel
theorem dX12_nextRow_150 : decode cX12_nextRow 150 = .ok (.goto (-43), 3) := by decide +kernel
theorem dX12_nextRow_153 : decode cX12_nextRow 153 = .ok (.iconst 1, 1) := by decide +kernel
theorem dX12_nextRow_154 : decode cX12_nextRow 154 = .ok (.ireturn, 1) := by decide +kernel
theorem dX12_layOrder_0 : decode cX12_layOrder 0 = .ok (.ldc 166, 2) := by decide +kernel
theorem dX12_layOrder_2 : decode cX12_layOrder 2 = .ok (.istore_n 1, 1) := by decide +kernel
theorem dX12_layOrder_3 : decode cX12_layOrder 3 = .ok (.iconst 0, 1) := by decide +kernel
theorem dX12_layOrder_4 : decode cX12_layOrder 4 = .ok (.istore_n 2, 1) := by decide +kernel
theorem dX12_layOrder_5 : decode cX12_layOrder 5 = .ok (.iload_n 2, 1) := by decide +kernel
theorem dX12_layOrder_6 : decode cX12_layOrder 6 = .ok (.bipush 6, 2) := by decide +kernel
theorem dX12_layOrder_8 : decode cX12_layOrder 8 = .ok (.if_icmp .ge 16, 3) := by decide +kernel
theorem dX12_layOrder_11 : decode cX12_layOrder 11 = .ok (.aload_n 0, 1) := by decide +kernel
theorem dX12_layOrder_12 : decode cX12_layOrder 12 = .ok (.getfield 43, 3) := by decide +kernel
theorem dX12_layOrder_15 : decode cX12_layOrder 15 = .ok (.iload_n 2, 1) := by decide +kernel
theorem dX12_layOrder_16 : decode cX12_layOrder 16 = .ok (.iload_n 2, 1) := by decide +kernel
theorem dX12_layOrder_17 : decode cX12_layOrder 17 = .ok (.iastore, 1) := by decide +kernel
theorem dX12_layOrder_18 : decode cX12_layOrder 18 = .ok (.iinc 2 1, 3) := by decide +kernel
theorem dX12_layOrder_21 : decode cX12_layOrder 21 = .ok (.goto (-16), 3) := by decide +kernel
theorem dX12_layOrder_24 : decode cX12_layOrder 24 = .ok (.iconst 1, 1) := by decide +kernel
theorem dX12_layOrder_25 : decode cX12_layOrder 25 = .ok (.istore_n 2, 1) := by decide +kernel
theorem dX12_layOrder_26 : decode cX12_layOrder 26 = .ok (.iload_n 2, 1) := by decide +kernel
theorem dX12_layOrder_27 : decode cX12_layOrder 27 = .ok (.ifCond .eq 101, 3) := by decide +kernel
theorem dX12_layOrder_30 : decode cX12_layOrder 30 = .ok (.iconst 0, 1) := by decide +kernel
theorem dX12_layOrder_31 : decode cX12_layOrder 31 = .ok (.istore_n 3, 1) := by decide +kernel
theorem dX12_layOrder_32 : decode cX12_layOrder 32 = .ok (.iconst 1, 1) := by decide +kernel
theorem dX12_layOrder_33 : decode cX12_layOrder 33 = .ok (.istore 4, 2) := by decide +kernel
theorem dX12_layOrder_35 : decode cX12_layOrder 35 = .ok (.iload 4, 2) := by decide +kernel
theorem dX12_layOrder_37 : decode cX12_layOrder 37 = .ok (.aload_n 0, 1) := by decide +kernel
theorem dX12_layOrder_38 : decode cX12_layOrder 38 = .ok (.getfield 214, 3) := by decide +kernel
theorem dX12_layOrder_41 : decode cX12_layOrder 41 = .ok (.if_icmp .ge 42, 3) := by decide +kernel
theorem dX12_layOrder_44 : decode cX12_layOrder 44 = .ok (.iload_n 3, 1) := by decide +kernel
theorem dX12_layOrder_45 : decode cX12_layOrder 45 = .ok (.aload_n 0, 1) := by decide +kernel
theorem dX12_layOrder_46 : decode cX12_layOrder 46 = .ok (.aload_n 0, 1) := by decide +kernel
theorem dX12_layOrder_47 : decode cX12_layOrder 47 = .ok (.getfield 40, 3) := by decide +kernel
theorem dX12_layOrder_50 : decode cX12_layOrder 50 = .ok (.aload_n 0, 1) := by decide +kernel
theorem dX12_layOrder_51 : decode cX12_layOrder 51 = .ok (.getfield 43, 3) := by decide +kernel
theorem dX12_layOrder_54 : decode cX12_layOrder 54 = .ok (.iload 4, 2) := by decide +kernel
theorem dX12_layOrder_56 : decode cX12_layOrder 56 = .ok (.iconst 1, 1) := by decide +kernel
theorem dX12_layOrder_57 : decode cX12_layOrder 57 = .ok (.isub, 1) := by decide +kernel
theorem dX12_layOrder_58 : decode cX12_layOrder 58 = .ok (.iaload, 1) := by decide +kernel
theorem dX12_layOrder_59 : decode cX12_layOrder 59 = .ok (.iaload, 1) := by decide +kernel
theorem dX12_layOrder_60 : decode cX12_layOrder 60 = .ok (.aload_n 0, 1) := by decide +kernel
theorem dX12_layOrder_61 : decode cX12_layOrder 61 = .ok (.getfield 40, 3) := by decide +kernel
theorem dX12_layOrder_64 : decode cX12_layOrder 64 = .ok (.aload_n 0, 1) := by decide +kernel
theorem dX12_layOrder_65 : decode cX12_layOrder 65 = .ok (.getfield 43, 3) := by decide +kernel
theorem dX12_layOrder_68 : decode cX12_layOrder 68 = .ok (.iload 4, 2) := by decide +kernel
theorem dX12_layOrder_70 : decode cX12_layOrder 70 = .ok (.iaload, 1) := by decide +kernel
theorem dX12_layOrder_71 : decode cX12_layOrder 71 = .ok (.iaload, 1) := by decide +kernel
theorem dX12_layOrder_72 : decode cX12_layOrder 72 = .ok (.invokevirtual 121, 3) := by decide +kernel
theorem dX12_layOrder_75 : decode cX12_layOrder 75 = .ok (.iadd, 1) := by decide +kernel
theorem dX12_layOrder_76 : decode cX12_layOrder 76 = .ok (.istore_n 3, 1) := by decide +kernel
theorem dX12_layOrder_77 : decode cX12_layOrder 77 = .ok (.iinc 4 1, 3) := by decide +kernel
theorem dX12_layOrder_80 : decode cX12_layOrder 80 = .ok (.goto (-45), 3) := by decide +kernel
theorem dX12_layOrder_83 : decode cX12_layOrder 83 = .ok (.iload_n 3, 1) := by decide +kernel
theorem dX12_layOrder_84 : decode cX12_layOrder 84 = .ok (.iload_n 1, 1) := by decide +kernel
theorem dX12_layOrder_85 : decode cX12_layOrder 85 = .ok (.if_icmp .ge 35, 3) := by decide +kernel
theorem dX12_layOrder_88 : decode cX12_layOrder 88 = .ok (.iload_n 3, 1) := by decide +kernel
theorem dX12_layOrder_89 : decode cX12_layOrder 89 = .ok (.istore_n 1, 1) := by decide +kernel
theorem dX12_layOrder_90 : decode cX12_layOrder 90 = .ok (.iconst 0, 1) := by decide +kernel
theorem dX12_layOrder_91 : decode cX12_layOrder 91 = .ok (.istore 4, 2) := by decide +kernel
theorem dX12_layOrder_93 : decode cX12_layOrder 93 = .ok (.iload 4, 2) := by decide +kernel
theorem dX12_layOrder_95 : decode cX12_layOrder 95 = .ok (.bipush 6, 2) := by decide +kernel
theorem dX12_layOrder_97 : decode cX12_layOrder 97 = .ok (.if_icmp .ge 23, 3) := by decide +kernel
theorem dX12_layOrder_100 : decode cX12_layOrder 100 = .ok (.aload_n 0, 1) := by decide +kernel
theorem dX12_layOrder_101 : decode cX12_layOrder 101 = .ok (.getfield 46, 3) := by decide +kernel
theorem dX12_layOrder_104 : decode cX12_layOrder 104 = .ok (.iload 4, 2) := by decide +kernel
theorem dX12_layOrder_106 : decode cX12_layOrder 106 = .ok (.aload_n 0, 1) := by decide +kernel
theorem dX12_layOrder_107 : decode cX12_layOrder 107 = .ok (.getfield 43, 3) := by decide +kernel
theorem dX12_layOrder_110 : decode cX12_layOrder 110 = .ok (.iload 4, 2) := by decide +kernel
theorem dX12_layOrder_112 : decode cX12_layOrder 112 = .ok (.iaload, 1) := by decide +kernel
theorem dX12_layOrder_113 : decode cX12_layOrder 113 = .ok (.iastore, 1) := by decide +kernel
theorem dX12_layOrder_114 : decode cX12_layOrder 114 = .ok (.iinc 4 1, 3) := by decide +kernel
theorem dX12_layOrder_117 : decode cX12_layOrder 117 = .ok (.goto (-24), 3) := by decide +kernel
theorem dX12_layOrder_120 : decode cX12_layOrder 120 = .ok (.aload_n 0, 1) := by decide +kernel
theorem dX12_layOrder_121 : decode cX12_layOrder 121 = .ok (.invokevirtual 217, 3) := by decide +kernel
theorem dX12_layOrder_124 : decode cX12_layOrder 124 = .ok (.istore_n 2, 1) := by decide +kernel
theorem dX12_layOrder_125 : decode cX12_layOrder 125 = .ok (.goto (-99), 3) := by decide +kernel
theorem dX12_layOrder_128 : decode cX12_layOrder 128 = .ok (.iload_n 1, 1) := by decide +kernel
theorem dX12_layOrder_129 : decode cX12_layOrder 129 = .ok (.ireturn, 1) := by decide +kernel
theorem dX12_tellOrder_0 : decode cX12_tellOrder 0 = .ok (.aload_n 0, 1) := by decide +kernel
theorem dX12_tellOrder_1 : decode cX12_tellOrder 1 = .ok (.invokevirtual 220, 3) := by decide +kernel
theorem dX12_tellOrder_4 : decode cX12_tellOrder 4 = .ok (.istore_n 2, 1) := by decide +kernel
theorem dX12_tellOrder_5 : decode cX12_tellOrder 5 = .ok (.iload_n 1, 1) := by decide +kernel
theorem dX12_tellOrder_6 : decode cX12_tellOrder 6 = .ok (.ifCond .ne 7, 3) := by decide +kernel
theorem dX12_tellOrder_9 : decode cX12_tellOrder 9 = .ok (.iload_n 2, 1) := by decide +kernel
theorem dX12_tellOrder_10 : decode cX12_tellOrder 10 = .ok (.goto 27, 3) := by decide +kernel
theorem dX12_tellOrder_13 : decode cX12_tellOrder 13 = .ok (.iload_n 1, 1) := by decide +kernel
theorem dX12_tellOrder_14 : decode cX12_tellOrder 14 = .ok (.bipush 10, 2) := by decide +kernel
theorem dX12_tellOrder_16 : decode cX12_tellOrder 16 = .ok (.isub, 1) := by decide +kernel
theorem dX12_tellOrder_17 : decode cX12_tellOrder 17 = .ok (.aload_n 0, 1) := by decide +kernel
theorem dX12_tellOrder_18 : decode cX12_tellOrder 18 = .ok (.getfield 214, 3) := by decide +kernel
theorem dX12_tellOrder_21 : decode cX12_tellOrder 21 = .ok (.if_icmp .ge 15, 3) := by decide +kernel
theorem dX12_tellOrder_24 : decode cX12_tellOrder 24 = .ok (.aload_n 0, 1) := by decide +kernel
theorem dX12_tellOrder_25 : decode cX12_tellOrder 25 = .ok (.getfield 46, 3) := by decide +kernel
theorem dX12_tellOrder_28 : decode cX12_tellOrder 28 = .ok (.iload_n 1, 1) := by decide +kernel
theorem dX12_tellOrder_29 : decode cX12_tellOrder 29 = .ok (.bipush 10, 2) := by decide +kernel
theorem dX12_tellOrder_31 : decode cX12_tellOrder 31 = .ok (.isub, 1) := by decide +kernel
theorem dX12_tellOrder_32 : decode cX12_tellOrder 32 = .ok (.iaload, 1) := by decide +kernel
theorem dX12_tellOrder_33 : decode cX12_tellOrder 33 = .ok (.goto 4, 3) := by decide +kernel
theorem dX12_tellOrder_36 : decode cX12_tellOrder 36 = .ok (.iconst (-1), 1) := by decide +kernel
theorem dX12_tellOrder_37 : decode cX12_tellOrder 37 = .ok (.ireturn, 1) := by decide +kernel
theorem dX12_order_0 : decode cX12_order 0 = .ok (.aload_n 0, 1) := by decide +kernel
theorem dX12_order_1 : decode cX12_order 1 = .ok (.invokevirtual 79, 3) := by decide +kernel
theorem dX12_order_4 : decode cX12_order 4 = .ok (.ifCond .eq 6, 3) := by decide +kernel
theorem dX12_order_7 : decode cX12_order 7 = .ok (.bipush (-103), 2) := by decide +kernel
theorem dX12_order_9 : decode cX12_order 9 = .ok (.ireturn, 1) := by decide +kernel
theorem dX12_order_10 : decode cX12_order 10 = .ok (.iload_n 1, 1) := by decide +kernel
theorem dX12_order_11 : decode cX12_order 11 = .ok (.ifCond .eq 17, 3) := by decide +kernel
theorem dX12_order_14 : decode cX12_order 14 = .ok (.iload_n 1, 1) := by decide +kernel
theorem dX12_order_15 : decode cX12_order 15 = .ok (.i2l, 1) := by decide +kernel
theorem dX12_order_16 : decode cX12_order 16 = .ok (.ldc2_w 223, 3) := by decide +kernel
theorem dX12_order_19 : decode cX12_order 19 = .ok (.ldc2_w 225, 3) := by decide +kernel
theorem dX12_order_22 : decode cX12_order 22 = .ok (.invokestatic 68, 3) := by decide +kernel
theorem dX12_order_25 : decode cX12_order 25 = .ok (.ifCond .eq 11, 3) := by decide +kernel
theorem dX12_order_28 : decode cX12_order 28 = .ok (.aload_n 0, 1) := by decide +kernel
theorem dX12_order_29 : decode cX12_order 29 = .ok (.iload_n 1, 1) := by decide +kernel
theorem dX12_order_30 : decode cX12_order 30 = .ok (.invokevirtual 227, 3) := by decide +kernel
theorem dX12_order_33 : decode cX12_order 33 = .ok (.goto 5, 3) := by decide +kernel
theorem dX12_order_36 : decode cX12_order 36 = .ok (.bipush (-102), 2) := by decide +kernel
theorem dX12_order_38 : decode cX12_order 38 = .ok (.ireturn, 1) := by decide +kernel
theorem dX12_copy_0 : decode cX12_copy 0 = .ok (.iconst 0, 1) := by decide +kernel
theorem dX12_copy_1 : decode cX12_copy 1 = .ok (.istore_n 2, 1) := by decide +kernel
theorem dX12_copy_2 : decode cX12_copy 2 = .ok (.iload_n 2, 1) := by decide +kernel
theorem dX12_copy_3 : decode cX12_copy 3 = .ok (.aload_n 0, 1) := by decide +kernel
theorem dX12_copy_4 : decode cX12_copy 4 = .ok (.arraylength, 1) := by decide +kernel
theorem dX12_copy_5 : decode cX12_copy 5 = .ok (.if_icmp .ge 15, 3) := by decide +kernel
theorem dX12_copy_8 : decode cX12_copy 8 = .ok (.aload_n 1, 1) := by decide +kernel
theorem dX12_copy_9 : decode cX12_copy 9 = .ok (.iload_n 2, 1) := by decide +kernel
theorem dX12_copy_10 : decode cX12_copy 10 = .ok (.aload_n 0, 1) := by decide +kernel
theorem dX12_copy_11 : decode cX12_copy 11 = .ok (.iload_n 2, 1) := by decide +kernel
theorem dX12_copy_12 : decode cX12_copy 12 = .ok (.iaload, 1) := by decide +kernel
theorem dX12_copy_13 : decode cX12_copy 13 = .ok (.iastore, 1) := by decide +kernel
theorem dX12_copy_14 : decode cX12_copy 14 = .ok (.iinc 2 1, 3) := by decide +kernel
theorem dX12_copy_17 : decode cX12_copy 17 = .ok (.goto (-15), 3) := by decide +kernel
theorem dX12_copy_20 : decode cX12_copy 20 = .ok (.return_, 1) := by decide +kernel
theorem dX12_image_0 : decode cX12_image 0 = .ok (.aload_n 0, 1) := by decide +kernel
theorem dX12_image_1 : decode cX12_image 1 = .ok (.invokevirtual 79, 3) := by decide +kernel
theorem dX12_image_4 : decode cX12_image 4 = .ok (.ifCond .eq 6, 3) := by decide +kernel
theorem dX12_image_7 : decode cX12_image 7 = .ok (.bipush (-103), 2) := by decide +kernel
theorem dX12_image_9 : decode cX12_image 9 = .ok (.ireturn, 1) := by decide +kernel
theorem dX12_image_10 : decode cX12_image 10 = .ok (.aload_n 0, 1) := by decide +kernel
theorem dX12_image_11 : decode cX12_image 11 = .ok (.getfield 13, 3) := by decide +kernel
theorem dX12_image_14 : decode cX12_image 14 = .ok (.aload_n 0, 1) := by decide +kernel
theorem dX12_image_15 : decode cX12_image 15 = .ok (.getfield 49, 3) := by decide +kernel
theorem dX12_image_18 : decode cX12_image 18 = .ok (.invokestatic 230, 3) := by decide +kernel
theorem dX12_image_21 : decode cX12_image 21 = .ok (.aload_n 0, 1) := by decide +kernel
theorem dX12_image_22 : decode cX12_image 22 = .ok (.getfield 16, 3) := by decide +kernel
theorem dX12_image_25 : decode cX12_image 25 = .ok (.aload_n 0, 1) := by decide +kernel
theorem dX12_image_26 : decode cX12_image 26 = .ok (.getfield 52, 3) := by decide +kernel
theorem dX12_image_29 : decode cX12_image 29 = .ok (.invokestatic 230, 3) := by decide +kernel
theorem dX12_image_32 : decode cX12_image 32 = .ok (.aload_n 0, 1) := by decide +kernel
theorem dX12_image_33 : decode cX12_image 33 = .ok (.getfield 37, 3) := by decide +kernel
theorem dX12_image_36 : decode cX12_image 36 = .ok (.aload_n 0, 1) := by decide +kernel
theorem dX12_image_37 : decode cX12_image 37 = .ok (.getfield 55, 3) := by decide +kernel
theorem dX12_image_40 : decode cX12_image 40 = .ok (.invokestatic 230, 3) := by decide +kernel
theorem dX12_image_43 : decode cX12_image 43 = .ok (.aload_n 0, 1) := by decide +kernel
theorem dX12_image_44 : decode cX12_image 44 = .ok (.getfield 40, 3) := by decide +kernel
theorem dX12_image_47 : decode cX12_image 47 = .ok (.aload_n 0, 1) := by decide +kernel
theorem dX12_image_48 : decode cX12_image 48 = .ok (.getfield 58, 3) := by decide +kernel
theorem dX12_image_51 : decode cX12_image 51 = .ok (.invokestatic 230, 3) := by decide +kernel
theorem dX12_image_54 : decode cX12_image 54 = .ok (.aload_n 0, 1) := by decide +kernel
theorem dX12_image_55 : decode cX12_image 55 = .ok (.aload_n 0, 1) := by decide +kernel
theorem dX12_image_56 : decode cX12_image 56 = .ok (.getfield 72, 3) := by decide +kernel
theorem dX12_image_59 : decode cX12_image 59 = .ok (.putfield 61, 3) := by decide +kernel
theorem dX12_image_62 : decode cX12_image 62 = .ok (.aload_n 0, 1) := by decide +kernel
theorem dX12_image_63 : decode cX12_image 63 = .ok (.aload_n 0, 1) := by decide +kernel
theorem dX12_image_64 : decode cX12_image 64 = .ok (.getfield 208, 3) := by decide +kernel
theorem dX12_image_67 : decode cX12_image 67 = .ok (.putfield 234, 3) := by decide +kernel
theorem dX12_image_70 : decode cX12_image 70 = .ok (.aload_n 0, 1) := by decide +kernel
theorem dX12_image_71 : decode cX12_image 71 = .ok (.aload_n 0, 1) := by decide +kernel
theorem dX12_image_72 : decode cX12_image 72 = .ok (.getfield 214, 3) := by decide +kernel
theorem dX12_image_75 : decode cX12_image 75 = .ok (.putfield 237, 3) := by decide +kernel
theorem dX12_image_78 : decode cX12_image 78 = .ok (.aload_n 0, 1) := by decide +kernel
theorem dX12_image_79 : decode cX12_image 79 = .ok (.getfield 72, 3) := by decide +kernel
theorem dX12_image_82 : decode cX12_image 82 = .ok (.ireturn, 1) := by decide +kernel
theorem dX12_restore_0 : decode cX12_restore 0 = .ok (.aload_n 0, 1) := by decide +kernel
theorem dX12_restore_1 : decode cX12_restore 1 = .ok (.getfield 61, 3) := by decide +kernel
theorem dX12_restore_4 : decode cX12_restore 4 = .ok (.iconst (-1), 1) := by decide +kernel
theorem dX12_restore_5 : decode cX12_restore 5 = .ok (.if_icmp .ne 6, 3) := by decide +kernel
theorem dX12_restore_8 : decode cX12_restore 8 = .ok (.bipush (-103), 2) := by decide +kernel
theorem dX12_restore_10 : decode cX12_restore 10 = .ok (.ireturn, 1) := by decide +kernel
theorem dX12_restore_11 : decode cX12_restore 11 = .ok (.aload_n 0, 1) := by decide +kernel
theorem dX12_restore_12 : decode cX12_restore 12 = .ok (.getfield 49, 3) := by decide +kernel
theorem dX12_restore_15 : decode cX12_restore 15 = .ok (.aload_n 0, 1) := by decide +kernel
theorem dX12_restore_16 : decode cX12_restore 16 = .ok (.getfield 13, 3) := by decide +kernel
theorem dX12_restore_19 : decode cX12_restore 19 = .ok (.invokestatic 230, 3) := by decide +kernel
theorem dX12_restore_22 : decode cX12_restore 22 = .ok (.aload_n 0, 1) := by decide +kernel
theorem dX12_restore_23 : decode cX12_restore 23 = .ok (.getfield 52, 3) := by decide +kernel
theorem dX12_restore_26 : decode cX12_restore 26 = .ok (.aload_n 0, 1) := by decide +kernel
theorem dX12_restore_27 : decode cX12_restore 27 = .ok (.getfield 16, 3) := by decide +kernel
theorem dX12_restore_30 : decode cX12_restore 30 = .ok (.invokestatic 230, 3) := by decide +kernel
theorem dX12_restore_33 : decode cX12_restore 33 = .ok (.aload_n 0, 1) := by decide +kernel
theorem dX12_restore_34 : decode cX12_restore 34 = .ok (.getfield 55, 3) := by decide +kernel
theorem dX12_restore_37 : decode cX12_restore 37 = .ok (.aload_n 0, 1) := by decide +kernel
theorem dX12_restore_38 : decode cX12_restore 38 = .ok (.getfield 37, 3) := by decide +kernel
theorem dX12_restore_41 : decode cX12_restore 41 = .ok (.invokestatic 230, 3) := by decide +kernel
theorem dX12_restore_44 : decode cX12_restore 44 = .ok (.aload_n 0, 1) := by decide +kernel
theorem dX12_restore_45 : decode cX12_restore 45 = .ok (.getfield 58, 3) := by decide +kernel
theorem dX12_restore_48 : decode cX12_restore 48 = .ok (.aload_n 0, 1) := by decide +kernel
theorem dX12_restore_49 : decode cX12_restore 49 = .ok (.getfield 40, 3) := by decide +kernel
theorem dX12_restore_52 : decode cX12_restore 52 = .ok (.invokestatic 230, 3) := by decide +kernel
theorem dX12_restore_55 : decode cX12_restore 55 = .ok (.aload_n 0, 1) := by decide +kernel
theorem dX12_restore_56 : decode cX12_restore 56 = .ok (.aload_n 0, 1) := by decide +kernel
theorem dX12_restore_57 : decode cX12_restore 57 = .ok (.getfield 61, 3) := by decide +kernel
theorem dX12_restore_60 : decode cX12_restore 60 = .ok (.putfield 72, 3) := by decide +kernel
theorem dX12_restore_63 : decode cX12_restore 63 = .ok (.aload_n 0, 1) := by decide +kernel
theorem dX12_restore_64 : decode cX12_restore 64 = .ok (.aload_n 0, 1) := by decide +kernel
theorem dX12_restore_65 : decode cX12_restore 65 = .ok (.getfield 234, 3) := by decide +kernel
theorem dX12_restore_68 : decode cX12_restore 68 = .ok (.putfield 208, 3) := by decide +kernel
theorem dX12_restore_71 : decode cX12_restore 71 = .ok (.aload_n 0, 1) := by decide +kernel
theorem dX12_restore_72 : decode cX12_restore 72 = .ok (.aload_n 0, 1) := by decide +kernel
theorem dX12_restore_73 : decode cX12_restore 73 = .ok (.getfield 237, 3) := by decide +kernel
theorem dX12_restore_76 : decode cX12_restore 76 = .ok (.putfield 214, 3) := by decide +kernel
theorem dX12_restore_79 : decode cX12_restore 79 = .ok (.aload_n 0, 1) := by decide +kernel
theorem dX12_restore_80 : decode cX12_restore 80 = .ok (.getfield 72, 3) := by decide +kernel
theorem dX12_restore_83 : decode cX12_restore 83 = .ok (.ireturn, 1) := by decide +kernel
theorem dX12_countOf_0 : decode cX12_countOf 0 = .ok (.iload_n 1, 1) := by decide +kernel
theorem dX12_countOf_1 : decode cX12_countOf 1 = .ok (.tableswitch 106 0 7 #[47, 52, 57, 62, 67, 72, 77, 82], 47) := by decide +kernel
theorem dX12_countOf_48 : decode cX12_countOf 48 = .ok (.aload_n 0, 1) := by decide +kernel
theorem dX12_countOf_49 : decode cX12_countOf 49 = .ok (.getfield 65, 3) := by decide +kernel
theorem dX12_countOf_52 : decode cX12_countOf 52 = .ok (.ireturn, 1) := by decide +kernel
theorem dX12_countOf_53 : decode cX12_countOf 53 = .ok (.aload_n 0, 1) := by decide +kernel
theorem dX12_countOf_54 : decode cX12_countOf 54 = .ok (.getfield 72, 3) := by decide +kernel
theorem dX12_countOf_57 : decode cX12_countOf 57 = .ok (.ireturn, 1) := by decide +kernel
theorem dX12_countOf_58 : decode cX12_countOf 58 = .ok (.aload_n 0, 1) := by decide +kernel
theorem dX12_countOf_59 : decode cX12_countOf 59 = .ok (.getfield 154, 3) := by decide +kernel
theorem dX12_countOf_62 : decode cX12_countOf 62 = .ok (.ireturn, 1) := by decide +kernel
theorem dX12_countOf_63 : decode cX12_countOf 63 = .ok (.aload_n 0, 1) := by decide +kernel
theorem dX12_countOf_64 : decode cX12_countOf 64 = .ok (.getfield 208, 3) := by decide +kernel
theorem dX12_countOf_67 : decode cX12_countOf 67 = .ok (.ireturn, 1) := by decide +kernel
theorem dX12_countOf_68 : decode cX12_countOf 68 = .ok (.aload_n 0, 1) := by decide +kernel
theorem dX12_countOf_69 : decode cX12_countOf 69 = .ok (.getfield 214, 3) := by decide +kernel
theorem dX12_countOf_72 : decode cX12_countOf 72 = .ok (.ireturn, 1) := by decide +kernel
theorem dX12_countOf_73 : decode cX12_countOf 73 = .ok (.aload_n 0, 1) := by decide +kernel
theorem dX12_countOf_74 : decode cX12_countOf 74 = .ok (.getfield 139, 3) := by decide +kernel
theorem dX12_countOf_77 : decode cX12_countOf 77 = .ok (.ireturn, 1) := by decide +kernel
theorem dX12_countOf_78 : decode cX12_countOf 78 = .ok (.aload_n 0, 1) := by decide +kernel
theorem dX12_countOf_79 : decode cX12_countOf 79 = .ok (.getfield 179, 3) := by decide +kernel
theorem dX12_countOf_82 : decode cX12_countOf 82 = .ok (.ireturn, 1) := by decide +kernel
theorem dX12_countOf_83 : decode cX12_countOf 83 = .ok (.aload_n 0, 1) := by decide +kernel
theorem dX12_countOf_84 : decode cX12_countOf 84 = .ok (.invokevirtual 79, 3) := by decide +kernel
theorem dX12_countOf_87 : decode cX12_countOf 87 = .ok (.ifCond .eq 7, 3) := by decide +kernel
theorem dX12_countOf_90 : decode cX12_countOf 90 = .ok (.iconst 0, 1) := by decide +kernel
theorem dX12_countOf_91 : decode cX12_countOf 91 = .ok (.goto 15, 3) := by decide +kernel
theorem dX12_countOf_94 : decode cX12_countOf 94 = .ok (.aload_n 0, 1) := by decide +kernel
theorem dX12_countOf_95 : decode cX12_countOf 95 = .ok (.aload_n 0, 1) := by decide +kernel
theorem dX12_countOf_96 : decode cX12_countOf 96 = .ok (.invokevirtual 105, 3) := by decide +kernel
theorem dX12_countOf_99 : decode cX12_countOf 99 = .ok (.aload_n 0, 1) := by decide +kernel
theorem dX12_countOf_100 : decode cX12_countOf 100 = .ok (.invokevirtual 91, 3) := by decide +kernel
theorem dX12_countOf_103 : decode cX12_countOf 103 = .ok (.invokevirtual 121, 3) := by decide +kernel
theorem dX12_countOf_106 : decode cX12_countOf 106 = .ok (.ireturn, 1) := by decide +kernel
theorem dX12_countOf_107 : decode cX12_countOf 107 = .ok (.bipush (-102), 2) := by decide +kernel
theorem dX12_countOf_109 : decode cX12_countOf 109 = .ok (.ireturn, 1) := by decide +kernel
theorem dX12_count_0 : decode cX12_count 0 = .ok (.aload_n 0, 1) := by decide +kernel
theorem dX12_count_1 : decode cX12_count 1 = .ok (.iload_n 1, 1) := by decide +kernel
theorem dX12_count_2 : decode cX12_count 2 = .ok (.invokevirtual 240, 3) := by decide +kernel
theorem dX12_count_5 : decode cX12_count 5 = .ok (.ireturn, 1) := by decide +kernel
theorem dX12_say_0 : decode cX12_say 0 = .ok (.aload_n 0, 1) := by decide +kernel
theorem dX12_say_1 : decode cX12_say 1 = .ok (.ldc2_w 243, 3) := by decide +kernel
theorem dX12_say_4 : decode cX12_say 4 = .ok (.aload_n 0, 1) := by decide +kernel
theorem dX12_say_5 : decode cX12_say 5 = .ok (.getfield 245, 3) := by decide +kernel
theorem dX12_say_8 : decode cX12_say 8 = .ok (.lmul, 1) := by decide +kernel
theorem dX12_say_9 : decode cX12_say 9 = .ok (.lload_n 1, 1) := by decide +kernel
theorem dX12_say_10 : decode cX12_say 10 = .ok (.ladd, 1) := by decide +kernel
theorem dX12_say_11 : decode cX12_say 11 = .ok (.putfield 245, 3) := by decide +kernel
theorem dX12_say_14 : decode cX12_say 14 = .ok (.return_, 1) := by decide +kernel
theorem dX12_sayLine_0 : decode cX12_sayLine 0 = .ok (.aload_n 0, 1) := by decide +kernel
theorem dX12_sayLine_1 : decode cX12_sayLine 1 = .ok (.aload_n 0, 1) := by decide +kernel
theorem dX12_sayLine_2 : decode cX12_sayLine 2 = .ok (.invokevirtual 167, 3) := by decide +kernel
theorem dX12_sayLine_5 : decode cX12_sayLine 5 = .ok (.i2l, 1) := by decide +kernel
theorem dX12_sayLine_6 : decode cX12_sayLine 6 = .ok (.invokevirtual 249, 3) := by decide +kernel
theorem dX12_sayLine_9 : decode cX12_sayLine 9 = .ok (.aload_n 0, 1) := by decide +kernel
theorem dX12_sayLine_10 : decode cX12_sayLine 10 = .ok (.aload_n 0, 1) := by decide +kernel
theorem dX12_sayLine_11 : decode cX12_sayLine 11 = .ok (.invokevirtual 211, 3) := by decide +kernel
theorem dX12_sayLine_14 : decode cX12_sayLine 14 = .ok (.i2l, 1) := by decide +kernel
theorem dX12_sayLine_15 : decode cX12_sayLine 15 = .ok (.invokevirtual 249, 3) := by decide +kernel
theorem dX12_sayLine_18 : decode cX12_sayLine 18 = .ok (.aload_n 0, 1) := by decide +kernel
theorem dX12_sayLine_19 : decode cX12_sayLine 19 = .ok (.aload_n 0, 1) := by decide +kernel
theorem dX12_sayLine_20 : decode cX12_sayLine 20 = .ok (.iconst 0, 1) := by decide +kernel
theorem dX12_sayLine_21 : decode cX12_sayLine 21 = .ok (.invokevirtual 227, 3) := by decide +kernel
theorem dX12_sayLine_24 : decode cX12_sayLine 24 = .ok (.i2l, 1) := by decide +kernel
theorem dX12_sayLine_25 : decode cX12_sayLine 25 = .ok (.invokevirtual 249, 3) := by decide +kernel
theorem dX12_sayLine_28 : decode cX12_sayLine 28 = .ok (.bipush 10, 2) := by decide +kernel
theorem dX12_sayLine_30 : decode cX12_sayLine 30 = .ok (.istore_n 1, 1) := by decide +kernel
theorem dX12_sayLine_31 : decode cX12_sayLine 31 = .ok (.iload_n 1, 1) := by decide +kernel
theorem dX12_sayLine_32 : decode cX12_sayLine 32 = .ok (.bipush 16, 2) := by decide +kernel
theorem dX12_sayLine_34 : decode cX12_sayLine 34 = .ok (.if_icmp .ge 19, 3) := by decide +kernel
theorem dX12_sayLine_37 : decode cX12_sayLine 37 = .ok (.aload_n 0, 1) := by decide +kernel
theorem dX12_sayLine_38 : decode cX12_sayLine 38 = .ok (.aload_n 0, 1) := by decide +kernel
theorem dX12_sayLine_39 : decode cX12_sayLine 39 = .ok (.iload_n 1, 1) := by decide +kernel
theorem dX12_sayLine_40 : decode cX12_sayLine 40 = .ok (.invokevirtual 227, 3) := by decide +kernel
theorem dX12_sayLine_43 : decode cX12_sayLine 43 = .ok (.i2l, 1) := by decide +kernel
theorem dX12_sayLine_44 : decode cX12_sayLine 44 = .ok (.invokevirtual 249, 3) := by decide +kernel
theorem dX12_sayLine_47 : decode cX12_sayLine 47 = .ok (.iinc 1 1, 3) := by decide +kernel
theorem dX12_sayLine_50 : decode cX12_sayLine 50 = .ok (.goto (-19), 3) := by decide +kernel
theorem dX12_sayLine_53 : decode cX12_sayLine 53 = .ok (.aload_n 0, 1) := by decide +kernel
theorem dX12_sayLine_54 : decode cX12_sayLine 54 = .ok (.aload_n 0, 1) := by decide +kernel
theorem dX12_sayLine_55 : decode cX12_sayLine 55 = .ok (.iconst 2, 1) := by decide +kernel
theorem dX12_sayLine_56 : decode cX12_sayLine 56 = .ok (.invokevirtual 205, 3) := by decide +kernel
theorem dX12_sayLine_59 : decode cX12_sayLine 59 = .ok (.i2l, 1) := by decide +kernel
theorem dX12_sayLine_60 : decode cX12_sayLine 60 = .ok (.invokevirtual 249, 3) := by decide +kernel
theorem dX12_sayLine_63 : decode cX12_sayLine 63 = .ok (.aload_n 0, 1) := by decide +kernel
theorem dX12_sayLine_64 : decode cX12_sayLine 64 = .ok (.aload_n 0, 1) := by decide +kernel
theorem dX12_sayLine_65 : decode cX12_sayLine 65 = .ok (.aload_n 0, 1) := by decide +kernel
theorem dX12_sayLine_66 : decode cX12_sayLine 66 = .ok (.getfield 16, 3) := by decide +kernel
theorem dX12_sayLine_69 : decode cX12_sayLine 69 = .ok (.iconst 0, 1) := by decide +kernel
theorem dX12_sayLine_70 : decode cX12_sayLine 70 = .ok (.iaload, 1) := by decide +kernel
theorem dX12_sayLine_71 : decode cX12_sayLine 71 = .ok (.aload_n 0, 1) := by decide +kernel
theorem dX12_sayLine_72 : decode cX12_sayLine 72 = .ok (.invokevirtual 105, 3) := by decide +kernel
theorem dX12_sayLine_75 : decode cX12_sayLine 75 = .ok (.invokevirtual 173, 3) := by decide +kernel
theorem dX12_sayLine_78 : decode cX12_sayLine 78 = .ok (.i2l, 1) := by decide +kernel
theorem dX12_sayLine_79 : decode cX12_sayLine 79 = .ok (.invokevirtual 249, 3) := by decide +kernel
theorem dX12_sayLine_82 : decode cX12_sayLine 82 = .ok (.return_, 1) := by decide +kernel
theorem dX12_digest_0 : decode cX12_digest 0 = .ok (.aload_n 0, 1) := by decide +kernel
theorem dX12_digest_1 : decode cX12_digest 1 = .ok (.ldc2_w 253, 3) := by decide +kernel
theorem dX12_digest_4 : decode cX12_digest 4 = .ok (.putfield 245, 3) := by decide +kernel
theorem dX12_digest_7 : decode cX12_digest 7 = .ok (.iconst 0, 1) := by decide +kernel
theorem dX12_digest_8 : decode cX12_digest 8 = .ok (.istore_n 1, 1) := by decide +kernel
theorem dX12_digest_9 : decode cX12_digest 9 = .ok (.iload_n 1, 1) := by decide +kernel
theorem dX12_digest_10 : decode cX12_digest 10 = .ok (.aload_n 0, 1) := by decide +kernel
theorem dX12_digest_11 : decode cX12_digest 11 = .ok (.getfield 65, 3) := by decide +kernel
theorem dX12_digest_14 : decode cX12_digest 14 = .ok (.if_icmp .ge 33, 3) := by decide +kernel
theorem dX12_digest_17 : decode cX12_digest 17 = .ok (.iconst 0, 1) := by decide +kernel
theorem dX12_digest_18 : decode cX12_digest 18 = .ok (.istore_n 2, 1) := by decide +kernel
theorem dX12_digest_19 : decode cX12_digest 19 = .ok (.iload_n 2, 1) := by decide +kernel
theorem dX12_digest_20 : decode cX12_digest 20 = .ok (.iconst 3, 1) := by decide +kernel
theorem dX12_digest_21 : decode cX12_digest 21 = .ok (.if_icmp .ge 20, 3) := by decide +kernel
theorem dX12_digest_24 : decode cX12_digest 24 = .ok (.aload_n 0, 1) := by decide +kernel
theorem dX12_digest_25 : decode cX12_digest 25 = .ok (.aload_n 0, 1) := by decide +kernel
theorem dX12_digest_26 : decode cX12_digest 26 = .ok (.iload_n 1, 1) := by decide +kernel
theorem dX12_digest_27 : decode cX12_digest 27 = .ok (.iload_n 2, 1) := by decide +kernel
theorem dX12_digest_28 : decode cX12_digest 28 = .ok (.invokevirtual 102, 3) := by decide +kernel
theorem dX12_digest_31 : decode cX12_digest 31 = .ok (.i2l, 1) := by decide +kernel
theorem dX12_digest_32 : decode cX12_digest 32 = .ok (.invokevirtual 249, 3) := by decide +kernel
theorem dX12_digest_35 : decode cX12_digest 35 = .ok (.iinc 2 1, 3) := by decide +kernel
theorem dX12_digest_38 : decode cX12_digest 38 = .ok (.goto (-19), 3) := by decide +kernel
theorem dX12_digest_41 : decode cX12_digest 41 = .ok (.iinc 1 1, 3) := by decide +kernel
theorem dX12_digest_44 : decode cX12_digest 44 = .ok (.goto (-35), 3) := by decide +kernel
theorem dX12_digest_47 : decode cX12_digest 47 = .ok (.iconst 0, 1) := by decide +kernel
theorem dX12_digest_48 : decode cX12_digest 48 = .ok (.istore_n 1, 1) := by decide +kernel
theorem dX12_digest_49 : decode cX12_digest 49 = .ok (.iload_n 1, 1) := by decide +kernel
theorem dX12_digest_50 : decode cX12_digest 50 = .ok (.aload_n 0, 1) := by decide +kernel
theorem dX12_digest_51 : decode cX12_digest 51 = .ok (.getfield 72, 3) := by decide +kernel
theorem dX12_digest_54 : decode cX12_digest 54 = .ok (.if_icmp .ge 20, 3) := by decide +kernel
theorem dX12_digest_57 : decode cX12_digest 57 = .ok (.aload_n 0, 1) := by decide +kernel
theorem dX12_digest_58 : decode cX12_digest 58 = .ok (.aload_n 0, 1) := by decide +kernel
theorem dX12_digest_59 : decode cX12_digest 59 = .ok (.getfield 16, 3) := by decide +kernel
theorem dX12_digest_62 : decode cX12_digest 62 = .ok (.iload_n 1, 1) := by decide +kernel
theorem dX12_digest_63 : decode cX12_digest 63 = .ok (.iaload, 1) := by decide +kernel
theorem dX12_digest_64 : decode cX12_digest 64 = .ok (.i2l, 1) := by decide +kernel
theorem dX12_digest_65 : decode cX12_digest 65 = .ok (.invokevirtual 249, 3) := by decide +kernel
theorem dX12_digest_68 : decode cX12_digest 68 = .ok (.iinc 1 1, 3) := by decide +kernel
theorem dX12_digest_71 : decode cX12_digest 71 = .ok (.goto (-22), 3) := by decide +kernel
theorem dX12_digest_74 : decode cX12_digest 74 = .ok (.iconst 0, 1) := by decide +kernel
theorem dX12_digest_75 : decode cX12_digest 75 = .ok (.istore_n 1, 1) := by decide +kernel
theorem dX12_digest_76 : decode cX12_digest 76 = .ok (.iload_n 1, 1) := by decide +kernel
theorem dX12_digest_77 : decode cX12_digest 77 = .ok (.bipush 6, 2) := by decide +kernel
theorem dX12_digest_79 : decode cX12_digest 79 = .ok (.aload_n 0, 1) := by decide +kernel
theorem dX12_digest_80 : decode cX12_digest 80 = .ok (.getfield 154, 3) := by decide +kernel
theorem dX12_digest_83 : decode cX12_digest 83 = .ok (.imul, 1) := by decide +kernel
theorem dX12_digest_84 : decode cX12_digest 84 = .ok (.if_icmp .ge 20, 3) := by decide +kernel
theorem dX12_digest_87 : decode cX12_digest 87 = .ok (.aload_n 0, 1) := by decide +kernel
theorem dX12_digest_88 : decode cX12_digest 88 = .ok (.aload_n 0, 1) := by decide +kernel
theorem dX12_digest_89 : decode cX12_digest 89 = .ok (.getfield 28, 3) := by decide +kernel
theorem dX12_digest_92 : decode cX12_digest 92 = .ok (.iload_n 1, 1) := by decide +kernel
theorem dX12_digest_93 : decode cX12_digest 93 = .ok (.iaload, 1) := by decide +kernel
theorem dX12_digest_94 : decode cX12_digest 94 = .ok (.i2l, 1) := by decide +kernel
theorem dX12_digest_95 : decode cX12_digest 95 = .ok (.invokevirtual 249, 3) := by decide +kernel
theorem dX12_digest_98 : decode cX12_digest 98 = .ok (.iinc 1 1, 3) := by decide +kernel
theorem dX12_digest_101 : decode cX12_digest 101 = .ok (.goto (-25), 3) := by decide +kernel
theorem dX12_digest_104 : decode cX12_digest 104 = .ok (.aload_n 0, 1) := by decide +kernel
theorem dX12_digest_105 : decode cX12_digest 105 = .ok (.invokevirtual 79, 3) := by decide +kernel
theorem dX12_digest_108 : decode cX12_digest 108 = .ok (.ifCond .ne 7, 3) := by decide +kernel
theorem dX12_digest_111 : decode cX12_digest 111 = .ok (.aload_n 0, 1) := by decide +kernel
theorem dX12_digest_112 : decode cX12_digest 112 = .ok (.invokevirtual 255, 3) := by decide +kernel
theorem dX12_digest_115 : decode cX12_digest 115 = .ok (.iconst 0, 1) := by decide +kernel
theorem dX12_digest_116 : decode cX12_digest 116 = .ok (.istore_n 1, 1) := by decide +kernel
theorem dX12_digest_117 : decode cX12_digest 117 = .ok (.iload_n 1, 1) := by decide +kernel
theorem dX12_digest_118 : decode cX12_digest 118 = .ok (.aload_n 0, 1) := by decide +kernel
theorem dX12_digest_119 : decode cX12_digest 119 = .ok (.getfield 139, 3) := by decide +kernel
theorem dX12_digest_122 : decode cX12_digest 122 = .ok (.if_icmp .ge 20, 3) := by decide +kernel
theorem dX12_digest_125 : decode cX12_digest 125 = .ok (.aload_n 0, 1) := by decide +kernel
theorem dX12_digest_126 : decode cX12_digest 126 = .ok (.aload_n 0, 1) := by decide +kernel
theorem dX12_digest_127 : decode cX12_digest 127 = .ok (.getfield 22, 3) := by decide +kernel
theorem dX12_digest_130 : decode cX12_digest 130 = .ok (.iload_n 1, 1) := by decide +kernel
theorem dX12_digest_131 : decode cX12_digest 131 = .ok (.iaload, 1) := by decide +kernel
theorem dX12_digest_132 : decode cX12_digest 132 = .ok (.i2l, 1) := by decide +kernel
theorem dX12_digest_133 : decode cX12_digest 133 = .ok (.invokevirtual 249, 3) := by decide +kernel
theorem dX12_digest_136 : decode cX12_digest 136 = .ok (.iinc 1 1, 3) := by decide +kernel
theorem dX12_digest_139 : decode cX12_digest 139 = .ok (.goto (-22), 3) := by decide +kernel
theorem dX12_digest_142 : decode cX12_digest 142 = .ok (.iconst 0, 1) := by decide +kernel
theorem dX12_digest_143 : decode cX12_digest 143 = .ok (.istore_n 1, 1) := by decide +kernel
theorem dX12_digest_144 : decode cX12_digest 144 = .ok (.iload_n 1, 1) := by decide +kernel
theorem dX12_digest_145 : decode cX12_digest 145 = .ok (.bipush 8, 2) := by decide +kernel
theorem dX12_digest_147 : decode cX12_digest 147 = .ok (.if_icmp .ge 19, 3) := by decide +kernel
theorem dX12_digest_150 : decode cX12_digest 150 = .ok (.aload_n 0, 1) := by decide +kernel
theorem dX12_digest_151 : decode cX12_digest 151 = .ok (.aload_n 0, 1) := by decide +kernel
theorem dX12_digest_152 : decode cX12_digest 152 = .ok (.iload_n 1, 1) := by decide +kernel
theorem dX12_digest_153 : decode cX12_digest 153 = .ok (.invokevirtual 240, 3) := by decide +kernel
theorem dX12_digest_156 : decode cX12_digest 156 = .ok (.i2l, 1) := by decide +kernel
theorem dX12_digest_157 : decode cX12_digest 157 = .ok (.invokevirtual 249, 3) := by decide +kernel
theorem dX12_digest_160 : decode cX12_digest 160 = .ok (.iinc 1 1, 3) := by decide +kernel
theorem dX12_digest_163 : decode cX12_digest 163 = .ok (.goto (-19), 3) := by decide +kernel
theorem dX12_digest_166 : decode cX12_digest 166 = .ok (.aload_n 0, 1) := by decide +kernel
theorem dX12_digest_167 : decode cX12_digest 167 = .ok (.getfield 245, 3) := by decide +kernel
theorem dX12_digest_170 : decode cX12_digest 170 = .ok (.lreturn, 1) := by decide +kernel
theorem dJ6_bitCount_0f7a4_0 : decode cJ6_bitCount_0f7a4 0 = .ok (.iload_n 0, 1) := by decide +kernel
theorem dJ6_bitCount_0f7a4_1 : decode cJ6_bitCount_0f7a4 1 = .ok (.iload_n 0, 1) := by decide +kernel
theorem dJ6_bitCount_0f7a4_2 : decode cJ6_bitCount_0f7a4 2 = .ok (.iconst 1, 1) := by decide +kernel
theorem dJ6_bitCount_0f7a4_3 : decode cJ6_bitCount_0f7a4 3 = .ok (.iushr, 1) := by decide +kernel
theorem dJ6_bitCount_0f7a4_4 : decode cJ6_bitCount_0f7a4 4 = .ok (.ldc_w 265, 3) := by decide +kernel
theorem dJ6_bitCount_0f7a4_7 : decode cJ6_bitCount_0f7a4 7 = .ok (.iand, 1) := by decide +kernel
theorem dJ6_bitCount_0f7a4_8 : decode cJ6_bitCount_0f7a4 8 = .ok (.isub, 1) := by decide +kernel
theorem dJ6_bitCount_0f7a4_9 : decode cJ6_bitCount_0f7a4 9 = .ok (.istore_n 0, 1) := by decide +kernel
theorem dJ6_bitCount_0f7a4_10 : decode cJ6_bitCount_0f7a4 10 = .ok (.iload_n 0, 1) := by decide +kernel
theorem dJ6_bitCount_0f7a4_11 : decode cJ6_bitCount_0f7a4 11 = .ok (.ldc_w 266, 3) := by decide +kernel
theorem dJ6_bitCount_0f7a4_14 : decode cJ6_bitCount_0f7a4 14 = .ok (.iand, 1) := by decide +kernel
theorem dJ6_bitCount_0f7a4_15 : decode cJ6_bitCount_0f7a4 15 = .ok (.iload_n 0, 1) := by decide +kernel
theorem dJ6_bitCount_0f7a4_16 : decode cJ6_bitCount_0f7a4 16 = .ok (.iconst 2, 1) := by decide +kernel
theorem dJ6_bitCount_0f7a4_17 : decode cJ6_bitCount_0f7a4 17 = .ok (.iushr, 1) := by decide +kernel
theorem dJ6_bitCount_0f7a4_18 : decode cJ6_bitCount_0f7a4 18 = .ok (.ldc_w 266, 3) := by decide +kernel
theorem dJ6_bitCount_0f7a4_21 : decode cJ6_bitCount_0f7a4 21 = .ok (.iand, 1) := by decide +kernel
theorem dJ6_bitCount_0f7a4_22 : decode cJ6_bitCount_0f7a4 22 = .ok (.iadd, 1) := by decide +kernel
theorem dJ6_bitCount_0f7a4_23 : decode cJ6_bitCount_0f7a4 23 = .ok (.istore_n 0, 1) := by decide +kernel
theorem dJ6_bitCount_0f7a4_24 : decode cJ6_bitCount_0f7a4 24 = .ok (.iload_n 0, 1) := by decide +kernel
theorem dJ6_bitCount_0f7a4_25 : decode cJ6_bitCount_0f7a4 25 = .ok (.iload_n 0, 1) := by decide +kernel
theorem dJ6_bitCount_0f7a4_26 : decode cJ6_bitCount_0f7a4 26 = .ok (.iconst 4, 1) := by decide +kernel
theorem dJ6_bitCount_0f7a4_27 : decode cJ6_bitCount_0f7a4 27 = .ok (.iushr, 1) := by decide +kernel
theorem dJ6_bitCount_0f7a4_28 : decode cJ6_bitCount_0f7a4 28 = .ok (.iadd, 1) := by decide +kernel
theorem dJ6_bitCount_0f7a4_29 : decode cJ6_bitCount_0f7a4 29 = .ok (.ldc_w 267, 3) := by decide +kernel
theorem dJ6_bitCount_0f7a4_32 : decode cJ6_bitCount_0f7a4 32 = .ok (.iand, 1) := by decide +kernel
theorem dJ6_bitCount_0f7a4_33 : decode cJ6_bitCount_0f7a4 33 = .ok (.istore_n 0, 1) := by decide +kernel
theorem dJ6_bitCount_0f7a4_34 : decode cJ6_bitCount_0f7a4 34 = .ok (.iload_n 0, 1) := by decide +kernel
theorem dJ6_bitCount_0f7a4_35 : decode cJ6_bitCount_0f7a4 35 = .ok (.iload_n 0, 1) := by decide +kernel
theorem dJ6_bitCount_0f7a4_36 : decode cJ6_bitCount_0f7a4 36 = .ok (.bipush 8, 2) := by decide +kernel
theorem dJ6_bitCount_0f7a4_38 : decode cJ6_bitCount_0f7a4 38 = .ok (.iushr, 1) := by decide +kernel
theorem dJ6_bitCount_0f7a4_39 : decode cJ6_bitCount_0f7a4 39 = .ok (.iadd, 1) := by decide +kernel
theorem dJ6_bitCount_0f7a4_40 : decode cJ6_bitCount_0f7a4 40 = .ok (.istore_n 0, 1) := by decide +kernel
theorem dJ6_bitCount_0f7a4_41 : decode cJ6_bitCount_0f7a4 41 = .ok (.iload_n 0, 1) := by decide +kernel
theorem dJ6_bitCount_0f7a4_42 : decode cJ6_bitCount_0f7a4 42 = .ok (.iload_n 0, 1) := by decide +kernel
theorem dJ6_bitCount_0f7a4_43 : decode cJ6_bitCount_0f7a4 43 = .ok (.bipush 16, 2) := by decide +kernel
theorem dJ6_bitCount_0f7a4_45 : decode cJ6_bitCount_0f7a4 45 = .ok (.iushr, 1) := by decide +kernel
theorem dJ6_bitCount_0f7a4_46 : decode cJ6_bitCount_0f7a4 46 = .ok (.iadd, 1) := by decide +kernel
theorem dJ6_bitCount_0f7a4_47 : decode cJ6_bitCount_0f7a4 47 = .ok (.istore_n 0, 1) := by decide +kernel
theorem dJ6_bitCount_0f7a4_48 : decode cJ6_bitCount_0f7a4 48 = .ok (.iload_n 0, 1) := by decide +kernel
theorem dJ6_bitCount_0f7a4_49 : decode cJ6_bitCount_0f7a4 49 = .ok (.bipush 63, 2) := by decide +kernel
theorem dJ6_bitCount_0f7a4_51 : decode cJ6_bitCount_0f7a4 51 = .ok (.iand, 1) := by decide +kernel
theorem dJ6_bitCount_0f7a4_52 : decode cJ6_bitCount_0f7a4 52 = .ok (.ireturn, 1) := by decide +kernel
theorem dJ9_floorMod_7cf53_0 : decode cJ9_floorMod_7cf53 0 = .ok (.iload_n 0, 1) := by decide +kernel
theorem dJ9_floorMod_7cf53_1 : decode cJ9_floorMod_7cf53 1 = .ok (.iload_n 1, 1) := by decide +kernel
theorem dJ9_floorMod_7cf53_2 : decode cJ9_floorMod_7cf53 2 = .ok (.irem, 1) := by decide +kernel
theorem dJ9_floorMod_7cf53_3 : decode cJ9_floorMod_7cf53 3 = .ok (.istore_n 2, 1) := by decide +kernel
theorem dJ9_floorMod_7cf53_4 : decode cJ9_floorMod_7cf53 4 = .ok (.iload_n 0, 1) := by decide +kernel
theorem dJ9_floorMod_7cf53_5 : decode cJ9_floorMod_7cf53 5 = .ok (.iload_n 1, 1) := by decide +kernel
theorem dJ9_floorMod_7cf53_6 : decode cJ9_floorMod_7cf53 6 = .ok (.ixor, 1) := by decide +kernel
theorem dJ9_floorMod_7cf53_7 : decode cJ9_floorMod_7cf53 7 = .ok (.ifCond .ge 11, 3) := by decide +kernel
theorem dJ9_floorMod_7cf53_10 : decode cJ9_floorMod_7cf53 10 = .ok (.iload_n 2, 1) := by decide +kernel
theorem dJ9_floorMod_7cf53_11 : decode cJ9_floorMod_7cf53 11 = .ok (.ifCond .eq 7, 3) := by decide +kernel
end
section
theorem dJ9_floorMod_7cf53_14 : decode cJ9_floorMod_7cf53 14 = .ok (.iload_n 2, 1) := by decide +kernel
theorem dJ9_floorMod_7cf53_15 : decode cJ9_floorMod_7cf53 15 = .ok (.iload_n 1, 1) := by decide +kernel
theorem dJ9_floorMod_7cf53_16 : decode cJ9_floorMod_7cf53 16 = .ok (.iadd, 1) := by decide +kernel
theorem dJ9_floorMod_7cf53_17 : decode cJ9_floorMod_7cf53 17 = .ok (.ireturn, 1) := by decide +kernel
theorem dJ9_floorMod_7cf53_18 : decode cJ9_floorMod_7cf53 18 = .ok (.iload_n 2, 1) := by decide +kernel
theorem dJ9_floorMod_7cf53_19 : decode cJ9_floorMod_7cf53 19 = .ok (.ireturn, 1) := by decide +kernel
theorem dJ9_abs_0f7a4_0 : decode cJ9_abs_0f7a4 0 = .ok (.iload_n 0, 1) := by decide +kernel
theorem dJ9_abs_0f7a4_1 : decode cJ9_abs_0f7a4 1 = .ok (.ifCond .ge 8, 3) := by decide +kernel
theorem dJ9_abs_0f7a4_4 : decode cJ9_abs_0f7a4 4 = .ok (.iload_n 0, 1) := by decide +kernel
theorem dJ9_abs_0f7a4_5 : decode cJ9_abs_0f7a4 5 = .ok (.ineg, 1) := by decide +kernel
theorem dJ9_abs_0f7a4_6 : decode cJ9_abs_0f7a4 6 = .ok (.goto 4, 3) := by decide +kernel
theorem dJ9_abs_0f7a4_9 : decode cJ9_abs_0f7a4 9 = .ok (.iload_n 0, 1) := by decide +kernel
theorem dJ9_abs_0f7a4_10 : decode cJ9_abs_0f7a4 10 = .ok (.ireturn, 1) := by decide +kernel
theorem dJ9_max_7cf53_0 : decode cJ9_max_7cf53 0 = .ok (.iload_n 0, 1) := by decide +kernel
theorem dJ9_max_7cf53_1 : decode cJ9_max_7cf53 1 = .ok (.iload_n 1, 1) := by decide +kernel
theorem dJ9_max_7cf53_2 : decode cJ9_max_7cf53 2 = .ok (.if_icmp .lt 7, 3) := by decide +kernel
theorem dJ9_max_7cf53_5 : decode cJ9_max_7cf53 5 = .ok (.iload_n 0, 1) := by decide +kernel
theorem dJ9_max_7cf53_6 : decode cJ9_max_7cf53 6 = .ok (.goto 4, 3) := by decide +kernel
theorem dJ9_max_7cf53_9 : decode cJ9_max_7cf53 9 = .ok (.iload_n 1, 1) := by decide +kernel
theorem dJ9_max_7cf53_10 : decode cJ9_max_7cf53 10 = .ok (.ireturn, 1) := by decide +kernel
theorem dJ9_min_7cf53_0 : decode cJ9_min_7cf53 0 = .ok (.iload_n 0, 1) := by decide +kernel
theorem dJ9_min_7cf53_1 : decode cJ9_min_7cf53 1 = .ok (.iload_n 1, 1) := by decide +kernel
theorem dJ9_min_7cf53_2 : decode cJ9_min_7cf53 2 = .ok (.if_icmp .gt 7, 3) := by decide +kernel
theorem dJ9_min_7cf53_5 : decode cJ9_min_7cf53 5 = .ok (.iload_n 0, 1) := by decide +kernel
theorem dJ9_min_7cf53_6 : decode cJ9_min_7cf53 6 = .ok (.goto 4, 3) := by decide +kernel
theorem dJ9_min_7cf53_9 : decode cJ9_min_7cf53 9 = .ok (.iload_n 1, 1) := by decide +kernel
theorem dJ9_min_7cf53_10 : decode cJ9_min_7cf53 10 = .ok (.ireturn, 1) := by decide +kernel
theorem dL_law_0 : decode cL_law 0 = .ok (.new 7, 3) := by decide +kernel
theorem dL_law_3 : decode cL_law 3 = .ok (.dup, 1) := by decide +kernel
theorem dL_law_4 : decode cL_law 4 = .ok (.invokespecial 9, 3) := by decide +kernel
theorem dL_law_7 : decode cL_law 7 = .ok (.astore_n 1, 1) := by decide +kernel
theorem dL_law_8 : decode cL_law 8 = .ok (.new 10, 3) := by decide +kernel
theorem dL_law_11 : decode cL_law 11 = .ok (.dup, 1) := by decide +kernel
theorem dL_law_12 : decode cL_law 12 = .ok (.invokespecial 12, 3) := by decide +kernel
theorem dL_law_15 : decode cL_law 15 = .ok (.astore_n 2, 1) := by decide +kernel
theorem dL_law_16 : decode cL_law 16 = .ok (.iconst 0, 1) := by decide +kernel
theorem dL_law_17 : decode cL_law 17 = .ok (.istore_n 3, 1) := by decide +kernel
theorem dL_law_18 : decode cL_law 18 = .ok (.iload_n 3, 1) := by decide +kernel
theorem dL_law_19 : decode cL_law 19 = .ok (.aload_n 0, 1) := by decide +kernel
theorem dL_law_20 : decode cL_law 20 = .ok (.arraylength, 1) := by decide +kernel
theorem dL_law_21 : decode cL_law 21 = .ok (.iconst 4, 1) := by decide +kernel
theorem dL_law_22 : decode cL_law 22 = .ok (.isub, 1) := by decide +kernel
theorem dL_law_23 : decode cL_law 23 = .ok (.if_icmp .gt 791, 3) := by decide +kernel
theorem dL_law_26 : decode cL_law 26 = .ok (.aload_n 0, 1) := by decide +kernel
theorem dL_law_27 : decode cL_law 27 = .ok (.iload_n 3, 1) := by decide +kernel
theorem dL_law_28 : decode cL_law 28 = .ok (.iaload, 1) := by decide +kernel
theorem dL_law_29 : decode cL_law 29 = .ok (.bipush 31, 2) := by decide +kernel
theorem dL_law_31 : decode cL_law 31 = .ok (.iand, 1) := by decide +kernel
theorem dL_law_32 : decode cL_law 32 = .ok (.tableswitch 776 0 26 #[124, 157, 190, 223, 236, 269, 292, 315, 368, 381, 394, 407, 440, 473, 486, 519, 542, 585, 608, 631, 654, 667, 690, 713, 726, 739, 762], 124) := by decide +kernel
theorem dL_law_156 : decode cL_law 156 = .ok (.aload_n 1, 1) := by decide +kernel
theorem dL_law_157 : decode cL_law 157 = .ok (.aload_n 0, 1) := by decide +kernel
theorem dL_law_158 : decode cL_law 158 = .ok (.iload_n 3, 1) := by decide +kernel
theorem dL_law_159 : decode cL_law 159 = .ok (.iconst 1, 1) := by decide +kernel
theorem dL_law_160 : decode cL_law 160 = .ok (.iadd, 1) := by decide +kernel
theorem dL_law_161 : decode cL_law 161 = .ok (.iaload, 1) := by decide +kernel
theorem dL_law_162 : decode cL_law 162 = .ok (.aload_n 0, 1) := by decide +kernel
theorem dL_law_163 : decode cL_law 163 = .ok (.iload_n 3, 1) := by decide +kernel
theorem dL_law_164 : decode cL_law 164 = .ok (.iconst 2, 1) := by decide +kernel
theorem dL_law_165 : decode cL_law 165 = .ok (.iadd, 1) := by decide +kernel
theorem dL_law_166 : decode cL_law 166 = .ok (.iaload, 1) := by decide +kernel
theorem dL_law_167 : decode cL_law 167 = .ok (.invokevirtual 13, 3) := by decide +kernel
theorem dL_law_170 : decode cL_law 170 = .ok (.aload_n 2, 1) := by decide +kernel
theorem dL_law_171 : decode cL_law 171 = .ok (.aload_n 0, 1) := by decide +kernel
theorem dL_law_172 : decode cL_law 172 = .ok (.iload_n 3, 1) := by decide +kernel
theorem dL_law_173 : decode cL_law 173 = .ok (.iconst 1, 1) := by decide +kernel
theorem dL_law_174 : decode cL_law 174 = .ok (.iadd, 1) := by decide +kernel
theorem dL_law_175 : decode cL_law 175 = .ok (.iaload, 1) := by decide +kernel
theorem dL_law_176 : decode cL_law 176 = .ok (.aload_n 0, 1) := by decide +kernel
theorem dL_law_177 : decode cL_law 177 = .ok (.iload_n 3, 1) := by decide +kernel
theorem dL_law_178 : decode cL_law 178 = .ok (.iconst 2, 1) := by decide +kernel
theorem dL_law_179 : decode cL_law 179 = .ok (.iadd, 1) := by decide +kernel
theorem dL_law_180 : decode cL_law 180 = .ok (.iaload, 1) := by decide +kernel
theorem dL_law_181 : decode cL_law 181 = .ok (.invokevirtual 17, 3) := by decide +kernel
theorem dL_law_184 : decode cL_law 184 = .ok (.if_icmp .eq 624, 3) := by decide +kernel
theorem dL_law_187 : decode cL_law 187 = .ok (.iconst 0, 1) := by decide +kernel
theorem dL_law_188 : decode cL_law 188 = .ok (.ireturn, 1) := by decide +kernel
theorem dL_law_189 : decode cL_law 189 = .ok (.aload_n 1, 1) := by decide +kernel
theorem dL_law_190 : decode cL_law 190 = .ok (.aload_n 0, 1) := by decide +kernel
theorem dL_law_191 : decode cL_law 191 = .ok (.iload_n 3, 1) := by decide +kernel
theorem dL_law_192 : decode cL_law 192 = .ok (.iconst 1, 1) := by decide +kernel
theorem dL_law_193 : decode cL_law 193 = .ok (.iadd, 1) := by decide +kernel
theorem dL_law_194 : decode cL_law 194 = .ok (.iaload, 1) := by decide +kernel
theorem dL_law_195 : decode cL_law 195 = .ok (.aload_n 0, 1) := by decide +kernel
theorem dL_law_196 : decode cL_law 196 = .ok (.iload_n 3, 1) := by decide +kernel
theorem dL_law_197 : decode cL_law 197 = .ok (.iconst 2, 1) := by decide +kernel
theorem dL_law_198 : decode cL_law 198 = .ok (.iadd, 1) := by decide +kernel
theorem dL_law_199 : decode cL_law 199 = .ok (.iaload, 1) := by decide +kernel
theorem dL_law_200 : decode cL_law 200 = .ok (.invokevirtual 18, 3) := by decide +kernel
theorem dL_law_203 : decode cL_law 203 = .ok (.aload_n 2, 1) := by decide +kernel
theorem dL_law_204 : decode cL_law 204 = .ok (.aload_n 0, 1) := by decide +kernel
theorem dL_law_205 : decode cL_law 205 = .ok (.iload_n 3, 1) := by decide +kernel
theorem dL_law_206 : decode cL_law 206 = .ok (.iconst 1, 1) := by decide +kernel
theorem dL_law_207 : decode cL_law 207 = .ok (.iadd, 1) := by decide +kernel
theorem dL_law_208 : decode cL_law 208 = .ok (.iaload, 1) := by decide +kernel
theorem dL_law_209 : decode cL_law 209 = .ok (.aload_n 0, 1) := by decide +kernel
theorem dL_law_210 : decode cL_law 210 = .ok (.iload_n 3, 1) := by decide +kernel
theorem dL_law_211 : decode cL_law 211 = .ok (.iconst 2, 1) := by decide +kernel
theorem dL_law_212 : decode cL_law 212 = .ok (.iadd, 1) := by decide +kernel
theorem dL_law_213 : decode cL_law 213 = .ok (.iaload, 1) := by decide +kernel
theorem dL_law_214 : decode cL_law 214 = .ok (.invokevirtual 21, 3) := by decide +kernel
theorem dL_law_217 : decode cL_law 217 = .ok (.if_icmp .eq 591, 3) := by decide +kernel
theorem dL_law_220 : decode cL_law 220 = .ok (.iconst 0, 1) := by decide +kernel
theorem dL_law_221 : decode cL_law 221 = .ok (.ireturn, 1) := by decide +kernel
theorem dL_law_222 : decode cL_law 222 = .ok (.aload_n 1, 1) := by decide +kernel
theorem dL_law_223 : decode cL_law 223 = .ok (.aload_n 0, 1) := by decide +kernel
theorem dL_law_224 : decode cL_law 224 = .ok (.iload_n 3, 1) := by decide +kernel
theorem dL_law_225 : decode cL_law 225 = .ok (.iconst 1, 1) := by decide +kernel
theorem dL_law_226 : decode cL_law 226 = .ok (.iadd, 1) := by decide +kernel
theorem dL_law_227 : decode cL_law 227 = .ok (.iaload, 1) := by decide +kernel
theorem dL_law_228 : decode cL_law 228 = .ok (.aload_n 0, 1) := by decide +kernel
theorem dL_law_229 : decode cL_law 229 = .ok (.iload_n 3, 1) := by decide +kernel
theorem dL_law_230 : decode cL_law 230 = .ok (.iconst 2, 1) := by decide +kernel
theorem dL_law_231 : decode cL_law 231 = .ok (.iadd, 1) := by decide +kernel
theorem dL_law_232 : decode cL_law 232 = .ok (.iaload, 1) := by decide +kernel
theorem dL_law_233 : decode cL_law 233 = .ok (.invokevirtual 22, 3) := by decide +kernel
theorem dL_law_236 : decode cL_law 236 = .ok (.aload_n 2, 1) := by decide +kernel
theorem dL_law_237 : decode cL_law 237 = .ok (.aload_n 0, 1) := by decide +kernel
theorem dL_law_238 : decode cL_law 238 = .ok (.iload_n 3, 1) := by decide +kernel
theorem dL_law_239 : decode cL_law 239 = .ok (.iconst 1, 1) := by decide +kernel
theorem dL_law_240 : decode cL_law 240 = .ok (.iadd, 1) := by decide +kernel
theorem dL_law_241 : decode cL_law 241 = .ok (.iaload, 1) := by decide +kernel
theorem dL_law_242 : decode cL_law 242 = .ok (.aload_n 0, 1) := by decide +kernel
theorem dL_law_243 : decode cL_law 243 = .ok (.iload_n 3, 1) := by decide +kernel
theorem dL_law_244 : decode cL_law 244 = .ok (.iconst 2, 1) := by decide +kernel
theorem dL_law_245 : decode cL_law 245 = .ok (.iadd, 1) := by decide +kernel
theorem dL_law_246 : decode cL_law 246 = .ok (.iaload, 1) := by decide +kernel
theorem dL_law_247 : decode cL_law 247 = .ok (.invokevirtual 25, 3) := by decide +kernel
theorem dL_law_250 : decode cL_law 250 = .ok (.if_icmp .eq 558, 3) := by decide +kernel
theorem dL_law_253 : decode cL_law 253 = .ok (.iconst 0, 1) := by decide +kernel
theorem dL_law_254 : decode cL_law 254 = .ok (.ireturn, 1) := by decide +kernel
theorem dL_law_255 : decode cL_law 255 = .ok (.aload_n 1, 1) := by decide +kernel
theorem dL_law_256 : decode cL_law 256 = .ok (.invokevirtual 26, 3) := by decide +kernel
theorem dL_law_259 : decode cL_law 259 = .ok (.aload_n 2, 1) := by decide +kernel
theorem dL_law_260 : decode cL_law 260 = .ok (.invokevirtual 30, 3) := by decide +kernel
theorem dL_law_263 : decode cL_law 263 = .ok (.if_icmp .eq 545, 3) := by decide +kernel
theorem dL_law_266 : decode cL_law 266 = .ok (.iconst 0, 1) := by decide +kernel
theorem dL_law_267 : decode cL_law 267 = .ok (.ireturn, 1) := by decide +kernel
theorem dL_law_268 : decode cL_law 268 = .ok (.aload_n 1, 1) := by decide +kernel
theorem dL_law_269 : decode cL_law 269 = .ok (.aload_n 0, 1) := by decide +kernel
theorem dL_law_270 : decode cL_law 270 = .ok (.iload_n 3, 1) := by decide +kernel
theorem dL_law_271 : decode cL_law 271 = .ok (.iconst 1, 1) := by decide +kernel
theorem dL_law_272 : decode cL_law 272 = .ok (.iadd, 1) := by decide +kernel
theorem dL_law_273 : decode cL_law 273 = .ok (.iaload, 1) := by decide +kernel
theorem dL_law_274 : decode cL_law 274 = .ok (.aload_n 0, 1) := by decide +kernel
theorem dL_law_275 : decode cL_law 275 = .ok (.iload_n 3, 1) := by decide +kernel
theorem dL_law_276 : decode cL_law 276 = .ok (.iconst 2, 1) := by decide +kernel
theorem dL_law_277 : decode cL_law 277 = .ok (.iadd, 1) := by decide +kernel
theorem dL_law_278 : decode cL_law 278 = .ok (.iaload, 1) := by decide +kernel
theorem dL_law_279 : decode cL_law 279 = .ok (.invokevirtual 31, 3) := by decide +kernel
theorem dL_law_282 : decode cL_law 282 = .ok (.aload_n 2, 1) := by decide +kernel
theorem dL_law_283 : decode cL_law 283 = .ok (.aload_n 0, 1) := by decide +kernel
theorem dL_law_284 : decode cL_law 284 = .ok (.iload_n 3, 1) := by decide +kernel
theorem dL_law_285 : decode cL_law 285 = .ok (.iconst 1, 1) := by decide +kernel
theorem dL_law_286 : decode cL_law 286 = .ok (.iadd, 1) := by decide +kernel
theorem dL_law_287 : decode cL_law 287 = .ok (.iaload, 1) := by decide +kernel
theorem dL_law_288 : decode cL_law 288 = .ok (.aload_n 0, 1) := by decide +kernel
theorem dL_law_289 : decode cL_law 289 = .ok (.iload_n 3, 1) := by decide +kernel
theorem dL_law_290 : decode cL_law 290 = .ok (.iconst 2, 1) := by decide +kernel
theorem dL_law_291 : decode cL_law 291 = .ok (.iadd, 1) := by decide +kernel
theorem dL_law_292 : decode cL_law 292 = .ok (.iaload, 1) := by decide +kernel
theorem dL_law_293 : decode cL_law 293 = .ok (.invokevirtual 34, 3) := by decide +kernel
theorem dL_law_296 : decode cL_law 296 = .ok (.if_icmp .eq 512, 3) := by decide +kernel
theorem dL_law_299 : decode cL_law 299 = .ok (.iconst 0, 1) := by decide +kernel
theorem dL_law_300 : decode cL_law 300 = .ok (.ireturn, 1) := by decide +kernel
theorem dL_law_301 : decode cL_law 301 = .ok (.aload_n 1, 1) := by decide +kernel
theorem dL_law_302 : decode cL_law 302 = .ok (.aload_n 0, 1) := by decide +kernel
theorem dL_law_303 : decode cL_law 303 = .ok (.iload_n 3, 1) := by decide +kernel
theorem dL_law_304 : decode cL_law 304 = .ok (.iconst 1, 1) := by decide +kernel
theorem dL_law_305 : decode cL_law 305 = .ok (.iadd, 1) := by decide +kernel
theorem dL_law_306 : decode cL_law 306 = .ok (.iaload, 1) := by decide +kernel
theorem dL_law_307 : decode cL_law 307 = .ok (.invokevirtual 35, 3) := by decide +kernel
theorem dL_law_310 : decode cL_law 310 = .ok (.aload_n 2, 1) := by decide +kernel
theorem dL_law_311 : decode cL_law 311 = .ok (.aload_n 0, 1) := by decide +kernel
theorem dL_law_312 : decode cL_law 312 = .ok (.iload_n 3, 1) := by decide +kernel
theorem dL_law_313 : decode cL_law 313 = .ok (.iconst 1, 1) := by decide +kernel
theorem dL_law_314 : decode cL_law 314 = .ok (.iadd, 1) := by decide +kernel
theorem dL_law_315 : decode cL_law 315 = .ok (.iaload, 1) := by decide +kernel
theorem dL_law_316 : decode cL_law 316 = .ok (.invokevirtual 39, 3) := by decide +kernel
theorem dL_law_319 : decode cL_law 319 = .ok (.if_icmp .eq 489, 3) := by decide +kernel
theorem dL_law_322 : decode cL_law 322 = .ok (.iconst 0, 1) := by decide +kernel
theorem dL_law_323 : decode cL_law 323 = .ok (.ireturn, 1) := by decide +kernel
theorem dL_law_324 : decode cL_law 324 = .ok (.aload_n 1, 1) := by decide +kernel
theorem dL_law_325 : decode cL_law 325 = .ok (.aload_n 0, 1) := by decide +kernel
theorem dL_law_326 : decode cL_law 326 = .ok (.iload_n 3, 1) := by decide +kernel
theorem dL_law_327 : decode cL_law 327 = .ok (.iconst 1, 1) := by decide +kernel
theorem dL_law_328 : decode cL_law 328 = .ok (.iadd, 1) := by decide +kernel
theorem dL_law_329 : decode cL_law 329 = .ok (.iaload, 1) := by decide +kernel
theorem dL_law_330 : decode cL_law 330 = .ok (.invokevirtual 40, 3) := by decide +kernel
theorem dL_law_333 : decode cL_law 333 = .ok (.aload_n 2, 1) := by decide +kernel
theorem dL_law_334 : decode cL_law 334 = .ok (.aload_n 0, 1) := by decide +kernel
theorem dL_law_335 : decode cL_law 335 = .ok (.iload_n 3, 1) := by decide +kernel
theorem dL_law_336 : decode cL_law 336 = .ok (.iconst 1, 1) := by decide +kernel
theorem dL_law_337 : decode cL_law 337 = .ok (.iadd, 1) := by decide +kernel
theorem dL_law_338 : decode cL_law 338 = .ok (.iaload, 1) := by decide +kernel
theorem dL_law_339 : decode cL_law 339 = .ok (.invokevirtual 43, 3) := by decide +kernel
theorem dL_law_342 : decode cL_law 342 = .ok (.if_icmp .eq 466, 3) := by decide +kernel
theorem dL_law_345 : decode cL_law 345 = .ok (.iconst 0, 1) := by decide +kernel
theorem dL_law_346 : decode cL_law 346 = .ok (.ireturn, 1) := by decide +kernel
theorem dL_law_347 : decode cL_law 347 = .ok (.aload_n 1, 1) := by decide +kernel
theorem dL_law_348 : decode cL_law 348 = .ok (.aload_n 0, 1) := by decide +kernel
theorem dL_law_349 : decode cL_law 349 = .ok (.iload_n 3, 1) := by decide +kernel
theorem dL_law_350 : decode cL_law 350 = .ok (.iconst 1, 1) := by decide +kernel
theorem dL_law_351 : decode cL_law 351 = .ok (.iadd, 1) := by decide +kernel
theorem dL_law_352 : decode cL_law 352 = .ok (.iaload, 1) := by decide +kernel
theorem dL_law_353 : decode cL_law 353 = .ok (.i2l, 1) := by decide +kernel
theorem dL_law_354 : decode cL_law 354 = .ok (.bipush 32, 2) := by decide +kernel
theorem dL_law_356 : decode cL_law 356 = .ok (.lshl, 1) := by decide +kernel
theorem dL_law_357 : decode cL_law 357 = .ok (.aload_n 0, 1) := by decide +kernel
theorem dL_law_358 : decode cL_law 358 = .ok (.iload_n 3, 1) := by decide +kernel
theorem dL_law_359 : decode cL_law 359 = .ok (.iconst 2, 1) := by decide +kernel
theorem dL_law_360 : decode cL_law 360 = .ok (.iadd, 1) := by decide +kernel
theorem dL_law_361 : decode cL_law 361 = .ok (.iaload, 1) := by decide +kernel
theorem dL_law_362 : decode cL_law 362 = .ok (.i2l, 1) := by decide +kernel
theorem dL_law_363 : decode cL_law 363 = .ok (.ldc2_w 44, 3) := by decide +kernel
theorem dL_law_366 : decode cL_law 366 = .ok (.land, 1) := by decide +kernel
theorem dL_law_367 : decode cL_law 367 = .ok (.lor, 1) := by decide +kernel
theorem dL_law_368 : decode cL_law 368 = .ok (.invokevirtual 46, 3) := by decide +kernel
theorem dL_law_371 : decode cL_law 371 = .ok (.aload_n 2, 1) := by decide +kernel
theorem dL_law_372 : decode cL_law 372 = .ok (.aload_n 0, 1) := by decide +kernel
theorem dL_law_373 : decode cL_law 373 = .ok (.iload_n 3, 1) := by decide +kernel
theorem dL_law_374 : decode cL_law 374 = .ok (.iconst 1, 1) := by decide +kernel
theorem dL_law_375 : decode cL_law 375 = .ok (.iadd, 1) := by decide +kernel
theorem dL_law_376 : decode cL_law 376 = .ok (.iaload, 1) := by decide +kernel
theorem dL_law_377 : decode cL_law 377 = .ok (.i2l, 1) := by decide +kernel
theorem dL_law_378 : decode cL_law 378 = .ok (.bipush 32, 2) := by decide +kernel
theorem dL_law_380 : decode cL_law 380 = .ok (.lshl, 1) := by decide +kernel
theorem dL_law_381 : decode cL_law 381 = .ok (.aload_n 0, 1) := by decide +kernel
theorem dL_law_382 : decode cL_law 382 = .ok (.iload_n 3, 1) := by decide +kernel
theorem dL_law_383 : decode cL_law 383 = .ok (.iconst 2, 1) := by decide +kernel
theorem dL_law_384 : decode cL_law 384 = .ok (.iadd, 1) := by decide +kernel
theorem dL_law_385 : decode cL_law 385 = .ok (.iaload, 1) := by decide +kernel
theorem dL_law_386 : decode cL_law 386 = .ok (.i2l, 1) := by decide +kernel
theorem dL_law_387 : decode cL_law 387 = .ok (.ldc2_w 44, 3) := by decide +kernel
theorem dL_law_390 : decode cL_law 390 = .ok (.land, 1) := by decide +kernel
theorem dL_law_391 : decode cL_law 391 = .ok (.lor, 1) := by decide +kernel
theorem dL_law_392 : decode cL_law 392 = .ok (.invokevirtual 50, 3) := by decide +kernel
theorem dL_law_395 : decode cL_law 395 = .ok (.if_icmp .eq 413, 3) := by decide +kernel
theorem dL_law_398 : decode cL_law 398 = .ok (.iconst 0, 1) := by decide +kernel
theorem dL_law_399 : decode cL_law 399 = .ok (.ireturn, 1) := by decide +kernel
theorem dL_law_400 : decode cL_law 400 = .ok (.aload_n 1, 1) := by decide +kernel
theorem dL_law_401 : decode cL_law 401 = .ok (.invokevirtual 51, 3) := by decide +kernel
theorem dL_law_404 : decode cL_law 404 = .ok (.aload_n 2, 1) := by decide +kernel
theorem dL_law_405 : decode cL_law 405 = .ok (.invokevirtual 54, 3) := by decide +kernel
theorem dL_law_408 : decode cL_law 408 = .ok (.if_icmp .eq 400, 3) := by decide +kernel
theorem dL_law_411 : decode cL_law 411 = .ok (.iconst 0, 1) := by decide +kernel
theorem dL_law_412 : decode cL_law 412 = .ok (.ireturn, 1) := by decide +kernel
theorem dL_law_413 : decode cL_law 413 = .ok (.aload_n 1, 1) := by decide +kernel
theorem dL_law_414 : decode cL_law 414 = .ok (.invokevirtual 55, 3) := by decide +kernel
theorem dL_law_417 : decode cL_law 417 = .ok (.aload_n 2, 1) := by decide +kernel
theorem dL_law_418 : decode cL_law 418 = .ok (.invokevirtual 58, 3) := by decide +kernel
theorem dL_law_421 : decode cL_law 421 = .ok (.if_icmp .eq 387, 3) := by decide +kernel
theorem dL_law_424 : decode cL_law 424 = .ok (.iconst 0, 1) := by decide +kernel
theorem dL_law_425 : decode cL_law 425 = .ok (.ireturn, 1) := by decide +kernel
theorem dL_law_426 : decode cL_law 426 = .ok (.aload_n 1, 1) := by decide +kernel
theorem dL_law_427 : decode cL_law 427 = .ok (.invokevirtual 59, 3) := by decide +kernel
theorem dL_law_430 : decode cL_law 430 = .ok (.aload_n 2, 1) := by decide +kernel
theorem dL_law_431 : decode cL_law 431 = .ok (.invokevirtual 62, 3) := by decide +kernel
theorem dL_law_434 : decode cL_law 434 = .ok (.if_icmp .eq 374, 3) := by decide +kernel
theorem dL_law_437 : decode cL_law 437 = .ok (.iconst 0, 1) := by decide +kernel
theorem dL_law_438 : decode cL_law 438 = .ok (.ireturn, 1) := by decide +kernel
theorem dL_law_439 : decode cL_law 439 = .ok (.aload_n 1, 1) := by decide +kernel
theorem dL_law_440 : decode cL_law 440 = .ok (.aload_n 0, 1) := by decide +kernel
theorem dL_law_441 : decode cL_law 441 = .ok (.iload_n 3, 1) := by decide +kernel
theorem dL_law_442 : decode cL_law 442 = .ok (.iconst 1, 1) := by decide +kernel
theorem dL_law_443 : decode cL_law 443 = .ok (.iadd, 1) := by decide +kernel
theorem dL_law_444 : decode cL_law 444 = .ok (.iaload, 1) := by decide +kernel
theorem dL_law_445 : decode cL_law 445 = .ok (.aload_n 0, 1) := by decide +kernel
theorem dL_law_446 : decode cL_law 446 = .ok (.iload_n 3, 1) := by decide +kernel
theorem dL_law_447 : decode cL_law 447 = .ok (.iconst 2, 1) := by decide +kernel
theorem dL_law_448 : decode cL_law 448 = .ok (.iadd, 1) := by decide +kernel
theorem dL_law_449 : decode cL_law 449 = .ok (.iaload, 1) := by decide +kernel
theorem dL_law_450 : decode cL_law 450 = .ok (.invokevirtual 63, 3) := by decide +kernel
theorem dL_law_453 : decode cL_law 453 = .ok (.aload_n 2, 1) := by decide +kernel
theorem dL_law_454 : decode cL_law 454 = .ok (.aload_n 0, 1) := by decide +kernel
theorem dL_law_455 : decode cL_law 455 = .ok (.iload_n 3, 1) := by decide +kernel
theorem dL_law_456 : decode cL_law 456 = .ok (.iconst 1, 1) := by decide +kernel
theorem dL_law_457 : decode cL_law 457 = .ok (.iadd, 1) := by decide +kernel
theorem dL_law_458 : decode cL_law 458 = .ok (.iaload, 1) := by decide +kernel
theorem dL_law_459 : decode cL_law 459 = .ok (.aload_n 0, 1) := by decide +kernel
theorem dL_law_460 : decode cL_law 460 = .ok (.iload_n 3, 1) := by decide +kernel
theorem dL_law_461 : decode cL_law 461 = .ok (.iconst 2, 1) := by decide +kernel
theorem dL_law_462 : decode cL_law 462 = .ok (.iadd, 1) := by decide +kernel
theorem dL_law_463 : decode cL_law 463 = .ok (.iaload, 1) := by decide +kernel
theorem dL_law_464 : decode cL_law 464 = .ok (.invokevirtual 66, 3) := by decide +kernel
theorem dL_law_467 : decode cL_law 467 = .ok (.if_icmp .eq 341, 3) := by decide +kernel
theorem dL_law_470 : decode cL_law 470 = .ok (.iconst 0, 1) := by decide +kernel
theorem dL_law_471 : decode cL_law 471 = .ok (.ireturn, 1) := by decide +kernel
theorem dL_law_472 : decode cL_law 472 = .ok (.aload_n 1, 1) := by decide +kernel
theorem dL_law_473 : decode cL_law 473 = .ok (.aload_n 0, 1) := by decide +kernel
theorem dL_law_474 : decode cL_law 474 = .ok (.iload_n 3, 1) := by decide +kernel
theorem dL_law_475 : decode cL_law 475 = .ok (.iconst 1, 1) := by decide +kernel
theorem dL_law_476 : decode cL_law 476 = .ok (.iadd, 1) := by decide +kernel
theorem dL_law_477 : decode cL_law 477 = .ok (.iaload, 1) := by decide +kernel
theorem dL_law_478 : decode cL_law 478 = .ok (.aload_n 0, 1) := by decide +kernel
theorem dL_law_479 : decode cL_law 479 = .ok (.iload_n 3, 1) := by decide +kernel
theorem dL_law_480 : decode cL_law 480 = .ok (.iconst 2, 1) := by decide +kernel
theorem dL_law_481 : decode cL_law 481 = .ok (.iadd, 1) := by decide +kernel
theorem dL_law_482 : decode cL_law 482 = .ok (.iaload, 1) := by decide +kernel
theorem dL_law_483 : decode cL_law 483 = .ok (.invokevirtual 67, 3) := by decide +kernel
theorem dL_law_486 : decode cL_law 486 = .ok (.aload_n 2, 1) := by decide +kernel
theorem dL_law_487 : decode cL_law 487 = .ok (.aload_n 0, 1) := by decide +kernel
theorem dL_law_488 : decode cL_law 488 = .ok (.iload_n 3, 1) := by decide +kernel
theorem dL_law_489 : decode cL_law 489 = .ok (.iconst 1, 1) := by decide +kernel
theorem dL_law_490 : decode cL_law 490 = .ok (.iadd, 1) := by decide +kernel
theorem dL_law_491 : decode cL_law 491 = .ok (.iaload, 1) := by decide +kernel
theorem dL_law_492 : decode cL_law 492 = .ok (.aload_n 0, 1) := by decide +kernel
theorem dL_law_493 : decode cL_law 493 = .ok (.iload_n 3, 1) := by decide +kernel
theorem dL_law_494 : decode cL_law 494 = .ok (.iconst 2, 1) := by decide +kernel
theorem dL_law_495 : decode cL_law 495 = .ok (.iadd, 1) := by decide +kernel
theorem dL_law_496 : decode cL_law 496 = .ok (.iaload, 1) := by decide +kernel
theorem dL_law_497 : decode cL_law 497 = .ok (.invokevirtual 70, 3) := by decide +kernel
theorem dL_law_500 : decode cL_law 500 = .ok (.if_icmp .eq 308, 3) := by decide +kernel
theorem dL_law_503 : decode cL_law 503 = .ok (.iconst 0, 1) := by decide +kernel
theorem dL_law_504 : decode cL_law 504 = .ok (.ireturn, 1) := by decide +kernel
theorem dL_law_505 : decode cL_law 505 = .ok (.aload_n 1, 1) := by decide +kernel
theorem dL_law_506 : decode cL_law 506 = .ok (.invokevirtual 71, 3) := by decide +kernel
theorem dL_law_509 : decode cL_law 509 = .ok (.aload_n 2, 1) := by decide +kernel
theorem dL_law_510 : decode cL_law 510 = .ok (.invokevirtual 74, 3) := by decide +kernel
theorem dL_law_513 : decode cL_law 513 = .ok (.if_icmp .eq 295, 3) := by decide +kernel
theorem dL_law_516 : decode cL_law 516 = .ok (.iconst 0, 1) := by decide +kernel
theorem dL_law_517 : decode cL_law 517 = .ok (.ireturn, 1) := by decide +kernel
theorem dL_law_518 : decode cL_law 518 = .ok (.aload_n 1, 1) := by decide +kernel
theorem dL_law_519 : decode cL_law 519 = .ok (.aload_n 0, 1) := by decide +kernel
theorem dL_law_520 : decode cL_law 520 = .ok (.iload_n 3, 1) := by decide +kernel
theorem dL_law_521 : decode cL_law 521 = .ok (.iconst 1, 1) := by decide +kernel
theorem dL_law_522 : decode cL_law 522 = .ok (.iadd, 1) := by decide +kernel
theorem dL_law_523 : decode cL_law 523 = .ok (.iaload, 1) := by decide +kernel
theorem dL_law_524 : decode cL_law 524 = .ok (.aload_n 0, 1) := by decide +kernel
theorem dL_law_525 : decode cL_law 525 = .ok (.iload_n 3, 1) := by decide +kernel
theorem dL_law_526 : decode cL_law 526 = .ok (.iconst 2, 1) := by decide +kernel
theorem dL_law_527 : decode cL_law 527 = .ok (.iadd, 1) := by decide +kernel
theorem dL_law_528 : decode cL_law 528 = .ok (.iaload, 1) := by decide +kernel
theorem dL_law_529 : decode cL_law 529 = .ok (.invokevirtual 75, 3) := by decide +kernel
theorem dL_law_532 : decode cL_law 532 = .ok (.aload_n 2, 1) := by decide +kernel
theorem dL_law_533 : decode cL_law 533 = .ok (.aload_n 0, 1) := by decide +kernel
theorem dL_law_534 : decode cL_law 534 = .ok (.iload_n 3, 1) := by decide +kernel
theorem dL_law_535 : decode cL_law 535 = .ok (.iconst 1, 1) := by decide +kernel
theorem dL_law_536 : decode cL_law 536 = .ok (.iadd, 1) := by decide +kernel
theorem dL_law_537 : decode cL_law 537 = .ok (.iaload, 1) := by decide +kernel
theorem dL_law_538 : decode cL_law 538 = .ok (.aload_n 0, 1) := by decide +kernel
theorem dL_law_539 : decode cL_law 539 = .ok (.iload_n 3, 1) := by decide +kernel
theorem dL_law_540 : decode cL_law 540 = .ok (.iconst 2, 1) := by decide +kernel
theorem dL_law_541 : decode cL_law 541 = .ok (.iadd, 1) := by decide +kernel
theorem dL_law_542 : decode cL_law 542 = .ok (.iaload, 1) := by decide +kernel
theorem dL_law_543 : decode cL_law 543 = .ok (.invokevirtual 78, 3) := by decide +kernel
theorem dL_law_546 : decode cL_law 546 = .ok (.if_icmp .eq 262, 3) := by decide +kernel
theorem dL_law_549 : decode cL_law 549 = .ok (.iconst 0, 1) := by decide +kernel
theorem dL_law_550 : decode cL_law 550 = .ok (.ireturn, 1) := by decide +kernel
theorem dL_law_551 : decode cL_law 551 = .ok (.aload_n 1, 1) := by decide +kernel
theorem dL_law_552 : decode cL_law 552 = .ok (.aload_n 0, 1) := by decide +kernel
theorem dL_law_553 : decode cL_law 553 = .ok (.iload_n 3, 1) := by decide +kernel
theorem dL_law_554 : decode cL_law 554 = .ok (.iconst 1, 1) := by decide +kernel
theorem dL_law_555 : decode cL_law 555 = .ok (.iadd, 1) := by decide +kernel
theorem dL_law_556 : decode cL_law 556 = .ok (.iaload, 1) := by decide +kernel
theorem dL_law_557 : decode cL_law 557 = .ok (.invokevirtual 79, 3) := by decide +kernel
theorem dL_law_560 : decode cL_law 560 = .ok (.aload_n 2, 1) := by decide +kernel
theorem dL_law_561 : decode cL_law 561 = .ok (.aload_n 0, 1) := by decide +kernel
theorem dL_law_562 : decode cL_law 562 = .ok (.iload_n 3, 1) := by decide +kernel
theorem dL_law_563 : decode cL_law 563 = .ok (.iconst 1, 1) := by decide +kernel
theorem dL_law_564 : decode cL_law 564 = .ok (.iadd, 1) := by decide +kernel
theorem dL_law_565 : decode cL_law 565 = .ok (.iaload, 1) := by decide +kernel
theorem dL_law_566 : decode cL_law 566 = .ok (.invokevirtual 82, 3) := by decide +kernel
theorem dL_law_569 : decode cL_law 569 = .ok (.if_icmp .eq 239, 3) := by decide +kernel
theorem dL_law_572 : decode cL_law 572 = .ok (.iconst 0, 1) := by decide +kernel
theorem dL_law_573 : decode cL_law 573 = .ok (.ireturn, 1) := by decide +kernel
theorem dL_law_574 : decode cL_law 574 = .ok (.aload_n 1, 1) := by decide +kernel
theorem dL_law_575 : decode cL_law 575 = .ok (.aload_n 0, 1) := by decide +kernel
theorem dL_law_576 : decode cL_law 576 = .ok (.iload_n 3, 1) := by decide +kernel
theorem dL_law_577 : decode cL_law 577 = .ok (.iconst 1, 1) := by decide +kernel
theorem dL_law_578 : decode cL_law 578 = .ok (.iadd, 1) := by decide +kernel
theorem dL_law_579 : decode cL_law 579 = .ok (.iaload, 1) := by decide +kernel
theorem dL_law_580 : decode cL_law 580 = .ok (.aload_n 0, 1) := by decide +kernel
theorem dL_law_581 : decode cL_law 581 = .ok (.iload_n 3, 1) := by decide +kernel
theorem dL_law_582 : decode cL_law 582 = .ok (.iconst 2, 1) := by decide +kernel
theorem dL_law_583 : decode cL_law 583 = .ok (.iadd, 1) := by decide +kernel
theorem dL_law_584 : decode cL_law 584 = .ok (.iaload, 1) := by decide +kernel
theorem dL_law_585 : decode cL_law 585 = .ok (.aload_n 0, 1) := by decide +kernel
theorem dL_law_586 : decode cL_law 586 = .ok (.iload_n 3, 1) := by decide +kernel
theorem dL_law_587 : decode cL_law 587 = .ok (.iconst 3, 1) := by decide +kernel
theorem dL_law_588 : decode cL_law 588 = .ok (.iadd, 1) := by decide +kernel
theorem dL_law_589 : decode cL_law 589 = .ok (.iaload, 1) := by decide +kernel
theorem dL_law_590 : decode cL_law 590 = .ok (.invokevirtual 83, 3) := by decide +kernel
theorem dL_law_593 : decode cL_law 593 = .ok (.aload_n 2, 1) := by decide +kernel
theorem dL_law_594 : decode cL_law 594 = .ok (.aload_n 0, 1) := by decide +kernel
theorem dL_law_595 : decode cL_law 595 = .ok (.iload_n 3, 1) := by decide +kernel
theorem dL_law_596 : decode cL_law 596 = .ok (.iconst 1, 1) := by decide +kernel
theorem dL_law_597 : decode cL_law 597 = .ok (.iadd, 1) := by decide +kernel
theorem dL_law_598 : decode cL_law 598 = .ok (.iaload, 1) := by decide +kernel
theorem dL_law_599 : decode cL_law 599 = .ok (.aload_n 0, 1) := by decide +kernel
theorem dL_law_600 : decode cL_law 600 = .ok (.iload_n 3, 1) := by decide +kernel
theorem dL_law_601 : decode cL_law 601 = .ok (.iconst 2, 1) := by decide +kernel
theorem dL_law_602 : decode cL_law 602 = .ok (.iadd, 1) := by decide +kernel
theorem dL_law_603 : decode cL_law 603 = .ok (.iaload, 1) := by decide +kernel
theorem dL_law_604 : decode cL_law 604 = .ok (.aload_n 0, 1) := by decide +kernel
theorem dL_law_605 : decode cL_law 605 = .ok (.iload_n 3, 1) := by decide +kernel
theorem dL_law_606 : decode cL_law 606 = .ok (.iconst 3, 1) := by decide +kernel
theorem dL_law_607 : decode cL_law 607 = .ok (.iadd, 1) := by decide +kernel
theorem dL_law_608 : decode cL_law 608 = .ok (.iaload, 1) := by decide +kernel
theorem dL_law_609 : decode cL_law 609 = .ok (.invokevirtual 87, 3) := by decide +kernel
theorem dL_law_612 : decode cL_law 612 = .ok (.if_icmp .eq 196, 3) := by decide +kernel
theorem dL_law_615 : decode cL_law 615 = .ok (.iconst 0, 1) := by decide +kernel
theorem dL_law_616 : decode cL_law 616 = .ok (.ireturn, 1) := by decide +kernel
theorem dL_law_617 : decode cL_law 617 = .ok (.aload_n 1, 1) := by decide +kernel
theorem dL_law_618 : decode cL_law 618 = .ok (.aload_n 0, 1) := by decide +kernel
theorem dL_law_619 : decode cL_law 619 = .ok (.iload_n 3, 1) := by decide +kernel
theorem dL_law_620 : decode cL_law 620 = .ok (.iconst 1, 1) := by decide +kernel
theorem dL_law_621 : decode cL_law 621 = .ok (.iadd, 1) := by decide +kernel
theorem dL_law_622 : decode cL_law 622 = .ok (.iaload, 1) := by decide +kernel
theorem dL_law_623 : decode cL_law 623 = .ok (.invokevirtual 88, 3) := by decide +kernel
theorem dL_law_626 : decode cL_law 626 = .ok (.aload_n 2, 1) := by decide +kernel
theorem dL_law_627 : decode cL_law 627 = .ok (.aload_n 0, 1) := by decide +kernel
theorem dL_law_628 : decode cL_law 628 = .ok (.iload_n 3, 1) := by decide +kernel
theorem dL_law_629 : decode cL_law 629 = .ok (.iconst 1, 1) := by decide +kernel
theorem dL_law_630 : decode cL_law 630 = .ok (.iadd, 1) := by decide +kernel
theorem dL_law_631 : decode cL_law 631 = .ok (.iaload, 1) := by decide +kernel
theorem dL_law_632 : decode cL_law 632 = .ok (.invokevirtual 91, 3) := by decide +kernel
theorem dL_law_635 : decode cL_law 635 = .ok (.if_icmp .eq 173, 3) := by decide +kernel
theorem dL_law_638 : decode cL_law 638 = .ok (.iconst 0, 1) := by decide +kernel
theorem dL_law_639 : decode cL_law 639 = .ok (.ireturn, 1) := by decide +kernel
theorem dL_law_640 : decode cL_law 640 = .ok (.aload_n 1, 1) := by decide +kernel
theorem dL_law_641 : decode cL_law 641 = .ok (.aload_n 0, 1) := by decide +kernel
theorem dL_law_642 : decode cL_law 642 = .ok (.iload_n 3, 1) := by decide +kernel
theorem dL_law_643 : decode cL_law 643 = .ok (.iconst 1, 1) := by decide +kernel
theorem dL_law_644 : decode cL_law 644 = .ok (.iadd, 1) := by decide +kernel
theorem dL_law_645 : decode cL_law 645 = .ok (.iaload, 1) := by decide +kernel
theorem dL_law_646 : decode cL_law 646 = .ok (.invokevirtual 92, 3) := by decide +kernel
theorem dL_law_649 : decode cL_law 649 = .ok (.aload_n 2, 1) := by decide +kernel
theorem dL_law_650 : decode cL_law 650 = .ok (.aload_n 0, 1) := by decide +kernel
theorem dL_law_651 : decode cL_law 651 = .ok (.iload_n 3, 1) := by decide +kernel
theorem dL_law_652 : decode cL_law 652 = .ok (.iconst 1, 1) := by decide +kernel
theorem dL_law_653 : decode cL_law 653 = .ok (.iadd, 1) := by decide +kernel
theorem dL_law_654 : decode cL_law 654 = .ok (.iaload, 1) := by decide +kernel
theorem dL_law_655 : decode cL_law 655 = .ok (.invokevirtual 95, 3) := by decide +kernel
theorem dL_law_658 : decode cL_law 658 = .ok (.if_icmp .eq 150, 3) := by decide +kernel
theorem dL_law_661 : decode cL_law 661 = .ok (.iconst 0, 1) := by decide +kernel
theorem dL_law_662 : decode cL_law 662 = .ok (.ireturn, 1) := by decide +kernel
theorem dL_law_663 : decode cL_law 663 = .ok (.aload_n 1, 1) := by decide +kernel
theorem dL_law_664 : decode cL_law 664 = .ok (.aload_n 0, 1) := by decide +kernel
theorem dL_law_665 : decode cL_law 665 = .ok (.iload_n 3, 1) := by decide +kernel
theorem dL_law_666 : decode cL_law 666 = .ok (.iconst 1, 1) := by decide +kernel
theorem dL_law_667 : decode cL_law 667 = .ok (.iadd, 1) := by decide +kernel
theorem dL_law_668 : decode cL_law 668 = .ok (.iaload, 1) := by decide +kernel
theorem dL_law_669 : decode cL_law 669 = .ok (.invokevirtual 96, 3) := by decide +kernel
theorem dL_law_672 : decode cL_law 672 = .ok (.aload_n 2, 1) := by decide +kernel
theorem dL_law_673 : decode cL_law 673 = .ok (.aload_n 0, 1) := by decide +kernel
theorem dL_law_674 : decode cL_law 674 = .ok (.iload_n 3, 1) := by decide +kernel
theorem dL_law_675 : decode cL_law 675 = .ok (.iconst 1, 1) := by decide +kernel
theorem dL_law_676 : decode cL_law 676 = .ok (.iadd, 1) := by decide +kernel
theorem dL_law_677 : decode cL_law 677 = .ok (.iaload, 1) := by decide +kernel
theorem dL_law_678 : decode cL_law 678 = .ok (.invokevirtual 99, 3) := by decide +kernel
theorem dL_law_681 : decode cL_law 681 = .ok (.if_icmp .eq 127, 3) := by decide +kernel
theorem dL_law_684 : decode cL_law 684 = .ok (.iconst 0, 1) := by decide +kernel
theorem dL_law_685 : decode cL_law 685 = .ok (.ireturn, 1) := by decide +kernel
theorem dL_law_686 : decode cL_law 686 = .ok (.aload_n 1, 1) := by decide +kernel
theorem dL_law_687 : decode cL_law 687 = .ok (.invokevirtual 100, 3) := by decide +kernel
theorem dL_law_690 : decode cL_law 690 = .ok (.aload_n 2, 1) := by decide +kernel
theorem dL_law_691 : decode cL_law 691 = .ok (.invokevirtual 103, 3) := by decide +kernel
theorem dL_law_694 : decode cL_law 694 = .ok (.if_icmp .eq 114, 3) := by decide +kernel
theorem dL_law_697 : decode cL_law 697 = .ok (.iconst 0, 1) := by decide +kernel
theorem dL_law_698 : decode cL_law 698 = .ok (.ireturn, 1) := by decide +kernel
theorem dL_law_699 : decode cL_law 699 = .ok (.aload_n 1, 1) := by decide +kernel
theorem dL_law_700 : decode cL_law 700 = .ok (.aload_n 0, 1) := by decide +kernel
theorem dL_law_701 : decode cL_law 701 = .ok (.iload_n 3, 1) := by decide +kernel
theorem dL_law_702 : decode cL_law 702 = .ok (.iconst 1, 1) := by decide +kernel
theorem dL_law_703 : decode cL_law 703 = .ok (.iadd, 1) := by decide +kernel
theorem dL_law_704 : decode cL_law 704 = .ok (.iaload, 1) := by decide +kernel
theorem dL_law_705 : decode cL_law 705 = .ok (.invokevirtual 104, 3) := by decide +kernel
theorem dL_law_708 : decode cL_law 708 = .ok (.aload_n 2, 1) := by decide +kernel
theorem dL_law_709 : decode cL_law 709 = .ok (.aload_n 0, 1) := by decide +kernel
theorem dL_law_710 : decode cL_law 710 = .ok (.iload_n 3, 1) := by decide +kernel
theorem dL_law_711 : decode cL_law 711 = .ok (.iconst 1, 1) := by decide +kernel
theorem dL_law_712 : decode cL_law 712 = .ok (.iadd, 1) := by decide +kernel
theorem dL_law_713 : decode cL_law 713 = .ok (.iaload, 1) := by decide +kernel
theorem dL_law_714 : decode cL_law 714 = .ok (.invokevirtual 107, 3) := by decide +kernel
theorem dL_law_717 : decode cL_law 717 = .ok (.if_icmp .eq 91, 3) := by decide +kernel
theorem dL_law_720 : decode cL_law 720 = .ok (.iconst 0, 1) := by decide +kernel
theorem dL_law_721 : decode cL_law 721 = .ok (.ireturn, 1) := by decide +kernel
theorem dL_law_722 : decode cL_law 722 = .ok (.aload_n 1, 1) := by decide +kernel
theorem dL_law_723 : decode cL_law 723 = .ok (.aload_n 0, 1) := by decide +kernel
theorem dL_law_724 : decode cL_law 724 = .ok (.iload_n 3, 1) := by decide +kernel
end
section
theorem dL_law_725 : decode cL_law 725 = .ok (.iconst 1, 1) := by decide +kernel
theorem dL_law_726 : decode cL_law 726 = .ok (.iadd, 1) := by decide +kernel
theorem dL_law_727 : decode cL_law 727 = .ok (.iaload, 1) := by decide +kernel
theorem dL_law_728 : decode cL_law 728 = .ok (.invokevirtual 108, 3) := by decide +kernel
theorem dL_law_731 : decode cL_law 731 = .ok (.aload_n 2, 1) := by decide +kernel
theorem dL_law_732 : decode cL_law 732 = .ok (.aload_n 0, 1) := by decide +kernel
theorem dL_law_733 : decode cL_law 733 = .ok (.iload_n 3, 1) := by decide +kernel
theorem dL_law_734 : decode cL_law 734 = .ok (.iconst 1, 1) := by decide +kernel
theorem dL_law_735 : decode cL_law 735 = .ok (.iadd, 1) := by decide +kernel
theorem dL_law_736 : decode cL_law 736 = .ok (.iaload, 1) := by decide +kernel
theorem dL_law_737 : decode cL_law 737 = .ok (.invokevirtual 111, 3) := by decide +kernel
theorem dL_law_740 : decode cL_law 740 = .ok (.if_icmp .eq 68, 3) := by decide +kernel
theorem dL_law_743 : decode cL_law 743 = .ok (.iconst 0, 1) := by decide +kernel
theorem dL_law_744 : decode cL_law 744 = .ok (.ireturn, 1) := by decide +kernel
theorem dL_law_745 : decode cL_law 745 = .ok (.aload_n 1, 1) := by decide +kernel
theorem dL_law_746 : decode cL_law 746 = .ok (.invokevirtual 112, 3) := by decide +kernel
theorem dL_law_749 : decode cL_law 749 = .ok (.aload_n 2, 1) := by decide +kernel
theorem dL_law_750 : decode cL_law 750 = .ok (.invokevirtual 115, 3) := by decide +kernel
theorem dL_law_753 : decode cL_law 753 = .ok (.if_icmp .eq 55, 3) := by decide +kernel
theorem dL_law_756 : decode cL_law 756 = .ok (.iconst 0, 1) := by decide +kernel
theorem dL_law_757 : decode cL_law 757 = .ok (.ireturn, 1) := by decide +kernel
theorem dL_law_758 : decode cL_law 758 = .ok (.aload_n 1, 1) := by decide +kernel
theorem dL_law_759 : decode cL_law 759 = .ok (.invokevirtual 116, 3) := by decide +kernel
theorem dL_law_762 : decode cL_law 762 = .ok (.aload_n 2, 1) := by decide +kernel
theorem dL_law_763 : decode cL_law 763 = .ok (.invokevirtual 119, 3) := by decide +kernel
theorem dL_law_766 : decode cL_law 766 = .ok (.if_icmp .eq 42, 3) := by decide +kernel
theorem dL_law_769 : decode cL_law 769 = .ok (.iconst 0, 1) := by decide +kernel
theorem dL_law_770 : decode cL_law 770 = .ok (.ireturn, 1) := by decide +kernel
theorem dL_law_771 : decode cL_law 771 = .ok (.aload_n 1, 1) := by decide +kernel
theorem dL_law_772 : decode cL_law 772 = .ok (.aload_n 0, 1) := by decide +kernel
theorem dL_law_773 : decode cL_law 773 = .ok (.iload_n 3, 1) := by decide +kernel
theorem dL_law_774 : decode cL_law 774 = .ok (.iconst 1, 1) := by decide +kernel
theorem dL_law_775 : decode cL_law 775 = .ok (.iadd, 1) := by decide +kernel
theorem dL_law_776 : decode cL_law 776 = .ok (.iaload, 1) := by decide +kernel
theorem dL_law_777 : decode cL_law 777 = .ok (.invokevirtual 120, 3) := by decide +kernel
theorem dL_law_780 : decode cL_law 780 = .ok (.aload_n 2, 1) := by decide +kernel
theorem dL_law_781 : decode cL_law 781 = .ok (.aload_n 0, 1) := by decide +kernel
theorem dL_law_782 : decode cL_law 782 = .ok (.iload_n 3, 1) := by decide +kernel
theorem dL_law_783 : decode cL_law 783 = .ok (.iconst 1, 1) := by decide +kernel
theorem dL_law_784 : decode cL_law 784 = .ok (.iadd, 1) := by decide +kernel
theorem dL_law_785 : decode cL_law 785 = .ok (.iaload, 1) := by decide +kernel
theorem dL_law_786 : decode cL_law 786 = .ok (.invokevirtual 123, 3) := by decide +kernel
theorem dL_law_789 : decode cL_law 789 = .ok (.if_icmp .eq 19, 3) := by decide +kernel
theorem dL_law_792 : decode cL_law 792 = .ok (.iconst 0, 1) := by decide +kernel
theorem dL_law_793 : decode cL_law 793 = .ok (.ireturn, 1) := by decide +kernel
theorem dL_law_794 : decode cL_law 794 = .ok (.aload_n 1, 1) := by decide +kernel
theorem dL_law_795 : decode cL_law 795 = .ok (.invokevirtual 124, 3) := by decide +kernel
theorem dL_law_798 : decode cL_law 798 = .ok (.aload_n 2, 1) := by decide +kernel
theorem dL_law_799 : decode cL_law 799 = .ok (.invokevirtual 128, 3) := by decide +kernel
theorem dL_law_802 : decode cL_law 802 = .ok (.lcmp, 1) := by decide +kernel
theorem dL_law_803 : decode cL_law 803 = .ok (.ifCond .eq 5, 3) := by decide +kernel
theorem dL_law_806 : decode cL_law 806 = .ok (.iconst 0, 1) := by decide +kernel
theorem dL_law_807 : decode cL_law 807 = .ok (.ireturn, 1) := by decide +kernel
theorem dL_law_808 : decode cL_law 808 = .ok (.iinc 3 4, 3) := by decide +kernel
theorem dL_law_811 : decode cL_law 811 = .ok (.goto (-793), 3) := by decide +kernel
theorem dL_law_814 : decode cL_law 814 = .ok (.iconst 1, 1) := by decide +kernel
theorem dL_law_815 : decode cL_law 815 = .ok (.ireturn, 1) := by decide +kernel
end
section
/-! the table's good words; worlds by places; the judgement V -/
def tb : List Cond := lw_tbl.filter goodWord
theorem tb_mem {w : Cond} (i : Nat) (h : lw_tbl[i]? = some w) (hg : goodWord w = true) : w ∈ tb := List.mem_filter.mpr ⟨List.mem_of_getElem? h, hg⟩
theorem tb_good {w : Cond} (h : w ∈ tb) : goodWord w = true := (List.mem_filter.mp h).2
theorem tb_hts {args : Array Value} {s : State} (h : ∀ w ∈ lw_tbl, w.before args s = true) : ∀ w ∈ tb, w.before args s = true := fun w hw => h w (List.mem_filter.mp hw).1
theorem tb_goodIn {w : Cond} (h : w ∈ tb) : GoodIn tb (w :: tb) := fun w' hw' => by
  rcases List.mem_cons.mp hw' with rfl | h'
  · exact ⟨h, good_of_word (tb_good h)⟩
  · exact ⟨h', good_of_word (tb_good h')⟩
abbrev CE : Type := (Nat × (Nat → Int32)) ⊕ (List (Option Nat)) ⊕ (Nat × List Value)
abbrev iA (n : Nat) (f : Nat → Int32) : CE := Sum.inl (n, f)
abbrev rA (xs : List (Option Nat)) : CE := Sum.inr (Sum.inl xs)
abbrev oB (ci : Nat) (fs : List Value) : CE := Sum.inr (Sum.inr (ci, fs))
abbrev GX : Type := va_G × ClassId × ClassId × Nat
def kP : Nat := 1000000
def cv (ad : Nat → Nat) : Value → Value
  | .ref k => .ref (ad k)
  | v => v
def cE (G : GX) (ad : Nat → Nat) : CE → va_E
  | .inl a => .inl (G.2.1, a.1, .inl a.2)
  | .inr (.inl xs) => .inl (G.2.2.1, xs.length, .inr (.inr (.inr (.inr (fun i => (xs.getD i none).map ad)))))
  | .inr (.inr q) => .inr (q.1, q.2.map (cv ad))
def cw (G : GX) (ad : Nat → Nat) (ws : List CE) : va_W := ws.mapIdx (fun k e => (ad k, cE G ad e))
theorem cw_at (G : GX) (ad : Nat → Nat) (ws : List CE) (k : Nat) : (cw G ad ws)[k]? = (ws[k]?).map (fun e => (ad k, cE G ad e)) := by simp [cw]
theorem cw_get {G : GX} {ad : Nat → Nat} {ws : List CE} {k : Nat} {e : CE} (h : ws[k]? = some e) : (cw G ad ws)[k]? = some (ad k, cE G ad e) := by rw [cw_at, h]; rfl
theorem cw_set (G : GX) (ad : Nat → Nat) (ws : List CE) (k : Nat) (e : CE) : (cw G ad ws).set k (ad k, cE G ad e) = cw G ad (ws.set k e) := by
  apply List.ext_getElem?
  intro i
  rw [cw_at, List.getElem?_set, List.getElem?_set, cw_at]
  by_cases h : k = i
  · subst h
    have hl : (cw G ad ws).length = ws.length := by simp [cw]
    rw [hl, if_pos rfl, if_pos rfl]
    by_cases h2 : k < ws.length
    · rw [if_pos h2, if_pos h2]; rfl
    · rw [if_neg h2, if_neg h2]; rfl
  · rw [if_neg h, if_neg h]
def lvp (ad : Nat → Nat) : Nat → List (Option Value) → List (Nat × Value)
  | _, [] => []
  | i, none :: r => lvp ad (i + 1) r
  | i, some v :: r => (i, cv ad v) :: lvp ad (i + 1) r
theorem lvp_mem {ad : Nat → Nat} {q : Nat × Value} : ∀ {lv : List (Option Value)} {i : Nat}, q ∈ lvp ad i lv ↔ ∃ k v, lv[k]? = some (some v) ∧ q = (i + k, cv ad v)
  | [], i => by simp [lvp]
  | none :: r, i => by
    rw [lvp, lvp_mem]
    constructor
    · rintro ⟨k, v, h, rfl⟩
      exact ⟨k + 1, v, by simpa using h, by rw [show i + (k + 1) = i + 1 + k by omega]⟩
    · rintro ⟨k, v, h, rfl⟩
      cases k with
      | zero => simp at h
      | succ k => exact ⟨k, v, by simpa using h, by rw [show i + (k + 1) = i + 1 + k by omega]⟩
  | some w :: r, i => by
    rw [lvp, List.mem_cons, lvp_mem]
    constructor
    · rintro (rfl | ⟨k, v, h, rfl⟩)
      · exact ⟨0, w, by simp, rfl⟩
      · exact ⟨k + 1, v, by simpa using h, by rw [show i + (k + 1) = i + 1 + k by omega]⟩
    · rintro ⟨k, v, h, rfl⟩
      cases k with
      | zero => left; simp at h; rw [h]; rfl
      | succ k => right; exact ⟨k, v, by simpa using h, by rw [show i + (k + 1) = i + 1 + k by omega]⟩
def lvh (ad : Nat → Nat) (ls : Array Slot) (nL : Nat) (lv : List (Option Value)) : Prop := lv_has ls nL (lvp ad 0 lv) ∧ lv.length = nL
theorem lvh_at {ad : Nat → Nat} {ls : Array Slot} {nL : Nat} {lv : List (Option Value)} (h : lvh ad ls nL lv) {k : Nat} {v : Value} (hk : lv[k]? = some (some v)) : ls[k]? = some (.val (cv ad v)) :=
  h.1.2.2 (k, cv ad v) (lvp_mem.mpr ⟨k, v, hk, by rw [Nat.zero_add]⟩)
def noL (lv : List (Option Value)) : Nat → Bool
  | 0 => true
  | i + 1 => match lv[i]? with
    | some (some v) => v.category != 2
    | _ => true
theorem cv_cat (ad : Nat → Nat) (v : Value) : (cv ad v).category = v.category := by cases v <;> rfl
theorem noL_at {ad : Nat → Nat} {lv : List (Option Value)} {i k : Nat} {v : Value} (hn : noL lv i = true) (hk : lv[k]? = some (some v)) (e : k + 1 = i) : ¬ (cv ad v).category = 2 := by
  subst e
  rw [cv_cat]
  simpa [noL, hk] using hn
theorem lvh_st1 {ad : Nat → Nat} {ls : Array Slot} {nL : Nat} {lv : List (Option Value)} {i : Nat} {v : Value} (h0 : lv.length = nL) (hi : i < nL) (hn : noL lv i = true) (h : lv_has ls nL ((i, cv ad v) :: (lvp ad 0 lv).filter (fun q => !(q.1 == i) && !(q.1 + 1 == i && q.2.category == 2)))) : lvh ad ls nL (lv.set i (some v)) := by
  refine ⟨⟨h.1, h.2.1, fun q hq => ?_⟩, by simp [h0]⟩
  obtain ⟨k, w, hk, rfl⟩ := lvp_mem.mp hq
  rw [Nat.zero_add]
  by_cases e : i = k
  · subst e
    rw [List.getElem?_set_self (by omega)] at hk
    cases hk
    exact h.2.2 _ List.mem_cons_self
  · rw [List.getElem?_set_ne e] at hk
    refine h.2.2 (k, cv ad w) (List.mem_cons_of_mem _ (List.mem_filter.mpr ⟨lvp_mem.mpr ⟨k, w, hk, by rw [Nat.zero_add]⟩, ?_⟩))
    by_cases e2 : k + 1 = i
    · have := noL_at (ad := ad) hn hk e2
      simp [e2, this, Ne.symm e]
    · simp [e2, Ne.symm e]
theorem lvh_st2 {ad : Nat → Nat} {ls : Array Slot} {nL : Nat} {lv : List (Option Value)} {i : Nat} {v : Value} (h0 : lv.length = nL) (hi : i < nL) (hn : noL lv i = true) (h : lv_has ls nL ((i, cv ad v) :: (lvp ad 0 lv).filter (fun q => !(q.1 == i) && (!(q.1 == i + 1) && !(q.1 + 1 == i && q.2.category == 2))))) : lvh ad ls nL ((lv.set i (some v)).set (i + 1) none) := by
  refine ⟨⟨h.1, h.2.1, fun q hq => ?_⟩, by simp [h0]⟩
  obtain ⟨k, w, hk, rfl⟩ := lvp_mem.mp hq
  rw [Nat.zero_add]
  by_cases e1 : i + 1 = k
  · subst e1
    rw [List.getElem?_set] at hk
    simp at hk
  rw [List.getElem?_set_ne e1] at hk
  by_cases e : i = k
  · subst e
    rw [List.getElem?_set_self (by omega)] at hk
    cases hk
    exact h.2.2 _ List.mem_cons_self
  · rw [List.getElem?_set_ne e] at hk
    refine h.2.2 (k, cv ad w) (List.mem_cons_of_mem _ (List.mem_filter.mpr ⟨lvp_mem.mpr ⟨k, w, hk, by rw [Nat.zero_add]⟩, ?_⟩))
    by_cases e2 : k + 1 = i
    · have := noL_at (ad := ad) hn hk e2
      simp [e2, this, Ne.symm e, Ne.symm e1]
    · simp [e2, Ne.symm e, Ne.symm e1]
abbrev tysG (G : GX) : List (ClassId × FieldType) := [(G.2.1, .int), (G.2.2.1, .object "LikeLastYears$Feature")]
def ncT : List (String × String) := [("LikeLastYears$Beard", "LikeLastYears$Crown"), ("LikeLastYears$Beard", "LikeLastYears$Hair"), ("LikeLastYears$Beard", "LikeLastYears$Scar"), ("LikeLastYears$Crown", "LikeLastYears$Beard"), ("LikeLastYears$Crown", "LikeLastYears$Hair"), ("LikeLastYears$Feature", "LikeLastYears$Beard"), ("LikeLastYears$Feature", "LikeLastYears$Crown"), ("LikeLastYears$Feature", "LikeLastYears$Hair"), ("LikeLastYears$Feature", "LikeLastYears$Scar"), ("LikeLastYears$Hair", "LikeLastYears$Beard"), ("LikeLastYears$Hair", "LikeLastYears$Crown"), ("LikeLastYears$Hair", "LikeLastYears$Scar"), ("LikeLastYears$Scar", "LikeLastYears$Beard"), ("LikeLastYears$Scar", "LikeLastYears$Crown"), ("LikeLastYears$Scar", "LikeLastYears$Hair")]
def pwV (j : Nat) : Value := .int (nI (10 ^ j))
def isNst : Cond → Bool
  | .fieldLinkNest .. => true
  | .methodLinkNest .. => true
  | .castable .. => true
  | _ => false
def nst : List Cond := lw_tbl.filter isNst
theorem nst_mem {w : Cond} (i : Nat) (h : lw_tbl[i]? = some w) (hg : isNst w = true) : w ∈ nst := List.mem_filter.mpr ⟨List.mem_of_getElem? h, hg⟩
theorem nst_tab {w : Cond} (h : w ∈ nst) : w.onTables = true := by
  have := (List.mem_filter.mp h).2
  cases w <;> first | rfl | cases this
theorem nst_warm {w : Cond} (h : w ∈ nst) {s U : State} (hW : s.WarmedH U.vm) (hZ : va_Nw w s) : va_Nw w U := by
  have := (List.mem_filter.mp h).2
  cases w <;> first | exact va_Nw.warmF hW hZ | exact va_Nw.warmM hW hZ | exact va_Nw.warmC hW hZ | cases this
def SX (G : GX) (A : Nat → Prop) (U : State) (H : Heap) : Prop := va_Z "LikeLastYears" "POWER" "[I" (.ref G.2.2.2) A U H ∧ va_T .int G.2.2.2 5 pwV A U H ∧ (∀ q ∈ ncT, va_Nc q.1 q.2 U) ∧ (∀ w ∈ nst, va_Nw w U) ∧ va_AO "LikeLastYears$Feature" U
theorem SX.warm {G : GX} {A : Nat → Prop} {u U : State} {H : Heap} (hW : u.WarmedH U.vm) (h : SX G A u H) : SX G A U H := ⟨h.1.moved hW.alike, h.2.1.moved hW.alike, fun q hq => va_Nc.moved hW.alike (h.2.2.1 q hq), fun w hw => nst_warm hw hW (h.2.2.2.1 w hw), h.2.2.2.2.moved hW.alike⟩
theorem SX.same {G : GX} {A : Nat → Prop} {u U : State} {H : Heap} (hv : u.vm = U.vm) (h : SX G A u H) : SX G A U H := ⟨h.1.moved (hv ▸ Vm.Alike.refl _), h.2.1.moved (hv ▸ Vm.Alike.refl _), fun q hq => va_Nc.moved (hv ▸ Vm.Alike.refl _) (h.2.2.1 q hq), fun w hw => va_Nw.same (nst_tab hw) hv (h.2.2.2.1 w hw), h.2.2.2.2.moved (hv ▸ Vm.Alike.refl _)⟩
theorem SX.kept {G : GX} {A : Nat → Prop} {U : State} {H H1 : Heap} (h : SX G A U H) (hq : ∀ a : Nat, a < H.size → ¬ A a → H1[a]? = H[a]?) : SX G A U H1 := ⟨h.1.kept hq, h.2.1.kept hq, h.2.2⟩
theorem SX.narrow {G : GX} {A B : Nat → Prop} {U : State} {H : Heap} (h : SX G A U H) (hAB : ∀ q, B q → A q) : SX G B U H := ⟨h.1.narrow hAB, h.2.1.narrow hAB, h.2.2⟩
def CX (p : Program) (s : State) (m : MethodId) (args : Array Value) (meth : Method) (c : Code) (cc : ByteArray) (nL : Nat) (y : MethodName) (ret : Option FieldType) (G : GX) (A : Nat → Prop) : Prop :=
  CallFix p m c cc nL s args tb y.cls ∧ va_K G.1 vwCl (tysG G) s ∧ (∀ q : Nat, s.heap.size ≤ q → A q) ∧ SX G A s s.heap ∧ meth.locks = false ∧ meth.sig.returnType = ret ∧ meth.name = y.name
def V (p : Program) (l : Launch) (e : Env) (R : Room) (s : State) (m : MethodId) (args : Array Value) (below : List Frame) (meth : Method) (c : Code) (cells slots : Nat) (Q : State → Prop) (G : GX) (A : Nat → Prop) (nL : Nat) (ad : Nat → Nat) (ws : List CE) (pc : Nat) (lv : List (Option Value)) (st : List Value) : Prop :=
  ∀ (H : Heap) (locs : List Loc) (ls : Array Slot), va_P G.1 vwCl (cw G ad ws) H → va_D A (cw G ad ws) → va_S A s.heap H locs → lvh ad ls nL lv → W p l e R s m args below meth c H locs cells slots Q (F0 m pc ls (st.map (cv ad)))
section VV
variable {p : Program} {l : Launch} {e : Env} {R : Room} {s : State} {m : MethodId} {args : Array Value} {below : List Frame} {meth : Method} {c : Code} {cells slots : Nat} {Q : State → Prop} {cc : ByteArray} {nL : Nat} {y : MethodName} {ret : Option FieldType} {G : GX} {A : Nat → Prop} {ad : Nat → Nat} {ws : List CE} {pc : Nat} {lv : List (Option Value)} {st : List Value}

theorem V_iconst (X : CX p s m args meth c cc nL y ret G A) {n : Int} (hd : decode cc pc = .ok (.iconst n, 1))  (k : V p l e R s m args below meth c cells slots Q G A nL ad ws (pc + 1) (lv) (.int (Int32.ofInt n) :: st)) : V p l e R s m args below meth c cells slots Q G A nL ad ws (pc) (lv) (st) := fun H locs ls hP hD hS hl => lv_iconst X.1.1 X.1.2.1 hd rfl (k H locs ls hP hD hS hl)
theorem V_bipush (X : CX p s m args meth c cc nL y ret G A) {n : Int} (hd : decode cc pc = .ok (.bipush n, 2))  (k : V p l e R s m args below meth c cells slots Q G A nL ad ws (pc + 2) (lv) (.int (Int8.ofInt n).toInt32 :: st)) : V p l e R s m args below meth c cells slots Q G A nL ad ws (pc) (lv) (st) := fun H locs ls hP hD hS hl => lv_bipush X.1.1 X.1.2.1 hd rfl (k H locs ls hP hD hS hl)
theorem V_sipush (X : CX p s m args meth c cc nL y ret G A) {n : Int} (hd : decode cc pc = .ok (.sipush n, 3))  (k : V p l e R s m args below meth c cells slots Q G A nL ad ws (pc + 3) (lv) (.int (Int16.ofInt n).toInt32 :: st)) : V p l e R s m args below meth c cells slots Q G A nL ad ws (pc) (lv) (st) := fun H locs ls hP hD hS hl => lv_sipush X.1.1 X.1.2.1 hd rfl (k H locs ls hP hD hS hl)
theorem V_lconst (X : CX p s m args meth c cc nL y ret G A) {n : Fin 2} (hd : decode cc pc = .ok (.lconst n, 1))  (k : V p l e R s m args below meth c cells slots Q G A nL ad ws (pc + 1) (lv) (.long (Int64.ofNat (n : Nat)) :: st)) : V p l e R s m args below meth c cells slots Q G A nL ad ws (pc) (lv) (st) := fun H locs ls hP hD hS hl => lv_lconst X.1.1 X.1.2.1 hd rfl (k H locs ls hP hD hS hl)
theorem V_iconstE (X : CX p s m args meth c cc nL y ret G A) {n : Int} (v : Int32) (hd : decode cc pc = .ok (.iconst n, 1)) (hv : Int32.ofInt n = v) (k : V p l e R s m args below meth c cells slots Q G A nL ad ws (pc + 1) (lv) (.int v :: st)) : V p l e R s m args below meth c cells slots Q G A nL ad ws (pc) (lv) (st) := fun H locs ls hP hD hS hl => lv_iconst X.1.1 X.1.2.1 hd hv (k H locs ls hP hD hS hl)
theorem V_bipushE (X : CX p s m args meth c cc nL y ret G A) {n : Int} (v : Int32) (hd : decode cc pc = .ok (.bipush n, 2)) (hv : (Int8.ofInt n).toInt32 = v) (k : V p l e R s m args below meth c cells slots Q G A nL ad ws (pc + 2) (lv) (.int v :: st)) : V p l e R s m args below meth c cells slots Q G A nL ad ws (pc) (lv) (st) := fun H locs ls hP hD hS hl => lv_bipush X.1.1 X.1.2.1 hd hv (k H locs ls hP hD hS hl)
theorem V_sipushE (X : CX p s m args meth c cc nL y ret G A) {n : Int} (v : Int32) (hd : decode cc pc = .ok (.sipush n, 3)) (hv : (Int16.ofInt n).toInt32 = v) (k : V p l e R s m args below meth c cells slots Q G A nL ad ws (pc + 3) (lv) (.int v :: st)) : V p l e R s m args below meth c cells slots Q G A nL ad ws (pc) (lv) (st) := fun H locs ls hP hD hS hl => lv_sipush X.1.1 X.1.2.1 hd hv (k H locs ls hP hD hS hl)
theorem V_lconstE (X : CX p s m args meth c cc nL y ret G A) {n : Fin 2} (v : Int64) (hd : decode cc pc = .ok (.lconst n, 1)) (hv : Int64.ofNat (n : Nat) = v) (k : V p l e R s m args below meth c cells slots Q G A nL ad ws (pc + 1) (lv) (.long v :: st)) : V p l e R s m args below meth c cells slots Q G A nL ad ws (pc) (lv) (st) := fun H locs ls hP hD hS hl => lv_lconst X.1.1 X.1.2.1 hd hv (k H locs ls hP hD hS hl)
theorem V_iadd (X : CX p s m args meth c cc nL y ret G A) {x z : Int32} (hd : decode cc pc = .ok (.iadd, 1))  (k : V p l e R s m args below meth c cells slots Q G A nL ad ws (pc + 1) (lv) (.int (x + z) :: st)) : V p l e R s m args below meth c cells slots Q G A nL ad ws (pc) (lv) (.int z :: .int x :: st) := fun H locs ls hP hD hS hl => lv_iadd X.1.1 X.1.2.1 hd  (k H locs ls hP hD hS hl)
theorem V_isub (X : CX p s m args meth c cc nL y ret G A) {x z : Int32} (hd : decode cc pc = .ok (.isub, 1))  (k : V p l e R s m args below meth c cells slots Q G A nL ad ws (pc + 1) (lv) (.int (x - z) :: st)) : V p l e R s m args below meth c cells slots Q G A nL ad ws (pc) (lv) (.int z :: .int x :: st) := fun H locs ls hP hD hS hl => lv_isub X.1.1 X.1.2.1 hd  (k H locs ls hP hD hS hl)
theorem V_imul (X : CX p s m args meth c cc nL y ret G A) {x z : Int32} (hd : decode cc pc = .ok (.imul, 1))  (k : V p l e R s m args below meth c cells slots Q G A nL ad ws (pc + 1) (lv) (.int (x * z) :: st)) : V p l e R s m args below meth c cells slots Q G A nL ad ws (pc) (lv) (.int z :: .int x :: st) := fun H locs ls hP hD hS hl => lv_imul X.1.1 X.1.2.1 hd  (k H locs ls hP hD hS hl)
theorem V_iand (X : CX p s m args meth c cc nL y ret G A) {x z : Int32} (hd : decode cc pc = .ok (.iand, 1))  (k : V p l e R s m args below meth c cells slots Q G A nL ad ws (pc + 1) (lv) (.int (x &&& z) :: st)) : V p l e R s m args below meth c cells slots Q G A nL ad ws (pc) (lv) (.int z :: .int x :: st) := fun H locs ls hP hD hS hl => lv_iand X.1.1 X.1.2.1 hd  (k H locs ls hP hD hS hl)
theorem V_ior (X : CX p s m args meth c cc nL y ret G A) {x z : Int32} (hd : decode cc pc = .ok (.ior, 1))  (k : V p l e R s m args below meth c cells slots Q G A nL ad ws (pc + 1) (lv) (.int (x ||| z) :: st)) : V p l e R s m args below meth c cells slots Q G A nL ad ws (pc) (lv) (.int z :: .int x :: st) := fun H locs ls hP hD hS hl => lv_ior X.1.1 X.1.2.1 hd  (k H locs ls hP hD hS hl)
theorem V_ixor (X : CX p s m args meth c cc nL y ret G A) {x z : Int32} (hd : decode cc pc = .ok (.ixor, 1))  (k : V p l e R s m args below meth c cells slots Q G A nL ad ws (pc + 1) (lv) (.int (x ^^^ z) :: st)) : V p l e R s m args below meth c cells slots Q G A nL ad ws (pc) (lv) (.int z :: .int x :: st) := fun H locs ls hP hD hS hl => lv_ixor X.1.1 X.1.2.1 hd  (k H locs ls hP hD hS hl)
theorem V_ishl (X : CX p s m args meth c cc nL y ret G A) {x z : Int32} (hd : decode cc pc = .ok (.ishl, 1))  (k : V p l e R s m args below meth c cells slots Q G A nL ad ws (pc + 1) (lv) (.int (x <<< (z &&& 31)) :: st)) : V p l e R s m args below meth c cells slots Q G A nL ad ws (pc) (lv) (.int z :: .int x :: st) := fun H locs ls hP hD hS hl => lv_ishl X.1.1 X.1.2.1 hd  (k H locs ls hP hD hS hl)
theorem V_ishr (X : CX p s m args meth c cc nL y ret G A) {x z : Int32} (hd : decode cc pc = .ok (.ishr, 1))  (k : V p l e R s m args below meth c cells slots Q G A nL ad ws (pc + 1) (lv) (.int (x >>> (z &&& 31)) :: st)) : V p l e R s m args below meth c cells slots Q G A nL ad ws (pc) (lv) (.int z :: .int x :: st) := fun H locs ls hP hD hS hl => lv_ishr X.1.1 X.1.2.1 hd  (k H locs ls hP hD hS hl)
theorem V_idiv (X : CX p s m args meth c cc nL y ret G A) {x z : Int32} (hd : decode cc pc = .ok (.idiv, 1)) (hne : ¬ z = 0) (k : V p l e R s m args below meth c cells slots Q G A nL ad ws (pc + 1) (lv) (.int (x / z) :: st)) : V p l e R s m args below meth c cells slots Q G A nL ad ws (pc) (lv) (.int z :: .int x :: st) := fun H locs ls hP hD hS hl => lv_idiv X.1.1 X.1.2.1 hd hne (k H locs ls hP hD hS hl)
theorem V_irem (X : CX p s m args meth c cc nL y ret G A) {x z : Int32} (hd : decode cc pc = .ok (.irem, 1)) (hne : ¬ z = 0) (k : V p l e R s m args below meth c cells slots Q G A nL ad ws (pc + 1) (lv) (.int (x - x / z * z) :: st)) : V p l e R s m args below meth c cells slots Q G A nL ad ws (pc) (lv) (.int z :: .int x :: st) := fun H locs ls hP hD hS hl => lv_irem X.1.1 X.1.2.1 hd hne (k H locs ls hP hD hS hl)
theorem V_iushr (X : CX p s m args meth c cc nL y ret G A) {x z : Int32} (hd : decode cc pc = .ok (.iushr, 1))  (k : V p l e R s m args below meth c cells slots Q G A nL ad ws (pc + 1) (lv) (.int ((x.toUInt32 >>> (z.toUInt32 &&& Int32.toUInt32 31)).toInt32) :: st)) : V p l e R s m args below meth c cells slots Q G A nL ad ws (pc) (lv) (.int z :: .int x :: st) := fun H locs ls hP hD hS hl => lv_iushr X.1.1 X.1.2.1 hd rfl (k H locs ls hP hD hS hl)
theorem V_lushr (X : CX p s m args meth c cc nL y ret G A) {x : Int64} {z : Int32} (hd : decode cc pc = .ok (.lushr, 1))  (k : V p l e R s m args below meth c cells slots Q G A nL ad ws (pc + 1) (lv) (.long ((x.toUInt64 >>> (z.toInt64.toUInt64 &&& Int64.toUInt64 63)).toInt64) :: st)) : V p l e R s m args below meth c cells slots Q G A nL ad ws (pc) (lv) (.int z :: .long x :: st) := fun H locs ls hP hD hS hl => lv_lushr X.1.1 X.1.2.1 hd rfl (k H locs ls hP hD hS hl)
theorem V_lshl (X : CX p s m args meth c cc nL y ret G A) {x : Int64} {z : Int32} (hd : decode cc pc = .ok (.lshl, 1))  (k : V p l e R s m args below meth c cells slots Q G A nL ad ws (pc + 1) (lv) (.long (x <<< (z.toInt64 &&& 63)) :: st)) : V p l e R s m args below meth c cells slots Q G A nL ad ws (pc) (lv) (.int z :: .long x :: st) := fun H locs ls hP hD hS hl => lv_lshl X.1.1 X.1.2.1 hd rfl (k H locs ls hP hD hS hl)
theorem V_ineg (X : CX p s m args meth c cc nL y ret G A) {x : Int32} (hd : decode cc pc = .ok (.ineg, 1))  (k : V p l e R s m args below meth c cells slots Q G A nL ad ws (pc + 1) (lv) (.int (-x) :: st)) : V p l e R s m args below meth c cells slots Q G A nL ad ws (pc) (lv) (.int x :: st) := fun H locs ls hP hD hS hl => lv_ineg X.1.1 X.1.2.1 hd  (k H locs ls hP hD hS hl)
theorem V_ladd (X : CX p s m args meth c cc nL y ret G A) {x z : Int64} (hd : decode cc pc = .ok (.ladd, 1))  (k : V p l e R s m args below meth c cells slots Q G A nL ad ws (pc + 1) (lv) (.long (x + z) :: st)) : V p l e R s m args below meth c cells slots Q G A nL ad ws (pc) (lv) (.long z :: .long x :: st) := fun H locs ls hP hD hS hl => lv_ladd X.1.1 X.1.2.1 hd  (k H locs ls hP hD hS hl)
theorem V_lsub (X : CX p s m args meth c cc nL y ret G A) {x z : Int64} (hd : decode cc pc = .ok (.lsub, 1))  (k : V p l e R s m args below meth c cells slots Q G A nL ad ws (pc + 1) (lv) (.long (x - z) :: st)) : V p l e R s m args below meth c cells slots Q G A nL ad ws (pc) (lv) (.long z :: .long x :: st) := fun H locs ls hP hD hS hl => lv_lsub X.1.1 X.1.2.1 hd  (k H locs ls hP hD hS hl)
theorem V_lmul (X : CX p s m args meth c cc nL y ret G A) {x z : Int64} (hd : decode cc pc = .ok (.lmul, 1))  (k : V p l e R s m args below meth c cells slots Q G A nL ad ws (pc + 1) (lv) (.long (x * z) :: st)) : V p l e R s m args below meth c cells slots Q G A nL ad ws (pc) (lv) (.long z :: .long x :: st) := fun H locs ls hP hD hS hl => lv_lmul X.1.1 X.1.2.1 hd  (k H locs ls hP hD hS hl)
theorem V_land (X : CX p s m args meth c cc nL y ret G A) {x z : Int64} (hd : decode cc pc = .ok (.land, 1))  (k : V p l e R s m args below meth c cells slots Q G A nL ad ws (pc + 1) (lv) (.long (x &&& z) :: st)) : V p l e R s m args below meth c cells slots Q G A nL ad ws (pc) (lv) (.long z :: .long x :: st) := fun H locs ls hP hD hS hl => lv_land X.1.1 X.1.2.1 hd  (k H locs ls hP hD hS hl)
theorem V_lor (X : CX p s m args meth c cc nL y ret G A) {x z : Int64} (hd : decode cc pc = .ok (.lor, 1))  (k : V p l e R s m args below meth c cells slots Q G A nL ad ws (pc + 1) (lv) (.long (x ||| z) :: st)) : V p l e R s m args below meth c cells slots Q G A nL ad ws (pc) (lv) (.long z :: .long x :: st) := fun H locs ls hP hD hS hl => lv_lor X.1.1 X.1.2.1 hd  (k H locs ls hP hD hS hl)
theorem V_lcmp (X : CX p s m args meth c cc nL y ret G A) {x z : Int64} (hd : decode cc pc = .ok (.lcmp, 1))  (k : V p l e R s m args below meth c cells slots Q G A nL ad ws (pc + 1) (lv) (.int (lg_cmp x z) :: st)) : V p l e R s m args below meth c cells slots Q G A nL ad ws (pc) (lv) (.long z :: .long x :: st) := fun H locs ls hP hD hS hl => W.lcmp X.1.1 X.1.2.1 hd  (k H locs ls hP hD hS hl)
theorem V_i2l (X : CX p s m args meth c cc nL y ret G A) {x : Int32} (hd : decode cc pc = .ok (.i2l, 1))  (k : V p l e R s m args below meth c cells slots Q G A nL ad ws (pc + 1) (lv) (.long x.toInt64 :: st)) : V p l e R s m args below meth c cells slots Q G A nL ad ws (pc) (lv) (.int x :: st) := fun H locs ls hP hD hS hl => lv_i2l X.1.1 X.1.2.1 hd rfl (k H locs ls hP hD hS hl)
theorem V_l2i (X : CX p s m args meth c cc nL y ret G A) {x : Int64} (hd : decode cc pc = .ok (.l2i, 1))  (k : V p l e R s m args below meth c cells slots Q G A nL ad ws (pc + 1) (lv) (.int x.toInt32 :: st)) : V p l e R s m args below meth c cells slots Q G A nL ad ws (pc) (lv) (.long x :: st) := fun H locs ls hP hD hS hl => lv_l2i X.1.1 X.1.2.1 hd rfl (k H locs ls hP hD hS hl)
theorem V_dup (X : CX p s m args meth c cc nL y ret G A) {v : Value} (hd : decode cc pc = .ok (.dup, 1)) (hv : v.category = 1) (k : V p l e R s m args below meth c cells slots Q G A nL ad ws (pc + 1) (lv) (v :: v :: st)) : V p l e R s m args below meth c cells slots Q G A nL ad ws (pc) (lv) (v :: st) := fun H locs ls hP hD hS hl => lv_dup X.1.1 X.1.2.1 hd ((cv_cat ad v).trans hv) (k H locs ls hP hD hS hl)
theorem V_pop (X : CX p s m args meth c cc nL y ret G A) {v : Value} (hd : decode cc pc = .ok (.pop, 1)) (hv : v.category = 1) (k : V p l e R s m args below meth c cells slots Q G A nL ad ws (pc + 1) (lv) (st)) : V p l e R s m args below meth c cells slots Q G A nL ad ws (pc) (lv) (v :: st) := fun H locs ls hP hD hS hl => lv_pop X.1.1 X.1.2.1 hd ((cv_cat ad v).trans hv) (k H locs ls hP hD hS hl)
theorem V_dup2 (X : CX p s m args meth c cc nL y ret G A) {u v : Value} (hd : decode cc pc = .ok (.dup2, 1)) (hu : u.category = 1) (hv : v.category = 1) (k : V p l e R s m args below meth c cells slots Q G A nL ad ws (pc + 1) (lv) (u :: v :: u :: v :: st)) : V p l e R s m args below meth c cells slots Q G A nL ad ws (pc) (lv) (u :: v :: st) := fun H locs ls hP hD hS hl => lv_dup2_11 X.1.1 X.1.2.1 hd ((cv_cat ad u).trans hu) ((cv_cat ad v).trans hv) (k H locs ls hP hD hS hl)
theorem V_goto (X : CX p s m args meth c cc nL y ret G A) {off : Int} (tgt : Nat) (hd : decode cc pc = .ok (.goto off, 3)) (ht : (pc : Int) + off = (tgt : Int)) (k : V p l e R s m args below meth c cells slots Q G A nL ad ws (tgt) (lv) (st)) : V p l e R s m args below meth c cells slots Q G A nL ad ws (pc) (lv) (st) := fun H locs ls hP hD hS hl => lv_goto X.1.1 X.1.2.1 hd ht (k H locs ls hP hD hS hl)
theorem V_if_eq (X : CX p s m args meth c cc nL y ret G A) {off : Int} {x : Int32} (tgt : Nat) (hd : decode cc pc = .ok (.ifCond .eq off, 3)) (ht : (pc : Int) + off = (tgt : Int)) (kt : x = 0 → V p l e R s m args below meth c cells slots Q G A nL ad ws (tgt) (lv) (st)) (kf : ¬ x = 0 → V p l e R s m args below meth c cells slots Q G A nL ad ws (pc + 3) (lv) (st)) : V p l e R s m args below meth c cells slots Q G A nL ad ws (pc) (lv) (.int x :: st) := fun H locs ls hP hD hS hl => lv_if_eq X.1.1 X.1.2.1 hd ht (fun h => kt h H locs ls hP hD hS hl) (fun h => kf h H locs ls hP hD hS hl)
theorem V_if_ne (X : CX p s m args meth c cc nL y ret G A) {off : Int} {x : Int32} (tgt : Nat) (hd : decode cc pc = .ok (.ifCond .ne off, 3)) (ht : (pc : Int) + off = (tgt : Int)) (kt : ¬ x = 0 → V p l e R s m args below meth c cells slots Q G A nL ad ws (tgt) (lv) (st)) (kf : x = 0 → V p l e R s m args below meth c cells slots Q G A nL ad ws (pc + 3) (lv) (st)) : V p l e R s m args below meth c cells slots Q G A nL ad ws (pc) (lv) (.int x :: st) := fun H locs ls hP hD hS hl => lv_if_ne X.1.1 X.1.2.1 hd ht (fun h => kt h H locs ls hP hD hS hl) (fun h => kf h H locs ls hP hD hS hl)
theorem V_if_lt (X : CX p s m args meth c cc nL y ret G A) {off : Int} {x : Int32} (tgt : Nat) (hd : decode cc pc = .ok (.ifCond .lt off, 3)) (ht : (pc : Int) + off = (tgt : Int)) (kt : x < 0 → V p l e R s m args below meth c cells slots Q G A nL ad ws (tgt) (lv) (st)) (kf : ¬ x < 0 → V p l e R s m args below meth c cells slots Q G A nL ad ws (pc + 3) (lv) (st)) : V p l e R s m args below meth c cells slots Q G A nL ad ws (pc) (lv) (.int x :: st) := fun H locs ls hP hD hS hl => lv_if_lt X.1.1 X.1.2.1 hd ht (fun h => kt h H locs ls hP hD hS hl) (fun h => kf h H locs ls hP hD hS hl)
theorem V_if_ge (X : CX p s m args meth c cc nL y ret G A) {off : Int} {x : Int32} (tgt : Nat) (hd : decode cc pc = .ok (.ifCond .ge off, 3)) (ht : (pc : Int) + off = (tgt : Int)) (kt : 0 ≤ x → V p l e R s m args below meth c cells slots Q G A nL ad ws (tgt) (lv) (st)) (kf : ¬ 0 ≤ x → V p l e R s m args below meth c cells slots Q G A nL ad ws (pc + 3) (lv) (st)) : V p l e R s m args below meth c cells slots Q G A nL ad ws (pc) (lv) (.int x :: st) := fun H locs ls hP hD hS hl => lv_if_ge X.1.1 X.1.2.1 hd ht (fun h => kt h H locs ls hP hD hS hl) (fun h => kf h H locs ls hP hD hS hl)
theorem V_if_gt (X : CX p s m args meth c cc nL y ret G A) {off : Int} {x : Int32} (tgt : Nat) (hd : decode cc pc = .ok (.ifCond .gt off, 3)) (ht : (pc : Int) + off = (tgt : Int)) (kt : 0 < x → V p l e R s m args below meth c cells slots Q G A nL ad ws (tgt) (lv) (st)) (kf : ¬ 0 < x → V p l e R s m args below meth c cells slots Q G A nL ad ws (pc + 3) (lv) (st)) : V p l e R s m args below meth c cells slots Q G A nL ad ws (pc) (lv) (.int x :: st) := fun H locs ls hP hD hS hl => lv_if_gt X.1.1 X.1.2.1 hd ht (fun h => kt h H locs ls hP hD hS hl) (fun h => kf h H locs ls hP hD hS hl)
theorem V_if_le (X : CX p s m args meth c cc nL y ret G A) {off : Int} {x : Int32} (tgt : Nat) (hd : decode cc pc = .ok (.ifCond .le off, 3)) (ht : (pc : Int) + off = (tgt : Int)) (kt : x ≤ 0 → V p l e R s m args below meth c cells slots Q G A nL ad ws (tgt) (lv) (st)) (kf : ¬ x ≤ 0 → V p l e R s m args below meth c cells slots Q G A nL ad ws (pc + 3) (lv) (st)) : V p l e R s m args below meth c cells slots Q G A nL ad ws (pc) (lv) (.int x :: st) := fun H locs ls hP hD hS hl => lv_if_le X.1.1 X.1.2.1 hd ht (fun h => kt h H locs ls hP hD hS hl) (fun h => kf h H locs ls hP hD hS hl)
theorem V_icmp_eq (X : CX p s m args meth c cc nL y ret G A) {off : Int} {x z : Int32} (tgt : Nat) (hd : decode cc pc = .ok (.if_icmp .eq off, 3)) (ht : (pc : Int) + off = (tgt : Int)) (kt : x = z → V p l e R s m args below meth c cells slots Q G A nL ad ws (tgt) (lv) (st)) (kf : ¬ x = z → V p l e R s m args below meth c cells slots Q G A nL ad ws (pc + 3) (lv) (st)) : V p l e R s m args below meth c cells slots Q G A nL ad ws (pc) (lv) (.int z :: .int x :: st) := fun H locs ls hP hD hS hl => lv_icmp_eq X.1.1 X.1.2.1 hd ht (fun h => kt h H locs ls hP hD hS hl) (fun h => kf h H locs ls hP hD hS hl)
theorem V_icmp_ne (X : CX p s m args meth c cc nL y ret G A) {off : Int} {x z : Int32} (tgt : Nat) (hd : decode cc pc = .ok (.if_icmp .ne off, 3)) (ht : (pc : Int) + off = (tgt : Int)) (kt : ¬ x = z → V p l e R s m args below meth c cells slots Q G A nL ad ws (tgt) (lv) (st)) (kf : x = z → V p l e R s m args below meth c cells slots Q G A nL ad ws (pc + 3) (lv) (st)) : V p l e R s m args below meth c cells slots Q G A nL ad ws (pc) (lv) (.int z :: .int x :: st) := fun H locs ls hP hD hS hl => lv_icmp_ne X.1.1 X.1.2.1 hd ht (fun h => kt h H locs ls hP hD hS hl) (fun h => kf h H locs ls hP hD hS hl)
theorem V_icmp_lt (X : CX p s m args meth c cc nL y ret G A) {off : Int} {x z : Int32} (tgt : Nat) (hd : decode cc pc = .ok (.if_icmp .lt off, 3)) (ht : (pc : Int) + off = (tgt : Int)) (kt : x < z → V p l e R s m args below meth c cells slots Q G A nL ad ws (tgt) (lv) (st)) (kf : ¬ x < z → V p l e R s m args below meth c cells slots Q G A nL ad ws (pc + 3) (lv) (st)) : V p l e R s m args below meth c cells slots Q G A nL ad ws (pc) (lv) (.int z :: .int x :: st) := fun H locs ls hP hD hS hl => lv_icmp_lt X.1.1 X.1.2.1 hd ht (fun h => kt h H locs ls hP hD hS hl) (fun h => kf h H locs ls hP hD hS hl)
theorem V_icmp_ge (X : CX p s m args meth c cc nL y ret G A) {off : Int} {x z : Int32} (tgt : Nat) (hd : decode cc pc = .ok (.if_icmp .ge off, 3)) (ht : (pc : Int) + off = (tgt : Int)) (kt : z ≤ x → V p l e R s m args below meth c cells slots Q G A nL ad ws (tgt) (lv) (st)) (kf : ¬ z ≤ x → V p l e R s m args below meth c cells slots Q G A nL ad ws (pc + 3) (lv) (st)) : V p l e R s m args below meth c cells slots Q G A nL ad ws (pc) (lv) (.int z :: .int x :: st) := fun H locs ls hP hD hS hl => lv_icmp_ge X.1.1 X.1.2.1 hd ht (fun h => kt h H locs ls hP hD hS hl) (fun h => kf h H locs ls hP hD hS hl)
theorem V_icmp_gt (X : CX p s m args meth c cc nL y ret G A) {off : Int} {x z : Int32} (tgt : Nat) (hd : decode cc pc = .ok (.if_icmp .gt off, 3)) (ht : (pc : Int) + off = (tgt : Int)) (kt : z < x → V p l e R s m args below meth c cells slots Q G A nL ad ws (tgt) (lv) (st)) (kf : ¬ z < x → V p l e R s m args below meth c cells slots Q G A nL ad ws (pc + 3) (lv) (st)) : V p l e R s m args below meth c cells slots Q G A nL ad ws (pc) (lv) (.int z :: .int x :: st) := fun H locs ls hP hD hS hl => lv_icmp_gt X.1.1 X.1.2.1 hd ht (fun h => kt h H locs ls hP hD hS hl) (fun h => kf h H locs ls hP hD hS hl)
theorem V_icmp_le (X : CX p s m args meth c cc nL y ret G A) {off : Int} {x z : Int32} (tgt : Nat) (hd : decode cc pc = .ok (.if_icmp .le off, 3)) (ht : (pc : Int) + off = (tgt : Int)) (kt : x ≤ z → V p l e R s m args below meth c cells slots Q G A nL ad ws (tgt) (lv) (st)) (kf : ¬ x ≤ z → V p l e R s m args below meth c cells slots Q G A nL ad ws (pc + 3) (lv) (st)) : V p l e R s m args below meth c cells slots Q G A nL ad ws (pc) (lv) (.int z :: .int x :: st) := fun H locs ls hP hD hS hl => lv_icmp_le X.1.1 X.1.2.1 hd ht (fun h => kt h H locs ls hP hD hS hl) (fun h => kf h H locs ls hP hD hS hl)
theorem V_iload_n (X : CX p s m args meth c cc nL y ret G A) {j : Fin 4} {x : Int32} (hd : decode cc pc = .ok (.iload_n j, 1)) (hx : lv[(j : Nat)]? = some (some (.int x))) (k : V p l e R s m args below meth c cells slots Q G A nL ad ws (pc + 1) (lv) (.int x :: st)) : V p l e R s m args below meth c cells slots Q G A nL ad ws (pc) (lv) (st) := fun H locs ls hP hD hS hl => lv_iload_n X.1.1 X.1.2.1 hd rfl (lvh_at hl hx) (k H locs ls hP hD hS hl)
theorem V_iload (X : CX p s m args meth c cc nL y ret G A) {j : Nat} {x : Int32} (hd : decode cc pc = .ok (.iload j, 2)) (hx : lv[j]? = some (some (.int x))) (k : V p l e R s m args below meth c cells slots Q G A nL ad ws (pc + 2) (lv) (.int x :: st)) : V p l e R s m args below meth c cells slots Q G A nL ad ws (pc) (lv) (st) := fun H locs ls hP hD hS hl => lv_iload X.1.1 X.1.2.1 hd (lvh_at hl hx) (k H locs ls hP hD hS hl)
theorem V_lload_n (X : CX p s m args meth c cc nL y ret G A) {j : Fin 4} {x : Int64} (hd : decode cc pc = .ok (.lload_n j, 1)) (hx : lv[(j : Nat)]? = some (some (.long x))) (k : V p l e R s m args below meth c cells slots Q G A nL ad ws (pc + 1) (lv) (.long x :: st)) : V p l e R s m args below meth c cells slots Q G A nL ad ws (pc) (lv) (st) := fun H locs ls hP hD hS hl => lv_lload_n X.1.1 X.1.2.1 hd rfl (lvh_at hl hx) (k H locs ls hP hD hS hl)
theorem V_lload (X : CX p s m args meth c cc nL y ret G A) {j : Nat} {x : Int64} (hd : decode cc pc = .ok (.lload j, 2)) (hx : lv[j]? = some (some (.long x))) (k : V p l e R s m args below meth c cells slots Q G A nL ad ws (pc + 2) (lv) (.long x :: st)) : V p l e R s m args below meth c cells slots Q G A nL ad ws (pc) (lv) (st) := fun H locs ls hP hD hS hl => lv_lload X.1.1 X.1.2.1 hd (lvh_at hl hx) (k H locs ls hP hD hS hl)
theorem V_aload_n (X : CX p s m args meth c cc nL y ret G A) {j : Fin 4} {x : Nat} (hd : decode cc pc = .ok (.aload_n j, 1)) (hx : lv[(j : Nat)]? = some (some (.ref x))) (k : V p l e R s m args below meth c cells slots Q G A nL ad ws (pc + 1) (lv) (.ref x :: st)) : V p l e R s m args below meth c cells slots Q G A nL ad ws (pc) (lv) (st) := fun H locs ls hP hD hS hl => lv_aload_n X.1.1 X.1.2.1 hd rfl (lvh_at hl hx) (k H locs ls hP hD hS hl)
theorem V_aload (X : CX p s m args meth c cc nL y ret G A) {j : Nat} {x : Nat} (hd : decode cc pc = .ok (.aload j, 2)) (hx : lv[j]? = some (some (.ref x))) (k : V p l e R s m args below meth c cells slots Q G A nL ad ws (pc + 2) (lv) (.ref x :: st)) : V p l e R s m args below meth c cells slots Q G A nL ad ws (pc) (lv) (st) := fun H locs ls hP hD hS hl => lv_aload X.1.1 X.1.2.1 hd (lvh_at hl hx) (k H locs ls hP hD hS hl)
theorem V_istore_n (X : CX p s m args meth c cc nL y ret G A) {j : Fin 4} {x : Int32} {lw : List (Option Value)} (hd : decode cc pc = .ok (.istore_n j, 1)) (hj : (j : Nat) < nL) (hn : noL lv j = true) (he : lv.set j (some (.int x)) = lw) (k : V p l e R s m args below meth c cells slots Q G A nL ad ws (pc + 1) (lw) (st)) : V p l e R s m args below meth c cells slots Q G A nL ad ws (pc) (lv) (.int x :: st) := fun H locs ls hP hD hS hl => lv_istore_n X.1.1 X.1.2.1 hd rfl hl.1 hj rfl (fun ls2 h2 => k H locs ls2 hP hD hS (he ▸ lvh_st1 (v := .int x) hl.2 hj hn h2))
theorem V_istore (X : CX p s m args meth c cc nL y ret G A) {j : Nat} {x : Int32} {lw : List (Option Value)} (hd : decode cc pc = .ok (.istore j, 2)) (hj : j < nL) (hn : noL lv j = true) (he : lv.set j (some (.int x)) = lw) (k : V p l e R s m args below meth c cells slots Q G A nL ad ws (pc + 2) (lw) (st)) : V p l e R s m args below meth c cells slots Q G A nL ad ws (pc) (lv) (.int x :: st) := fun H locs ls hP hD hS hl => lv_istore X.1.1 X.1.2.1 hd hl.1 hj rfl (fun ls2 h2 => k H locs ls2 hP hD hS (he ▸ lvh_st1 (v := .int x) hl.2 hj hn h2))
theorem V_astore_n (X : CX p s m args meth c cc nL y ret G A) {j : Fin 4} {x : Nat} {lw : List (Option Value)} (hd : decode cc pc = .ok (.astore_n j, 1)) (hj : (j : Nat) < nL) (hn : noL lv j = true) (he : lv.set j (some (.ref x)) = lw) (k : V p l e R s m args below meth c cells slots Q G A nL ad ws (pc + 1) (lw) (st)) : V p l e R s m args below meth c cells slots Q G A nL ad ws (pc) (lv) (.ref x :: st) := fun H locs ls hP hD hS hl => lv_astore_n X.1.1 X.1.2.1 hd rfl hl.1 hj rfl (fun ls2 h2 => k H locs ls2 hP hD hS (he ▸ lvh_st1 (v := .ref x) hl.2 hj hn h2))
theorem V_astore (X : CX p s m args meth c cc nL y ret G A) {j : Nat} {x : Nat} {lw : List (Option Value)} (hd : decode cc pc = .ok (.astore j, 2)) (hj : j < nL) (hn : noL lv j = true) (he : lv.set j (some (.ref x)) = lw) (k : V p l e R s m args below meth c cells slots Q G A nL ad ws (pc + 2) (lw) (st)) : V p l e R s m args below meth c cells slots Q G A nL ad ws (pc) (lv) (.ref x :: st) := fun H locs ls hP hD hS hl => lv_astore X.1.1 X.1.2.1 hd hl.1 hj rfl (fun ls2 h2 => k H locs ls2 hP hD hS (he ▸ lvh_st1 (v := .ref x) hl.2 hj hn h2))
theorem V_lstore_n (X : CX p s m args meth c cc nL y ret G A) {j : Fin 4} {x : Int64} {lw : List (Option Value)} (hd : decode cc pc = .ok (.lstore_n j, 1)) (hj : (j : Nat) + 1 < nL) (hn : noL lv j = true) (he : (lv.set j (some (.long x))).set (j + 1) none = lw) (k : V p l e R s m args below meth c cells slots Q G A nL ad ws (pc + 1) (lw) (st)) : V p l e R s m args below meth c cells slots Q G A nL ad ws (pc) (lv) (.long x :: st) := fun H locs ls hP hD hS hl => lv_lstore_n X.1.1 X.1.2.1 hd rfl hl.1 hj rfl (fun ls2 h2 => k H locs ls2 hP hD hS (he ▸ lvh_st2 (v := .long x) hl.2 (Nat.lt_of_succ_lt hj) hn h2))
theorem V_lstore (X : CX p s m args meth c cc nL y ret G A) {j : Nat} {x : Int64} {lw : List (Option Value)} (hd : decode cc pc = .ok (.lstore j, 2)) (hj : j + 1 < nL) (hn : noL lv j = true) (he : (lv.set j (some (.long x))).set (j + 1) none = lw) (k : V p l e R s m args below meth c cells slots Q G A nL ad ws (pc + 2) (lw) (st)) : V p l e R s m args below meth c cells slots Q G A nL ad ws (pc) (lv) (.long x :: st) := fun H locs ls hP hD hS hl => lv_lstore X.1.1 X.1.2.1 hd hl.1 hj rfl (fun ls2 h2 => k H locs ls2 hP hD hS (he ▸ lvh_st2 (v := .long x) hl.2 (Nat.lt_of_succ_lt hj) hn h2))
theorem V_iinc (X : CX p s m args meth c cc nL y ret G A) {j : Nat} {n : Int} {x : Int32} {lw : List (Option Value)} (hd : decode cc pc = .ok (.iinc j n, 3)) (hj : j < nL) (hx : lv[j]? = some (some (.int x))) (hn : noL lv j = true) (he : lv.set j (some (.int (x + Int32.ofInt n))) = lw) (k : V p l e R s m args below meth c cells slots Q G A nL ad ws (pc + 3) (lw) (st)) : V p l e R s m args below meth c cells slots Q G A nL ad ws (pc) (lv) (st) := by
  intro H locs ls hP hD hS hl
  obtain ⟨q, hq⟩ := List.getElem?_of_mem (lvp_mem.mpr ⟨j, .int x, hx, rfl⟩ : (0 + j, cv ad (.int x)) ∈ lvp ad 0 lv)
  rw [Nat.zero_add] at hq
  exact lv_iinc X.1.1 X.1.2.1 hd hl.1 (k := q) (x := x) hq rfl hj rfl (fun ls' h' => k H locs ls' hP hD hS (he ▸ lvh_st1 (v := .int (x + Int32.ofInt n)) hl.2 hj hn h'))
end VV
end
section
def CI (ci : Nat) (C : String) (T : u_T) (N : Nat) (ty : Nat → FieldType) : Prop := vwCl[ci]? = some (C, T, N) ∧ (∀ w ∈ u_ws C T N, w ∈ tb) ∧ (∀ k, k < N → parseFieldDescriptor (T k).2.2.1 = some (ty k)) ∧ (∀ a, a < N → ∀ b, b < N → a ≠ b → (T a).2.1 ≠ (T b).2.1)
def FL (own : String) (idx ci k : Nat) (fty : FieldType) (fin : Bool) : Prop := ∃ (C : String) (T : u_T) (N : Nat) (ty : Nat → FieldType), CI ci C T N ty ∧ k < N ∧ Cond.fieldLink own idx (T k).1 (T k).2.1 (T k).2.2.1 ∈ tb ∧ ty k = fty ∧ (T k).2.2.2 = fin ∧ (T k).1 = C
theorem cw_upd (G : GX) (ad : Nat → Nat) (ws : List CE) (k : Nat) {e : CE} {x : va_E} (h : cE G ad e = x) : (cw G ad ws).set k (ad k, x) = cw G ad (ws.set k e) := by rw [← h]; exact cw_set G ad ws k e
section VH
variable {p : Program} {l : Launch} {e : Env} {R : Room} {s : State} {m : MethodId} {args : Array Value} {below : List Frame} {meth : Method} {c : Code} {cells slots : Nat} {Q : State → Prop} {cc : ByteArray} {nL : Nat} {y : MethodName} {ret : Option FieldType} {G : GX} {A : Nat → Prop} {ad : Nat → Nat} {ws : List CE} {pc : Nat} {lv : List (Option Value)} {st : List Value}
theorem V_getf (X : CX p s m args meth c cc nL y ret G A) {idx ci k a : Nat} {fty : FieldType} {fin : Bool} {fs : List Value} {v : Value} (hd : decode cc pc = .ok (.getfield idx, 3)) (hf : FL y.cls idx ci k fty fin) (hw : ws[a]? = some (oB ci fs)) (hv : fs[k]? = some v) (kk : V p l e R s m args below meth c cells slots Q G A nL ad (ws) (pc + 3) (lv) (v :: st)) : V p l e R s m args below meth c cells slots Q G A nL ad (ws) (pc) (lv) (.ref a :: st) := by
  intro H locs ls hP hD hS hl
  obtain ⟨C, T, N, ty, ⟨h1, h2, h3, h4⟩, hk, hlink, -⟩ := hf
  exact va_get (D := G.1) (cl := vwCl) (ws := cw G ad ws) X.1.1 X.1.2.1 X.1.2.2.2.2 h2 X.1.2.2.2.1 X.2.1 hP a (fs := fs.map (cv ad)) (cw_get hw) h1 k hk (X.1.2.2.2.2 _ hlink) (fun _ h9 => h9) (v := cv ad v) (by rw [List.getElem?_map, hv]; rfl) hd (kk H locs ls hP hD hS hl)
theorem V_putf (X : CX p s m args meth c cc nL y ret G A) {idx ci k a : Nat} {fty : FieldType} {fs : List Value} {v : Value} (hd : decode cc pc = .ok (.putfield idx, 3)) (hf : FL y.cls idx ci k fty false) (hw : ws[a]? = some (oB ci fs)) (hk2 : k < fs.length) (hn : narrow fty (cv ad v) = cv ad v) (hfit : fits fty (cv ad v) = true) (kk : V p l e R s m args below meth c cells slots Q G A nL ad (ws.set a (oB ci (fs.set k v))) (pc + 3) (lv) (st)) : V p l e R s m args below meth c cells slots Q G A nL ad (ws) (pc) (lv) (v :: .ref a :: st) := by
  intro H locs ls hP hD hS hl
  obtain ⟨C, T, N, ty, ⟨h1, h2, h3, h4⟩, hk, hlink, h5, h6, -⟩ := hf
  refine va_put (D := G.1) (cl := vwCl) (ws := cw G ad ws) X.1.1 X.1.2.1 X.1.2.2.2.2 h2 ty h3 h4 X.1.2.2.2.1 X.2.1 hP hD hS a (fs := fs.map (cv ad)) (cw_get hw) h1 k hk (X.1.2.2.2.2 _ hlink) (fun _ h9 => h9) h6 (ty := fty) (v := cv ad v) (by rw [h3 k hk, h5]) hn hfit (by rw [List.length_map]; exact hk2) hd (fun H1 locs1 hP1 hD1 hS1 => ?_)
  rw [cw_upd G ad ws a (e := oB ci (fs.set k v)) (by show Sum.inr (ci, (fs.set k v).map (cv ad)) = _; rw [List.map_set])] at hP1 hD1
  exact kk H1 locs1 ls hP1 hD1 hS1 hl
theorem V_putF (X : CX p s m args meth c cc nL y ret G A) {idx ci k a : Nat} {fty : FieldType} {fs : List Value} {v : Value} (hd : decode cc pc = .ok (.putfield idx, 3)) (hf : FL y.cls idx ci k fty true) (hci : y.name = "<init>") (hw : ws[a]? = some (oB ci fs)) (hcn : ∃ T N, vwCl[ci]? = some (y.cls, T, N)) (hk2 : k < fs.length) (hn : narrow fty (cv ad v) = cv ad v) (hfit : fits fty (cv ad v) = true) (kk : V p l e R s m args below meth c cells slots Q G A nL ad (ws.set a (oB ci (fs.set k v))) (pc + 3) (lv) (st)) : V p l e R s m args below meth c cells slots Q G A nL ad (ws) (pc) (lv) (v :: .ref a :: st) := by
  intro H locs ls hP hD hS hl
  obtain ⟨C, T, N, ty, ⟨h1, h2, h3, h4⟩, hk, hlink, h5, h6, h7⟩ := hf
  obtain ⟨T', N', h8⟩ := hcn
  have hC : C = y.cls := congrArg (fun q : vw_C => q.1) (Option.some.inj (h1.symm.trans h8))
  refine va_putF (D := G.1) (cl := vwCl) (ws := cw G ad ws) X.1.1 X.1.2.1 X.1.2.2.2.2 h2 ty h3 h4 X.1.2.2.2.1 X.2.1 hP hD hS a (fs := fs.map (cv ad)) (cw_get hw) h1 k hk (X.1.2.2.2.2 _ hlink) (fun _ h9 => h9) h6 (X.2.2.2.2.2.2.trans hci) (h7.trans hC) (ty := fty) (v := cv ad v) (by rw [h3 k hk, h5]) hn hfit (by rw [List.length_map]; exact hk2) hd (fun H1 locs1 hP1 hD1 hS1 => ?_)
  rw [cw_upd G ad ws a (e := oB ci (fs.set k v)) (by show Sum.inr (ci, (fs.set k v).map (cv ad)) = _; rw [List.map_set])] at hP1 hD1
  exact kk H1 locs1 ls hP1 hD1 hS1 hl
theorem V_iald (X : CX p s m args meth c cc nL y ret G A) {a n : Nat} {f : Nat → Int32} {i : Int32} (j : Nat) (hd : decode cc pc = .ok (.iaload, 1)) (hw : ws[a]? = some (iA n f)) (hi : i = nI j) (hj : j < n) (hn : n < 2147483648) (kk : V p l e R s m args below meth c cells slots Q G A nL ad (ws) (pc + 1) (lv) (.int (f j) :: st)) : V p l e R s m args below meth c cells slots Q G A nL ad (ws) (pc) (lv) (.int i :: .ref a :: st) := by
  subst hi
  intro H locs ls hP hD hS hl
  have hcl : (nI j).toNatClampNeg = j := nI_clamp (by omega)
  refine va_iald (D := G.1) (cl := vwCl) (ws := cw G ad ws) X.1.1 X.1.2.1 X.2.1 hP a 0 (cw_get hw) rfl (vp_in_nI hj hn) hd ?_
  rw [hcl]
  exact kk H locs ls hP hD hS hl
theorem V_iast (X : CX p s m args meth c cc nL y ret G A) {a n : Nat} {f : Nat → Int32} {i x : Int32} (j : Nat) (hd : decode cc pc = .ok (.iastore, 1)) (hw : ws[a]? = some (iA n f)) (hi : i = nI j) (hj : j < n) (hn : n < 2147483648) (kk : V p l e R s m args below meth c cells slots Q G A nL ad (ws.set a (iA n (upd f j x))) (pc + 1) (lv) (st)) : V p l e R s m args below meth c cells slots Q G A nL ad (ws) (pc) (lv) (.int x :: .int i :: .ref a :: st) := by
  subst hi
  intro H locs ls hP hD hS hl
  have hcl : (nI j).toNatClampNeg = j := nI_clamp (by omega)
  refine va_iast (D := G.1) (cl := vwCl) (ws := cw G ad ws) X.1.1 X.1.2.1 X.2.1 hP hD hS a 0 (cw_get hw) rfl (vp_in_nI hj hn) hd (fun H1 locs1 hP1 hD1 hS1 => ?_)
  rw [hcl] at hP1 hD1
  have hP2 : va_P G.1 vwCl (cw G ad (ws.set a (iA n (upd f j x)))) H1 := by rw [← cw_set]; exact hP1
  have hD2 : va_D A (cw G ad (ws.set a (iA n (upd f j x)))) := by rw [← cw_set]; exact hD1
  exact kk H1 locs1 ls hP2 hD2 hS1 hl
theorem V_alen (X : CX p s m args meth c cc nL y ret G A) {a n : Nat} {f : Nat → Int32} (hd : decode cc pc = .ok (.arraylength, 1)) (hw : ws[a]? = some (iA n f)) (kk : V p l e R s m args below meth c cells slots Q G A nL ad (ws) (pc + 1) (lv) (.int (nI n) :: st)) : V p l e R s m args below meth c cells slots Q G A nL ad (ws) (pc) (lv) (.ref a :: st) := by
  intro H locs ls hP hD hS hl
  exact va_alen (D := G.1) (cl := vwCl) (ws := cw G ad ws) X.1.1 X.1.2.1 X.2.1 hP a 0 (x := (n, .inl f)) (cw_get hw) (ty := .int) rfl rfl hd (kk H locs ls hP hD hS hl)
theorem V_aald (X : CX p s m args meth c cc nL y ret G A) {a k : Nat} {xs : List (Option Nat)} {i : Int32} (j : Nat) (hd : decode cc pc = .ok (.aaload, 1)) (hw : ws[a]? = some (rA xs)) (hi : i = nI j) (hj : xs[j]? = some (some k)) (hn : xs.length < 2147483648) (kk : V p l e R s m args below meth c cells slots Q G A nL ad (ws) (pc + 1) (lv) (.ref k :: st)) : V p l e R s m args below meth c cells slots Q G A nL ad (ws) (pc) (lv) (.int i :: .ref a :: st) := by
  subst hi
  intro H locs ls hP hD hS hl
  have hlt : j < xs.length := (List.getElem?_eq_some_iff.mp hj).1
  have hcl : (nI j).toNatClampNeg = j := nI_clamp (by omega)
  refine va_aldq (D := G.1) (cl := vwCl) (ws := cw G ad ws) X.1.1 X.1.2.1 X.2.1 hP a 1 (cw_get hw) rfl (vp_in_nI hlt hn) hd ?_
  rw [hcl]
  have e1 : (xs.getD j none).map ad = some (ad k) := by rw [List.getD_eq_getElem?_getD, hj]; rfl
  rw [e1]
  exact kk H locs ls hP hD hS hl
theorem V_getP (X : CX p s m args meth c cc nL y ret G A) {idx : Nat} (hd : decode cc pc = .ok (.getstatic idx, 3)) (hk : ad kP = G.2.2.2) (hl0 : Cond.fieldLink y.cls idx "LikeLastYears" "POWER" "[I" ∈ tb ∨ Cond.fieldLinkNest y.cls idx "LikeLastYears" "POWER" "[I" "LikeLastYears" ∈ nst) (kk : V p l e R s m args below meth c cells slots Q G A nL ad (ws) (pc + 3) (lv) (.ref kP :: st)) : V p l e R s m args below meth c cells slots Q G A nL ad (ws) (pc) (lv) (st) := by
  intro H locs ls hP hD hS hl
  have k2 := kk H locs ls hP hD hS hl
  have e1 : (Value.ref kP :: st).map (cv ad) = .ref G.2.2.2 :: st.map (cv ad) := by show Value.ref (ad kP) :: _ = _; rw [hk]
  rw [e1] at k2
  rcases hl0 with h | h
  · exact va_gets X.1.1 X.1.2.1 X.2.2.2.1.1 hS X.1.2.2.2.1 (X.1.2.2.2.2 _ h) (fun _ h9 => h9) hd k2
  · exact va_getsN X.1.1 X.1.2.1 X.2.2.2.1.1 hS X.1.2.2.2.1 (va_Nw.use rfl (X.2.2.2.1.2.2.2.1 _ h)) (fun _ h9 => h9) hd k2
theorem V_ialdP (X : CX p s m args meth c cc nL y ret G A) {i : Int32} (j : Nat) (hd : decode cc pc = .ok (.iaload, 1)) (hk : ad kP = G.2.2.2) (hi : i = nI j) (hj : j < 5) (kk : V p l e R s m args below meth c cells slots Q G A nL ad (ws) (pc + 1) (lv) (.int (nI (10 ^ j)) :: st)) : V p l e R s m args below meth c cells slots Q G A nL ad (ws) (pc) (lv) (.int i :: .ref kP :: st) := by
  subst hi
  intro H locs ls hP hD hS hl
  have hcl : (nI j).toNatClampNeg = j := nI_clamp (by omega)
  have k2 := va_ti X.1.1 X.1.2.1 X.2.2.2.1.2.1 hS (vp_in_nI hj (by decide)) (v := .int (nI (10 ^ j))) (by rw [hcl]; rfl) hd (kk H locs ls hP hD hS hl)
  have e1 : (Value.int (nI j) :: Value.ref kP :: st).map (cv ad) = .int (nI j) :: .ref G.2.2.2 :: st.map (cv ad) := by show _ :: Value.ref (ad kP) :: _ = _; rw [hk]; rfl
  rw [e1]
  exact k2
theorem V_alenP (X : CX p s m args meth c cc nL y ret G A) (hd : decode cc pc = .ok (.arraylength, 1)) (hk : ad kP = G.2.2.2) (kk : V p l e R s m args below meth c cells slots Q G A nL ad (ws) (pc + 1) (lv) (.int (nI 5) :: st)) : V p l e R s m args below meth c cells slots Q G A nL ad (ws) (pc) (lv) (.ref kP :: st) := by
  intro H locs ls hP hD hS hl
  have k2 := va_tlen X.1.1 X.1.2.1 X.2.2.2.1.2.1 hS (v := nI 5) rfl hd (kk H locs ls hP hD hS hl)
  have e1 : (Value.ref kP :: st).map (cv ad) = .ref G.2.2.2 :: st.map (cv ad) := by show Value.ref (ad kP) :: _ = _; rw [hk]
  rw [e1]
  exact k2
theorem V_ldc (X : CX p s m args meth c cc nL y ret G A) {idx : Nat} {v : Int32} (hd : decode cc pc = .ok (.ldc idx, 2)) (hc : Cond.constant y.cls idx v ∈ tb) (kk : V p l e R s m args below meth c cells slots Q G A nL ad (ws) (pc + 2) (lv) (.int v :: st)) : V p l e R s m args below meth c cells slots Q G A nL ad (ws) (pc) (lv) (st) := fun H locs ls hP hD hS hl => lv_ldc X.1.1 X.1.2.1 X.1.2.2.2.1 (X.1.2.2.2.2 _ hc) hd (kk H locs ls hP hD hS hl)
theorem V_ldcw (X : CX p s m args meth c cc nL y ret G A) {idx : Nat} {v : Int32} (hd : decode cc pc = .ok (.ldc_w idx, 3)) (hc : Cond.constant y.cls idx v ∈ tb) (kk : V p l e R s m args below meth c cells slots Q G A nL ad (ws) (pc + 3) (lv) (.int v :: st)) : V p l e R s m args below meth c cells slots Q G A nL ad (ws) (pc) (lv) (st) := fun H locs ls hP hD hS hl => lv_ldcw X.1.1 X.1.2.1 X.1.2.2.2.1 (X.1.2.2.2.2 _ hc) hd (kk H locs ls hP hD hS hl)
theorem V_ldc2 (X : CX p s m args meth c cc nL y ret G A) {idx : Nat} {v : Int64} (hd : decode cc pc = .ok (.ldc2_w idx, 3)) (hc : Cond.constantLong y.cls idx v ∈ tb) (kk : V p l e R s m args below meth c cells slots Q G A nL ad (ws) (pc + 3) (lv) (.long v :: st)) : V p l e R s m args below meth c cells slots Q G A nL ad (ws) (pc) (lv) (st) := fun H locs ls hP hD hS hl => lv_ldc2 X.1.1 X.1.2.1 X.1.2.2.2.1 (X.1.2.2.2.2 _ hc) hd (kk H locs ls hP hD hS hl)
theorem V_eqS {st2 : List Value} (h : st = st2) (k : V p l e R s m args below meth c cells slots Q G A nL ad (ws) (pc) (lv) (st2)) : V p l e R s m args below meth c cells slots Q G A nL ad (ws) (pc) (lv) (st) := h ▸ k
theorem V_eqL {lv2 : List (Option Value)} (h : lv = lv2) (k : V p l e R s m args below meth c cells slots Q G A nL ad (ws) (pc) (lv2) (st)) : V p l e R s m args below meth c cells slots Q G A nL ad (ws) (pc) (lv) (st) := h ▸ k
theorem V_eqW {ws2 : List CE} (h : ws = ws2) (k : V p l e R s m args below meth c cells slots Q G A nL ad (ws2) (pc) (lv) (st)) : V p l e R s m args below meth c cells slots Q G A nL ad (ws) (pc) (lv) (st) := h ▸ k
theorem V_widen {mc ms : Nat} (h1 : cells ≤ mc) (h2 : slots ≤ ms) (k : V p l e R s m args below meth c mc ms Q G A nL ad ws pc lv st) : V p l e R s m args below meth c cells slots Q G A nL ad (ws) (pc) (lv) (st) := fun H locs ls hP hD hS hl => W.widen h1 h2 (k H locs ls hP hD hS hl)
end VH
def QQ (G : GX) (A : Nat → Prop) (post : (Nat → Nat) → Option Value → List CE → Prop) : Array Value → State → Outcome → State → Prop := fun _ st oc t => (∃ (ad2 : Nat → Nat) (v : Option Value) (ws2 : List CE), oc = .returned (v.map (cv ad2)) ∧ post ad2 v ws2 ∧ va_P G.1 vwCl (cw G ad2 ws2) t.heap ∧ va_D A (cw G ad2 ws2)) ∧ va_F A st t
abbrev pI (ad : Nat → Nat) (Po : Int32 → List CE → Prop) : (Nat → Nat) → Option Value → List CE → Prop := fun ad2 v ws2 => ad2 = ad ∧ ∃ r : Int32, v = some (.int r) ∧ Po r ws2
abbrev pL (ad : Nat → Nat) (Po : Int64 → List CE → Prop) : (Nat → Nat) → Option Value → List CE → Prop := fun ad2 v ws2 => ad2 = ad ∧ ∃ r : Int64, v = some (.long r) ∧ Po r ws2
abbrev pR (ad : Nat → Nat) (Po : Nat → List CE → Prop) : (Nat → Nat) → Option Value → List CE → Prop := fun ad2 v ws2 => ad2 = ad ∧ ∃ r : Nat, v = some (.ref r) ∧ Po r ws2
abbrev pV (ad : Nat → Nat) (Po : List CE → Prop) : (Nat → Nat) → Option Value → List CE → Prop := fun ad2 v ws2 => ad2 = ad ∧ v = none ∧ Po ws2
section VR
variable {p : Program} {l : Launch} {e : Env} {R : Room} {s : State} {m : MethodId} {args : Array Value} {below : List Frame} {meth : Method} {c : Code} {cells slots : Nat} {Q : State → Prop} {cc : ByteArray} {nL : Nat} {y : MethodName} {ret : Option FieldType} {G : GX} {A : Nat → Prop} {ad : Nat → Nat} {ws : List CE} {pc : Nat} {lv : List (Option Value)} {st : List Value}
theorem V_iret {Po : Int32 → List CE → Prop} {v : Int32} (X : CX p s m args meth c cc nL y (some .int) G A) (hd : decode cc pc = .ok (.ireturn, 1)) (hp : Po v ws) : V p l e R s m args below meth c cells slots (MQ below (QQ G A (pI ad Po)) args s cells slots A) G A nL ad ws pc lv [.int v] := by
  intro H locs ls hP hD hS hl
  exact W.iret (v := v) X.1.1 X.1.2.1 X.2.2.2.2.2.1 (fun t ht hW => ⟨⟨ad, some (.int v), ws, rfl, ⟨rfl, v, rfl, hp⟩, by rw [ht]; exact hP, hD⟩, hS.F ht⟩) hS.2.2 hd X.2.2.2.2.1
theorem V_zret {Po : Int32 → List CE → Prop} {v : Int32} (X : CX p s m args meth c cc nL y (some .boolean) G A) (hd : decode cc pc = .ok (.ireturn, 1)) (hn : narrow .boolean (.int v) = .int v) (hp : Po v ws) : V p l e R s m args below meth c cells slots (MQ below (QQ G A (pI ad Po)) args s cells slots A) G A nL ad ws pc lv [.int v] := by
  intro H locs ls hP hD hS hl
  exact W.zret (v := v) X.1.1 X.1.2.1 X.2.2.2.2.2.1 hn (fun t ht hW => ⟨⟨ad, some (.int v), ws, rfl, ⟨rfl, v, rfl, hp⟩, by rw [ht]; exact hP, hD⟩, hS.F ht⟩) hS.2.2 hd X.2.2.2.2.1
theorem V_lret {Po : Int64 → List CE → Prop} {v : Int64} (X : CX p s m args meth c cc nL y (some .long) G A) (hd : decode cc pc = .ok (.lreturn, 1)) (hp : Po v ws) : V p l e R s m args below meth c cells slots (MQ below (QQ G A (pL ad Po)) args s cells slots A) G A nL ad ws pc lv [.long v] := by
  intro H locs ls hP hD hS hl
  exact W.lret (v := v) X.1.1 X.1.2.1 X.2.2.2.2.2.1 (fun t ht hW => ⟨⟨ad, some (.long v), ws, rfl, ⟨rfl, v, rfl, hp⟩, by rw [ht]; exact hP, hD⟩, hS.F ht⟩) hS.2.2 hd X.2.2.2.2.1
theorem V_aretC {Po : Nat → List CE → Prop} {k : Nat} {C : String} (X : CX p s m args meth c cc nL y (some (.object C)) G A) (hd : decode cc pc = .ok (.areturn, 1)) (hp : Po k ws) : V p l e R s m args below meth c cells slots (MQ below (QQ G A (pR ad Po)) args s cells slots A) G A nL ad ws pc lv [.ref k] := by
  intro H locs ls hP hD hS hl
  exact W.aret (v := .ref (ad k)) X.1.1 X.1.2.1 X.2.2.2.2.2.1 (Or.inl ⟨_, rfl⟩) (Or.inr ⟨_, rfl⟩) (fun t ht hW => ⟨⟨ad, some (.ref k), ws, rfl, ⟨rfl, k, rfl, hp⟩, by rw [ht]; exact hP, hD⟩, hS.F ht⟩) hS.2.2 hd X.2.2.2.2.1
theorem V_vret {Po : List CE → Prop} (X : CX p s m args meth c cc nL y none G A) (hd : decode cc pc = .ok (.return_, 1)) (hp : Po ws) : V p l e R s m args below meth c cells slots (MQ below (QQ G A (pV ad Po)) args s cells slots A) G A nL ad ws pc lv [] := by
  intro H locs ls hP hD hS hl
  exact W.vret X.1.1 X.1.2.1 X.2.2.2.2.2.1 (fun t ht hW => ⟨⟨ad, none, ws, rfl, ⟨rfl, rfl, hp⟩, by rw [ht]; exact hP, hD⟩, hS.F ht⟩) hS.2.2 hd X.2.2.2.2.1
end VR
def rmm (h mc ms : Nat) : Room := { frames := h, cells := mc, slots := ms, locals := 40 * h }
def PW (G : GX) (ad : Nat → Nat) (ws : List CE) (sz : Nat) (U : State) : Prop := U.heap.size = sz ∧ va_P G.1 vwCl (cw G ad ws) U.heap ∧ va_K G.1 vwCl (tysG G) U ∧ va_D (fun _ => True) (cw G ad ws) ∧ SX G (va_A (cw G ad ws) sz) U U.heap
def Ct (l : Launch) (G : GX) (y : MethodName) (cc : ByteArray) (nL : Nat) (ret : Option FieldType) (h mc ms : Nat) (ad : Nat → Nat) (ws : List CE) (as : List Value) (post : (Nat → Nat) → Option Value → List CE → Prop) : Prop :=
  ∀ sz : Nat, Met l y (Cond.code y cc nL ret :: tb) (rmm h mc ms) (va_Pc (as.map (cv ad)) (PW G ad ws sz)) (QQ G (va_A (cw G ad ws) sz) post) mc ms (va_A (cw G ad ws) sz)
def elv : List Value → List (Option Value)
  | [] => []
  | .long x :: r => some (.long x) :: none :: elv r
  | .double x :: r => some (.double x) :: none :: elv r
  | v :: r => some v :: elv r
theorem lvp_rep (ad : Nat → Nat) (i n : Nat) : lvp ad i (List.replicate n none) = [] := by
  induction n generalizing i with
  | zero => rfl
  | succ n ih => rw [List.replicate_succ, lvp]; exact ih (i + 1)
theorem lvp_elv (ad : Nat → Nat) (n : Nat) : ∀ (as : List Value) (i : Nat), lvp ad i (elv as ++ List.replicate n none) = lv_args i (as.map (cv ad))
  | [], i => by simpa [elv, lv_args] using lvp_rep ad i n
  | .long x :: r, i => by
    simp only [elv, List.cons_append, lvp, lvp_elv ad n r, List.map_cons, lv_args]
    rfl
  | .double x :: r, i => by
    simp only [elv, List.cons_append, lvp, lvp_elv ad n r, List.map_cons, lv_args]
    rfl
  | .int x :: r, i => by
    simp only [elv, List.cons_append, lvp, lvp_elv ad n r, List.map_cons, lv_args]
    rfl
  | .float x :: r, i => by
    simp only [elv, List.cons_append, lvp, lvp_elv ad n r, List.map_cons, lv_args]
    rfl
  | .ref x :: r, i => by
    simp only [elv, List.cons_append, lvp, lvp_elv ad n r, List.map_cons, lv_args]
    rfl
  | .null :: r, i => by
    simp only [elv, List.cons_append, lvp, lvp_elv ad n r, List.map_cons, lv_args]
    rfl
  | .retAddr x :: r, i => by
    simp only [elv, List.cons_append, lvp, lvp_elv ad n r, List.map_cons, lv_args]
    rfl
theorem elv_len (ad : Nat → Nat) : ∀ (as : List Value), (lg_sl (as.map (cv ad))).length = (elv as).length
  | [] => rfl
  | .long x :: r => by have := elv_len ad r; simp only [elv, List.map_cons, List.length_cons, lg_sl, List.flatMap_cons, List.length_append] at this ⊢; rw [this]; simp [cv, Value.category]; omega
  | .double x :: r => by have := elv_len ad r; simp only [elv, List.map_cons, List.length_cons, lg_sl, List.flatMap_cons, List.length_append] at this ⊢; rw [this]; simp [cv, Value.category]; omega
  | .int x :: r => by have := elv_len ad r; simp only [elv, List.map_cons, List.length_cons, lg_sl, List.flatMap_cons, List.length_append] at this ⊢; rw [this]; simp [cv, Value.category]; omega
  | .float x :: r => by have := elv_len ad r; simp only [elv, List.map_cons, List.length_cons, lg_sl, List.flatMap_cons, List.length_append] at this ⊢; rw [this]; simp [cv, Value.category]; omega
  | .ref x :: r => by have := elv_len ad r; simp only [elv, List.map_cons, List.length_cons, lg_sl, List.flatMap_cons, List.length_append] at this ⊢; rw [this]; simp [cv, Value.category]; omega
  | .null :: r => by have := elv_len ad r; simp only [elv, List.map_cons, List.length_cons, lg_sl, List.flatMap_cons, List.length_append] at this ⊢; rw [this]; simp [cv, Value.category]; omega
  | .retAddr x :: r => by have := elv_len ad r; simp only [elv, List.map_cons, List.length_cons, lg_sl, List.flatMap_cons, List.length_append] at this ⊢; rw [this]; simp [cv, Value.category]; omega
theorem Met_ofWF {l : Launch} {y : MethodName} {ws ws' : List Cond} {rm : Room} {Pc : Array Value → State → Prop} {Qc : Array Value → State → Outcome → State → Prop} {mc ms : Nat} {free : Addr → Prop} {cc : ByteArray} {maxL : Nat} {ret : Option FieldType}
    (hy : plainFor y = true) (hw : ws = Cond.code y cc maxL ret :: ws')
    (body : ∀ p e s m args below meth c s₁, BodyLoose p l y (headSpec ws rm) cc maxL ret e s m args below meth c s₁ → c.maxLocals = maxL → Pc args s →
      W p l e (headSpec ws rm).room s m args below meth c s.heap [] 0 0 (MQ below Qc args s mc ms free) (entryFrame m args maxL)) : Met l y ws rm Pc Qc mc ms free := by
  refine MetFree.of_bodySF (code := cc) (maxLocals := maxL) (ret := ret) hy ?_ ?_
  · intro args s m h hn
    obtain ⟨meth, c, h1, h2, h3, h4, h5, h6, -, -⟩ := Cond.code_spec hn (atoms_spec (ws := ws) h _ (by rw [hw]; exact List.mem_cons_self))
    exact ⟨meth, c, h1, h2, h3, h4, h5, h6⟩
  · intro p e s m args below meth c s₁ B hml hP _
    have hh0 : s₁.heap = s.heap := by rw [B.state]; rfl
    obtain ⟨t, a1, o, b1, b2, b3⟩ := body p e s m args below meth c s₁ B hml hP s₁ hh0 (Stand.of_body B)
    exact ⟨t, o, a1, b1, b2, ⟨b3.1, b3.2⟩⟩
theorem Ct.of {l : Launch} {G : GX} {y : MethodName} {cc : ByteArray} {nL : Nat} {ret : Option FieldType} {h mc ms : Nat} {ad : Nat → Nat} {ws : List CE} {as : List Value} {post : (Nat → Nat) → Option Value → List CE → Prop} (lv : List (Option Value)) (hy : plainFor y = true) (hle : (elv as).length ≤ nL) (hlv : elv as ++ List.replicate (nL - (elv as).length) none = lv)
    (body : ∀ (p : Program) (e : Env) (s : State) (m : MethodId) (args : Array Value) (below : List Frame) (meth : Method) (c : Code) (A : Nat → Prop), CX p s m args meth c cc nL y ret G A → V p l e (rmm h mc ms) s m args below meth c 0 0 (MQ below (QQ G A post) args s mc ms A) G A nL ad ws 0 lv []) : Ct l G y cc nL ret h mc ms ad ws as post := by
  intro sz
  refine Met_ofWF (cc := cc) (maxL := nL) (ret := ret) hy rfl ?_
  intro p e s m args below meth c s₁ B hml hv
  obtain ⟨rfl, hsz, hP, hK, hD0, hSX⟩ := hv
  have hts := atoms_spec (ws := Cond.code y cc nL ret :: tb) B.pre
  have hown : s.vm.findClass y.cls = some m.cls := findClass_of_methodNamed B.named
  have hin : meth.name = y.name := (name_of_methodNamed B.named B.method).1
  subst hsz
  have hD := hD0.self (sz := s.heap.size)
  generalize hAe : va_A (cw G ad ws) s.heap.size = A at hD hSX ⊢
  have hA : ∀ q : Nat, s.heap.size ≤ q → A q := fun q h => by rw [← hAe]; exact Or.inr h
  have hl := lv_entry (as.map (cv ad)) (n := nL) (by rw [elv_len]; exact hle)
  rw [lg_entry_eq]
  refine body p e s m _ below meth c A ⟨⟨B.exec, B.bytes, hml, hown, fun w hw => hts w (List.mem_cons_of_mem _ hw)⟩, hK, hA, hSX, B.notSynchronized, B.returns, hin⟩ s.heap [] _ hP hD va_S.rf ⟨?_, ?_⟩
  · rw [← hlv, lvp_elv]
    exact hl
  · rw [← hlv, List.length_append, List.length_replicate]
    omega
end
section
def okD (y : MethodName) (n : Nat) : Prop := y.cls ≠ "java/lang/invoke/MethodHandle" ∧ y.cls ≠ "java/lang/invoke/VarHandle" ∧ (parseMethodDescriptor y.desc).map (fun d => d.parameters.length) = some n
def CV (own : String) (idx : Nat) (y : MethodName) (cc : ByteArray) (nL : Nat) (ret : Option FieldType) (n : Nat) : Prop := Cond.code y cc nL ret ∈ tb ∧ Cond.methodLink own idx y ∈ tb ∧ Cond.instanceMethod y ∈ tb ∧ Cond.selects y.cls y y ∈ tb ∧ Cond.initialized y.cls ∈ tb ∧ okD y n
def CS (own : String) (idx : Nat) (y : MethodName) (cc : ByteArray) (nL : Nat) (ret : Option FieldType) (n : Nat) : Prop := Cond.code y cc nL ret ∈ tb ∧ Cond.methodLink own idx y ∈ tb ∧ Cond.static y ∈ tb ∧ Cond.initialized y.cls ∈ tb ∧ okD y n
def CN (own : String) (idx : Nat) (y : MethodName) (cc : ByteArray) (nL : Nat) (n : Nat) : Prop := Cond.code y cc nL none ∈ tb ∧ (Cond.methodLink own idx y ∈ tb ∨ ∃ host, Cond.methodLinkNest own idx y host ∈ nst) ∧ Cond.instanceMethod y ∈ tb ∧ Cond.initialized y.cls ∈ tb ∧ y.name = "<init>" ∧ okD y n
def CU (own : String) (idx : Nat) (C : String) (x y : MethodName) (cc : ByteArray) (nL : Nat) (ret : Option FieldType) (n : Nat) : Prop := Cond.code y cc nL ret ∈ tb ∧ Cond.methodLink own idx x ∈ tb ∧ Cond.sameMethod x.cls x.cls x.name x.desc ∈ tb ∧ Cond.instanceMethod x ∈ tb ∧ Cond.selects C x y ∈ tb ∧ Cond.instanceMethod y ∈ tb ∧ Cond.initialized y.cls ∈ tb ∧ (∃ b0 m0 r0, Cond.code x b0 m0 r0 ∈ tb) ∧ okD x n
theorem tb_in {w : Cond} (h : w ∈ tb) : w ∈ tb ∧ ((w.onTables && w.keeps) = true ∨ ∃ ty, w = .arrayClass ty) := ⟨h, good_of_word (tb_good h)⟩
theorem PW_fb {G : GX} {ad : Nat → Nat} {ws : List CE} {sz : Nat} {av : List Value} : FrameBlind (va_Pc av (PW G ad ws sz)) := fun a U g mk h => ⟨h.1, h.2.1, h.2.2.1, va_K.moved (u := U) (U := U.calling g mk a) (Vm.Alike.refl U.vm) h.2.2.2.1, h.2.2.2.2.1, SX.same (u := U) (U := U.calling g mk a) rfl h.2.2.2.2.2⟩
section VC
variable {p : Program} {l : Launch} {e : Env} {R : Room} {s : State} {m : MethodId} {args : Array Value} {below : List Frame} {meth : Method} {c : Code} {cells slots : Nat} {Q : State → Prop} {cc : ByteArray} {nL : Nat} {y : MethodName} {ret : Option FieldType} {G : GX} {A : Nat → Prop} {ad : Nat → Nat} {ws : List CE} {pc : Nat} {lv : List (Option Value)} {st : List Value}
theorem PW_of (X : CX p s m args meth c cc nL y ret G A) {H : Heap} {locs : List Loc} (hP : va_P G.1 vwCl (cw G ad ws) H) (hD : va_D A (cw G ad ws)) (hS : va_S A s.heap H locs) (hA1 : ∀ q, va_A (cw G ad ws) H.size q → A q) (U : State) (hU : U.heap = H) (hW : s.WarmedH U.vm) : PW G ad ws H.size U :=
  ⟨by rw [hU], by rw [hU]; exact hP, va_K.moved hW.alike X.2.1, hD.weaken (fun _ _ _ _ => trivial), by rw [hU]; exact ((X.2.2.2.1.kept hS.2.1).narrow hA1).warm hW⟩
theorem free_of (X : CX p s m args meth c cc nL y ret G A) {H : Heap} {locs : List Loc} (hD : va_D A (cw G ad ws)) (hS : va_S A s.heap H locs) : ∀ q, va_A (cw G ad ws) H.size q → A q := by
  intro q h
  rcases h with ⟨k, e, h⟩ | h
  · exact hD.2 k (q, e) h
  · exact X.2.2.1 q (Nat.le_trans hS.1 h)
theorem W_callQ {H : Heap} {locs : List Loc} {ls : Array Slot} {st0 rest : List Value} {A1 : Nat → Prop} {post : (Nat → Nat) → Option Value → List CE → Prop} {av : Array Value} {free : Addr → Prop} {mc ms : Nat} (hr : va_Run p l e R s m args below meth c H locs cells slots mc ms (F0 m pc ls st0) rest (QQ G A1 post av) free) (hS : va_S A s.heap H locs) (hA : ∀ q, A1 q → A q) (hf : ∀ q, free q → A q)
    (kk : ∀ (ad2 : Nat → Nat) (v : Option Value) (ws2 : List CE) (H1 : Heap) (locs1 : List Loc), post ad2 v ws2 → va_P G.1 vwCl (cw G ad2 ws2) H1 → va_D A (cw G ad2 ws2) → va_S A s.heap H1 locs1 → W p l e R s m args below meth c H1 locs1 (cells + mc) (slots + ms) Q (F0 m (pc + 3) ls ((v.map (cv ad2)).toList ++ rest))) : W p l e R s m args below meth c H locs cells slots Q (F0 m pc ls st0) := by
  intro T hT X
  obtain ⟨v, st₀, t, T', L, h0, X', hL, e1, e2, ⟨⟨ad2, v2, ws2, hv, hp, hP1, hD1⟩, hz, hk⟩, sg⟩ := hr T hT X
  cases hv
  rw [h0] at hz hk
  obtain ⟨t2, a1, b1⟩ := kk ad2 v2 ws2 T'.heap (locs ++ L) hp (by rw [e1]; exact hP1) (hD1.weaken (fun k q _ h => hA q.1 h))
    ⟨Nat.le_trans hS.1 (by rw [e1]; exact hz), fun q h1 h2 => by rw [e1, hk q (Nat.lt_of_lt_of_le h1 hS.1) (fun z => h2 (hA q z))]; exact hS.2.1 q h1 h2, fun q hq => by
      rcases List.mem_append.mp hq with h | h
      · exact hS.2.2 q h
      · exact hf _ (hL q h)⟩ T' rfl X'
  exact ⟨t2, sg t2 a1, b1⟩
theorem cat_of (ad : Nat → Nat) {st : List Value} (h : (st.map fun v => v.category).sum ≤ 8) : ((st.map (cv ad)).map fun v => v.category).sum ≤ 8 := by
  have : (st.map (cv ad)).map (fun v : Value => v.category) = st.map fun v => v.category := by
    rw [List.map_map]
    exact List.map_congr_left (fun v _ => cv_cat ad v)
  rw [this]; exact h
abbrev KK (p : Program) (l : Launch) (e : Env) (R : Room) (s : State) (m : MethodId) (args : Array Value) (below : List Frame) (meth : Method) (c : Code) (cells slots : Nat) (Q : State → Prop) (G : GX) (A : Nat → Prop) (nL : Nat) (ad : Nat → Nat) (pc : Nat) (lv : List (Option Value)) (st : List Value) (post : (Nat → Nat) → Option Value → List CE → Prop) : Prop :=
  ∀ (ad2 : Nat → Nat) (v : Option Value) (ws2 : List CE), post ad2 v ws2 → (st.map (cv ad2) = st.map (cv ad)) ∧ (lvp ad2 0 lv = lvp ad 0 lv) ∧ V p l e R s m args below meth c cells slots Q G A nL ad2 ws2 (pc + 3) lv (v.toList ++ st)
theorem V_run (X : CX p s m args meth c cc nL y ret G A) {H : Heap} {locs : List Loc} {ls : Array Slot} {mc ms : Nat} {st0 : List Value} {post : (Nat → Nat) → Option Value → List CE → Prop} {av : Array Value} (hD : va_D A (cw G ad ws)) (hS : va_S A s.heap H locs) (hl : lvh ad ls nL lv) (hr : va_Run p l e R s m args below meth c H locs cells slots mc ms (F0 m pc ls st0) (st.map (cv ad)) (QQ G (va_A (cw G ad ws) H.size) post av) (va_A (cw G ad ws) H.size))
    (kk : KK p l e R s m args below meth c (cells + mc) (slots + ms) Q G A nL ad pc lv st post) : W p l e R s m args below meth c H locs cells slots Q (F0 m pc ls st0) := by
  have hA1 := free_of (ws := ws) X hD hS
  refine W_callQ hr hS hA1 hA1 (fun ad2 v ws2 H1 locs1 hp hP1 hD1 hS1 => ?_)
  obtain ⟨e1, e2, k⟩ := kk ad2 v ws2 hp
  have := k H1 locs1 ls hP1 hD1 hS1 ⟨by rw [e2]; exact hl.1, hl.2⟩
  rw [List.map_append, e1] at this
  cases v <;> exact this
theorem V_gV (X : CX p s m args meth c cc nL y ret G A) {y2 : MethodName} {cc2 : ByteArray} {nL2 n h mc ms k ci idx : Nat} {ret2 : Option FieldType} {as fs : List Value} {post : (Nat → Nat) → Option Value → List CE → Prop} {T2 : u_T} {N2 : Nat} (hd : decode cc pc = .ok (.invokevirtual idx, 3)) (hc : CV y.cls idx y2 cc2 nL2 ret2 n) (M : Ct l G y2 cc2 nL2 ret2 h mc ms ad ws (.ref k :: as) post) (hk : ws[k]? = some (oB ci fs)) (hcl : vwCl[ci]? = some (y2.cls, T2, N2)) (hn : as.length = n) (hcat : (st.map fun v => v.category).sum ≤ 8) (hR : (h + 1 ≤ R.frames ∧ 8 + (nL2 + 11) + 40 * h ≤ R.locals) ∧ cells + mc ≤ R.cells ∧ slots + ms ≤ R.slots)
    (kk : KK p l e R s m args below meth c (cells + mc) (slots + ms) Q G A nL ad pc lv st post) : V p l e R s m args below meth c cells slots Q G A nL ad ws pc lv (as.reverse ++ .ref k :: st) := by
  intro H locs ls hP hD hS hl
  obtain ⟨h1, h2, h3, h4, h5, hok⟩ := hc
  have hG : GoodIn tb (wsV y.cls idx y2.cls y2 (Cond.code y2 cc2 nL2 ret2 :: tb)) := by
    intro w hw
    rcases List.mem_append.mp hw with hw | hw
    · simp only [List.mem_cons, List.not_mem_nil, or_false] at hw
      rcases hw with rfl | rfl | rfl | rfl <;> exact tb_in (by assumption)
    · exact tb_goodIn h1 w hw
  have hr := va_runV (e := e) (below := below) (meth := meth) (As := as.map (cv ad)) (rest := st.map (cv ad)) (n := n) (b := ad k) (g := F0 m pc ls ((as.reverse ++ .ref k :: st).map (cv ad))) (cells := cells) (slots := slots) (locs := locs) (H := H) X.1 (M H.size) (cwV n X.1.2.2.2.2 hG rfl rfl rfl ⟨rfl, hok⟩ hR.1)
    ⟨PW_fb, va_recv X.2.1 hP hcl (cw_get hk), fun U hU hW => ⟨rfl, PW_of X hP hD hS (free_of (ws := ws) X hD hS) U hU hW⟩⟩ rfl (by rw [List.length_map]; exact hn) hl.1.1 (by show (as.reverse ++ .ref k :: st).map (cv ad) = _; rw [List.map_append, List.map_reverse]; rfl) (lv_room (cat_of ad hcat)) hd hR.2
  exact V_run X hD hS hl hr kk
theorem V_gU (X : CX p s m args meth c cc nL y ret G A) {C : String} {x2 y2 : MethodName} {cc2 : ByteArray} {nL2 n h mc ms k ci idx : Nat} {ret2 : Option FieldType} {as fs : List Value} {post : (Nat → Nat) → Option Value → List CE → Prop} {T2 : u_T} {N2 : Nat} (hd : decode cc pc = .ok (.invokevirtual idx, 3)) (hc : CU y.cls idx C x2 y2 cc2 nL2 ret2 n) (M : Ct l G y2 cc2 nL2 ret2 h mc ms ad ws (.ref k :: as) post) (hk : ws[k]? = some (oB ci fs)) (hcl : vwCl[ci]? = some (C, T2, N2)) (hn : as.length = n) (hcat : (st.map fun v => v.category).sum ≤ 8) (hR : (h + 1 ≤ R.frames ∧ 8 + (nL2 + 11) + 40 * h ≤ R.locals) ∧ cells + mc ≤ R.cells ∧ slots + ms ≤ R.slots)
    (kk : KK p l e R s m args below meth c (cells + mc) (slots + ms) Q G A nL ad pc lv st post) : V p l e R s m args below meth c cells slots Q G A nL ad ws pc lv (as.reverse ++ .ref k :: st) := by
  intro H locs ls hP hD hS hl
  obtain ⟨h1, h2, h3, h4, h5, h6, h7, ⟨b0, m0, r0, h8⟩, hok⟩ := hc
  have hG : GoodIn tb (va_wsO y.cls idx C x2.cls x2 y2 (Cond.code y2 cc2 nL2 ret2 :: tb)) := by
    intro w hw
    rcases List.mem_append.mp hw with hw | hw
    · simp only [List.mem_cons, List.not_mem_nil, or_false] at hw
      rcases hw with rfl | rfl | rfl | rfl | rfl | rfl <;> exact tb_in (by assumption)
    · exact tb_goodIn h1 w hw
  have hr := va_runU (e := e) (below := below) (meth := meth) (As := as.map (cv ad)) (rest := st.map (cv ad)) (n := n) (b := ad k) (g := F0 m pc ls ((as.reverse ++ .ref k :: st).map (cv ad))) (cells := cells) (slots := slots) (locs := locs) (H := H) X.1 (M H.size) (va_cwO n X.1.2.2.2.2 hG rfl rfl rfl h8 hok hR.1)
    ⟨PW_fb, va_recv X.2.1 hP hcl (cw_get hk), fun U hU hW => ⟨rfl, PW_of X hP hD hS (free_of (ws := ws) X hD hS) U hU hW⟩⟩ rfl (by rw [List.length_map]; exact hn) hl.1.1 (by show (as.reverse ++ .ref k :: st).map (cv ad) = _; rw [List.map_append, List.map_reverse]; rfl) (lv_room (cat_of ad hcat)) hd hR.2
  exact V_run X hD hS hl hr kk
theorem V_gS (X : CX p s m args meth c cc nL y ret G A) {y2 : MethodName} {cc2 : ByteArray} {nL2 n h mc ms idx : Nat} {ret2 : Option FieldType} {as : List Value} {post : (Nat → Nat) → Option Value → List CE → Prop} (hd : decode cc pc = .ok (.invokestatic idx, 3)) (hc : CS y.cls idx y2 cc2 nL2 ret2 n) (M : Ct l G y2 cc2 nL2 ret2 h mc ms ad ws as post) (hn : as.length = n) (hcat : (st.map fun v => v.category).sum ≤ 8) (hR : (h + 1 ≤ R.frames ∧ 8 + (nL2 + 11) + 40 * h ≤ R.locals) ∧ cells + mc ≤ R.cells ∧ slots + ms ≤ R.slots)
    (kk : KK p l e R s m args below meth c (cells + mc) (slots + ms) Q G A nL ad pc lv st post) : V p l e R s m args below meth c cells slots Q G A nL ad ws pc lv (as.reverse ++ st) := by
  intro H locs ls hP hD hS hl
  obtain ⟨h1, h2, h3, h4, hok⟩ := hc
  have hG : GoodIn tb (va_wsS y.cls idx y2 (Cond.code y2 cc2 nL2 ret2 :: tb)) := by
    intro w hw
    rcases List.mem_append.mp hw with hw | hw
    · simp only [List.mem_cons, List.not_mem_nil, or_false] at hw
      rcases hw with rfl | rfl | rfl <;> exact tb_in (by assumption)
    · exact tb_goodIn h1 w hw
  have hr := va_runS (e := e) (below := below) (meth := meth) (As := as.map (cv ad)) (rest := st.map (cv ad)) (n := n) (g := F0 m pc ls ((as.reverse ++ st).map (cv ad))) (cells := cells) (slots := slots) (locs := locs) (H := H) X.1 (M H.size) (va_cwS n X.1.2.2.2.2 hG rfl rfl rfl hok hR.1)
    ⟨PW_fb, fun U hU hW => ⟨rfl, PW_of X hP hD hS (free_of (ws := ws) X hD hS) U hU hW⟩⟩ rfl (by rw [List.length_map]; exact hn) hl.1.1 (by show (as.reverse ++ st).map (cv ad) = _; rw [List.map_append, List.map_reverse]) (lv_room (cat_of ad hcat)) hd hR.2
  exact V_run X hD hS hl hr kk
theorem V_gN (X : CX p s m args meth c cc nL y ret G A) {y2 : MethodName} {cc2 : ByteArray} {nL2 n h mc ms k idx : Nat} {as : List Value} {post : (Nat → Nat) → Option Value → List CE → Prop} (hd : decode cc pc = .ok (.invokespecial idx, 3)) (hc : CN y.cls idx y2 cc2 nL2 n) (M : Ct l G y2 cc2 nL2 none h mc ms ad ws (.ref k :: as) post) (hn : as.length = n) (hcat : (st.map fun v => v.category).sum ≤ 8) (hR : (h + 1 ≤ R.frames ∧ 8 + (nL2 + 11) + 40 * h ≤ R.locals) ∧ cells + mc ≤ R.cells ∧ slots + ms ≤ R.slots)
    (kk : KK p l e R s m args below meth c (cells + mc) (slots + ms) Q G A nL ad pc lv st post) : V p l e R s m args below meth c cells slots Q G A nL ad ws pc lv (as.reverse ++ .ref k :: st) := by
  intro H locs ls hP hD hS hl
  obtain ⟨h1, h2, h3, h4, h5, hok⟩ := hc
  have hst : (as.reverse ++ .ref k :: st).map (cv ad) = (as.map (cv ad)).reverse ++ .ref (ad k) :: st.map (cv ad) := by rw [List.map_append, List.map_reverse]; rfl
  have hpre : PreS s H (va_Pc ((Value.ref k :: as).map (cv ad)) (PW G ad ws H.size)) (.ref (ad k) :: as.map (cv ad)) := ⟨PW_fb, fun U hU hW => ⟨rfl, PW_of X hP hD hS (free_of (ws := ws) X hD hS) U hU hW⟩⟩
  rcases h2 with h2 | ⟨host, h2⟩
  · have hr := va_runI (e := e) (below := below) (meth := meth) (As := as.map (cv ad)) (rest := st.map (cv ad)) (n := n) (b := ad k) (g := F0 m pc ls ((as.reverse ++ .ref k :: st).map (cv ad))) (cells := cells) (slots := slots) (locs := locs) (H := H) X.1 (M H.size) (cwI n X.1.2.2.2.2 (tb_goodIn h1) rfl rfl rfl (X.1.2.2.2.2 _ h4) (X.1.2.2.2.2 _ h2) (X.1.2.2.2.2 _ h3) h5 hok hR.1) hpre rfl (by rw [List.length_map]; exact hn) hl.1.1 hst (lv_room (cat_of ad hcat)) hd hR.2
    exact V_run X hD hS hl hr kk
  · have hr := va_runIN (e := e) (below := below) (meth := meth) (As := as.map (cv ad)) (rest := st.map (cv ad)) (n := n) (b := ad k) (g := F0 m pc ls ((as.reverse ++ .ref k :: st).map (cv ad))) (cells := cells) (slots := slots) (locs := locs) (H := H) X.1 (M H.size) ⟨va_cnB n X.1.2.2.2.2 (tb_goodIn h1) rfl rfl rfl (X.2.2.2.1.2.2.2.1 _ h2) (X.1.2.2.2.2 _ h4) hok hR.1, h5, X.1.2.2.2.2 _ h3⟩ hpre rfl (by rw [List.length_map]; exact hn) hl.1.1 hst (lv_room (cat_of ad hcat)) hd hR.2
    exact V_run X hD hS hl hr kk
theorem V_cV0I (X : CX p s m args meth c cc nL y ret G A) {y2 : MethodName} {cc2 : ByteArray} {nL2 h idx : Nat} {ret2 : Option FieldType} {k ci : Nat} {fs : List Value} {T2 : u_T} {N2 : Nat} {Po : Int32 → List CE → Prop} (hd : decode cc pc = .ok (.invokevirtual idx, 3)) (hc : CV y.cls idx y2 cc2 nL2 ret2 0) (M : Ct l G y2 cc2 nL2 ret2 h 0 0 ad ws [.ref k] (pI ad Po)) (hk : ws[k]? = some (oB ci fs)) (hcl : vwCl[ci]? = some (y2.cls, T2, N2)) (hcat : (st.map fun v => v.category).sum ≤ 8) (hR : (h + 1 ≤ R.frames ∧ 8 + (nL2 + 11) + 40 * h ≤ R.locals) ∧ cells + 0 ≤ R.cells ∧ slots + 0 ≤ R.slots) (kk : ∀ (r : Int32) (ws2 : List CE), Po r ws2 → V p l e R s m args below meth c cells slots Q G A nL ad ws2 (pc + 3) lv (.int r :: st)) : V p l e R s m args below meth c cells slots Q G A nL ad ws pc lv (.ref k :: st) := V_gV (as := []) X hd hc M hk hcl rfl hcat hR (fun ad2 v ws2 hp => by obtain ⟨rfl, r, rfl, hp⟩ := hp; exact ⟨rfl, rfl, kk r ws2 hp⟩)
theorem V_cV0L (X : CX p s m args meth c cc nL y ret G A) {y2 : MethodName} {cc2 : ByteArray} {nL2 h idx : Nat} {ret2 : Option FieldType} {k ci : Nat} {fs : List Value} {T2 : u_T} {N2 : Nat} {Po : Int64 → List CE → Prop} (hd : decode cc pc = .ok (.invokevirtual idx, 3)) (hc : CV y.cls idx y2 cc2 nL2 ret2 0) (M : Ct l G y2 cc2 nL2 ret2 h 0 0 ad ws [.ref k] (pL ad Po)) (hk : ws[k]? = some (oB ci fs)) (hcl : vwCl[ci]? = some (y2.cls, T2, N2)) (hcat : (st.map fun v => v.category).sum ≤ 8) (hR : (h + 1 ≤ R.frames ∧ 8 + (nL2 + 11) + 40 * h ≤ R.locals) ∧ cells + 0 ≤ R.cells ∧ slots + 0 ≤ R.slots) (kk : ∀ (r : Int64) (ws2 : List CE), Po r ws2 → V p l e R s m args below meth c cells slots Q G A nL ad ws2 (pc + 3) lv (.long r :: st)) : V p l e R s m args below meth c cells slots Q G A nL ad ws pc lv (.ref k :: st) := V_gV (as := []) X hd hc M hk hcl rfl hcat hR (fun ad2 v ws2 hp => by obtain ⟨rfl, r, rfl, hp⟩ := hp; exact ⟨rfl, rfl, kk r ws2 hp⟩)
theorem V_cV0R (X : CX p s m args meth c cc nL y ret G A) {y2 : MethodName} {cc2 : ByteArray} {nL2 h idx : Nat} {ret2 : Option FieldType} {k ci : Nat} {fs : List Value} {T2 : u_T} {N2 : Nat} {Po : Nat → List CE → Prop} (hd : decode cc pc = .ok (.invokevirtual idx, 3)) (hc : CV y.cls idx y2 cc2 nL2 ret2 0) (M : Ct l G y2 cc2 nL2 ret2 h 0 0 ad ws [.ref k] (pR ad Po)) (hk : ws[k]? = some (oB ci fs)) (hcl : vwCl[ci]? = some (y2.cls, T2, N2)) (hcat : (st.map fun v => v.category).sum ≤ 8) (hR : (h + 1 ≤ R.frames ∧ 8 + (nL2 + 11) + 40 * h ≤ R.locals) ∧ cells + 0 ≤ R.cells ∧ slots + 0 ≤ R.slots) (kk : ∀ (r : Nat) (ws2 : List CE), Po r ws2 → V p l e R s m args below meth c cells slots Q G A nL ad ws2 (pc + 3) lv (.ref r :: st)) : V p l e R s m args below meth c cells slots Q G A nL ad ws pc lv (.ref k :: st) := V_gV (as := []) X hd hc M hk hcl rfl hcat hR (fun ad2 v ws2 hp => by obtain ⟨rfl, r, rfl, hp⟩ := hp; exact ⟨rfl, rfl, kk r ws2 hp⟩)
theorem V_cV0V (X : CX p s m args meth c cc nL y ret G A) {y2 : MethodName} {cc2 : ByteArray} {nL2 h idx : Nat} {ret2 : Option FieldType} {k ci : Nat} {fs : List Value} {T2 : u_T} {N2 : Nat} {Po : List CE → Prop} (hd : decode cc pc = .ok (.invokevirtual idx, 3)) (hc : CV y.cls idx y2 cc2 nL2 ret2 0) (M : Ct l G y2 cc2 nL2 ret2 h 0 0 ad ws [.ref k] (pV ad Po)) (hk : ws[k]? = some (oB ci fs)) (hcl : vwCl[ci]? = some (y2.cls, T2, N2)) (hcat : (st.map fun v => v.category).sum ≤ 8) (hR : (h + 1 ≤ R.frames ∧ 8 + (nL2 + 11) + 40 * h ≤ R.locals) ∧ cells + 0 ≤ R.cells ∧ slots + 0 ≤ R.slots) (kk : ∀ ws2 : List CE, Po ws2 → V p l e R s m args below meth c cells slots Q G A nL ad ws2 (pc + 3) lv st) : V p l e R s m args below meth c cells slots Q G A nL ad ws pc lv (.ref k :: st) := V_gV (as := []) X hd hc M hk hcl rfl hcat hR (fun ad2 v ws2 hp => by obtain ⟨rfl, rfl, hp⟩ := hp; exact ⟨rfl, rfl, kk ws2 hp⟩)
theorem V_cV1I (X : CX p s m args meth c cc nL y ret G A) {y2 : MethodName} {cc2 : ByteArray} {nL2 h idx : Nat} {ret2 : Option FieldType} {k ci : Nat} {fs : List Value} {T2 : u_T} {N2 : Nat} {a1 : Value} {Po : Int32 → List CE → Prop} (hd : decode cc pc = .ok (.invokevirtual idx, 3)) (hc : CV y.cls idx y2 cc2 nL2 ret2 1) (M : Ct l G y2 cc2 nL2 ret2 h 0 0 ad ws [.ref k, a1] (pI ad Po)) (hk : ws[k]? = some (oB ci fs)) (hcl : vwCl[ci]? = some (y2.cls, T2, N2)) (hcat : (st.map fun v => v.category).sum ≤ 8) (hR : (h + 1 ≤ R.frames ∧ 8 + (nL2 + 11) + 40 * h ≤ R.locals) ∧ cells + 0 ≤ R.cells ∧ slots + 0 ≤ R.slots) (kk : ∀ (r : Int32) (ws2 : List CE), Po r ws2 → V p l e R s m args below meth c cells slots Q G A nL ad ws2 (pc + 3) lv (.int r :: st)) : V p l e R s m args below meth c cells slots Q G A nL ad ws pc lv (a1 :: .ref k :: st) := V_gV (as := [a1]) X hd hc M hk hcl rfl hcat hR (fun ad2 v ws2 hp => by obtain ⟨rfl, r, rfl, hp⟩ := hp; exact ⟨rfl, rfl, kk r ws2 hp⟩)
theorem V_cV1L (X : CX p s m args meth c cc nL y ret G A) {y2 : MethodName} {cc2 : ByteArray} {nL2 h idx : Nat} {ret2 : Option FieldType} {k ci : Nat} {fs : List Value} {T2 : u_T} {N2 : Nat} {a1 : Value} {Po : Int64 → List CE → Prop} (hd : decode cc pc = .ok (.invokevirtual idx, 3)) (hc : CV y.cls idx y2 cc2 nL2 ret2 1) (M : Ct l G y2 cc2 nL2 ret2 h 0 0 ad ws [.ref k, a1] (pL ad Po)) (hk : ws[k]? = some (oB ci fs)) (hcl : vwCl[ci]? = some (y2.cls, T2, N2)) (hcat : (st.map fun v => v.category).sum ≤ 8) (hR : (h + 1 ≤ R.frames ∧ 8 + (nL2 + 11) + 40 * h ≤ R.locals) ∧ cells + 0 ≤ R.cells ∧ slots + 0 ≤ R.slots) (kk : ∀ (r : Int64) (ws2 : List CE), Po r ws2 → V p l e R s m args below meth c cells slots Q G A nL ad ws2 (pc + 3) lv (.long r :: st)) : V p l e R s m args below meth c cells slots Q G A nL ad ws pc lv (a1 :: .ref k :: st) := V_gV (as := [a1]) X hd hc M hk hcl rfl hcat hR (fun ad2 v ws2 hp => by obtain ⟨rfl, r, rfl, hp⟩ := hp; exact ⟨rfl, rfl, kk r ws2 hp⟩)
theorem V_cV1R (X : CX p s m args meth c cc nL y ret G A) {y2 : MethodName} {cc2 : ByteArray} {nL2 h idx : Nat} {ret2 : Option FieldType} {k ci : Nat} {fs : List Value} {T2 : u_T} {N2 : Nat} {a1 : Value} {Po : Nat → List CE → Prop} (hd : decode cc pc = .ok (.invokevirtual idx, 3)) (hc : CV y.cls idx y2 cc2 nL2 ret2 1) (M : Ct l G y2 cc2 nL2 ret2 h 0 0 ad ws [.ref k, a1] (pR ad Po)) (hk : ws[k]? = some (oB ci fs)) (hcl : vwCl[ci]? = some (y2.cls, T2, N2)) (hcat : (st.map fun v => v.category).sum ≤ 8) (hR : (h + 1 ≤ R.frames ∧ 8 + (nL2 + 11) + 40 * h ≤ R.locals) ∧ cells + 0 ≤ R.cells ∧ slots + 0 ≤ R.slots) (kk : ∀ (r : Nat) (ws2 : List CE), Po r ws2 → V p l e R s m args below meth c cells slots Q G A nL ad ws2 (pc + 3) lv (.ref r :: st)) : V p l e R s m args below meth c cells slots Q G A nL ad ws pc lv (a1 :: .ref k :: st) := V_gV (as := [a1]) X hd hc M hk hcl rfl hcat hR (fun ad2 v ws2 hp => by obtain ⟨rfl, r, rfl, hp⟩ := hp; exact ⟨rfl, rfl, kk r ws2 hp⟩)
theorem V_cV1V (X : CX p s m args meth c cc nL y ret G A) {y2 : MethodName} {cc2 : ByteArray} {nL2 h idx : Nat} {ret2 : Option FieldType} {k ci : Nat} {fs : List Value} {T2 : u_T} {N2 : Nat} {a1 : Value} {Po : List CE → Prop} (hd : decode cc pc = .ok (.invokevirtual idx, 3)) (hc : CV y.cls idx y2 cc2 nL2 ret2 1) (M : Ct l G y2 cc2 nL2 ret2 h 0 0 ad ws [.ref k, a1] (pV ad Po)) (hk : ws[k]? = some (oB ci fs)) (hcl : vwCl[ci]? = some (y2.cls, T2, N2)) (hcat : (st.map fun v => v.category).sum ≤ 8) (hR : (h + 1 ≤ R.frames ∧ 8 + (nL2 + 11) + 40 * h ≤ R.locals) ∧ cells + 0 ≤ R.cells ∧ slots + 0 ≤ R.slots) (kk : ∀ ws2 : List CE, Po ws2 → V p l e R s m args below meth c cells slots Q G A nL ad ws2 (pc + 3) lv st) : V p l e R s m args below meth c cells slots Q G A nL ad ws pc lv (a1 :: .ref k :: st) := V_gV (as := [a1]) X hd hc M hk hcl rfl hcat hR (fun ad2 v ws2 hp => by obtain ⟨rfl, rfl, hp⟩ := hp; exact ⟨rfl, rfl, kk ws2 hp⟩)
theorem V_cV2I (X : CX p s m args meth c cc nL y ret G A) {y2 : MethodName} {cc2 : ByteArray} {nL2 h idx : Nat} {ret2 : Option FieldType} {k ci : Nat} {fs : List Value} {T2 : u_T} {N2 : Nat} {a1 a2 : Value} {Po : Int32 → List CE → Prop} (hd : decode cc pc = .ok (.invokevirtual idx, 3)) (hc : CV y.cls idx y2 cc2 nL2 ret2 2) (M : Ct l G y2 cc2 nL2 ret2 h 0 0 ad ws [.ref k, a1, a2] (pI ad Po)) (hk : ws[k]? = some (oB ci fs)) (hcl : vwCl[ci]? = some (y2.cls, T2, N2)) (hcat : (st.map fun v => v.category).sum ≤ 8) (hR : (h + 1 ≤ R.frames ∧ 8 + (nL2 + 11) + 40 * h ≤ R.locals) ∧ cells + 0 ≤ R.cells ∧ slots + 0 ≤ R.slots) (kk : ∀ (r : Int32) (ws2 : List CE), Po r ws2 → V p l e R s m args below meth c cells slots Q G A nL ad ws2 (pc + 3) lv (.int r :: st)) : V p l e R s m args below meth c cells slots Q G A nL ad ws pc lv (a2 :: a1 :: .ref k :: st) := V_gV (as := [a1, a2]) X hd hc M hk hcl rfl hcat hR (fun ad2 v ws2 hp => by obtain ⟨rfl, r, rfl, hp⟩ := hp; exact ⟨rfl, rfl, kk r ws2 hp⟩)
theorem V_cV2L (X : CX p s m args meth c cc nL y ret G A) {y2 : MethodName} {cc2 : ByteArray} {nL2 h idx : Nat} {ret2 : Option FieldType} {k ci : Nat} {fs : List Value} {T2 : u_T} {N2 : Nat} {a1 a2 : Value} {Po : Int64 → List CE → Prop} (hd : decode cc pc = .ok (.invokevirtual idx, 3)) (hc : CV y.cls idx y2 cc2 nL2 ret2 2) (M : Ct l G y2 cc2 nL2 ret2 h 0 0 ad ws [.ref k, a1, a2] (pL ad Po)) (hk : ws[k]? = some (oB ci fs)) (hcl : vwCl[ci]? = some (y2.cls, T2, N2)) (hcat : (st.map fun v => v.category).sum ≤ 8) (hR : (h + 1 ≤ R.frames ∧ 8 + (nL2 + 11) + 40 * h ≤ R.locals) ∧ cells + 0 ≤ R.cells ∧ slots + 0 ≤ R.slots) (kk : ∀ (r : Int64) (ws2 : List CE), Po r ws2 → V p l e R s m args below meth c cells slots Q G A nL ad ws2 (pc + 3) lv (.long r :: st)) : V p l e R s m args below meth c cells slots Q G A nL ad ws pc lv (a2 :: a1 :: .ref k :: st) := V_gV (as := [a1, a2]) X hd hc M hk hcl rfl hcat hR (fun ad2 v ws2 hp => by obtain ⟨rfl, r, rfl, hp⟩ := hp; exact ⟨rfl, rfl, kk r ws2 hp⟩)
theorem V_cV2R (X : CX p s m args meth c cc nL y ret G A) {y2 : MethodName} {cc2 : ByteArray} {nL2 h idx : Nat} {ret2 : Option FieldType} {k ci : Nat} {fs : List Value} {T2 : u_T} {N2 : Nat} {a1 a2 : Value} {Po : Nat → List CE → Prop} (hd : decode cc pc = .ok (.invokevirtual idx, 3)) (hc : CV y.cls idx y2 cc2 nL2 ret2 2) (M : Ct l G y2 cc2 nL2 ret2 h 0 0 ad ws [.ref k, a1, a2] (pR ad Po)) (hk : ws[k]? = some (oB ci fs)) (hcl : vwCl[ci]? = some (y2.cls, T2, N2)) (hcat : (st.map fun v => v.category).sum ≤ 8) (hR : (h + 1 ≤ R.frames ∧ 8 + (nL2 + 11) + 40 * h ≤ R.locals) ∧ cells + 0 ≤ R.cells ∧ slots + 0 ≤ R.slots) (kk : ∀ (r : Nat) (ws2 : List CE), Po r ws2 → V p l e R s m args below meth c cells slots Q G A nL ad ws2 (pc + 3) lv (.ref r :: st)) : V p l e R s m args below meth c cells slots Q G A nL ad ws pc lv (a2 :: a1 :: .ref k :: st) := V_gV (as := [a1, a2]) X hd hc M hk hcl rfl hcat hR (fun ad2 v ws2 hp => by obtain ⟨rfl, r, rfl, hp⟩ := hp; exact ⟨rfl, rfl, kk r ws2 hp⟩)
theorem V_cV2V (X : CX p s m args meth c cc nL y ret G A) {y2 : MethodName} {cc2 : ByteArray} {nL2 h idx : Nat} {ret2 : Option FieldType} {k ci : Nat} {fs : List Value} {T2 : u_T} {N2 : Nat} {a1 a2 : Value} {Po : List CE → Prop} (hd : decode cc pc = .ok (.invokevirtual idx, 3)) (hc : CV y.cls idx y2 cc2 nL2 ret2 2) (M : Ct l G y2 cc2 nL2 ret2 h 0 0 ad ws [.ref k, a1, a2] (pV ad Po)) (hk : ws[k]? = some (oB ci fs)) (hcl : vwCl[ci]? = some (y2.cls, T2, N2)) (hcat : (st.map fun v => v.category).sum ≤ 8) (hR : (h + 1 ≤ R.frames ∧ 8 + (nL2 + 11) + 40 * h ≤ R.locals) ∧ cells + 0 ≤ R.cells ∧ slots + 0 ≤ R.slots) (kk : ∀ ws2 : List CE, Po ws2 → V p l e R s m args below meth c cells slots Q G A nL ad ws2 (pc + 3) lv st) : V p l e R s m args below meth c cells slots Q G A nL ad ws pc lv (a2 :: a1 :: .ref k :: st) := V_gV (as := [a1, a2]) X hd hc M hk hcl rfl hcat hR (fun ad2 v ws2 hp => by obtain ⟨rfl, rfl, hp⟩ := hp; exact ⟨rfl, rfl, kk ws2 hp⟩)
theorem V_cV3I (X : CX p s m args meth c cc nL y ret G A) {y2 : MethodName} {cc2 : ByteArray} {nL2 h idx : Nat} {ret2 : Option FieldType} {k ci : Nat} {fs : List Value} {T2 : u_T} {N2 : Nat} {a1 a2 a3 : Value} {Po : Int32 → List CE → Prop} (hd : decode cc pc = .ok (.invokevirtual idx, 3)) (hc : CV y.cls idx y2 cc2 nL2 ret2 3) (M : Ct l G y2 cc2 nL2 ret2 h 0 0 ad ws [.ref k, a1, a2, a3] (pI ad Po)) (hk : ws[k]? = some (oB ci fs)) (hcl : vwCl[ci]? = some (y2.cls, T2, N2)) (hcat : (st.map fun v => v.category).sum ≤ 8) (hR : (h + 1 ≤ R.frames ∧ 8 + (nL2 + 11) + 40 * h ≤ R.locals) ∧ cells + 0 ≤ R.cells ∧ slots + 0 ≤ R.slots) (kk : ∀ (r : Int32) (ws2 : List CE), Po r ws2 → V p l e R s m args below meth c cells slots Q G A nL ad ws2 (pc + 3) lv (.int r :: st)) : V p l e R s m args below meth c cells slots Q G A nL ad ws pc lv (a3 :: a2 :: a1 :: .ref k :: st) := V_gV (as := [a1, a2, a3]) X hd hc M hk hcl rfl hcat hR (fun ad2 v ws2 hp => by obtain ⟨rfl, r, rfl, hp⟩ := hp; exact ⟨rfl, rfl, kk r ws2 hp⟩)
theorem V_cV3L (X : CX p s m args meth c cc nL y ret G A) {y2 : MethodName} {cc2 : ByteArray} {nL2 h idx : Nat} {ret2 : Option FieldType} {k ci : Nat} {fs : List Value} {T2 : u_T} {N2 : Nat} {a1 a2 a3 : Value} {Po : Int64 → List CE → Prop} (hd : decode cc pc = .ok (.invokevirtual idx, 3)) (hc : CV y.cls idx y2 cc2 nL2 ret2 3) (M : Ct l G y2 cc2 nL2 ret2 h 0 0 ad ws [.ref k, a1, a2, a3] (pL ad Po)) (hk : ws[k]? = some (oB ci fs)) (hcl : vwCl[ci]? = some (y2.cls, T2, N2)) (hcat : (st.map fun v => v.category).sum ≤ 8) (hR : (h + 1 ≤ R.frames ∧ 8 + (nL2 + 11) + 40 * h ≤ R.locals) ∧ cells + 0 ≤ R.cells ∧ slots + 0 ≤ R.slots) (kk : ∀ (r : Int64) (ws2 : List CE), Po r ws2 → V p l e R s m args below meth c cells slots Q G A nL ad ws2 (pc + 3) lv (.long r :: st)) : V p l e R s m args below meth c cells slots Q G A nL ad ws pc lv (a3 :: a2 :: a1 :: .ref k :: st) := V_gV (as := [a1, a2, a3]) X hd hc M hk hcl rfl hcat hR (fun ad2 v ws2 hp => by obtain ⟨rfl, r, rfl, hp⟩ := hp; exact ⟨rfl, rfl, kk r ws2 hp⟩)
theorem V_cV3R (X : CX p s m args meth c cc nL y ret G A) {y2 : MethodName} {cc2 : ByteArray} {nL2 h idx : Nat} {ret2 : Option FieldType} {k ci : Nat} {fs : List Value} {T2 : u_T} {N2 : Nat} {a1 a2 a3 : Value} {Po : Nat → List CE → Prop} (hd : decode cc pc = .ok (.invokevirtual idx, 3)) (hc : CV y.cls idx y2 cc2 nL2 ret2 3) (M : Ct l G y2 cc2 nL2 ret2 h 0 0 ad ws [.ref k, a1, a2, a3] (pR ad Po)) (hk : ws[k]? = some (oB ci fs)) (hcl : vwCl[ci]? = some (y2.cls, T2, N2)) (hcat : (st.map fun v => v.category).sum ≤ 8) (hR : (h + 1 ≤ R.frames ∧ 8 + (nL2 + 11) + 40 * h ≤ R.locals) ∧ cells + 0 ≤ R.cells ∧ slots + 0 ≤ R.slots) (kk : ∀ (r : Nat) (ws2 : List CE), Po r ws2 → V p l e R s m args below meth c cells slots Q G A nL ad ws2 (pc + 3) lv (.ref r :: st)) : V p l e R s m args below meth c cells slots Q G A nL ad ws pc lv (a3 :: a2 :: a1 :: .ref k :: st) := V_gV (as := [a1, a2, a3]) X hd hc M hk hcl rfl hcat hR (fun ad2 v ws2 hp => by obtain ⟨rfl, r, rfl, hp⟩ := hp; exact ⟨rfl, rfl, kk r ws2 hp⟩)
theorem V_cV3V (X : CX p s m args meth c cc nL y ret G A) {y2 : MethodName} {cc2 : ByteArray} {nL2 h idx : Nat} {ret2 : Option FieldType} {k ci : Nat} {fs : List Value} {T2 : u_T} {N2 : Nat} {a1 a2 a3 : Value} {Po : List CE → Prop} (hd : decode cc pc = .ok (.invokevirtual idx, 3)) (hc : CV y.cls idx y2 cc2 nL2 ret2 3) (M : Ct l G y2 cc2 nL2 ret2 h 0 0 ad ws [.ref k, a1, a2, a3] (pV ad Po)) (hk : ws[k]? = some (oB ci fs)) (hcl : vwCl[ci]? = some (y2.cls, T2, N2)) (hcat : (st.map fun v => v.category).sum ≤ 8) (hR : (h + 1 ≤ R.frames ∧ 8 + (nL2 + 11) + 40 * h ≤ R.locals) ∧ cells + 0 ≤ R.cells ∧ slots + 0 ≤ R.slots) (kk : ∀ ws2 : List CE, Po ws2 → V p l e R s m args below meth c cells slots Q G A nL ad ws2 (pc + 3) lv st) : V p l e R s m args below meth c cells slots Q G A nL ad ws pc lv (a3 :: a2 :: a1 :: .ref k :: st) := V_gV (as := [a1, a2, a3]) X hd hc M hk hcl rfl hcat hR (fun ad2 v ws2 hp => by obtain ⟨rfl, rfl, hp⟩ := hp; exact ⟨rfl, rfl, kk ws2 hp⟩)
theorem V_cU0I (X : CX p s m args meth c cc nL y ret G A) {C : String} {x2 : MethodName} {y2 : MethodName} {cc2 : ByteArray} {nL2 h idx : Nat} {ret2 : Option FieldType} {k ci : Nat} {fs : List Value} {T2 : u_T} {N2 : Nat} {Po : Int32 → List CE → Prop} (hd : decode cc pc = .ok (.invokevirtual idx, 3)) (hc : CU y.cls idx C x2 y2 cc2 nL2 ret2 0) (M : Ct l G y2 cc2 nL2 ret2 h 0 0 ad ws [.ref k] (pI ad Po)) (hk : ws[k]? = some (oB ci fs)) (hcl : vwCl[ci]? = some (C, T2, N2)) (hcat : (st.map fun v => v.category).sum ≤ 8) (hR : (h + 1 ≤ R.frames ∧ 8 + (nL2 + 11) + 40 * h ≤ R.locals) ∧ cells + 0 ≤ R.cells ∧ slots + 0 ≤ R.slots) (kk : ∀ (r : Int32) (ws2 : List CE), Po r ws2 → V p l e R s m args below meth c cells slots Q G A nL ad ws2 (pc + 3) lv (.int r :: st)) : V p l e R s m args below meth c cells slots Q G A nL ad ws pc lv (.ref k :: st) := V_gU (as := []) X hd hc M hk hcl rfl hcat hR (fun ad2 v ws2 hp => by obtain ⟨rfl, r, rfl, hp⟩ := hp; exact ⟨rfl, rfl, kk r ws2 hp⟩)
theorem V_cU0L (X : CX p s m args meth c cc nL y ret G A) {C : String} {x2 : MethodName} {y2 : MethodName} {cc2 : ByteArray} {nL2 h idx : Nat} {ret2 : Option FieldType} {k ci : Nat} {fs : List Value} {T2 : u_T} {N2 : Nat} {Po : Int64 → List CE → Prop} (hd : decode cc pc = .ok (.invokevirtual idx, 3)) (hc : CU y.cls idx C x2 y2 cc2 nL2 ret2 0) (M : Ct l G y2 cc2 nL2 ret2 h 0 0 ad ws [.ref k] (pL ad Po)) (hk : ws[k]? = some (oB ci fs)) (hcl : vwCl[ci]? = some (C, T2, N2)) (hcat : (st.map fun v => v.category).sum ≤ 8) (hR : (h + 1 ≤ R.frames ∧ 8 + (nL2 + 11) + 40 * h ≤ R.locals) ∧ cells + 0 ≤ R.cells ∧ slots + 0 ≤ R.slots) (kk : ∀ (r : Int64) (ws2 : List CE), Po r ws2 → V p l e R s m args below meth c cells slots Q G A nL ad ws2 (pc + 3) lv (.long r :: st)) : V p l e R s m args below meth c cells slots Q G A nL ad ws pc lv (.ref k :: st) := V_gU (as := []) X hd hc M hk hcl rfl hcat hR (fun ad2 v ws2 hp => by obtain ⟨rfl, r, rfl, hp⟩ := hp; exact ⟨rfl, rfl, kk r ws2 hp⟩)
theorem V_cU0R (X : CX p s m args meth c cc nL y ret G A) {C : String} {x2 : MethodName} {y2 : MethodName} {cc2 : ByteArray} {nL2 h idx : Nat} {ret2 : Option FieldType} {k ci : Nat} {fs : List Value} {T2 : u_T} {N2 : Nat} {Po : Nat → List CE → Prop} (hd : decode cc pc = .ok (.invokevirtual idx, 3)) (hc : CU y.cls idx C x2 y2 cc2 nL2 ret2 0) (M : Ct l G y2 cc2 nL2 ret2 h 0 0 ad ws [.ref k] (pR ad Po)) (hk : ws[k]? = some (oB ci fs)) (hcl : vwCl[ci]? = some (C, T2, N2)) (hcat : (st.map fun v => v.category).sum ≤ 8) (hR : (h + 1 ≤ R.frames ∧ 8 + (nL2 + 11) + 40 * h ≤ R.locals) ∧ cells + 0 ≤ R.cells ∧ slots + 0 ≤ R.slots) (kk : ∀ (r : Nat) (ws2 : List CE), Po r ws2 → V p l e R s m args below meth c cells slots Q G A nL ad ws2 (pc + 3) lv (.ref r :: st)) : V p l e R s m args below meth c cells slots Q G A nL ad ws pc lv (.ref k :: st) := V_gU (as := []) X hd hc M hk hcl rfl hcat hR (fun ad2 v ws2 hp => by obtain ⟨rfl, r, rfl, hp⟩ := hp; exact ⟨rfl, rfl, kk r ws2 hp⟩)
theorem V_cU0V (X : CX p s m args meth c cc nL y ret G A) {C : String} {x2 : MethodName} {y2 : MethodName} {cc2 : ByteArray} {nL2 h idx : Nat} {ret2 : Option FieldType} {k ci : Nat} {fs : List Value} {T2 : u_T} {N2 : Nat} {Po : List CE → Prop} (hd : decode cc pc = .ok (.invokevirtual idx, 3)) (hc : CU y.cls idx C x2 y2 cc2 nL2 ret2 0) (M : Ct l G y2 cc2 nL2 ret2 h 0 0 ad ws [.ref k] (pV ad Po)) (hk : ws[k]? = some (oB ci fs)) (hcl : vwCl[ci]? = some (C, T2, N2)) (hcat : (st.map fun v => v.category).sum ≤ 8) (hR : (h + 1 ≤ R.frames ∧ 8 + (nL2 + 11) + 40 * h ≤ R.locals) ∧ cells + 0 ≤ R.cells ∧ slots + 0 ≤ R.slots) (kk : ∀ ws2 : List CE, Po ws2 → V p l e R s m args below meth c cells slots Q G A nL ad ws2 (pc + 3) lv st) : V p l e R s m args below meth c cells slots Q G A nL ad ws pc lv (.ref k :: st) := V_gU (as := []) X hd hc M hk hcl rfl hcat hR (fun ad2 v ws2 hp => by obtain ⟨rfl, rfl, hp⟩ := hp; exact ⟨rfl, rfl, kk ws2 hp⟩)
theorem V_cU1I (X : CX p s m args meth c cc nL y ret G A) {C : String} {x2 : MethodName} {y2 : MethodName} {cc2 : ByteArray} {nL2 h idx : Nat} {ret2 : Option FieldType} {k ci : Nat} {fs : List Value} {T2 : u_T} {N2 : Nat} {a1 : Value} {Po : Int32 → List CE → Prop} (hd : decode cc pc = .ok (.invokevirtual idx, 3)) (hc : CU y.cls idx C x2 y2 cc2 nL2 ret2 1) (M : Ct l G y2 cc2 nL2 ret2 h 0 0 ad ws [.ref k, a1] (pI ad Po)) (hk : ws[k]? = some (oB ci fs)) (hcl : vwCl[ci]? = some (C, T2, N2)) (hcat : (st.map fun v => v.category).sum ≤ 8) (hR : (h + 1 ≤ R.frames ∧ 8 + (nL2 + 11) + 40 * h ≤ R.locals) ∧ cells + 0 ≤ R.cells ∧ slots + 0 ≤ R.slots) (kk : ∀ (r : Int32) (ws2 : List CE), Po r ws2 → V p l e R s m args below meth c cells slots Q G A nL ad ws2 (pc + 3) lv (.int r :: st)) : V p l e R s m args below meth c cells slots Q G A nL ad ws pc lv (a1 :: .ref k :: st) := V_gU (as := [a1]) X hd hc M hk hcl rfl hcat hR (fun ad2 v ws2 hp => by obtain ⟨rfl, r, rfl, hp⟩ := hp; exact ⟨rfl, rfl, kk r ws2 hp⟩)
theorem V_cU1L (X : CX p s m args meth c cc nL y ret G A) {C : String} {x2 : MethodName} {y2 : MethodName} {cc2 : ByteArray} {nL2 h idx : Nat} {ret2 : Option FieldType} {k ci : Nat} {fs : List Value} {T2 : u_T} {N2 : Nat} {a1 : Value} {Po : Int64 → List CE → Prop} (hd : decode cc pc = .ok (.invokevirtual idx, 3)) (hc : CU y.cls idx C x2 y2 cc2 nL2 ret2 1) (M : Ct l G y2 cc2 nL2 ret2 h 0 0 ad ws [.ref k, a1] (pL ad Po)) (hk : ws[k]? = some (oB ci fs)) (hcl : vwCl[ci]? = some (C, T2, N2)) (hcat : (st.map fun v => v.category).sum ≤ 8) (hR : (h + 1 ≤ R.frames ∧ 8 + (nL2 + 11) + 40 * h ≤ R.locals) ∧ cells + 0 ≤ R.cells ∧ slots + 0 ≤ R.slots) (kk : ∀ (r : Int64) (ws2 : List CE), Po r ws2 → V p l e R s m args below meth c cells slots Q G A nL ad ws2 (pc + 3) lv (.long r :: st)) : V p l e R s m args below meth c cells slots Q G A nL ad ws pc lv (a1 :: .ref k :: st) := V_gU (as := [a1]) X hd hc M hk hcl rfl hcat hR (fun ad2 v ws2 hp => by obtain ⟨rfl, r, rfl, hp⟩ := hp; exact ⟨rfl, rfl, kk r ws2 hp⟩)
theorem V_cU1R (X : CX p s m args meth c cc nL y ret G A) {C : String} {x2 : MethodName} {y2 : MethodName} {cc2 : ByteArray} {nL2 h idx : Nat} {ret2 : Option FieldType} {k ci : Nat} {fs : List Value} {T2 : u_T} {N2 : Nat} {a1 : Value} {Po : Nat → List CE → Prop} (hd : decode cc pc = .ok (.invokevirtual idx, 3)) (hc : CU y.cls idx C x2 y2 cc2 nL2 ret2 1) (M : Ct l G y2 cc2 nL2 ret2 h 0 0 ad ws [.ref k, a1] (pR ad Po)) (hk : ws[k]? = some (oB ci fs)) (hcl : vwCl[ci]? = some (C, T2, N2)) (hcat : (st.map fun v => v.category).sum ≤ 8) (hR : (h + 1 ≤ R.frames ∧ 8 + (nL2 + 11) + 40 * h ≤ R.locals) ∧ cells + 0 ≤ R.cells ∧ slots + 0 ≤ R.slots) (kk : ∀ (r : Nat) (ws2 : List CE), Po r ws2 → V p l e R s m args below meth c cells slots Q G A nL ad ws2 (pc + 3) lv (.ref r :: st)) : V p l e R s m args below meth c cells slots Q G A nL ad ws pc lv (a1 :: .ref k :: st) := V_gU (as := [a1]) X hd hc M hk hcl rfl hcat hR (fun ad2 v ws2 hp => by obtain ⟨rfl, r, rfl, hp⟩ := hp; exact ⟨rfl, rfl, kk r ws2 hp⟩)
theorem V_cU1V (X : CX p s m args meth c cc nL y ret G A) {C : String} {x2 : MethodName} {y2 : MethodName} {cc2 : ByteArray} {nL2 h idx : Nat} {ret2 : Option FieldType} {k ci : Nat} {fs : List Value} {T2 : u_T} {N2 : Nat} {a1 : Value} {Po : List CE → Prop} (hd : decode cc pc = .ok (.invokevirtual idx, 3)) (hc : CU y.cls idx C x2 y2 cc2 nL2 ret2 1) (M : Ct l G y2 cc2 nL2 ret2 h 0 0 ad ws [.ref k, a1] (pV ad Po)) (hk : ws[k]? = some (oB ci fs)) (hcl : vwCl[ci]? = some (C, T2, N2)) (hcat : (st.map fun v => v.category).sum ≤ 8) (hR : (h + 1 ≤ R.frames ∧ 8 + (nL2 + 11) + 40 * h ≤ R.locals) ∧ cells + 0 ≤ R.cells ∧ slots + 0 ≤ R.slots) (kk : ∀ ws2 : List CE, Po ws2 → V p l e R s m args below meth c cells slots Q G A nL ad ws2 (pc + 3) lv st) : V p l e R s m args below meth c cells slots Q G A nL ad ws pc lv (a1 :: .ref k :: st) := V_gU (as := [a1]) X hd hc M hk hcl rfl hcat hR (fun ad2 v ws2 hp => by obtain ⟨rfl, rfl, hp⟩ := hp; exact ⟨rfl, rfl, kk ws2 hp⟩)
theorem V_cU2I (X : CX p s m args meth c cc nL y ret G A) {C : String} {x2 : MethodName} {y2 : MethodName} {cc2 : ByteArray} {nL2 h idx : Nat} {ret2 : Option FieldType} {k ci : Nat} {fs : List Value} {T2 : u_T} {N2 : Nat} {a1 a2 : Value} {Po : Int32 → List CE → Prop} (hd : decode cc pc = .ok (.invokevirtual idx, 3)) (hc : CU y.cls idx C x2 y2 cc2 nL2 ret2 2) (M : Ct l G y2 cc2 nL2 ret2 h 0 0 ad ws [.ref k, a1, a2] (pI ad Po)) (hk : ws[k]? = some (oB ci fs)) (hcl : vwCl[ci]? = some (C, T2, N2)) (hcat : (st.map fun v => v.category).sum ≤ 8) (hR : (h + 1 ≤ R.frames ∧ 8 + (nL2 + 11) + 40 * h ≤ R.locals) ∧ cells + 0 ≤ R.cells ∧ slots + 0 ≤ R.slots) (kk : ∀ (r : Int32) (ws2 : List CE), Po r ws2 → V p l e R s m args below meth c cells slots Q G A nL ad ws2 (pc + 3) lv (.int r :: st)) : V p l e R s m args below meth c cells slots Q G A nL ad ws pc lv (a2 :: a1 :: .ref k :: st) := V_gU (as := [a1, a2]) X hd hc M hk hcl rfl hcat hR (fun ad2 v ws2 hp => by obtain ⟨rfl, r, rfl, hp⟩ := hp; exact ⟨rfl, rfl, kk r ws2 hp⟩)
theorem V_cU2L (X : CX p s m args meth c cc nL y ret G A) {C : String} {x2 : MethodName} {y2 : MethodName} {cc2 : ByteArray} {nL2 h idx : Nat} {ret2 : Option FieldType} {k ci : Nat} {fs : List Value} {T2 : u_T} {N2 : Nat} {a1 a2 : Value} {Po : Int64 → List CE → Prop} (hd : decode cc pc = .ok (.invokevirtual idx, 3)) (hc : CU y.cls idx C x2 y2 cc2 nL2 ret2 2) (M : Ct l G y2 cc2 nL2 ret2 h 0 0 ad ws [.ref k, a1, a2] (pL ad Po)) (hk : ws[k]? = some (oB ci fs)) (hcl : vwCl[ci]? = some (C, T2, N2)) (hcat : (st.map fun v => v.category).sum ≤ 8) (hR : (h + 1 ≤ R.frames ∧ 8 + (nL2 + 11) + 40 * h ≤ R.locals) ∧ cells + 0 ≤ R.cells ∧ slots + 0 ≤ R.slots) (kk : ∀ (r : Int64) (ws2 : List CE), Po r ws2 → V p l e R s m args below meth c cells slots Q G A nL ad ws2 (pc + 3) lv (.long r :: st)) : V p l e R s m args below meth c cells slots Q G A nL ad ws pc lv (a2 :: a1 :: .ref k :: st) := V_gU (as := [a1, a2]) X hd hc M hk hcl rfl hcat hR (fun ad2 v ws2 hp => by obtain ⟨rfl, r, rfl, hp⟩ := hp; exact ⟨rfl, rfl, kk r ws2 hp⟩)
theorem V_cU2R (X : CX p s m args meth c cc nL y ret G A) {C : String} {x2 : MethodName} {y2 : MethodName} {cc2 : ByteArray} {nL2 h idx : Nat} {ret2 : Option FieldType} {k ci : Nat} {fs : List Value} {T2 : u_T} {N2 : Nat} {a1 a2 : Value} {Po : Nat → List CE → Prop} (hd : decode cc pc = .ok (.invokevirtual idx, 3)) (hc : CU y.cls idx C x2 y2 cc2 nL2 ret2 2) (M : Ct l G y2 cc2 nL2 ret2 h 0 0 ad ws [.ref k, a1, a2] (pR ad Po)) (hk : ws[k]? = some (oB ci fs)) (hcl : vwCl[ci]? = some (C, T2, N2)) (hcat : (st.map fun v => v.category).sum ≤ 8) (hR : (h + 1 ≤ R.frames ∧ 8 + (nL2 + 11) + 40 * h ≤ R.locals) ∧ cells + 0 ≤ R.cells ∧ slots + 0 ≤ R.slots) (kk : ∀ (r : Nat) (ws2 : List CE), Po r ws2 → V p l e R s m args below meth c cells slots Q G A nL ad ws2 (pc + 3) lv (.ref r :: st)) : V p l e R s m args below meth c cells slots Q G A nL ad ws pc lv (a2 :: a1 :: .ref k :: st) := V_gU (as := [a1, a2]) X hd hc M hk hcl rfl hcat hR (fun ad2 v ws2 hp => by obtain ⟨rfl, r, rfl, hp⟩ := hp; exact ⟨rfl, rfl, kk r ws2 hp⟩)
theorem V_cU2V (X : CX p s m args meth c cc nL y ret G A) {C : String} {x2 : MethodName} {y2 : MethodName} {cc2 : ByteArray} {nL2 h idx : Nat} {ret2 : Option FieldType} {k ci : Nat} {fs : List Value} {T2 : u_T} {N2 : Nat} {a1 a2 : Value} {Po : List CE → Prop} (hd : decode cc pc = .ok (.invokevirtual idx, 3)) (hc : CU y.cls idx C x2 y2 cc2 nL2 ret2 2) (M : Ct l G y2 cc2 nL2 ret2 h 0 0 ad ws [.ref k, a1, a2] (pV ad Po)) (hk : ws[k]? = some (oB ci fs)) (hcl : vwCl[ci]? = some (C, T2, N2)) (hcat : (st.map fun v => v.category).sum ≤ 8) (hR : (h + 1 ≤ R.frames ∧ 8 + (nL2 + 11) + 40 * h ≤ R.locals) ∧ cells + 0 ≤ R.cells ∧ slots + 0 ≤ R.slots) (kk : ∀ ws2 : List CE, Po ws2 → V p l e R s m args below meth c cells slots Q G A nL ad ws2 (pc + 3) lv st) : V p l e R s m args below meth c cells slots Q G A nL ad ws pc lv (a2 :: a1 :: .ref k :: st) := V_gU (as := [a1, a2]) X hd hc M hk hcl rfl hcat hR (fun ad2 v ws2 hp => by obtain ⟨rfl, rfl, hp⟩ := hp; exact ⟨rfl, rfl, kk ws2 hp⟩)
theorem V_cU3I (X : CX p s m args meth c cc nL y ret G A) {C : String} {x2 : MethodName} {y2 : MethodName} {cc2 : ByteArray} {nL2 h idx : Nat} {ret2 : Option FieldType} {k ci : Nat} {fs : List Value} {T2 : u_T} {N2 : Nat} {a1 a2 a3 : Value} {Po : Int32 → List CE → Prop} (hd : decode cc pc = .ok (.invokevirtual idx, 3)) (hc : CU y.cls idx C x2 y2 cc2 nL2 ret2 3) (M : Ct l G y2 cc2 nL2 ret2 h 0 0 ad ws [.ref k, a1, a2, a3] (pI ad Po)) (hk : ws[k]? = some (oB ci fs)) (hcl : vwCl[ci]? = some (C, T2, N2)) (hcat : (st.map fun v => v.category).sum ≤ 8) (hR : (h + 1 ≤ R.frames ∧ 8 + (nL2 + 11) + 40 * h ≤ R.locals) ∧ cells + 0 ≤ R.cells ∧ slots + 0 ≤ R.slots) (kk : ∀ (r : Int32) (ws2 : List CE), Po r ws2 → V p l e R s m args below meth c cells slots Q G A nL ad ws2 (pc + 3) lv (.int r :: st)) : V p l e R s m args below meth c cells slots Q G A nL ad ws pc lv (a3 :: a2 :: a1 :: .ref k :: st) := V_gU (as := [a1, a2, a3]) X hd hc M hk hcl rfl hcat hR (fun ad2 v ws2 hp => by obtain ⟨rfl, r, rfl, hp⟩ := hp; exact ⟨rfl, rfl, kk r ws2 hp⟩)
theorem V_cU3L (X : CX p s m args meth c cc nL y ret G A) {C : String} {x2 : MethodName} {y2 : MethodName} {cc2 : ByteArray} {nL2 h idx : Nat} {ret2 : Option FieldType} {k ci : Nat} {fs : List Value} {T2 : u_T} {N2 : Nat} {a1 a2 a3 : Value} {Po : Int64 → List CE → Prop} (hd : decode cc pc = .ok (.invokevirtual idx, 3)) (hc : CU y.cls idx C x2 y2 cc2 nL2 ret2 3) (M : Ct l G y2 cc2 nL2 ret2 h 0 0 ad ws [.ref k, a1, a2, a3] (pL ad Po)) (hk : ws[k]? = some (oB ci fs)) (hcl : vwCl[ci]? = some (C, T2, N2)) (hcat : (st.map fun v => v.category).sum ≤ 8) (hR : (h + 1 ≤ R.frames ∧ 8 + (nL2 + 11) + 40 * h ≤ R.locals) ∧ cells + 0 ≤ R.cells ∧ slots + 0 ≤ R.slots) (kk : ∀ (r : Int64) (ws2 : List CE), Po r ws2 → V p l e R s m args below meth c cells slots Q G A nL ad ws2 (pc + 3) lv (.long r :: st)) : V p l e R s m args below meth c cells slots Q G A nL ad ws pc lv (a3 :: a2 :: a1 :: .ref k :: st) := V_gU (as := [a1, a2, a3]) X hd hc M hk hcl rfl hcat hR (fun ad2 v ws2 hp => by obtain ⟨rfl, r, rfl, hp⟩ := hp; exact ⟨rfl, rfl, kk r ws2 hp⟩)
theorem V_cU3R (X : CX p s m args meth c cc nL y ret G A) {C : String} {x2 : MethodName} {y2 : MethodName} {cc2 : ByteArray} {nL2 h idx : Nat} {ret2 : Option FieldType} {k ci : Nat} {fs : List Value} {T2 : u_T} {N2 : Nat} {a1 a2 a3 : Value} {Po : Nat → List CE → Prop} (hd : decode cc pc = .ok (.invokevirtual idx, 3)) (hc : CU y.cls idx C x2 y2 cc2 nL2 ret2 3) (M : Ct l G y2 cc2 nL2 ret2 h 0 0 ad ws [.ref k, a1, a2, a3] (pR ad Po)) (hk : ws[k]? = some (oB ci fs)) (hcl : vwCl[ci]? = some (C, T2, N2)) (hcat : (st.map fun v => v.category).sum ≤ 8) (hR : (h + 1 ≤ R.frames ∧ 8 + (nL2 + 11) + 40 * h ≤ R.locals) ∧ cells + 0 ≤ R.cells ∧ slots + 0 ≤ R.slots) (kk : ∀ (r : Nat) (ws2 : List CE), Po r ws2 → V p l e R s m args below meth c cells slots Q G A nL ad ws2 (pc + 3) lv (.ref r :: st)) : V p l e R s m args below meth c cells slots Q G A nL ad ws pc lv (a3 :: a2 :: a1 :: .ref k :: st) := V_gU (as := [a1, a2, a3]) X hd hc M hk hcl rfl hcat hR (fun ad2 v ws2 hp => by obtain ⟨rfl, r, rfl, hp⟩ := hp; exact ⟨rfl, rfl, kk r ws2 hp⟩)
theorem V_cU3V (X : CX p s m args meth c cc nL y ret G A) {C : String} {x2 : MethodName} {y2 : MethodName} {cc2 : ByteArray} {nL2 h idx : Nat} {ret2 : Option FieldType} {k ci : Nat} {fs : List Value} {T2 : u_T} {N2 : Nat} {a1 a2 a3 : Value} {Po : List CE → Prop} (hd : decode cc pc = .ok (.invokevirtual idx, 3)) (hc : CU y.cls idx C x2 y2 cc2 nL2 ret2 3) (M : Ct l G y2 cc2 nL2 ret2 h 0 0 ad ws [.ref k, a1, a2, a3] (pV ad Po)) (hk : ws[k]? = some (oB ci fs)) (hcl : vwCl[ci]? = some (C, T2, N2)) (hcat : (st.map fun v => v.category).sum ≤ 8) (hR : (h + 1 ≤ R.frames ∧ 8 + (nL2 + 11) + 40 * h ≤ R.locals) ∧ cells + 0 ≤ R.cells ∧ slots + 0 ≤ R.slots) (kk : ∀ ws2 : List CE, Po ws2 → V p l e R s m args below meth c cells slots Q G A nL ad ws2 (pc + 3) lv st) : V p l e R s m args below meth c cells slots Q G A nL ad ws pc lv (a3 :: a2 :: a1 :: .ref k :: st) := V_gU (as := [a1, a2, a3]) X hd hc M hk hcl rfl hcat hR (fun ad2 v ws2 hp => by obtain ⟨rfl, rfl, hp⟩ := hp; exact ⟨rfl, rfl, kk ws2 hp⟩)
theorem V_cS0I (X : CX p s m args meth c cc nL y ret G A) {y2 : MethodName} {cc2 : ByteArray} {nL2 h idx : Nat} {ret2 : Option FieldType} {Po : Int32 → List CE → Prop} (hd : decode cc pc = .ok (.invokestatic idx, 3)) (hc : CS y.cls idx y2 cc2 nL2 ret2 0) (M : Ct l G y2 cc2 nL2 ret2 h 0 0 ad ws [] (pI ad Po)) (hcat : (st.map fun v => v.category).sum ≤ 8) (hR : (h + 1 ≤ R.frames ∧ 8 + (nL2 + 11) + 40 * h ≤ R.locals) ∧ cells + 0 ≤ R.cells ∧ slots + 0 ≤ R.slots) (kk : ∀ (r : Int32) (ws2 : List CE), Po r ws2 → V p l e R s m args below meth c cells slots Q G A nL ad ws2 (pc + 3) lv (.int r :: st)) : V p l e R s m args below meth c cells slots Q G A nL ad ws pc lv (st) := V_gS (as := []) X hd hc M rfl hcat hR (fun ad2 v ws2 hp => by obtain ⟨rfl, r, rfl, hp⟩ := hp; exact ⟨rfl, rfl, kk r ws2 hp⟩)
theorem V_cS0L (X : CX p s m args meth c cc nL y ret G A) {y2 : MethodName} {cc2 : ByteArray} {nL2 h idx : Nat} {ret2 : Option FieldType} {Po : Int64 → List CE → Prop} (hd : decode cc pc = .ok (.invokestatic idx, 3)) (hc : CS y.cls idx y2 cc2 nL2 ret2 0) (M : Ct l G y2 cc2 nL2 ret2 h 0 0 ad ws [] (pL ad Po)) (hcat : (st.map fun v => v.category).sum ≤ 8) (hR : (h + 1 ≤ R.frames ∧ 8 + (nL2 + 11) + 40 * h ≤ R.locals) ∧ cells + 0 ≤ R.cells ∧ slots + 0 ≤ R.slots) (kk : ∀ (r : Int64) (ws2 : List CE), Po r ws2 → V p l e R s m args below meth c cells slots Q G A nL ad ws2 (pc + 3) lv (.long r :: st)) : V p l e R s m args below meth c cells slots Q G A nL ad ws pc lv (st) := V_gS (as := []) X hd hc M rfl hcat hR (fun ad2 v ws2 hp => by obtain ⟨rfl, r, rfl, hp⟩ := hp; exact ⟨rfl, rfl, kk r ws2 hp⟩)
theorem V_cS0R (X : CX p s m args meth c cc nL y ret G A) {y2 : MethodName} {cc2 : ByteArray} {nL2 h idx : Nat} {ret2 : Option FieldType} {Po : Nat → List CE → Prop} (hd : decode cc pc = .ok (.invokestatic idx, 3)) (hc : CS y.cls idx y2 cc2 nL2 ret2 0) (M : Ct l G y2 cc2 nL2 ret2 h 0 0 ad ws [] (pR ad Po)) (hcat : (st.map fun v => v.category).sum ≤ 8) (hR : (h + 1 ≤ R.frames ∧ 8 + (nL2 + 11) + 40 * h ≤ R.locals) ∧ cells + 0 ≤ R.cells ∧ slots + 0 ≤ R.slots) (kk : ∀ (r : Nat) (ws2 : List CE), Po r ws2 → V p l e R s m args below meth c cells slots Q G A nL ad ws2 (pc + 3) lv (.ref r :: st)) : V p l e R s m args below meth c cells slots Q G A nL ad ws pc lv (st) := V_gS (as := []) X hd hc M rfl hcat hR (fun ad2 v ws2 hp => by obtain ⟨rfl, r, rfl, hp⟩ := hp; exact ⟨rfl, rfl, kk r ws2 hp⟩)
theorem V_cS0V (X : CX p s m args meth c cc nL y ret G A) {y2 : MethodName} {cc2 : ByteArray} {nL2 h idx : Nat} {ret2 : Option FieldType} {Po : List CE → Prop} (hd : decode cc pc = .ok (.invokestatic idx, 3)) (hc : CS y.cls idx y2 cc2 nL2 ret2 0) (M : Ct l G y2 cc2 nL2 ret2 h 0 0 ad ws [] (pV ad Po)) (hcat : (st.map fun v => v.category).sum ≤ 8) (hR : (h + 1 ≤ R.frames ∧ 8 + (nL2 + 11) + 40 * h ≤ R.locals) ∧ cells + 0 ≤ R.cells ∧ slots + 0 ≤ R.slots) (kk : ∀ ws2 : List CE, Po ws2 → V p l e R s m args below meth c cells slots Q G A nL ad ws2 (pc + 3) lv st) : V p l e R s m args below meth c cells slots Q G A nL ad ws pc lv (st) := V_gS (as := []) X hd hc M rfl hcat hR (fun ad2 v ws2 hp => by obtain ⟨rfl, rfl, hp⟩ := hp; exact ⟨rfl, rfl, kk ws2 hp⟩)
theorem V_cS1I (X : CX p s m args meth c cc nL y ret G A) {y2 : MethodName} {cc2 : ByteArray} {nL2 h idx : Nat} {ret2 : Option FieldType} {a1 : Value} {Po : Int32 → List CE → Prop} (hd : decode cc pc = .ok (.invokestatic idx, 3)) (hc : CS y.cls idx y2 cc2 nL2 ret2 1) (M : Ct l G y2 cc2 nL2 ret2 h 0 0 ad ws [a1] (pI ad Po)) (hcat : (st.map fun v => v.category).sum ≤ 8) (hR : (h + 1 ≤ R.frames ∧ 8 + (nL2 + 11) + 40 * h ≤ R.locals) ∧ cells + 0 ≤ R.cells ∧ slots + 0 ≤ R.slots) (kk : ∀ (r : Int32) (ws2 : List CE), Po r ws2 → V p l e R s m args below meth c cells slots Q G A nL ad ws2 (pc + 3) lv (.int r :: st)) : V p l e R s m args below meth c cells slots Q G A nL ad ws pc lv (a1 :: st) := V_gS (as := [a1]) X hd hc M rfl hcat hR (fun ad2 v ws2 hp => by obtain ⟨rfl, r, rfl, hp⟩ := hp; exact ⟨rfl, rfl, kk r ws2 hp⟩)
theorem V_cS1L (X : CX p s m args meth c cc nL y ret G A) {y2 : MethodName} {cc2 : ByteArray} {nL2 h idx : Nat} {ret2 : Option FieldType} {a1 : Value} {Po : Int64 → List CE → Prop} (hd : decode cc pc = .ok (.invokestatic idx, 3)) (hc : CS y.cls idx y2 cc2 nL2 ret2 1) (M : Ct l G y2 cc2 nL2 ret2 h 0 0 ad ws [a1] (pL ad Po)) (hcat : (st.map fun v => v.category).sum ≤ 8) (hR : (h + 1 ≤ R.frames ∧ 8 + (nL2 + 11) + 40 * h ≤ R.locals) ∧ cells + 0 ≤ R.cells ∧ slots + 0 ≤ R.slots) (kk : ∀ (r : Int64) (ws2 : List CE), Po r ws2 → V p l e R s m args below meth c cells slots Q G A nL ad ws2 (pc + 3) lv (.long r :: st)) : V p l e R s m args below meth c cells slots Q G A nL ad ws pc lv (a1 :: st) := V_gS (as := [a1]) X hd hc M rfl hcat hR (fun ad2 v ws2 hp => by obtain ⟨rfl, r, rfl, hp⟩ := hp; exact ⟨rfl, rfl, kk r ws2 hp⟩)
theorem V_cS1R (X : CX p s m args meth c cc nL y ret G A) {y2 : MethodName} {cc2 : ByteArray} {nL2 h idx : Nat} {ret2 : Option FieldType} {a1 : Value} {Po : Nat → List CE → Prop} (hd : decode cc pc = .ok (.invokestatic idx, 3)) (hc : CS y.cls idx y2 cc2 nL2 ret2 1) (M : Ct l G y2 cc2 nL2 ret2 h 0 0 ad ws [a1] (pR ad Po)) (hcat : (st.map fun v => v.category).sum ≤ 8) (hR : (h + 1 ≤ R.frames ∧ 8 + (nL2 + 11) + 40 * h ≤ R.locals) ∧ cells + 0 ≤ R.cells ∧ slots + 0 ≤ R.slots) (kk : ∀ (r : Nat) (ws2 : List CE), Po r ws2 → V p l e R s m args below meth c cells slots Q G A nL ad ws2 (pc + 3) lv (.ref r :: st)) : V p l e R s m args below meth c cells slots Q G A nL ad ws pc lv (a1 :: st) := V_gS (as := [a1]) X hd hc M rfl hcat hR (fun ad2 v ws2 hp => by obtain ⟨rfl, r, rfl, hp⟩ := hp; exact ⟨rfl, rfl, kk r ws2 hp⟩)
theorem V_cS1V (X : CX p s m args meth c cc nL y ret G A) {y2 : MethodName} {cc2 : ByteArray} {nL2 h idx : Nat} {ret2 : Option FieldType} {a1 : Value} {Po : List CE → Prop} (hd : decode cc pc = .ok (.invokestatic idx, 3)) (hc : CS y.cls idx y2 cc2 nL2 ret2 1) (M : Ct l G y2 cc2 nL2 ret2 h 0 0 ad ws [a1] (pV ad Po)) (hcat : (st.map fun v => v.category).sum ≤ 8) (hR : (h + 1 ≤ R.frames ∧ 8 + (nL2 + 11) + 40 * h ≤ R.locals) ∧ cells + 0 ≤ R.cells ∧ slots + 0 ≤ R.slots) (kk : ∀ ws2 : List CE, Po ws2 → V p l e R s m args below meth c cells slots Q G A nL ad ws2 (pc + 3) lv st) : V p l e R s m args below meth c cells slots Q G A nL ad ws pc lv (a1 :: st) := V_gS (as := [a1]) X hd hc M rfl hcat hR (fun ad2 v ws2 hp => by obtain ⟨rfl, rfl, hp⟩ := hp; exact ⟨rfl, rfl, kk ws2 hp⟩)
theorem V_cS2I (X : CX p s m args meth c cc nL y ret G A) {y2 : MethodName} {cc2 : ByteArray} {nL2 h idx : Nat} {ret2 : Option FieldType} {a1 a2 : Value} {Po : Int32 → List CE → Prop} (hd : decode cc pc = .ok (.invokestatic idx, 3)) (hc : CS y.cls idx y2 cc2 nL2 ret2 2) (M : Ct l G y2 cc2 nL2 ret2 h 0 0 ad ws [a1, a2] (pI ad Po)) (hcat : (st.map fun v => v.category).sum ≤ 8) (hR : (h + 1 ≤ R.frames ∧ 8 + (nL2 + 11) + 40 * h ≤ R.locals) ∧ cells + 0 ≤ R.cells ∧ slots + 0 ≤ R.slots) (kk : ∀ (r : Int32) (ws2 : List CE), Po r ws2 → V p l e R s m args below meth c cells slots Q G A nL ad ws2 (pc + 3) lv (.int r :: st)) : V p l e R s m args below meth c cells slots Q G A nL ad ws pc lv (a2 :: a1 :: st) := V_gS (as := [a1, a2]) X hd hc M rfl hcat hR (fun ad2 v ws2 hp => by obtain ⟨rfl, r, rfl, hp⟩ := hp; exact ⟨rfl, rfl, kk r ws2 hp⟩)
theorem V_cS2L (X : CX p s m args meth c cc nL y ret G A) {y2 : MethodName} {cc2 : ByteArray} {nL2 h idx : Nat} {ret2 : Option FieldType} {a1 a2 : Value} {Po : Int64 → List CE → Prop} (hd : decode cc pc = .ok (.invokestatic idx, 3)) (hc : CS y.cls idx y2 cc2 nL2 ret2 2) (M : Ct l G y2 cc2 nL2 ret2 h 0 0 ad ws [a1, a2] (pL ad Po)) (hcat : (st.map fun v => v.category).sum ≤ 8) (hR : (h + 1 ≤ R.frames ∧ 8 + (nL2 + 11) + 40 * h ≤ R.locals) ∧ cells + 0 ≤ R.cells ∧ slots + 0 ≤ R.slots) (kk : ∀ (r : Int64) (ws2 : List CE), Po r ws2 → V p l e R s m args below meth c cells slots Q G A nL ad ws2 (pc + 3) lv (.long r :: st)) : V p l e R s m args below meth c cells slots Q G A nL ad ws pc lv (a2 :: a1 :: st) := V_gS (as := [a1, a2]) X hd hc M rfl hcat hR (fun ad2 v ws2 hp => by obtain ⟨rfl, r, rfl, hp⟩ := hp; exact ⟨rfl, rfl, kk r ws2 hp⟩)
theorem V_cS2R (X : CX p s m args meth c cc nL y ret G A) {y2 : MethodName} {cc2 : ByteArray} {nL2 h idx : Nat} {ret2 : Option FieldType} {a1 a2 : Value} {Po : Nat → List CE → Prop} (hd : decode cc pc = .ok (.invokestatic idx, 3)) (hc : CS y.cls idx y2 cc2 nL2 ret2 2) (M : Ct l G y2 cc2 nL2 ret2 h 0 0 ad ws [a1, a2] (pR ad Po)) (hcat : (st.map fun v => v.category).sum ≤ 8) (hR : (h + 1 ≤ R.frames ∧ 8 + (nL2 + 11) + 40 * h ≤ R.locals) ∧ cells + 0 ≤ R.cells ∧ slots + 0 ≤ R.slots) (kk : ∀ (r : Nat) (ws2 : List CE), Po r ws2 → V p l e R s m args below meth c cells slots Q G A nL ad ws2 (pc + 3) lv (.ref r :: st)) : V p l e R s m args below meth c cells slots Q G A nL ad ws pc lv (a2 :: a1 :: st) := V_gS (as := [a1, a2]) X hd hc M rfl hcat hR (fun ad2 v ws2 hp => by obtain ⟨rfl, r, rfl, hp⟩ := hp; exact ⟨rfl, rfl, kk r ws2 hp⟩)
theorem V_cS2V (X : CX p s m args meth c cc nL y ret G A) {y2 : MethodName} {cc2 : ByteArray} {nL2 h idx : Nat} {ret2 : Option FieldType} {a1 a2 : Value} {Po : List CE → Prop} (hd : decode cc pc = .ok (.invokestatic idx, 3)) (hc : CS y.cls idx y2 cc2 nL2 ret2 2) (M : Ct l G y2 cc2 nL2 ret2 h 0 0 ad ws [a1, a2] (pV ad Po)) (hcat : (st.map fun v => v.category).sum ≤ 8) (hR : (h + 1 ≤ R.frames ∧ 8 + (nL2 + 11) + 40 * h ≤ R.locals) ∧ cells + 0 ≤ R.cells ∧ slots + 0 ≤ R.slots) (kk : ∀ ws2 : List CE, Po ws2 → V p l e R s m args below meth c cells slots Q G A nL ad ws2 (pc + 3) lv st) : V p l e R s m args below meth c cells slots Q G A nL ad ws pc lv (a2 :: a1 :: st) := V_gS (as := [a1, a2]) X hd hc M rfl hcat hR (fun ad2 v ws2 hp => by obtain ⟨rfl, rfl, hp⟩ := hp; exact ⟨rfl, rfl, kk ws2 hp⟩)
theorem V_cS3I (X : CX p s m args meth c cc nL y ret G A) {y2 : MethodName} {cc2 : ByteArray} {nL2 h idx : Nat} {ret2 : Option FieldType} {a1 a2 a3 : Value} {Po : Int32 → List CE → Prop} (hd : decode cc pc = .ok (.invokestatic idx, 3)) (hc : CS y.cls idx y2 cc2 nL2 ret2 3) (M : Ct l G y2 cc2 nL2 ret2 h 0 0 ad ws [a1, a2, a3] (pI ad Po)) (hcat : (st.map fun v => v.category).sum ≤ 8) (hR : (h + 1 ≤ R.frames ∧ 8 + (nL2 + 11) + 40 * h ≤ R.locals) ∧ cells + 0 ≤ R.cells ∧ slots + 0 ≤ R.slots) (kk : ∀ (r : Int32) (ws2 : List CE), Po r ws2 → V p l e R s m args below meth c cells slots Q G A nL ad ws2 (pc + 3) lv (.int r :: st)) : V p l e R s m args below meth c cells slots Q G A nL ad ws pc lv (a3 :: a2 :: a1 :: st) := V_gS (as := [a1, a2, a3]) X hd hc M rfl hcat hR (fun ad2 v ws2 hp => by obtain ⟨rfl, r, rfl, hp⟩ := hp; exact ⟨rfl, rfl, kk r ws2 hp⟩)
theorem V_cS3L (X : CX p s m args meth c cc nL y ret G A) {y2 : MethodName} {cc2 : ByteArray} {nL2 h idx : Nat} {ret2 : Option FieldType} {a1 a2 a3 : Value} {Po : Int64 → List CE → Prop} (hd : decode cc pc = .ok (.invokestatic idx, 3)) (hc : CS y.cls idx y2 cc2 nL2 ret2 3) (M : Ct l G y2 cc2 nL2 ret2 h 0 0 ad ws [a1, a2, a3] (pL ad Po)) (hcat : (st.map fun v => v.category).sum ≤ 8) (hR : (h + 1 ≤ R.frames ∧ 8 + (nL2 + 11) + 40 * h ≤ R.locals) ∧ cells + 0 ≤ R.cells ∧ slots + 0 ≤ R.slots) (kk : ∀ (r : Int64) (ws2 : List CE), Po r ws2 → V p l e R s m args below meth c cells slots Q G A nL ad ws2 (pc + 3) lv (.long r :: st)) : V p l e R s m args below meth c cells slots Q G A nL ad ws pc lv (a3 :: a2 :: a1 :: st) := V_gS (as := [a1, a2, a3]) X hd hc M rfl hcat hR (fun ad2 v ws2 hp => by obtain ⟨rfl, r, rfl, hp⟩ := hp; exact ⟨rfl, rfl, kk r ws2 hp⟩)
theorem V_cS3R (X : CX p s m args meth c cc nL y ret G A) {y2 : MethodName} {cc2 : ByteArray} {nL2 h idx : Nat} {ret2 : Option FieldType} {a1 a2 a3 : Value} {Po : Nat → List CE → Prop} (hd : decode cc pc = .ok (.invokestatic idx, 3)) (hc : CS y.cls idx y2 cc2 nL2 ret2 3) (M : Ct l G y2 cc2 nL2 ret2 h 0 0 ad ws [a1, a2, a3] (pR ad Po)) (hcat : (st.map fun v => v.category).sum ≤ 8) (hR : (h + 1 ≤ R.frames ∧ 8 + (nL2 + 11) + 40 * h ≤ R.locals) ∧ cells + 0 ≤ R.cells ∧ slots + 0 ≤ R.slots) (kk : ∀ (r : Nat) (ws2 : List CE), Po r ws2 → V p l e R s m args below meth c cells slots Q G A nL ad ws2 (pc + 3) lv (.ref r :: st)) : V p l e R s m args below meth c cells slots Q G A nL ad ws pc lv (a3 :: a2 :: a1 :: st) := V_gS (as := [a1, a2, a3]) X hd hc M rfl hcat hR (fun ad2 v ws2 hp => by obtain ⟨rfl, r, rfl, hp⟩ := hp; exact ⟨rfl, rfl, kk r ws2 hp⟩)
theorem V_cS3V (X : CX p s m args meth c cc nL y ret G A) {y2 : MethodName} {cc2 : ByteArray} {nL2 h idx : Nat} {ret2 : Option FieldType} {a1 a2 a3 : Value} {Po : List CE → Prop} (hd : decode cc pc = .ok (.invokestatic idx, 3)) (hc : CS y.cls idx y2 cc2 nL2 ret2 3) (M : Ct l G y2 cc2 nL2 ret2 h 0 0 ad ws [a1, a2, a3] (pV ad Po)) (hcat : (st.map fun v => v.category).sum ≤ 8) (hR : (h + 1 ≤ R.frames ∧ 8 + (nL2 + 11) + 40 * h ≤ R.locals) ∧ cells + 0 ≤ R.cells ∧ slots + 0 ≤ R.slots) (kk : ∀ ws2 : List CE, Po ws2 → V p l e R s m args below meth c cells slots Q G A nL ad ws2 (pc + 3) lv st) : V p l e R s m args below meth c cells slots Q G A nL ad ws pc lv (a3 :: a2 :: a1 :: st) := V_gS (as := [a1, a2, a3]) X hd hc M rfl hcat hR (fun ad2 v ws2 hp => by obtain ⟨rfl, rfl, hp⟩ := hp; exact ⟨rfl, rfl, kk ws2 hp⟩)
theorem V_cN0V (X : CX p s m args meth c cc nL y ret G A) {y2 : MethodName} {cc2 : ByteArray} {nL2 h idx : Nat} {k : Nat} {Po : List CE → Prop} (hd : decode cc pc = .ok (.invokespecial idx, 3)) (hc : CN y.cls idx y2 cc2 nL2 0) (M : Ct l G y2 cc2 nL2 none h 0 0 ad ws [.ref k] (pV ad Po)) (hcat : (st.map fun v => v.category).sum ≤ 8) (hR : (h + 1 ≤ R.frames ∧ 8 + (nL2 + 11) + 40 * h ≤ R.locals) ∧ cells + 0 ≤ R.cells ∧ slots + 0 ≤ R.slots) (kk : ∀ ws2 : List CE, Po ws2 → V p l e R s m args below meth c cells slots Q G A nL ad ws2 (pc + 3) lv st) : V p l e R s m args below meth c cells slots Q G A nL ad ws pc lv (.ref k :: st) := V_gN (as := []) X hd hc M rfl hcat hR (fun ad2 v ws2 hp => by obtain ⟨rfl, rfl, hp⟩ := hp; exact ⟨rfl, rfl, kk ws2 hp⟩)
theorem V_cN1V (X : CX p s m args meth c cc nL y ret G A) {y2 : MethodName} {cc2 : ByteArray} {nL2 h idx : Nat} {k : Nat} {a1 : Value} {Po : List CE → Prop} (hd : decode cc pc = .ok (.invokespecial idx, 3)) (hc : CN y.cls idx y2 cc2 nL2 1) (M : Ct l G y2 cc2 nL2 none h 0 0 ad ws [.ref k, a1] (pV ad Po)) (hcat : (st.map fun v => v.category).sum ≤ 8) (hR : (h + 1 ≤ R.frames ∧ 8 + (nL2 + 11) + 40 * h ≤ R.locals) ∧ cells + 0 ≤ R.cells ∧ slots + 0 ≤ R.slots) (kk : ∀ ws2 : List CE, Po ws2 → V p l e R s m args below meth c cells slots Q G A nL ad ws2 (pc + 3) lv st) : V p l e R s m args below meth c cells slots Q G A nL ad ws pc lv (a1 :: .ref k :: st) := V_gN (as := [a1]) X hd hc M rfl hcat hR (fun ad2 v ws2 hp => by obtain ⟨rfl, rfl, hp⟩ := hp; exact ⟨rfl, rfl, kk ws2 hp⟩)
theorem V_cN2V (X : CX p s m args meth c cc nL y ret G A) {y2 : MethodName} {cc2 : ByteArray} {nL2 h idx : Nat} {k : Nat} {a1 a2 : Value} {Po : List CE → Prop} (hd : decode cc pc = .ok (.invokespecial idx, 3)) (hc : CN y.cls idx y2 cc2 nL2 2) (M : Ct l G y2 cc2 nL2 none h 0 0 ad ws [.ref k, a1, a2] (pV ad Po)) (hcat : (st.map fun v => v.category).sum ≤ 8) (hR : (h + 1 ≤ R.frames ∧ 8 + (nL2 + 11) + 40 * h ≤ R.locals) ∧ cells + 0 ≤ R.cells ∧ slots + 0 ≤ R.slots) (kk : ∀ ws2 : List CE, Po ws2 → V p l e R s m args below meth c cells slots Q G A nL ad ws2 (pc + 3) lv st) : V p l e R s m args below meth c cells slots Q G A nL ad ws pc lv (a2 :: a1 :: .ref k :: st) := V_gN (as := [a1, a2]) X hd hc M rfl hcat hR (fun ad2 v ws2 hp => by obtain ⟨rfl, rfl, hp⟩ := hp; exact ⟨rfl, rfl, kk ws2 hp⟩)
theorem V_cN3V (X : CX p s m args meth c cc nL y ret G A) {y2 : MethodName} {cc2 : ByteArray} {nL2 h idx : Nat} {k : Nat} {a1 a2 a3 : Value} {Po : List CE → Prop} (hd : decode cc pc = .ok (.invokespecial idx, 3)) (hc : CN y.cls idx y2 cc2 nL2 3) (M : Ct l G y2 cc2 nL2 none h 0 0 ad ws [.ref k, a1, a2, a3] (pV ad Po)) (hcat : (st.map fun v => v.category).sum ≤ 8) (hR : (h + 1 ≤ R.frames ∧ 8 + (nL2 + 11) + 40 * h ≤ R.locals) ∧ cells + 0 ≤ R.cells ∧ slots + 0 ≤ R.slots) (kk : ∀ ws2 : List CE, Po ws2 → V p l e R s m args below meth c cells slots Q G A nL ad ws2 (pc + 3) lv st) : V p l e R s m args below meth c cells slots Q G A nL ad ws pc lv (a3 :: a2 :: a1 :: .ref k :: st) := V_gN (as := [a1, a2, a3]) X hd hc M rfl hcat hR (fun ad2 v ws2 hp => by obtain ⟨rfl, rfl, hp⟩ := hp; exact ⟨rfl, rfl, kk ws2 hp⟩)
end VC
end
section
theorem ws_in {ws : List Cond} (h : ws.all (fun w => decide (w ∈ lw_tbl) && goodWord w) = true) : ∀ w ∈ ws, w ∈ tb := fun w hw => by
  have := List.all_eq_true.mp h w hw
  simp only [Bool.and_eq_true, decide_eq_true_eq] at this
  exact List.mem_filter.mpr this
theorem ci_0 : CI 0 RX0 TX0 0 tyX0 := ⟨rfl, ws_in (by decide +kernel), tyX0_ok, nmX0⟩
theorem ci_1 : CI 1 RX1 TX1 6 tyX1 := ⟨rfl, ws_in (by decide +kernel), tyX1_ok, nmX1⟩
theorem ci_2 : CI 2 RX2 TX2 3 tyX2 := ⟨rfl, ws_in (by decide +kernel), tyX2_ok, nmX2⟩
theorem ci_3 : CI 3 RX3 TX3 0 tyX3 := ⟨rfl, ws_in (by decide +kernel), tyX3_ok, nmX3⟩
theorem ci_4 : CI 4 RX4 TX4 0 tyX4 := ⟨rfl, ws_in (by decide +kernel), tyX4_ok, nmX4⟩
theorem ci_5 : CI 5 RX5 TX5 0 tyX5 := ⟨rfl, ws_in (by decide +kernel), tyX5_ok, nmX5⟩
theorem ci_6 : CI 6 RX6 TX6 2 tyX6 := ⟨rfl, ws_in (by decide +kernel), tyX6_ok, nmX6⟩
theorem ci_7 : CI 7 RX7 TX7 2 tyX7 := ⟨rfl, ws_in (by decide +kernel), tyX7_ok, nmX7⟩
theorem ci_8 : CI 8 RX8 TX8 0 tyX8 := ⟨rfl, ws_in (by decide +kernel), tyX8_ok, nmX8⟩
theorem ci_9 : CI 9 RX9 TX9 9 tyX9 := ⟨rfl, ws_in (by decide +kernel), tyX9_ok, nmX9⟩
theorem ci_10 : CI 10 RX10 TX10 6 tyX10 := ⟨rfl, ws_in (by decide +kernel), tyX10_ok, nmX10⟩
theorem ci_11 : CI 11 RX11 TX11 15 tyX11 := ⟨rfl, ws_in (by decide +kernel), tyX11_ok, nmX11⟩
theorem ci_12 : CI 12 RX12 TX12 31 tyX12 := ⟨rfl, ws_in (by decide +kernel), tyX12_ok, nmX12⟩
theorem w_90 : Cond.fieldLink RX6 11 "LikeLastYears$Looks" "features" "[LLikeLastYears$Feature;" ∈ tb := tb_mem 90 (by decide +kernel) (by decide +kernel)
theorem fX6_11 : FL RX6 11 6 0 (.array (.object "LikeLastYears$Feature")) true := ⟨RX6, TX6, 2, tyX6, ci_6, by decide, w_90, rfl, rfl, rfl⟩
theorem w_91 : Cond.fieldLink RX6 17 "LikeLastYears$Looks" "size" "I" ∈ tb := tb_mem 91 (by decide +kernel) (by decide +kernel)
theorem fX6_17 : FL RX6 17 6 1 (.int) false := ⟨RX6, TX6, 2, tyX6, ci_6, by decide, w_91, rfl, rfl, rfl⟩
theorem w_103 : Cond.fieldLink RX1 28 "LikeLastYears$Bench" "looks" "LLikeLastYears$Looks;" ∈ tb := tb_mem 103 (by decide +kernel) (by decide +kernel)
theorem fX1_28 : FL RX1 28 1 0 (.object "LikeLastYears$Looks") true := ⟨RX1, TX1, 6, tyX1, ci_1, by decide, w_103, rfl, rfl, rfl⟩
theorem w_104 : Cond.fieldLink RX1 9 "LikeLastYears$Bench" "marks" "[I" ∈ tb := tb_mem 104 (by decide +kernel) (by decide +kernel)
theorem fX1_9 : FL RX1 9 1 1 (.array .int) true := ⟨RX1, TX1, 6, tyX1, ci_1, by decide, w_104, rfl, rfl, rfl⟩
theorem w_105 : Cond.fieldLink RX1 15 "LikeLastYears$Bench" "allowing" "[I" ∈ tb := tb_mem 105 (by decide +kernel) (by decide +kernel)
theorem fX1_15 : FL RX1 15 1 2 (.array .int) true := ⟨RX1, TX1, 6, tyX1, ci_1, by decide, w_105, rfl, rfl, rfl⟩
theorem w_106 : Cond.fieldLink RX1 18 "LikeLastYears$Bench" "allowingAll" "[I" ∈ tb := tb_mem 106 (by decide +kernel) (by decide +kernel)
theorem fX1_18 : FL RX1 18 1 3 (.array .int) true := ⟨RX1, TX1, 6, tyX1, ci_1, by decide, w_106, rfl, rfl, rfl⟩
theorem w_107 : Cond.fieldLink RX1 21 "LikeLastYears$Bench" "binding" "[I" ∈ tb := tb_mem 107 (by decide +kernel) (by decide +kernel)
theorem fX1_21 : FL RX1 21 1 4 (.array .int) true := ⟨RX1, TX1, 6, tyX1, ci_1, by decide, w_107, rfl, rfl, rfl⟩
theorem w_108 : Cond.fieldLink RX1 24 "LikeLastYears$Bench" "size" "I" ∈ tb := tb_mem 108 (by decide +kernel) (by decide +kernel)
theorem fX1_24 : FL RX1 24 1 5 (.int) false := ⟨RX1, TX1, 6, tyX1, ci_1, by decide, w_108, rfl, rfl, rfl⟩
theorem w_129 : Cond.fieldLink RX2 9 "LikeLastYears$Census" "met" "[I" ∈ tb := tb_mem 129 (by decide +kernel) (by decide +kernel)
theorem fX2_9 : FL RX2 9 2 0 (.array .int) true := ⟨RX2, TX2, 3, tyX2, ci_2, by decide, w_129, rfl, rfl, rfl⟩
theorem w_130 : Cond.fieldLink RX2 15 "LikeLastYears$Census" "portraits" "[I" ∈ tb := tb_mem 130 (by decide +kernel) (by decide +kernel)
theorem fX2_15 : FL RX2 15 2 1 (.array .int) false := ⟨RX2, TX2, 3, tyX2, ci_2, by decide, w_130, rfl, rfl, rfl⟩
theorem w_131 : Cond.fieldLink RX2 18 "LikeLastYears$Census" "spare" "[I" ∈ tb := tb_mem 131 (by decide +kernel) (by decide +kernel)
theorem fX2_18 : FL RX2 18 2 2 (.array .int) false := ⟨RX2, TX2, 3, tyX2, ci_2, by decide, w_131, rfl, rfl, rfl⟩
theorem w_145 : Cond.fieldLink RX9 34 "LikeLastYears$Search" "looks" "LLikeLastYears$Looks;" ∈ tb := tb_mem 145 (by decide +kernel) (by decide +kernel)
theorem fX9_34 : FL RX9 34 9 0 (.object "LikeLastYears$Looks") true := ⟨RX9, TX9, 9, tyX9, ci_9, by decide, w_145, rfl, rfl, rfl⟩
theorem w_146 : Cond.fieldLink RX9 38 "LikeLastYears$Search" "bench" "LLikeLastYears$Bench;" ∈ tb := tb_mem 146 (by decide +kernel) (by decide +kernel)
theorem fX9_38 : FL RX9 38 9 1 (.object "LikeLastYears$Bench") true := ⟨RX9, TX9, 9, tyX9, ci_9, by decide, w_146, rfl, rfl, rfl⟩
theorem w_147 : Cond.fieldLink RX9 9 "LikeLastYears$Search" "seen" "[I" ∈ tb := tb_mem 147 (by decide +kernel) (by decide +kernel)
theorem fX9_9 : FL RX9 9 9 2 (.array .int) true := ⟨RX9, TX9, 9, tyX9, ci_9, by decide, w_147, rfl, rfl, rfl⟩
theorem w_148 : Cond.fieldLink RX9 15 "LikeLastYears$Search" "round" "I" ∈ tb := tb_mem 148 (by decide +kernel) (by decide +kernel)
theorem fX9_15 : FL RX9 15 9 3 (.int) false := ⟨RX9, TX9, 9, tyX9, ci_9, by decide, w_148, rfl, rfl, rfl⟩
theorem w_149 : Cond.fieldLink RX9 19 "LikeLastYears$Search" "row" "[I" ∈ tb := tb_mem 149 (by decide +kernel) (by decide +kernel)
theorem fX9_19 : FL RX9 19 9 4 (.array .int) false := ⟨RX9, TX9, 9, tyX9, ci_9, by decide, w_149, rfl, rfl, rfl⟩
theorem w_150 : Cond.fieldLink RX9 22 "LikeLastYears$Search" "earlier" "[I" ∈ tb := tb_mem 150 (by decide +kernel) (by decide +kernel)
theorem fX9_22 : FL RX9 22 9 5 (.array .int) false := ⟨RX9, TX9, 9, tyX9, ci_9, by decide, w_150, rfl, rfl, rfl⟩
theorem w_151 : Cond.fieldLink RX9 25 "LikeLastYears$Search" "size" "I" ∈ tb := tb_mem 151 (by decide +kernel) (by decide +kernel)
theorem fX9_25 : FL RX9 25 9 6 (.int) false := ⟨RX9, TX9, 9, tyX9, ci_9, by decide, w_151, rfl, rfl, rfl⟩
theorem w_152 : Cond.fieldLink RX9 28 "LikeLastYears$Search" "trueYears" "I" ∈ tb := tb_mem 152 (by decide +kernel) (by decide +kernel)
theorem fX9_28 : FL RX9 28 9 7 (.int) false := ⟨RX9, TX9, 9, tyX9, ci_9, by decide, w_152, rfl, rfl, rfl⟩
theorem w_153 : Cond.fieldLink RX9 31 "LikeLastYears$Search" "firstTrue" "I" ∈ tb := tb_mem 153 (by decide +kernel) (by decide +kernel)
theorem fX9_31 : FL RX9 31 9 8 (.int) false := ⟨RX9, TX9, 9, tyX9, ci_9, by decide, w_153, rfl, rfl, rfl⟩
theorem w_179 : Cond.fieldLink RX10 28 "LikeLastYears$Sorter" "looks" "LLikeLastYears$Looks;" ∈ tb := tb_mem 179 (by decide +kernel) (by decide +kernel)
theorem fX10_28 : FL RX10 28 10 0 (.object "LikeLastYears$Looks") true := ⟨RX10, TX10, 6, tyX10, ci_10, by decide, w_179, rfl, rfl, rfl⟩
theorem w_180 : Cond.fieldLink RX10 9 "LikeLastYears$Sorter" "gaps" "[I" ∈ tb := tb_mem 180 (by decide +kernel) (by decide +kernel)
theorem fX10_9 : FL RX10 9 10 1 (.array .int) true := ⟨RX10, TX10, 6, tyX10, ci_10, by decide, w_180, rfl, rfl, rfl⟩
theorem w_181 : Cond.fieldLink RX10 15 "LikeLastYears$Sorter" "trial" "[I" ∈ tb := tb_mem 181 (by decide +kernel) (by decide +kernel)
theorem fX10_15 : FL RX10 15 10 2 (.array .int) true := ⟨RX10, TX10, 6, tyX10, ci_10, by decide, w_181, rfl, rfl, rfl⟩
theorem w_182 : Cond.fieldLink RX10 18 "LikeLastYears$Sorter" "best" "[I" ∈ tb := tb_mem 182 (by decide +kernel) (by decide +kernel)
theorem fX10_18 : FL RX10 18 10 3 (.array .int) true := ⟨RX10, TX10, 6, tyX10, ci_10, by decide, w_182, rfl, rfl, rfl⟩
theorem w_183 : Cond.fieldLink RX10 21 "LikeLastYears$Sorter" "size" "I" ∈ tb := tb_mem 183 (by decide +kernel) (by decide +kernel)
theorem fX10_21 : FL RX10 21 10 4 (.int) false := ⟨RX10, TX10, 6, tyX10, ci_10, by decide, w_183, rfl, rfl, rfl⟩
theorem w_184 : Cond.fieldLink RX10 25 "LikeLastYears$Sorter" "cost" "I" ∈ tb := tb_mem 184 (by decide +kernel) (by decide +kernel)
theorem fX10_25 : FL RX10 25 10 5 (.int) false := ⟨RX10, TX10, 6, tyX10, ci_10, by decide, w_184, rfl, rfl, rfl⟩
theorem w_207 : Cond.fieldLink RX7 21 "LikeLastYears$Row" "items" "[I" ∈ tb := tb_mem 207 (by decide +kernel) (by decide +kernel)
theorem fX7_21 : FL RX7 21 7 0 (.array .int) true := ⟨RX7, TX7, 2, tyX7, ci_7, by decide, w_207, rfl, rfl, rfl⟩
theorem w_208 : Cond.fieldLink RX7 9 "LikeLastYears$Row" "size" "I" ∈ tb := tb_mem 208 (by decide +kernel) (by decide +kernel)
theorem fX7_9 : FL RX7 9 7 1 (.int) false := ⟨RX7, TX7, 2, tyX7, ci_7, by decide, w_208, rfl, rfl, rfl⟩
theorem w_214 : Cond.fieldLink RX11 12 "LikeLastYears" "looks" "LLikeLastYears$Looks;" ∈ tb := tb_mem 214 (by decide +kernel) (by decide +kernel)
theorem fX11_12 : FL RX11 12 11 0 (.object "LikeLastYears$Looks") true := ⟨RX11, TX11, 15, tyX11, ci_11, by decide, w_214, rfl, rfl, rfl⟩
theorem w_215 : Cond.fieldLink RX11 21 "LikeLastYears" "bench" "LLikeLastYears$Bench;" ∈ tb := tb_mem 215 (by decide +kernel) (by decide +kernel)
theorem fX11_21 : FL RX11 21 11 1 (.object "LikeLastYears$Bench") true := ⟨RX11, TX11, 15, tyX11, ci_11, by decide, w_215, rfl, rfl, rfl⟩
theorem w_216 : Cond.fieldLink RX11 28 "LikeLastYears" "census" "LLikeLastYears$Census;" ∈ tb := tb_mem 216 (by decide +kernel) (by decide +kernel)
theorem fX11_28 : FL RX11 28 11 2 (.object "LikeLastYears$Census") true := ⟨RX11, TX11, 15, tyX11, ci_11, by decide, w_216, rfl, rfl, rfl⟩
theorem w_217 : Cond.fieldLink RX11 37 "LikeLastYears" "search" "LLikeLastYears$Search;" ∈ tb := tb_mem 217 (by decide +kernel) (by decide +kernel)
theorem fX11_37 : FL RX11 37 11 3 (.object "LikeLastYears$Search") true := ⟨RX11, TX11, 15, tyX11, ci_11, by decide, w_217, rfl, rfl, rfl⟩
theorem w_218 : Cond.fieldLink RX11 44 "LikeLastYears" "sorter" "LLikeLastYears$Sorter;" ∈ tb := tb_mem 218 (by decide +kernel) (by decide +kernel)
theorem fX11_44 : FL RX11 44 11 4 (.object "LikeLastYears$Sorter") true := ⟨RX11, TX11, 15, tyX11, ci_11, by decide, w_218, rfl, rfl, rfl⟩
theorem w_219 : Cond.fieldLink RX11 53 "LikeLastYears" "page" "LLikeLastYears$Row;" ∈ tb := tb_mem 219 (by decide +kernel) (by decide +kernel)
theorem fX11_53 : FL RX11 53 11 5 (.object "LikeLastYears$Row") true := ⟨RX11, TX11, 15, tyX11, ci_11, by decide, w_219, rfl, rfl, rfl⟩
theorem w_220 : Cond.fieldLink RX11 57 "LikeLastYears" "painted" "LLikeLastYears$Row;" ∈ tb := tb_mem 220 (by decide +kernel) (by decide +kernel)
theorem fX11_57 : FL RX11 57 11 6 (.object "LikeLastYears$Row") true := ⟨RX11, TX11, 15, tyX11, ci_11, by decide, w_220, rfl, rfl, rfl⟩
theorem w_221 : Cond.fieldLink RX11 60 "LikeLastYears" "people" "LLikeLastYears$Row;" ∈ tb := tb_mem 221 (by decide +kernel) (by decide +kernel)
theorem fX11_60 : FL RX11 60 11 7 (.object "LikeLastYears$Row") true := ⟨RX11, TX11, 15, tyX11, ci_11, by decide, w_221, rfl, rfl, rfl⟩
theorem w_222 : Cond.fieldLink RX11 63 "LikeLastYears" "undated" "LLikeLastYears$Row;" ∈ tb := tb_mem 222 (by decide +kernel) (by decide +kernel)
theorem fX11_63 : FL RX11 63 11 8 (.object "LikeLastYears$Row") true := ⟨RX11, TX11, 15, tyX11, ci_11, by decide, w_222, rfl, rfl, rfl⟩
theorem w_223 : Cond.fieldLink RX11 66 "LikeLastYears" "king" "I" ∈ tb := tb_mem 223 (by decide +kernel) (by decide +kernel)
theorem fX11_66 : FL RX11 66 11 9 (.int) false := ⟨RX11, TX11, 15, tyX11, ci_11, by decide, w_223, rfl, rfl, rfl⟩
theorem w_224 : Cond.fieldLink RX11 70 "LikeLastYears" "truths" "I" ∈ tb := tb_mem 224 (by decide +kernel) (by decide +kernel)
theorem fX11_70 : FL RX11 70 11 10 (.int) false := ⟨RX11, TX11, 15, tyX11, ci_11, by decide, w_224, rfl, rfl, rfl⟩
theorem w_225 : Cond.fieldLink RX11 73 "LikeLastYears" "keptKing" "I" ∈ tb := tb_mem 225 (by decide +kernel) (by decide +kernel)
theorem fX11_73 : FL RX11 73 11 11 (.int) false := ⟨RX11, TX11, 15, tyX11, ci_11, by decide, w_225, rfl, rfl, rfl⟩
theorem w_226 : Cond.fieldLink RX11 76 "LikeLastYears" "keptPainted" "I" ∈ tb := tb_mem 226 (by decide +kernel) (by decide +kernel)
theorem fX11_76 : FL RX11 76 11 12 (.int) false := ⟨RX11, TX11, 15, tyX11, ci_11, by decide, w_226, rfl, rfl, rfl⟩
theorem w_227 : Cond.fieldLink RX11 79 "LikeLastYears" "keptPeople" "I" ∈ tb := tb_mem 227 (by decide +kernel) (by decide +kernel)
theorem fX11_79 : FL RX11 79 11 13 (.int) false := ⟨RX11, TX11, 15, tyX11, ci_11, by decide, w_227, rfl, rfl, rfl⟩
theorem w_228 : Cond.fieldLink RX11 82 "LikeLastYears" "keptUndated" "I" ∈ tb := tb_mem 228 (by decide +kernel) (by decide +kernel)
theorem fX11_82 : FL RX11 82 11 14 (.int) false := ⟨RX11, TX11, 15, tyX11, ci_11, by decide, w_228, rfl, rfl, rfl⟩
theorem w_797 : Cond.fieldLink RX12 65 "LikeLastYearsModel" "features" "I" ∈ tb := tb_mem 797 (by decide +kernel) (by decide +kernel)
theorem fX12_65 : FL RX12 65 12 0 (.int) false := ⟨RX12, TX12, 31, tyX12, ci_12, by decide, w_797, rfl, rfl, rfl⟩
theorem w_798 : Cond.fieldLink RX12 7 "LikeLastYearsModel" "kinds" "[I" ∈ tb := tb_mem 798 (by decide +kernel) (by decide +kernel)
theorem fX12_7 : FL RX12 7 12 1 (.array .int) true := ⟨RX12, TX12, 31, tyX12, ci_12, by decide, w_798, rfl, rfl, rfl⟩
theorem w_799 : Cond.fieldLink RX12 13 "LikeLastYearsModel" "king" "[I" ∈ tb := tb_mem 799 (by decide +kernel) (by decide +kernel)
theorem fX12_13 : FL RX12 13 12 2 (.array .int) true := ⟨RX12, TX12, 31, tyX12, ci_12, by decide, w_799, rfl, rfl, rfl⟩
theorem w_800 : Cond.fieldLink RX12 72 "LikeLastYearsModel" "lineMany" "I" ∈ tb := tb_mem 800 (by decide +kernel) (by decide +kernel)
theorem fX12_72 : FL RX12 72 12 3 (.int) false := ⟨RX12, TX12, 31, tyX12, ci_12, by decide, w_800, rfl, rfl, rfl⟩
theorem w_801 : Cond.fieldLink RX12 16 "LikeLastYearsModel" "lineRow" "[I" ∈ tb := tb_mem 801 (by decide +kernel) (by decide +kernel)
theorem fX12_16 : FL RX12 16 12 4 (.array .int) true := ⟨RX12, TX12, 31, tyX12, ci_12, by decide, w_801, rfl, rfl, rfl⟩
theorem w_802 : Cond.fieldLink RX12 19 "LikeLastYearsModel" "kingThen" "[I" ∈ tb := tb_mem 802 (by decide +kernel) (by decide +kernel)
theorem fX12_19 : FL RX12 19 12 5 (.array .int) true := ⟨RX12, TX12, 31, tyX12, ci_12, by decide, w_802, rfl, rfl, rfl⟩
theorem w_803 : Cond.fieldLink RX12 22 "LikeLastYearsModel" "page" "[I" ∈ tb := tb_mem 803 (by decide +kernel) (by decide +kernel)
theorem fX12_22 : FL RX12 22 12 6 (.array .int) true := ⟨RX12, TX12, 31, tyX12, ci_12, by decide, w_803, rfl, rfl, rfl⟩
theorem w_804 : Cond.fieldLink RX12 139 "LikeLastYearsModel" "pageMany" "I" ∈ tb := tb_mem 804 (by decide +kernel) (by decide +kernel)
theorem fX12_139 : FL RX12 139 12 7 (.int) false := ⟨RX12, TX12, 31, tyX12, ci_12, by decide, w_804, rfl, rfl, rfl⟩
theorem w_805 : Cond.fieldLink RX12 145 "LikeLastYearsModel" "readMany" "I" ∈ tb := tb_mem 805 (by decide +kernel) (by decide +kernel)
theorem fX12_145 : FL RX12 145 12 8 (.int) false := ⟨RX12, TX12, 31, tyX12, ci_12, by decide, w_805, rfl, rfl, rfl⟩
theorem w_806 : Cond.fieldLink RX12 142 "LikeLastYearsModel" "state" "I" ∈ tb := tb_mem 806 (by decide +kernel) (by decide +kernel)
theorem fX12_142 : FL RX12 142 12 9 (.int) false := ⟨RX12, TX12, 31, tyX12, ci_12, by decide, w_806, rfl, rfl, rfl⟩
theorem w_807 : Cond.fieldLink RX12 25 "LikeLastYearsModel" "readRow" "[I" ∈ tb := tb_mem 807 (by decide +kernel) (by decide +kernel)
theorem fX12_25 : FL RX12 25 12 10 (.array .int) true := ⟨RX12, TX12, 31, tyX12, ci_12, by decide, w_807, rfl, rfl, rfl⟩
theorem w_808 : Cond.fieldLink RX12 154 "LikeLastYearsModel" "judges" "I" ∈ tb := tb_mem 808 (by decide +kernel) (by decide +kernel)
theorem fX12_154 : FL RX12 154 12 11 (.int) false := ⟨RX12, TX12, 31, tyX12, ci_12, by decide, w_808, rfl, rfl, rfl⟩
theorem w_809 : Cond.fieldLink RX12 28 "LikeLastYearsModel" "judgeRows" "[I" ∈ tb := tb_mem 809 (by decide +kernel) (by decide +kernel)
theorem fX12_28 : FL RX12 28 12 12 (.array .int) true := ⟨RX12, TX12, 31, tyX12, ci_12, by decide, w_809, rfl, rfl, rfl⟩
theorem w_810 : Cond.fieldLink RX12 31 "LikeLastYearsModel" "steps" "[I" ∈ tb := tb_mem 810 (by decide +kernel) (by decide +kernel)
theorem fX12_31 : FL RX12 31 12 13 (.array .int) true := ⟨RX12, TX12, 31, tyX12, ci_12, by decide, w_810, rfl, rfl, rfl⟩
theorem w_811 : Cond.fieldLink RX12 34 "LikeLastYearsModel" "line" "[I" ∈ tb := tb_mem 811 (by decide +kernel) (by decide +kernel)
theorem fX12_34 : FL RX12 34 12 14 (.array .int) true := ⟨RX12, TX12, 31, tyX12, ci_12, by decide, w_811, rfl, rfl, rfl⟩
theorem w_812 : Cond.fieldLink RX12 179 "LikeLastYearsModel" "done" "I" ∈ tb := tb_mem 812 (by decide +kernel) (by decide +kernel)
theorem fX12_179 : FL RX12 179 12 15 (.int) false := ⟨RX12, TX12, 31, tyX12, ci_12, by decide, w_812, rfl, rfl, rfl⟩
theorem w_813 : Cond.fieldLink RX12 187 "LikeLastYearsModel" "seedNow" "I" ∈ tb := tb_mem 813 (by decide +kernel) (by decide +kernel)
theorem fX12_187 : FL RX12 187 12 16 (.int) false := ⟨RX12, TX12, 31, tyX12, ci_12, by decide, w_813, rfl, rfl, rfl⟩
theorem w_814 : Cond.fieldLink RX12 208 "LikeLastYearsModel" "people" "I" ∈ tb := tb_mem 814 (by decide +kernel) (by decide +kernel)
theorem fX12_208 : FL RX12 208 12 17 (.int) false := ⟨RX12, TX12, 31, tyX12, ci_12, by decide, w_814, rfl, rfl, rfl⟩
theorem w_815 : Cond.fieldLink RX12 214 "LikeLastYearsModel" "heaped" "I" ∈ tb := tb_mem 815 (by decide +kernel) (by decide +kernel)
theorem fX12_214 : FL RX12 214 12 18 (.int) false := ⟨RX12, TX12, 31, tyX12, ci_12, by decide, w_815, rfl, rfl, rfl⟩
theorem w_816 : Cond.fieldLink RX12 37 "LikeLastYearsModel" "peopleRow" "[I" ∈ tb := tb_mem 816 (by decide +kernel) (by decide +kernel)
theorem fX12_37 : FL RX12 37 12 19 (.array .int) true := ⟨RX12, TX12, 31, tyX12, ci_12, by decide, w_816, rfl, rfl, rfl⟩
theorem w_817 : Cond.fieldLink RX12 40 "LikeLastYearsModel" "heapRow" "[I" ∈ tb := tb_mem 817 (by decide +kernel) (by decide +kernel)
theorem fX12_40 : FL RX12 40 12 20 (.array .int) true := ⟨RX12, TX12, 31, tyX12, ci_12, by decide, w_817, rfl, rfl, rfl⟩
theorem w_818 : Cond.fieldLink RX12 43 "LikeLastYearsModel" "row" "[I" ∈ tb := tb_mem 818 (by decide +kernel) (by decide +kernel)
theorem fX12_43 : FL RX12 43 12 21 (.array .int) true := ⟨RX12, TX12, 31, tyX12, ci_12, by decide, w_818, rfl, rfl, rfl⟩
theorem w_819 : Cond.fieldLink RX12 46 "LikeLastYearsModel" "bestRow" "[I" ∈ tb := tb_mem 819 (by decide +kernel) (by decide +kernel)
theorem fX12_46 : FL RX12 46 12 22 (.array .int) true := ⟨RX12, TX12, 31, tyX12, ci_12, by decide, w_819, rfl, rfl, rfl⟩
theorem w_820 : Cond.fieldLink RX12 61 "LikeLastYearsModel" "keptLine" "I" ∈ tb := tb_mem 820 (by decide +kernel) (by decide +kernel)
theorem fX12_61 : FL RX12 61 12 23 (.int) false := ⟨RX12, TX12, 31, tyX12, ci_12, by decide, w_820, rfl, rfl, rfl⟩
theorem w_821 : Cond.fieldLink RX12 234 "LikeLastYearsModel" "keptPeople" "I" ∈ tb := tb_mem 821 (by decide +kernel) (by decide +kernel)
theorem fX12_234 : FL RX12 234 12 24 (.int) false := ⟨RX12, TX12, 31, tyX12, ci_12, by decide, w_821, rfl, rfl, rfl⟩
theorem w_822 : Cond.fieldLink RX12 237 "LikeLastYearsModel" "keptHeaped" "I" ∈ tb := tb_mem 822 (by decide +kernel) (by decide +kernel)
theorem fX12_237 : FL RX12 237 12 25 (.int) false := ⟨RX12, TX12, 31, tyX12, ci_12, by decide, w_822, rfl, rfl, rfl⟩
theorem w_823 : Cond.fieldLink RX12 49 "LikeLastYearsModel" "keptKing" "[I" ∈ tb := tb_mem 823 (by decide +kernel) (by decide +kernel)
theorem fX12_49 : FL RX12 49 12 26 (.array .int) true := ⟨RX12, TX12, 31, tyX12, ci_12, by decide, w_823, rfl, rfl, rfl⟩
theorem w_824 : Cond.fieldLink RX12 52 "LikeLastYearsModel" "keptLineRow" "[I" ∈ tb := tb_mem 824 (by decide +kernel) (by decide +kernel)
theorem fX12_52 : FL RX12 52 12 27 (.array .int) true := ⟨RX12, TX12, 31, tyX12, ci_12, by decide, w_824, rfl, rfl, rfl⟩
theorem w_825 : Cond.fieldLink RX12 55 "LikeLastYearsModel" "keptPeopleRow" "[I" ∈ tb := tb_mem 825 (by decide +kernel) (by decide +kernel)
theorem fX12_55 : FL RX12 55 12 28 (.array .int) true := ⟨RX12, TX12, 31, tyX12, ci_12, by decide, w_825, rfl, rfl, rfl⟩
theorem w_826 : Cond.fieldLink RX12 58 "LikeLastYearsModel" "keptHeapRow" "[I" ∈ tb := tb_mem 826 (by decide +kernel) (by decide +kernel)
theorem fX12_58 : FL RX12 58 12 29 (.array .int) true := ⟨RX12, TX12, 31, tyX12, ci_12, by decide, w_826, rfl, rfl, rfl⟩
theorem w_827 : Cond.fieldLink RX12 245 "LikeLastYearsModel" "hash" "J" ∈ tb := tb_mem 827 (by decide +kernel) (by decide +kernel)
theorem fX12_245 : FL RX12 245 12 30 (.long) false := ⟨RX12, TX12, 31, tyX12, ci_12, by decide, w_827, rfl, rfl, rfl⟩
theorem w_321 : Cond.fieldLinkNest RX6 26 "LikeLastYears" "POWER" "[I" "LikeLastYears" ∈ nst := nst_mem 321 (by decide +kernel) (by decide +kernel)
theorem w_472 : Cond.constant RJ6 265 (1431655765) ∈ tb := tb_mem 472 (by decide +kernel) (by decide +kernel)
theorem w_473 : Cond.constant RJ6 266 (858993459) ∈ tb := tb_mem 473 (by decide +kernel) (by decide +kernel)
theorem w_474 : Cond.constant RJ6 267 (252645135) ∈ tb := tb_mem 474 (by decide +kernel) (by decide +kernel)
theorem w_684 : Cond.constant RX11 310 (65536) ∈ tb := tb_mem 684 (by decide +kernel) (by decide +kernel)
theorem w_1039 : Cond.constant RX12 166 (1000000) ∈ tb := tb_mem 1039 (by decide +kernel) (by decide +kernel)
theorem w_1077 : Cond.constant RX12 194 (65536) ∈ tb := tb_mem 1077 (by decide +kernel) (by decide +kernel)
theorem w_678 : Cond.constantLong RX11 304 (1103515245) ∈ tb := tb_mem 678 (by decide +kernel) (by decide +kernel)
theorem w_679 : Cond.constantLong RX11 306 (12345) ∈ tb := tb_mem 679 (by decide +kernel) (by decide +kernel)
theorem w_680 : Cond.constantLong RX11 308 (2147483647) ∈ tb := tb_mem 680 (by decide +kernel) (by decide +kernel)
theorem w_782 : Cond.constantLong RX11 231 (619) ∈ tb := tb_mem 782 (by decide +kernel) (by decide +kernel)
theorem w_783 : Cond.constantLong RX11 233 (31) ∈ tb := tb_mem 783 (by decide +kernel) (by decide +kernel)
theorem w_895 : Cond.constantLong RX12 75 (4) ∈ tb := tb_mem 895 (by decide +kernel) (by decide +kernel)
theorem w_899 : Cond.constantLong RX12 77 (9) ∈ tb := tb_mem 899 (by decide +kernel) (by decide +kernel)
theorem w_1001 : Cond.constantLong RX12 137 (255) ∈ tb := tb_mem 1001 (by decide +kernel) (by decide +kernel)
theorem w_1026 : Cond.constantLong RX12 157 (5) ∈ tb := tb_mem 1026 (by decide +kernel) (by decide +kernel)
theorem w_1068 : Cond.constantLong RX12 195 (60) ∈ tb := tb_mem 1068 (by decide +kernel) (by decide +kernel)
theorem w_1069 : Cond.constantLong RX12 197 (3) ∈ tb := tb_mem 1069 (by decide +kernel) (by decide +kernel)
theorem w_1074 : Cond.constantLong RX12 185 (1103515245) ∈ tb := tb_mem 1074 (by decide +kernel) (by decide +kernel)
theorem w_1075 : Cond.constantLong RX12 190 (12345) ∈ tb := tb_mem 1075 (by decide +kernel) (by decide +kernel)
theorem w_1076 : Cond.constantLong RX12 192 (2147483647) ∈ tb := tb_mem 1076 (by decide +kernel) (by decide +kernel)
theorem w_1114 : Cond.constantLong RX12 223 (10) ∈ tb := tb_mem 1114 (by decide +kernel) (by decide +kernel)
theorem w_1115 : Cond.constantLong RX12 225 (15) ∈ tb := tb_mem 1115 (by decide +kernel) (by decide +kernel)
theorem w_1151 : Cond.constantLong RX12 253 (619) ∈ tb := tb_mem 1151 (by decide +kernel) (by decide +kernel)
theorem w_1156 : Cond.constantLong RX12 243 (31) ∈ tb := tb_mem 1156 (by decide +kernel) (by decide +kernel)
theorem w_1161 : Cond.constantLong RL 44 (4294967295) ∈ tb := tb_mem 1161 (by decide +kernel) (by decide +kernel)
theorem w_70 : Cond.methodLink RL 9 yX11_init ∈ tb := tb_mem 70 (by decide +kernel) (by decide +kernel)
theorem w_72 : Cond.code yX11_init cX11_init 1 none ∈ tb := tb_mem 72 (by decide +kernel) (by decide +kernel)
theorem w_71 : Cond.instanceMethod yX11_init ∈ tb := tb_mem 71 (by decide +kernel) (by decide +kernel)
theorem w_52 : Cond.initialized RX11 ∈ tb := tb_mem 52 (by decide +kernel) (by decide +kernel)
theorem od_0 : okD yX11_init 0 := ⟨by decide +kernel, by decide +kernel, by decide +kernel⟩
theorem kL_9 : CN RL 9 yX11_init cX11_init 1 0 := ⟨w_72, Or.inl w_70, w_71, w_52, rfl, od_0⟩
theorem w_73 : Cond.methodLink RX11 3 objectInit ∈ tb := tb_mem 73 (by decide +kernel) (by decide +kernel)
theorem w_78 : Cond.methodLink RX11 11 yX6_init ∈ tb := tb_mem 78 (by decide +kernel) (by decide +kernel)
theorem w_80 : Cond.code yX6_init cX6_init 3 none ∈ tb := tb_mem 80 (by decide +kernel) (by decide +kernel)
theorem w_79 : Cond.instanceMethod yX6_init ∈ tb := tb_mem 79 (by decide +kernel) (by decide +kernel)
theorem w_53 : Cond.initialized RX6 ∈ tb := tb_mem 53 (by decide +kernel) (by decide +kernel)
theorem od_1 : okD yX6_init 0 := ⟨by decide +kernel, by decide +kernel, by decide +kernel⟩
theorem kX11_11 : CN RX11 11 yX6_init cX6_init 3 0 := ⟨w_80, Or.inl w_78, w_79, w_53, rfl, od_1⟩
theorem w_81 : Cond.methodLink RX6 3 objectInit ∈ tb := tb_mem 81 (by decide +kernel) (by decide +kernel)
theorem w_88 : Cond.methodLink RX4 3 objectInit ∈ tb := tb_mem 88 (by decide +kernel) (by decide +kernel)
theorem w_99 : Cond.methodLink RX11 18 yX1_init ∈ tb := tb_mem 99 (by decide +kernel) (by decide +kernel)
theorem w_101 : Cond.code yX1_init cX1_init 2 none ∈ tb := tb_mem 101 (by decide +kernel) (by decide +kernel)
theorem w_100 : Cond.instanceMethod yX1_init ∈ tb := tb_mem 100 (by decide +kernel) (by decide +kernel)
theorem w_55 : Cond.initialized RX1 ∈ tb := tb_mem 55 (by decide +kernel) (by decide +kernel)
theorem od_2 : okD yX1_init 1 := ⟨by decide +kernel, by decide +kernel, by decide +kernel⟩
theorem kX11_18 : CN RX11 18 yX1_init cX1_init 2 1 := ⟨w_101, Or.inl w_99, w_100, w_55, rfl, od_2⟩
theorem w_102 : Cond.methodLink RX1 3 objectInit ∈ tb := tb_mem 102 (by decide +kernel) (by decide +kernel)
theorem w_128 : Cond.methodLink RX2 3 objectInit ∈ tb := tb_mem 128 (by decide +kernel) (by decide +kernel)
theorem w_141 : Cond.methodLink RX11 34 yX9_init ∈ tb := tb_mem 141 (by decide +kernel) (by decide +kernel)
theorem w_143 : Cond.code yX9_init cX9_init 3 none ∈ tb := tb_mem 143 (by decide +kernel) (by decide +kernel)
theorem w_142 : Cond.instanceMethod yX9_init ∈ tb := tb_mem 142 (by decide +kernel) (by decide +kernel)
theorem w_57 : Cond.initialized RX9 ∈ tb := tb_mem 57 (by decide +kernel) (by decide +kernel)
theorem od_3 : okD yX9_init 2 := ⟨by decide +kernel, by decide +kernel, by decide +kernel⟩
theorem kX11_34 : CN RX11 34 yX9_init cX9_init 3 2 := ⟨w_143, Or.inl w_141, w_142, w_57, rfl, od_3⟩
theorem w_144 : Cond.methodLink RX9 3 objectInit ∈ tb := tb_mem 144 (by decide +kernel) (by decide +kernel)
theorem w_175 : Cond.methodLink RX11 43 yX10_init ∈ tb := tb_mem 175 (by decide +kernel) (by decide +kernel)
theorem w_177 : Cond.code yX10_init cX10_init 2 none ∈ tb := tb_mem 177 (by decide +kernel) (by decide +kernel)
theorem w_176 : Cond.instanceMethod yX10_init ∈ tb := tb_mem 176 (by decide +kernel) (by decide +kernel)
theorem w_58 : Cond.initialized RX10 ∈ tb := tb_mem 58 (by decide +kernel) (by decide +kernel)
theorem od_4 : okD yX10_init 1 := ⟨by decide +kernel, by decide +kernel, by decide +kernel⟩
theorem kX11_43 : CN RX11 43 yX10_init cX10_init 2 1 := ⟨w_177, Or.inl w_175, w_176, w_58, rfl, od_4⟩
theorem w_178 : Cond.methodLink RX10 3 objectInit ∈ tb := tb_mem 178 (by decide +kernel) (by decide +kernel)
theorem w_200 : Cond.methodLink RX11 50 yX7_init ∈ tb := tb_mem 200 (by decide +kernel) (by decide +kernel)
theorem w_202 : Cond.code yX7_init cX7_init 2 none ∈ tb := tb_mem 202 (by decide +kernel) (by decide +kernel)
theorem w_201 : Cond.instanceMethod yX7_init ∈ tb := tb_mem 201 (by decide +kernel) (by decide +kernel)
theorem w_59 : Cond.initialized RX7 ∈ tb := tb_mem 59 (by decide +kernel) (by decide +kernel)
theorem od_5 : okD yX7_init 1 := ⟨by decide +kernel, by decide +kernel, by decide +kernel⟩
theorem kX11_50 : CN RX11 50 yX7_init cX7_init 2 1 := ⟨w_202, Or.inl w_200, w_201, w_59, rfl, od_5⟩
theorem w_203 : Cond.methodLink RX7 3 objectInit ∈ tb := tb_mem 203 (by decide +kernel) (by decide +kernel)
theorem w_204 : Cond.methodLink RX7 15 yJ9_max_7cf53 ∈ tb := tb_mem 204 (by decide +kernel) (by decide +kernel)
theorem w_206 : Cond.code yJ9_max_7cf53 cJ9_max_7cf53 2 (some .int) ∈ tb := tb_mem 206 (by decide +kernel) (by decide +kernel)
theorem w_205 : Cond.static yJ9_max_7cf53 ∈ tb := tb_mem 205 (by decide +kernel) (by decide +kernel)
theorem w_60 : Cond.initialized RJ9 ∈ tb := tb_mem 60 (by decide +kernel) (by decide +kernel)
theorem od_6 : okD yJ9_max_7cf53 2 := ⟨by decide +kernel, by decide +kernel, by decide +kernel⟩
theorem kX7_15 : CS RX7 15 yJ9_max_7cf53 cJ9_max_7cf53 2 (some .int) 2 := ⟨w_206, w_204, w_205, w_60, od_6⟩
theorem w_260 : Cond.methodLink RL 13 yX11_feature ∈ tb := tb_mem 260 (by decide +kernel) (by decide +kernel)
theorem w_263 : Cond.code yX11_feature cX11_feature 4 (some .int) ∈ tb := tb_mem 263 (by decide +kernel) (by decide +kernel)
theorem w_261 : Cond.instanceMethod yX11_feature ∈ tb := tb_mem 261 (by decide +kernel) (by decide +kernel)
theorem w_262 : Cond.selects RX11 yX11_feature yX11_feature ∈ tb := tb_mem 262 (by decide +kernel) (by decide +kernel)
theorem od_7 : okD yX11_feature 2 := ⟨by decide +kernel, by decide +kernel, by decide +kernel⟩
theorem kL_13 : CV RL 13 yX11_feature cX11_feature 4 (some .int) 2 := ⟨w_263, w_260, w_261, w_262, w_52, od_7⟩
theorem w_264 : Cond.methodLink RX11 85 yX11_isKind ∈ tb := tb_mem 264 (by decide +kernel) (by decide +kernel)
theorem w_266 : Cond.code yX11_isKind cX11_isKind 1 (some .boolean) ∈ tb := tb_mem 266 (by decide +kernel) (by decide +kernel)
theorem w_265 : Cond.static yX11_isKind ∈ tb := tb_mem 265 (by decide +kernel) (by decide +kernel)
theorem od_8 : okD yX11_isKind 1 := ⟨by decide +kernel, by decide +kernel, by decide +kernel⟩
theorem kX11_85 : CS RX11 85 yX11_isKind cX11_isKind 1 (some .boolean) 1 := ⟨w_266, w_264, w_265, w_52, od_8⟩
theorem w_267 : Cond.methodLink RX11 89 yX11_hasLine ∈ tb := tb_mem 267 (by decide +kernel) (by decide +kernel)
theorem w_270 : Cond.code yX11_hasLine cX11_hasLine 1 (some .boolean) ∈ tb := tb_mem 270 (by decide +kernel) (by decide +kernel)
theorem w_269 : Cond.instanceMethod yX11_hasLine ∈ tb := tb_mem 269 (by decide +kernel) (by decide +kernel)
theorem w_0 : Cond.selects RX11 yX11_hasLine yX11_hasLine ∈ tb := tb_mem 0 (by decide +kernel) (by decide +kernel)
theorem od_9 : okD yX11_hasLine 0 := ⟨by decide +kernel, by decide +kernel, by decide +kernel⟩
theorem kX11_89 : CV RX11 89 yX11_hasLine cX11_hasLine 1 (some .boolean) 0 := ⟨w_270, w_267, w_269, w_0, w_52, od_9⟩
theorem w_271 : Cond.methodLink RX11 154 yX7_size ∈ tb := tb_mem 271 (by decide +kernel) (by decide +kernel)
theorem w_274 : Cond.code yX7_size cX7_size 1 (some .int) ∈ tb := tb_mem 274 (by decide +kernel) (by decide +kernel)
theorem w_272 : Cond.instanceMethod yX7_size ∈ tb := tb_mem 272 (by decide +kernel) (by decide +kernel)
theorem w_273 : Cond.selects RX7 yX7_size yX7_size ∈ tb := tb_mem 273 (by decide +kernel) (by decide +kernel)
theorem od_10 : okD yX7_size 0 := ⟨by decide +kernel, by decide +kernel, by decide +kernel⟩
theorem kX11_154 : CV RX11 154 yX7_size cX7_size 1 (some .int) 0 := ⟨w_274, w_271, w_272, w_273, w_59, od_10⟩
theorem w_275 : Cond.methodLink RX11 93 yX6_isFull ∈ tb := tb_mem 275 (by decide +kernel) (by decide +kernel)
theorem w_278 : Cond.code yX6_isFull cX6_isFull 1 (some .boolean) ∈ tb := tb_mem 278 (by decide +kernel) (by decide +kernel)
theorem w_276 : Cond.instanceMethod yX6_isFull ∈ tb := tb_mem 276 (by decide +kernel) (by decide +kernel)
theorem w_277 : Cond.selects RX6 yX6_isFull yX6_isFull ∈ tb := tb_mem 277 (by decide +kernel) (by decide +kernel)
theorem od_11 : okD yX6_isFull 0 := ⟨by decide +kernel, by decide +kernel, by decide +kernel⟩
theorem kX11_93 : CV RX11 93 yX6_isFull cX6_isFull 1 (some .boolean) 0 := ⟨w_278, w_275, w_276, w_277, w_53, od_11⟩
theorem w_279 : Cond.methodLink RX11 96 yX11_ofKind ∈ tb := tb_mem 279 (by decide +kernel) (by decide +kernel)
theorem w_281 : Cond.code yX11_ofKind cX11_ofKind 1 (some (.object "LikeLastYears$Feature")) ∈ tb := tb_mem 281 (by decide +kernel) (by decide +kernel)
theorem w_280 : Cond.static yX11_ofKind ∈ tb := tb_mem 280 (by decide +kernel) (by decide +kernel)
theorem od_12 : okD yX11_ofKind 1 := ⟨by decide +kernel, by decide +kernel, by decide +kernel⟩
theorem kX11_96 : CS RX11 96 yX11_ofKind cX11_ofKind 1 (some (.object "LikeLastYears$Feature")) 1 := ⟨w_281, w_279, w_280, w_52, od_12⟩
theorem w_312 : Cond.methodLink RX11 100 yX6_add ∈ tb := tb_mem 312 (by decide +kernel) (by decide +kernel)
theorem w_315 : Cond.code yX6_add cX6_add 2 (some .int) ∈ tb := tb_mem 315 (by decide +kernel) (by decide +kernel)
theorem w_313 : Cond.instanceMethod yX6_add ∈ tb := tb_mem 313 (by decide +kernel) (by decide +kernel)
theorem w_314 : Cond.selects RX6 yX6_add yX6_add ∈ tb := tb_mem 314 (by decide +kernel) (by decide +kernel)
theorem od_13 : okD yX6_add 1 := ⟨by decide +kernel, by decide +kernel, by decide +kernel⟩
theorem kX11_100 : CV RX11 100 yX6_add cX6_add 2 (some .int) 1 := ⟨w_315, w_312, w_313, w_314, w_53, od_13⟩
theorem w_316 : Cond.methodLink RX6 22 yX6_isFull ∈ tb := tb_mem 316 (by decide +kernel) (by decide +kernel)
theorem kX6_22 : CV RX6 22 yX6_isFull cX6_isFull 1 (some .boolean) 0 := ⟨w_278, w_316, w_276, w_277, w_53, od_11⟩
theorem w_317 : Cond.methodLink RX11 104 yX6_with ∈ tb := tb_mem 317 (by decide +kernel) (by decide +kernel)
theorem w_320 : Cond.code yX6_with cX6_with 5 (some .int) ∈ tb := tb_mem 320 (by decide +kernel) (by decide +kernel)
theorem w_318 : Cond.instanceMethod yX6_with ∈ tb := tb_mem 318 (by decide +kernel) (by decide +kernel)
theorem w_319 : Cond.selects RX6 yX6_with yX6_with ∈ tb := tb_mem 319 (by decide +kernel) (by decide +kernel)
theorem od_14 : okD yX6_with 3 := ⟨by decide +kernel, by decide +kernel, by decide +kernel⟩
theorem kX11_104 : CV RX11 104 yX6_with cX6_with 5 (some .int) 3 := ⟨w_320, w_317, w_318, w_319, w_53, od_14⟩
theorem w_323 : Cond.methodLink RL 18 yX11_about ∈ tb := tb_mem 323 (by decide +kernel) (by decide +kernel)
theorem w_326 : Cond.code yX11_about cX11_about 3 (some .int) ∈ tb := tb_mem 326 (by decide +kernel) (by decide +kernel)
theorem w_324 : Cond.instanceMethod yX11_about ∈ tb := tb_mem 324 (by decide +kernel) (by decide +kernel)
theorem w_325 : Cond.selects RX11 yX11_about yX11_about ∈ tb := tb_mem 325 (by decide +kernel) (by decide +kernel)
theorem od_15 : okD yX11_about 2 := ⟨by decide +kernel, by decide +kernel, by decide +kernel⟩
theorem kL_18 : CV RL 18 yX11_about cX11_about 3 (some .int) 2 := ⟨w_326, w_323, w_324, w_325, w_52, od_15⟩
theorem w_327 : Cond.methodLink RX11 108 yX6_has ∈ tb := tb_mem 327 (by decide +kernel) (by decide +kernel)
theorem w_330 : Cond.code yX6_has cX6_has 2 (some .boolean) ∈ tb := tb_mem 330 (by decide +kernel) (by decide +kernel)
theorem w_328 : Cond.instanceMethod yX6_has ∈ tb := tb_mem 328 (by decide +kernel) (by decide +kernel)
theorem w_329 : Cond.selects RX6 yX6_has yX6_has ∈ tb := tb_mem 329 (by decide +kernel) (by decide +kernel)
theorem od_16 : okD yX6_has 1 := ⟨by decide +kernel, by decide +kernel, by decide +kernel⟩
theorem kX11_108 : CV RX11 108 yX6_has cX6_has 2 (some .boolean) 1 := ⟨w_330, w_327, w_328, w_329, w_53, od_16⟩
theorem w_331 : Cond.methodLink RX11 111 yX11_tellAbout ∈ tb := tb_mem 331 (by decide +kernel) (by decide +kernel)
theorem w_334 : Cond.code yX11_tellAbout cX11_tellAbout 3 (some .int) ∈ tb := tb_mem 334 (by decide +kernel) (by decide +kernel)
theorem w_333 : Cond.instanceMethod yX11_tellAbout ∈ tb := tb_mem 333 (by decide +kernel) (by decide +kernel)
theorem w_1 : Cond.selects RX11 yX11_tellAbout yX11_tellAbout ∈ tb := tb_mem 1 (by decide +kernel) (by decide +kernel)
theorem od_17 : okD yX11_tellAbout 2 := ⟨by decide +kernel, by decide +kernel, by decide +kernel⟩
theorem kX11_111 : CV RX11 111 yX11_tellAbout cX11_tellAbout 3 (some .int) 2 := ⟨w_334, w_331, w_333, w_1, w_52, od_17⟩
theorem w_335 : Cond.methodLink RX11 115 yX6_at ∈ tb := tb_mem 335 (by decide +kernel) (by decide +kernel)
theorem w_338 : Cond.code yX6_at cX6_at 2 (some (.object "LikeLastYears$Feature")) ∈ tb := tb_mem 338 (by decide +kernel) (by decide +kernel)
theorem w_336 : Cond.instanceMethod yX6_at ∈ tb := tb_mem 336 (by decide +kernel) (by decide +kernel)
theorem w_337 : Cond.selects RX6 yX6_at yX6_at ∈ tb := tb_mem 337 (by decide +kernel) (by decide +kernel)
theorem od_18 : okD yX6_at 1 := ⟨by decide +kernel, by decide +kernel, by decide +kernel⟩
theorem kX11_115 : CV RX11 115 yX6_at cX6_at 2 (some (.object "LikeLastYears$Feature")) 1 := ⟨w_338, w_335, w_336, w_337, w_53, od_18⟩
theorem w_339 : Cond.methodLink RX11 259 yX4_kind ∈ tb := tb_mem 339 (by decide +kernel) (by decide +kernel)
theorem w_342 : Cond.sameMethod RX4 RX4 "kind" "()I" ∈ tb := tb_mem 342 (by decide +kernel) (by decide +kernel)
theorem w_355 : Cond.code yX4_kind cX4_kind 1 (some .int) ∈ tb := tb_mem 355 (by decide +kernel) (by decide +kernel)
theorem w_340 : Cond.instanceMethod yX4_kind ∈ tb := tb_mem 340 (by decide +kernel) (by decide +kernel)
theorem od_19 : okD yX4_kind 0 := ⟨by decide +kernel, by decide +kernel, by decide +kernel⟩
theorem w_341 : Cond.selects RX4 yX4_kind yX4_kind ∈ tb := tb_mem 341 (by decide +kernel) (by decide +kernel)
theorem w_54 : Cond.initialized RX4 ∈ tb := tb_mem 54 (by decide +kernel) (by decide +kernel)
theorem kX11_259_4 : CU RX11 259 RX4 yX4_kind yX4_kind cX4_kind 1 (some .int) 0 := ⟨w_355, w_339, w_342, w_340, w_341, w_340, w_54, ⟨_, _, _, w_355⟩, od_19⟩
theorem w_345 : Cond.code yX0_kind cX0_kind 1 (some .int) ∈ tb := tb_mem 345 (by decide +kernel) (by decide +kernel)
theorem w_343 : Cond.selects RX0 yX4_kind yX0_kind ∈ tb := tb_mem 343 (by decide +kernel) (by decide +kernel)
theorem w_344 : Cond.instanceMethod yX0_kind ∈ tb := tb_mem 344 (by decide +kernel) (by decide +kernel)
theorem w_64 : Cond.initialized RX0 ∈ tb := tb_mem 64 (by decide +kernel) (by decide +kernel)
theorem kX11_259_0 : CU RX11 259 RX0 yX4_kind yX0_kind cX0_kind 1 (some .int) 0 := ⟨w_345, w_339, w_342, w_340, w_343, w_344, w_64, ⟨_, _, _, w_355⟩, od_19⟩
theorem w_348 : Cond.code yX3_kind cX3_kind 1 (some .int) ∈ tb := tb_mem 348 (by decide +kernel) (by decide +kernel)
theorem w_346 : Cond.selects RX3 yX4_kind yX3_kind ∈ tb := tb_mem 346 (by decide +kernel) (by decide +kernel)
theorem w_347 : Cond.instanceMethod yX3_kind ∈ tb := tb_mem 347 (by decide +kernel) (by decide +kernel)
theorem w_65 : Cond.initialized RX3 ∈ tb := tb_mem 65 (by decide +kernel) (by decide +kernel)
theorem kX11_259_3 : CU RX11 259 RX3 yX4_kind yX3_kind cX3_kind 1 (some .int) 0 := ⟨w_348, w_339, w_342, w_340, w_346, w_347, w_65, ⟨_, _, _, w_355⟩, od_19⟩
theorem w_351 : Cond.code yX5_kind cX5_kind 1 (some .int) ∈ tb := tb_mem 351 (by decide +kernel) (by decide +kernel)
theorem w_349 : Cond.selects RX5 yX4_kind yX5_kind ∈ tb := tb_mem 349 (by decide +kernel) (by decide +kernel)
theorem w_350 : Cond.instanceMethod yX5_kind ∈ tb := tb_mem 350 (by decide +kernel) (by decide +kernel)
theorem w_62 : Cond.initialized RX5 ∈ tb := tb_mem 62 (by decide +kernel) (by decide +kernel)
theorem kX11_259_5 : CU RX11 259 RX5 yX4_kind yX5_kind cX5_kind 1 (some .int) 0 := ⟨w_351, w_339, w_342, w_340, w_349, w_350, w_62, ⟨_, _, _, w_355⟩, od_19⟩
theorem w_354 : Cond.code yX8_kind cX8_kind 1 (some .int) ∈ tb := tb_mem 354 (by decide +kernel) (by decide +kernel)
theorem w_352 : Cond.selects RX8 yX4_kind yX8_kind ∈ tb := tb_mem 352 (by decide +kernel) (by decide +kernel)
theorem w_353 : Cond.instanceMethod yX8_kind ∈ tb := tb_mem 353 (by decide +kernel) (by decide +kernel)
theorem w_63 : Cond.initialized RX8 ∈ tb := tb_mem 63 (by decide +kernel) (by decide +kernel)
theorem kX11_259_8 : CU RX11 259 RX8 yX4_kind yX8_kind cX8_kind 1 (some .int) 0 := ⟨w_354, w_339, w_342, w_340, w_352, w_353, w_63, ⟨_, _, _, w_355⟩, od_19⟩
theorem w_356 : Cond.methodLink RX11 262 yX6_sizeIn ∈ tb := tb_mem 356 (by decide +kernel) (by decide +kernel)
theorem w_358 : Cond.code yX6_sizeIn cX6_sizeIn 2 (some .int) ∈ tb := tb_mem 358 (by decide +kernel) (by decide +kernel)
theorem w_357 : Cond.static yX6_sizeIn ∈ tb := tb_mem 357 (by decide +kernel) (by decide +kernel)
theorem od_20 : okD yX6_sizeIn 2 := ⟨by decide +kernel, by decide +kernel, by decide +kernel⟩
theorem kX11_262 : CS RX11 262 yX6_sizeIn cX6_sizeIn 2 (some .int) 2 := ⟨w_358, w_356, w_357, w_53, od_20⟩
theorem w_359 : Cond.methodLink RX11 138 yX7_last ∈ tb := tb_mem 359 (by decide +kernel) (by decide +kernel)
theorem w_362 : Cond.code yX7_last cX7_last 1 (some .int) ∈ tb := tb_mem 362 (by decide +kernel) (by decide +kernel)
theorem w_360 : Cond.instanceMethod yX7_last ∈ tb := tb_mem 360 (by decide +kernel) (by decide +kernel)
theorem w_361 : Cond.selects RX7 yX7_last yX7_last ∈ tb := tb_mem 361 (by decide +kernel) (by decide +kernel)
theorem od_21 : okD yX7_last 0 := ⟨by decide +kernel, by decide +kernel, by decide +kernel⟩
theorem kX11_138 : CV RX11 138 yX7_last cX7_last 1 (some .int) 0 := ⟨w_362, w_359, w_360, w_361, w_59, od_21⟩
theorem w_363 : Cond.methodLink RX7 29 yX7_get ∈ tb := tb_mem 363 (by decide +kernel) (by decide +kernel)
theorem w_366 : Cond.code yX7_get cX7_get 2 (some .int) ∈ tb := tb_mem 366 (by decide +kernel) (by decide +kernel)
theorem w_364 : Cond.instanceMethod yX7_get ∈ tb := tb_mem 364 (by decide +kernel) (by decide +kernel)
theorem w_365 : Cond.selects RX7 yX7_get yX7_get ∈ tb := tb_mem 365 (by decide +kernel) (by decide +kernel)
theorem od_22 : okD yX7_get 1 := ⟨by decide +kernel, by decide +kernel, by decide +kernel⟩
theorem kX7_29 : CV RX7 29 yX7_get cX7_get 2 (some .int) 1 := ⟨w_366, w_363, w_364, w_365, w_59, od_22⟩
theorem w_367 : Cond.methodLink RX7 25 yX7_has ∈ tb := tb_mem 367 (by decide +kernel) (by decide +kernel)
theorem w_370 : Cond.code yX7_has cX7_has 2 (some .boolean) ∈ tb := tb_mem 370 (by decide +kernel) (by decide +kernel)
theorem w_368 : Cond.instanceMethod yX7_has ∈ tb := tb_mem 368 (by decide +kernel) (by decide +kernel)
theorem w_369 : Cond.selects RX7 yX7_has yX7_has ∈ tb := tb_mem 369 (by decide +kernel) (by decide +kernel)
theorem od_23 : okD yX7_has 1 := ⟨by decide +kernel, by decide +kernel, by decide +kernel⟩
theorem kX7_25 : CV RX7 25 yX7_has cX7_has 2 (some .boolean) 1 := ⟨w_370, w_367, w_368, w_369, w_59, od_23⟩
theorem w_371 : Cond.methodLink RL 22 yX11_as ∈ tb := tb_mem 371 (by decide +kernel) (by decide +kernel)
theorem w_374 : Cond.code yX11_as cX11_as 3 (some .int) ∈ tb := tb_mem 374 (by decide +kernel) (by decide +kernel)
theorem w_372 : Cond.instanceMethod yX11_as ∈ tb := tb_mem 372 (by decide +kernel) (by decide +kernel)
theorem w_373 : Cond.selects RX11 yX11_as yX11_as ∈ tb := tb_mem 373 (by decide +kernel) (by decide +kernel)
theorem od_24 : okD yX11_as 2 := ⟨by decide +kernel, by decide +kernel, by decide +kernel⟩
theorem kL_22 : CV RL 22 yX11_as cX11_as 3 (some .int) 2 := ⟨w_374, w_371, w_372, w_373, w_52, od_24⟩
theorem w_375 : Cond.methodLink RX11 118 yX11_isSuch ∈ tb := tb_mem 375 (by decide +kernel) (by decide +kernel)
theorem w_377 : Cond.code yX11_isSuch cX11_isSuch 2 (some .boolean) ∈ tb := tb_mem 377 (by decide +kernel) (by decide +kernel)
theorem w_376 : Cond.static yX11_isSuch ∈ tb := tb_mem 376 (by decide +kernel) (by decide +kernel)
theorem od_25 : okD yX11_isSuch 2 := ⟨by decide +kernel, by decide +kernel, by decide +kernel⟩
theorem kX11_118 : CS RX11 118 yX11_isSuch cX11_isSuch 2 (some .boolean) 2 := ⟨w_377, w_375, w_376, w_52, od_25⟩
theorem w_378 : Cond.methodLink RL 26 yX11_begin ∈ tb := tb_mem 378 (by decide +kernel) (by decide +kernel)
theorem w_381 : Cond.code yX11_begin cX11_begin 1 (some .int) ∈ tb := tb_mem 381 (by decide +kernel) (by decide +kernel)
theorem w_379 : Cond.instanceMethod yX11_begin ∈ tb := tb_mem 379 (by decide +kernel) (by decide +kernel)
theorem w_380 : Cond.selects RX11 yX11_begin yX11_begin ∈ tb := tb_mem 380 (by decide +kernel) (by decide +kernel)
theorem od_26 : okD yX11_begin 0 := ⟨by decide +kernel, by decide +kernel, by decide +kernel⟩
theorem kL_26 : CV RL 26 yX11_begin cX11_begin 1 (some .int) 0 := ⟨w_381, w_378, w_379, w_380, w_52, od_26⟩
theorem w_382 : Cond.methodLink RX11 122 yX6_size ∈ tb := tb_mem 382 (by decide +kernel) (by decide +kernel)
theorem w_385 : Cond.code yX6_size cX6_size 1 (some .int) ∈ tb := tb_mem 385 (by decide +kernel) (by decide +kernel)
theorem w_383 : Cond.instanceMethod yX6_size ∈ tb := tb_mem 383 (by decide +kernel) (by decide +kernel)
theorem w_384 : Cond.selects RX6 yX6_size yX6_size ∈ tb := tb_mem 384 (by decide +kernel) (by decide +kernel)
theorem od_27 : okD yX6_size 0 := ⟨by decide +kernel, by decide +kernel, by decide +kernel⟩
theorem kX11_122 : CV RX11 122 yX6_size cX6_size 1 (some .int) 0 := ⟨w_385, w_382, w_383, w_384, w_53, od_27⟩
theorem w_386 : Cond.methodLink RX11 126 yX7_add ∈ tb := tb_mem 386 (by decide +kernel) (by decide +kernel)
theorem w_389 : Cond.code yX7_add cX7_add 2 none ∈ tb := tb_mem 389 (by decide +kernel) (by decide +kernel)
theorem w_387 : Cond.instanceMethod yX7_add ∈ tb := tb_mem 387 (by decide +kernel) (by decide +kernel)
theorem w_388 : Cond.selects RX7 yX7_add yX7_add ∈ tb := tb_mem 388 (by decide +kernel) (by decide +kernel)
theorem od_28 : okD yX7_add 1 := ⟨by decide +kernel, by decide +kernel, by decide +kernel⟩
theorem kX11_126 : CV RX11 126 yX7_add cX7_add 2 none 1 := ⟨w_389, w_386, w_387, w_388, w_59, od_28⟩
theorem w_390 : Cond.methodLink RX7 33 yX7_isFull ∈ tb := tb_mem 390 (by decide +kernel) (by decide +kernel)
theorem w_393 : Cond.code yX7_isFull cX7_isFull 1 (some .boolean) ∈ tb := tb_mem 393 (by decide +kernel) (by decide +kernel)
theorem w_391 : Cond.instanceMethod yX7_isFull ∈ tb := tb_mem 391 (by decide +kernel) (by decide +kernel)
theorem w_392 : Cond.selects RX7 yX7_isFull yX7_isFull ∈ tb := tb_mem 392 (by decide +kernel) (by decide +kernel)
theorem od_29 : okD yX7_isFull 0 := ⟨by decide +kernel, by decide +kernel, by decide +kernel⟩
theorem kX7_33 : CV RX7 33 yX7_isFull cX7_isFull 1 (some .boolean) 0 := ⟨w_393, w_390, w_391, w_392, w_59, od_29⟩
theorem w_394 : Cond.methodLink RL 31 yX11_apart ∈ tb := tb_mem 394 (by decide +kernel) (by decide +kernel)
theorem w_397 : Cond.code yX11_apart cX11_apart 3 (some .int) ∈ tb := tb_mem 397 (by decide +kernel) (by decide +kernel)
theorem w_395 : Cond.instanceMethod yX11_apart ∈ tb := tb_mem 395 (by decide +kernel) (by decide +kernel)
theorem w_396 : Cond.selects RX11 yX11_apart yX11_apart ∈ tb := tb_mem 396 (by decide +kernel) (by decide +kernel)
theorem od_30 : okD yX11_apart 2 := ⟨by decide +kernel, by decide +kernel, by decide +kernel⟩
theorem kL_31 : CV RL 31 yX11_apart cX11_apart 3 (some .int) 2 := ⟨w_397, w_394, w_395, w_396, w_52, od_30⟩
theorem w_398 : Cond.methodLink RX11 128 yX6_isPortrait ∈ tb := tb_mem 398 (by decide +kernel) (by decide +kernel)
theorem w_401 : Cond.code yX6_isPortrait cX6_isPortrait 2 (some .boolean) ∈ tb := tb_mem 401 (by decide +kernel) (by decide +kernel)
theorem w_399 : Cond.instanceMethod yX6_isPortrait ∈ tb := tb_mem 399 (by decide +kernel) (by decide +kernel)
theorem w_400 : Cond.selects RX6 yX6_isPortrait yX6_isPortrait ∈ tb := tb_mem 400 (by decide +kernel) (by decide +kernel)
theorem od_31 : okD yX6_isPortrait 1 := ⟨by decide +kernel, by decide +kernel, by decide +kernel⟩
theorem kX11_128 : CV RX11 128 yX6_isPortrait cX6_isPortrait 2 (some .boolean) 1 := ⟨w_401, w_398, w_399, w_400, w_53, od_31⟩
theorem w_402 : Cond.methodLink RX11 131 yX6_gap ∈ tb := tb_mem 402 (by decide +kernel) (by decide +kernel)
theorem w_405 : Cond.code yX6_gap cX6_gap 5 (some .int) ∈ tb := tb_mem 405 (by decide +kernel) (by decide +kernel)
theorem w_403 : Cond.instanceMethod yX6_gap ∈ tb := tb_mem 403 (by decide +kernel) (by decide +kernel)
theorem w_404 : Cond.selects RX6 yX6_gap yX6_gap ∈ tb := tb_mem 404 (by decide +kernel) (by decide +kernel)
theorem od_32 : okD yX6_gap 2 := ⟨by decide +kernel, by decide +kernel, by decide +kernel⟩
theorem kX11_131 : CV RX11 131 yX6_gap cX6_gap 5 (some .int) 2 := ⟨w_405, w_402, w_403, w_404, w_53, od_32⟩
theorem w_406 : Cond.methodLink RX6 38 yX6_at ∈ tb := tb_mem 406 (by decide +kernel) (by decide +kernel)
theorem kX6_38 : CV RX6 38 yX6_at cX6_at 2 (some (.object "LikeLastYears$Feature")) 1 := ⟨w_338, w_406, w_336, w_337, w_53, od_18⟩
theorem w_407 : Cond.methodLink RX6 42 yX6_sizeIn ∈ tb := tb_mem 407 (by decide +kernel) (by decide +kernel)
theorem kX6_42 : CS RX6 42 yX6_sizeIn cX6_sizeIn 2 (some .int) 2 := ⟨w_358, w_407, w_357, w_53, od_20⟩
theorem w_408 : Cond.methodLink RX6 45 yX4_gap ∈ tb := tb_mem 408 (by decide +kernel) (by decide +kernel)
theorem w_411 : Cond.sameMethod RX4 RX4 "gap" "(II)I" ∈ tb := tb_mem 411 (by decide +kernel) (by decide +kernel)
theorem w_426 : Cond.code yX4_gap cX4_gap 3 (some .int) ∈ tb := tb_mem 426 (by decide +kernel) (by decide +kernel)
theorem w_409 : Cond.instanceMethod yX4_gap ∈ tb := tb_mem 409 (by decide +kernel) (by decide +kernel)
theorem od_33 : okD yX4_gap 2 := ⟨by decide +kernel, by decide +kernel, by decide +kernel⟩
theorem w_410 : Cond.selects RX4 yX4_gap yX4_gap ∈ tb := tb_mem 410 (by decide +kernel) (by decide +kernel)
theorem kX6_45_4 : CU RX6 45 RX4 yX4_gap yX4_gap cX4_gap 3 (some .int) 2 := ⟨w_426, w_408, w_411, w_409, w_410, w_409, w_54, ⟨_, _, _, w_426⟩, od_33⟩
theorem w_414 : Cond.code yX0_gap cX0_gap 4 (some .int) ∈ tb := tb_mem 414 (by decide +kernel) (by decide +kernel)
theorem w_412 : Cond.selects RX0 yX4_gap yX0_gap ∈ tb := tb_mem 412 (by decide +kernel) (by decide +kernel)
theorem w_413 : Cond.instanceMethod yX0_gap ∈ tb := tb_mem 413 (by decide +kernel) (by decide +kernel)
theorem kX6_45_0 : CU RX6 45 RX0 yX4_gap yX0_gap cX0_gap 4 (some .int) 2 := ⟨w_414, w_408, w_411, w_409, w_412, w_413, w_64, ⟨_, _, _, w_426⟩, od_33⟩
theorem w_423 : Cond.code yX8_gap cX8_gap 3 (some .int) ∈ tb := tb_mem 423 (by decide +kernel) (by decide +kernel)
theorem w_421 : Cond.selects RX3 yX4_gap yX8_gap ∈ tb := tb_mem 421 (by decide +kernel) (by decide +kernel)
theorem w_422 : Cond.instanceMethod yX8_gap ∈ tb := tb_mem 422 (by decide +kernel) (by decide +kernel)
theorem kX6_45_3 : CU RX6 45 RX3 yX4_gap yX8_gap cX8_gap 3 (some .int) 2 := ⟨w_423, w_408, w_411, w_409, w_421, w_422, w_63, ⟨_, _, _, w_426⟩, od_33⟩
theorem w_424 : Cond.selects RX5 yX4_gap yX4_gap ∈ tb := tb_mem 424 (by decide +kernel) (by decide +kernel)
theorem kX6_45_5 : CU RX6 45 RX5 yX4_gap yX4_gap cX4_gap 3 (some .int) 2 := ⟨w_426, w_408, w_411, w_409, w_424, w_409, w_54, ⟨_, _, _, w_426⟩, od_33⟩
theorem w_425 : Cond.selects RX8 yX4_gap yX8_gap ∈ tb := tb_mem 425 (by decide +kernel) (by decide +kernel)
theorem kX6_45_8 : CU RX6 45 RX8 yX4_gap yX8_gap cX8_gap 3 (some .int) 2 := ⟨w_423, w_408, w_411, w_409, w_425, w_422, w_63, ⟨_, _, _, w_426⟩, od_33⟩
theorem w_415 : Cond.methodLink RX0 15 yJ9_abs_0f7a4 ∈ tb := tb_mem 415 (by decide +kernel) (by decide +kernel)
theorem w_417 : Cond.code yJ9_abs_0f7a4 cJ9_abs_0f7a4 1 (some .int) ∈ tb := tb_mem 417 (by decide +kernel) (by decide +kernel)
theorem w_416 : Cond.static yJ9_abs_0f7a4 ∈ tb := tb_mem 416 (by decide +kernel) (by decide +kernel)
theorem od_34 : okD yJ9_abs_0f7a4 1 := ⟨by decide +kernel, by decide +kernel, by decide +kernel⟩
theorem kX0_15 : CS RX0 15 yJ9_abs_0f7a4 cJ9_abs_0f7a4 1 (some .int) 1 := ⟨w_417, w_415, w_416, w_60, od_34⟩
theorem w_418 : Cond.methodLink RX0 21 yJ9_min_7cf53 ∈ tb := tb_mem 418 (by decide +kernel) (by decide +kernel)
theorem w_420 : Cond.code yJ9_min_7cf53 cJ9_min_7cf53 2 (some .int) ∈ tb := tb_mem 420 (by decide +kernel) (by decide +kernel)
theorem w_419 : Cond.static yJ9_min_7cf53 ∈ tb := tb_mem 419 (by decide +kernel) (by decide +kernel)
theorem od_35 : okD yJ9_min_7cf53 2 := ⟨by decide +kernel, by decide +kernel, by decide +kernel⟩
theorem kX0_21 : CS RX0 21 yJ9_min_7cf53 cJ9_min_7cf53 2 (some .int) 2 := ⟨w_420, w_418, w_419, w_60, od_35⟩
theorem w_427 : Cond.methodLink RX4 9 yJ9_abs_0f7a4 ∈ tb := tb_mem 427 (by decide +kernel) (by decide +kernel)
theorem kX4_9 : CS RX4 9 yJ9_abs_0f7a4 cJ9_abs_0f7a4 1 (some .int) 1 := ⟨w_417, w_427, w_416, w_60, od_34⟩
theorem w_428 : Cond.methodLink RL 35 yX11_paint ∈ tb := tb_mem 428 (by decide +kernel) (by decide +kernel)
theorem w_431 : Cond.code yX11_paint cX11_paint 3 (some .int) ∈ tb := tb_mem 431 (by decide +kernel) (by decide +kernel)
theorem w_429 : Cond.instanceMethod yX11_paint ∈ tb := tb_mem 429 (by decide +kernel) (by decide +kernel)
theorem w_430 : Cond.selects RX11 yX11_paint yX11_paint ∈ tb := tb_mem 430 (by decide +kernel) (by decide +kernel)
theorem od_36 : okD yX11_paint 1 := ⟨by decide +kernel, by decide +kernel, by decide +kernel⟩
theorem kL_35 : CV RL 35 yX11_paint cX11_paint 3 (some .int) 1 := ⟨w_431, w_428, w_429, w_430, w_52, od_36⟩
theorem w_432 : Cond.methodLink RX11 134 yX6_aged ∈ tb := tb_mem 432 (by decide +kernel) (by decide +kernel)
theorem w_435 : Cond.code yX6_aged cX6_aged 4 (some .int) ∈ tb := tb_mem 435 (by decide +kernel) (by decide +kernel)
theorem w_433 : Cond.instanceMethod yX6_aged ∈ tb := tb_mem 433 (by decide +kernel) (by decide +kernel)
theorem w_434 : Cond.selects RX6 yX6_aged yX6_aged ∈ tb := tb_mem 434 (by decide +kernel) (by decide +kernel)
theorem od_37 : okD yX6_aged 1 := ⟨by decide +kernel, by decide +kernel, by decide +kernel⟩
theorem kX11_134 : CV RX11 134 yX6_aged cX6_aged 4 (some .int) 1 := ⟨w_435, w_432, w_433, w_434, w_53, od_37⟩
theorem w_436 : Cond.methodLink RX6 51 yX4_aged ∈ tb := tb_mem 436 (by decide +kernel) (by decide +kernel)
theorem w_439 : Cond.sameMethod RX4 RX4 "aged" "(I)I" ∈ tb := tb_mem 439 (by decide +kernel) (by decide +kernel)
theorem w_456 : Cond.code yX4_aged cX4_aged 2 (some .int) ∈ tb := tb_mem 456 (by decide +kernel) (by decide +kernel)
theorem w_437 : Cond.instanceMethod yX4_aged ∈ tb := tb_mem 437 (by decide +kernel) (by decide +kernel)
theorem od_38 : okD yX4_aged 1 := ⟨by decide +kernel, by decide +kernel, by decide +kernel⟩
theorem w_438 : Cond.selects RX4 yX4_aged yX4_aged ∈ tb := tb_mem 438 (by decide +kernel) (by decide +kernel)
theorem kX6_51_4 : CU RX6 51 RX4 yX4_aged yX4_aged cX4_aged 2 (some .int) 1 := ⟨w_456, w_436, w_439, w_437, w_438, w_437, w_54, ⟨_, _, _, w_456⟩, od_38⟩
theorem w_442 : Cond.code yX0_aged cX0_aged 2 (some .int) ∈ tb := tb_mem 442 (by decide +kernel) (by decide +kernel)
theorem w_440 : Cond.selects RX0 yX4_aged yX0_aged ∈ tb := tb_mem 440 (by decide +kernel) (by decide +kernel)
theorem w_441 : Cond.instanceMethod yX0_aged ∈ tb := tb_mem 441 (by decide +kernel) (by decide +kernel)
theorem kX6_51_0 : CU RX6 51 RX0 yX4_aged yX0_aged cX0_aged 2 (some .int) 1 := ⟨w_442, w_436, w_439, w_437, w_440, w_441, w_64, ⟨_, _, _, w_456⟩, od_38⟩
theorem w_450 : Cond.selects RX3 yX4_aged yX4_aged ∈ tb := tb_mem 450 (by decide +kernel) (by decide +kernel)
theorem kX6_51_3 : CU RX6 51 RX3 yX4_aged yX4_aged cX4_aged 2 (some .int) 1 := ⟨w_456, w_436, w_439, w_437, w_450, w_437, w_54, ⟨_, _, _, w_456⟩, od_38⟩
theorem w_453 : Cond.code yX5_aged cX5_aged 2 (some .int) ∈ tb := tb_mem 453 (by decide +kernel) (by decide +kernel)
theorem w_451 : Cond.selects RX5 yX4_aged yX5_aged ∈ tb := tb_mem 451 (by decide +kernel) (by decide +kernel)
theorem w_452 : Cond.instanceMethod yX5_aged ∈ tb := tb_mem 452 (by decide +kernel) (by decide +kernel)
theorem kX6_51_5 : CU RX6 51 RX5 yX4_aged yX5_aged cX5_aged 2 (some .int) 1 := ⟨w_453, w_436, w_439, w_437, w_451, w_452, w_62, ⟨_, _, _, w_456⟩, od_38⟩
theorem w_455 : Cond.selects RX8 yX4_aged yX4_aged ∈ tb := tb_mem 455 (by decide +kernel) (by decide +kernel)
theorem kX6_51_8 : CU RX6 51 RX8 yX4_aged yX4_aged cX4_aged 2 (some .int) 1 := ⟨w_456, w_436, w_439, w_437, w_455, w_437, w_54, ⟨_, _, _, w_456⟩, od_38⟩
theorem w_443 : Cond.methodLink RX0 9 yX0_slipped ∈ tb := tb_mem 443 (by decide +kernel) (by decide +kernel)
theorem w_446 : Cond.code yX0_slipped cX0_slipped 3 (some .int) ∈ tb := tb_mem 446 (by decide +kernel) (by decide +kernel)
theorem w_444 : Cond.instanceMethod yX0_slipped ∈ tb := tb_mem 444 (by decide +kernel) (by decide +kernel)
theorem w_445 : Cond.selects RX0 yX0_slipped yX0_slipped ∈ tb := tb_mem 445 (by decide +kernel) (by decide +kernel)
theorem od_39 : okD yX0_slipped 2 := ⟨by decide +kernel, by decide +kernel, by decide +kernel⟩
theorem kX0_9 : CV RX0 9 yX0_slipped cX0_slipped 3 (some .int) 2 := ⟨w_446, w_443, w_444, w_445, w_64, od_39⟩
theorem w_447 : Cond.methodLink RX0 27 yJ9_floorMod_7cf53 ∈ tb := tb_mem 447 (by decide +kernel) (by decide +kernel)
theorem w_449 : Cond.code yJ9_floorMod_7cf53 cJ9_floorMod_7cf53 3 (some .int) ∈ tb := tb_mem 449 (by decide +kernel) (by decide +kernel)
theorem w_448 : Cond.static yJ9_floorMod_7cf53 ∈ tb := tb_mem 448 (by decide +kernel) (by decide +kernel)
theorem od_40 : okD yJ9_floorMod_7cf53 2 := ⟨by decide +kernel, by decide +kernel, by decide +kernel⟩
theorem kX0_27 : CS RX0 27 yJ9_floorMod_7cf53 cJ9_floorMod_7cf53 3 (some .int) 2 := ⟨w_449, w_447, w_448, w_60, od_40⟩
theorem w_454 : Cond.methodLink RX5 9 yJ9_max_7cf53 ∈ tb := tb_mem 454 (by decide +kernel) (by decide +kernel)
theorem kX5_9 : CS RX5 9 yJ9_max_7cf53 cJ9_max_7cf53 2 (some .int) 2 := ⟨w_206, w_454, w_205, w_60, od_6⟩
theorem w_457 : Cond.methodLink RX6 55 yX6_with ∈ tb := tb_mem 457 (by decide +kernel) (by decide +kernel)
theorem kX6_55 : CV RX6 55 yX6_with cX6_with 5 (some .int) 3 := ⟨w_320, w_457, w_318, w_319, w_53, od_14⟩
theorem w_458 : Cond.methodLink RX11 141 yX1_agrees ∈ tb := tb_mem 458 (by decide +kernel) (by decide +kernel)
theorem w_461 : Cond.code yX1_agrees cX1_agrees 4 (some .boolean) ∈ tb := tb_mem 461 (by decide +kernel) (by decide +kernel)
theorem w_459 : Cond.instanceMethod yX1_agrees ∈ tb := tb_mem 459 (by decide +kernel) (by decide +kernel)
theorem w_460 : Cond.selects RX1 yX1_agrees yX1_agrees ∈ tb := tb_mem 460 (by decide +kernel) (by decide +kernel)
theorem od_41 : okD yX1_agrees 3 := ⟨by decide +kernel, by decide +kernel, by decide +kernel⟩
theorem kX11_141 : CV RX11 141 yX1_agrees cX1_agrees 4 (some .boolean) 3 := ⟨w_461, w_458, w_459, w_460, w_55, od_41⟩
theorem w_462 : Cond.methodLink RX1 82 yX1_willing ∈ tb := tb_mem 462 (by decide +kernel) (by decide +kernel)
theorem w_465 : Cond.code yX1_willing cX1_willing 13 (some .int) ∈ tb := tb_mem 465 (by decide +kernel) (by decide +kernel)
theorem w_463 : Cond.instanceMethod yX1_willing ∈ tb := tb_mem 463 (by decide +kernel) (by decide +kernel)
theorem w_464 : Cond.selects RX1 yX1_willing yX1_willing ∈ tb := tb_mem 464 (by decide +kernel) (by decide +kernel)
theorem od_42 : okD yX1_willing 3 := ⟨by decide +kernel, by decide +kernel, by decide +kernel⟩
theorem kX1_82 : CV RX1 82 yX1_willing cX1_willing 13 (some .int) 3 := ⟨w_465, w_462, w_463, w_464, w_55, od_42⟩
theorem w_466 : Cond.methodLink RX1 44 yX6_size ∈ tb := tb_mem 466 (by decide +kernel) (by decide +kernel)
theorem kX1_44 : CV RX1 44 yX6_size cX6_size 1 (some .int) 0 := ⟨w_385, w_466, w_383, w_384, w_53, od_27⟩
theorem w_467 : Cond.methodLink RX1 73 yX6_at ∈ tb := tb_mem 467 (by decide +kernel) (by decide +kernel)
theorem kX1_73 : CV RX1 73 yX6_at cX6_at 2 (some (.object "LikeLastYears$Feature")) 1 := ⟨w_338, w_467, w_336, w_337, w_53, od_18⟩
theorem w_468 : Cond.methodLink RX1 77 yX4_gap ∈ tb := tb_mem 468 (by decide +kernel) (by decide +kernel)
theorem kX1_77_4 : CU RX1 77 RX4 yX4_gap yX4_gap cX4_gap 3 (some .int) 2 := ⟨w_426, w_468, w_411, w_409, w_410, w_409, w_54, ⟨_, _, _, w_426⟩, od_33⟩
theorem kX1_77_0 : CU RX1 77 RX0 yX4_gap yX0_gap cX0_gap 4 (some .int) 2 := ⟨w_414, w_468, w_411, w_409, w_412, w_413, w_64, ⟨_, _, _, w_426⟩, od_33⟩
theorem kX1_77_3 : CU RX1 77 RX3 yX4_gap yX8_gap cX8_gap 3 (some .int) 2 := ⟨w_423, w_468, w_411, w_409, w_421, w_422, w_63, ⟨_, _, _, w_426⟩, od_33⟩
theorem kX1_77_5 : CU RX1 77 RX5 yX4_gap yX4_gap cX4_gap 3 (some .int) 2 := ⟨w_426, w_468, w_411, w_409, w_424, w_409, w_54, ⟨_, _, _, w_426⟩, od_33⟩
theorem kX1_77_8 : CU RX1 77 RX8 yX4_gap yX8_gap cX8_gap 3 (some .int) 2 := ⟨w_423, w_468, w_411, w_409, w_425, w_422, w_63, ⟨_, _, _, w_426⟩, od_33⟩
theorem w_469 : Cond.methodLink RX1 86 yJ6_bitCount_0f7a4 ∈ tb := tb_mem 469 (by decide +kernel) (by decide +kernel)
theorem w_471 : Cond.code yJ6_bitCount_0f7a4 cJ6_bitCount_0f7a4 1 (some .int) ∈ tb := tb_mem 471 (by decide +kernel) (by decide +kernel)
theorem w_470 : Cond.static yJ6_bitCount_0f7a4 ∈ tb := tb_mem 470 (by decide +kernel) (by decide +kernel)
theorem w_66 : Cond.initialized RJ6 ∈ tb := tb_mem 66 (by decide +kernel) (by decide +kernel)
theorem od_43 : okD yJ6_bitCount_0f7a4 1 := ⟨by decide +kernel, by decide +kernel, by decide +kernel⟩
theorem kX1_86 : CS RX1 86 yJ6_bitCount_0f7a4 cJ6_bitCount_0f7a4 1 (some .int) 1 := ⟨w_471, w_469, w_470, w_66, od_43⟩
theorem w_475 : Cond.methodLink RX11 145 yX7_isFull ∈ tb := tb_mem 475 (by decide +kernel) (by decide +kernel)
theorem kX11_145 : CV RX11 145 yX7_isFull cX7_isFull 1 (some .boolean) 0 := ⟨w_393, w_475, w_391, w_392, w_59, od_29⟩
theorem w_476 : Cond.methodLink RL 40 yX11_line ∈ tb := tb_mem 476 (by decide +kernel) (by decide +kernel)
theorem w_479 : Cond.code yX11_line cX11_line 2 (some .int) ∈ tb := tb_mem 479 (by decide +kernel) (by decide +kernel)
theorem w_477 : Cond.instanceMethod yX11_line ∈ tb := tb_mem 477 (by decide +kernel) (by decide +kernel)
theorem w_478 : Cond.selects RX11 yX11_line yX11_line ∈ tb := tb_mem 478 (by decide +kernel) (by decide +kernel)
theorem od_44 : okD yX11_line 1 := ⟨by decide +kernel, by decide +kernel, by decide +kernel⟩
theorem kL_40 : CV RL 40 yX11_line cX11_line 2 (some .int) 1 := ⟨w_479, w_476, w_477, w_478, w_52, od_44⟩
theorem w_480 : Cond.methodLink RX11 146 yX7_has ∈ tb := tb_mem 480 (by decide +kernel) (by decide +kernel)
theorem kX11_146 : CV RX11 146 yX7_has cX7_has 2 (some .boolean) 1 := ⟨w_370, w_480, w_368, w_369, w_59, od_23⟩
theorem w_481 : Cond.methodLink RX11 147 yX7_get ∈ tb := tb_mem 481 (by decide +kernel) (by decide +kernel)
theorem kX11_147 : CV RX11 147 yX7_get cX7_get 2 (some .int) 1 := ⟨w_366, w_481, w_364, w_365, w_59, od_22⟩
theorem w_482 : Cond.methodLink RL 46 yX11_letters ∈ tb := tb_mem 482 (by decide +kernel) (by decide +kernel)
theorem w_485 : Cond.code yX11_letters cX11_letters 5 (some .int) ∈ tb := tb_mem 485 (by decide +kernel) (by decide +kernel)
theorem w_483 : Cond.instanceMethod yX11_letters ∈ tb := tb_mem 483 (by decide +kernel) (by decide +kernel)
theorem w_484 : Cond.selects RX11 yX11_letters yX11_letters ∈ tb := tb_mem 484 (by decide +kernel) (by decide +kernel)
theorem od_45 : okD yX11_letters 1 := ⟨by decide +kernel, by decide +kernel, by decide +kernel⟩
theorem kL_46 : CV RL 46 yX11_letters cX11_letters 5 (some .int) 1 := ⟨w_485, w_482, w_483, w_484, w_52, od_45⟩
theorem w_486 : Cond.methodLink RX11 150 yX11_lettersIn ∈ tb := tb_mem 486 (by decide +kernel) (by decide +kernel)
theorem w_488 : Cond.code yX11_lettersIn cX11_lettersIn 5 (some .int) ∈ tb := tb_mem 488 (by decide +kernel) (by decide +kernel)
theorem w_487 : Cond.static yX11_lettersIn ∈ tb := tb_mem 487 (by decide +kernel) (by decide +kernel)
theorem od_46 : okD yX11_lettersIn 1 := ⟨by decide +kernel, by decide +kernel, by decide +kernel⟩
theorem kX11_150 : CS RX11 150 yX11_lettersIn cX11_lettersIn 5 (some .int) 1 := ⟨w_488, w_486, w_487, w_52, od_46⟩
theorem w_489 : Cond.methodLink RX11 155 yX11_letterIn ∈ tb := tb_mem 489 (by decide +kernel) (by decide +kernel)
theorem w_491 : Cond.code yX11_letterIn cX11_letterIn 3 (some .int) ∈ tb := tb_mem 491 (by decide +kernel) (by decide +kernel)
theorem w_490 : Cond.static yX11_letterIn ∈ tb := tb_mem 490 (by decide +kernel) (by decide +kernel)
theorem od_47 : okD yX11_letterIn 2 := ⟨by decide +kernel, by decide +kernel, by decide +kernel⟩
theorem kX11_155 : CS RX11 155 yX11_letterIn cX11_letterIn 3 (some .int) 2 := ⟨w_491, w_489, w_490, w_52, od_47⟩
theorem w_492 : Cond.methodLink RL 51 yX11_blank ∈ tb := tb_mem 492 (by decide +kernel) (by decide +kernel)
theorem w_495 : Cond.code yX11_blank cX11_blank 2 (some .int) ∈ tb := tb_mem 495 (by decide +kernel) (by decide +kernel)
theorem w_493 : Cond.instanceMethod yX11_blank ∈ tb := tb_mem 493 (by decide +kernel) (by decide +kernel)
theorem w_494 : Cond.selects RX11 yX11_blank yX11_blank ∈ tb := tb_mem 494 (by decide +kernel) (by decide +kernel)
theorem od_48 : okD yX11_blank 0 := ⟨by decide +kernel, by decide +kernel, by decide +kernel⟩
theorem kL_51 : CV RL 51 yX11_blank cX11_blank 2 (some .int) 0 := ⟨w_495, w_492, w_493, w_494, w_52, od_48⟩
theorem w_496 : Cond.methodLink RX11 159 yX7_cut ∈ tb := tb_mem 496 (by decide +kernel) (by decide +kernel)
theorem w_499 : Cond.code yX7_cut cX7_cut 2 none ∈ tb := tb_mem 499 (by decide +kernel) (by decide +kernel)
theorem w_497 : Cond.instanceMethod yX7_cut ∈ tb := tb_mem 497 (by decide +kernel) (by decide +kernel)
theorem w_498 : Cond.selects RX7 yX7_cut yX7_cut ∈ tb := tb_mem 498 (by decide +kernel) (by decide +kernel)
theorem od_49 : okD yX7_cut 1 := ⟨by decide +kernel, by decide +kernel, by decide +kernel⟩
theorem kX11_159 : CV RX11 159 yX7_cut cX7_cut 2 none 1 := ⟨w_499, w_496, w_497, w_498, w_59, od_49⟩
theorem w_500 : Cond.methodLink RL 55 yX11_fault ∈ tb := tb_mem 500 (by decide +kernel) (by decide +kernel)
theorem w_503 : Cond.code yX11_fault cX11_fault 1 (some .int) ∈ tb := tb_mem 503 (by decide +kernel) (by decide +kernel)
theorem w_501 : Cond.instanceMethod yX11_fault ∈ tb := tb_mem 501 (by decide +kernel) (by decide +kernel)
theorem w_502 : Cond.selects RX11 yX11_fault yX11_fault ∈ tb := tb_mem 502 (by decide +kernel) (by decide +kernel)
theorem od_50 : okD yX11_fault 0 := ⟨by decide +kernel, by decide +kernel, by decide +kernel⟩
theorem kL_55 : CV RL 55 yX11_fault cX11_fault 1 (some .int) 0 := ⟨w_503, w_500, w_501, w_502, w_52, od_50⟩
theorem w_504 : Cond.methodLink RX11 162 yX11_firstFault ∈ tb := tb_mem 504 (by decide +kernel) (by decide +kernel)
theorem w_506 : Cond.code yX11_firstFault cX11_firstFault 4 (some .int) ∈ tb := tb_mem 506 (by decide +kernel) (by decide +kernel)
theorem w_505 : Cond.static yX11_firstFault ∈ tb := tb_mem 505 (by decide +kernel) (by decide +kernel)
theorem od_51 : okD yX11_firstFault 2 := ⟨by decide +kernel, by decide +kernel, by decide +kernel⟩
theorem kX11_162 : CS RX11 162 yX11_firstFault cX11_firstFault 4 (some .int) 2 := ⟨w_506, w_504, w_505, w_52, od_51⟩
theorem w_507 : Cond.methodLink RX11 265 yX11_isDigit ∈ tb := tb_mem 507 (by decide +kernel) (by decide +kernel)
theorem w_509 : Cond.code yX11_isDigit cX11_isDigit 2 (some .boolean) ∈ tb := tb_mem 509 (by decide +kernel) (by decide +kernel)
theorem w_508 : Cond.static yX11_isDigit ∈ tb := tb_mem 508 (by decide +kernel) (by decide +kernel)
theorem od_52 : okD yX11_isDigit 2 := ⟨by decide +kernel, by decide +kernel, by decide +kernel⟩
theorem kX11_265 : CS RX11 265 yX11_isDigit cX11_isDigit 2 (some .boolean) 2 := ⟨w_509, w_507, w_508, w_52, od_52⟩
theorem w_510 : Cond.methodLink RL 59 yX11_judge ∈ tb := tb_mem 510 (by decide +kernel) (by decide +kernel)
theorem w_513 : Cond.code yX11_judge cX11_judge 2 (some .int) ∈ tb := tb_mem 513 (by decide +kernel) (by decide +kernel)
theorem w_511 : Cond.instanceMethod yX11_judge ∈ tb := tb_mem 511 (by decide +kernel) (by decide +kernel)
theorem w_512 : Cond.selects RX11 yX11_judge yX11_judge ∈ tb := tb_mem 512 (by decide +kernel) (by decide +kernel)
theorem od_53 : okD yX11_judge 0 := ⟨by decide +kernel, by decide +kernel, by decide +kernel⟩
theorem kL_59 : CV RL 59 yX11_judge cX11_judge 2 (some .int) 0 := ⟨w_513, w_510, w_511, w_512, w_52, od_53⟩
theorem w_514 : Cond.methodLink RX11 166 yX11_isJudge ∈ tb := tb_mem 514 (by decide +kernel) (by decide +kernel)
theorem w_516 : Cond.code yX11_isJudge cX11_isJudge 3 (some .boolean) ∈ tb := tb_mem 516 (by decide +kernel) (by decide +kernel)
theorem w_515 : Cond.static yX11_isJudge ∈ tb := tb_mem 515 (by decide +kernel) (by decide +kernel)
theorem od_54 : okD yX11_isJudge 2 := ⟨by decide +kernel, by decide +kernel, by decide +kernel⟩
theorem kX11_166 : CS RX11 166 yX11_isJudge cX11_isJudge 3 (some .boolean) 2 := ⟨w_516, w_514, w_515, w_52, od_54⟩
theorem w_517 : Cond.methodLink RX11 170 yX1_isFull ∈ tb := tb_mem 517 (by decide +kernel) (by decide +kernel)
theorem w_520 : Cond.code yX1_isFull cX1_isFull 1 (some .boolean) ∈ tb := tb_mem 520 (by decide +kernel) (by decide +kernel)
theorem w_518 : Cond.instanceMethod yX1_isFull ∈ tb := tb_mem 518 (by decide +kernel) (by decide +kernel)
theorem w_519 : Cond.selects RX1 yX1_isFull yX1_isFull ∈ tb := tb_mem 519 (by decide +kernel) (by decide +kernel)
theorem od_55 : okD yX1_isFull 0 := ⟨by decide +kernel, by decide +kernel, by decide +kernel⟩
theorem kX11_170 : CV RX11 170 yX1_isFull cX1_isFull 1 (some .boolean) 0 := ⟨w_520, w_517, w_518, w_519, w_55, od_55⟩
theorem w_521 : Cond.methodLink RX11 171 yX1_add ∈ tb := tb_mem 521 (by decide +kernel) (by decide +kernel)
theorem w_524 : Cond.code yX1_add cX1_add 5 (some .int) ∈ tb := tb_mem 524 (by decide +kernel) (by decide +kernel)
theorem w_522 : Cond.instanceMethod yX1_add ∈ tb := tb_mem 522 (by decide +kernel) (by decide +kernel)
theorem w_523 : Cond.selects RX1 yX1_add yX1_add ∈ tb := tb_mem 523 (by decide +kernel) (by decide +kernel)
theorem od_56 : okD yX1_add 1 := ⟨by decide +kernel, by decide +kernel, by decide +kernel⟩
theorem kX11_171 : CV RX11 171 yX1_add cX1_add 5 (some .int) 1 := ⟨w_524, w_521, w_522, w_523, w_55, od_56⟩
theorem w_525 : Cond.methodLink RX1 40 yX1_isFull ∈ tb := tb_mem 525 (by decide +kernel) (by decide +kernel)
theorem kX1_40 : CV RX1 40 yX1_isFull cX1_isFull 1 (some .boolean) 0 := ⟨w_520, w_525, w_518, w_519, w_55, od_55⟩
theorem w_526 : Cond.methodLink RX1 49 yX7_get ∈ tb := tb_mem 526 (by decide +kernel) (by decide +kernel)
theorem kX1_49 : CV RX1 49 yX7_get cX7_get 2 (some .int) 1 := ⟨w_366, w_526, w_364, w_365, w_59, od_22⟩
theorem w_527 : Cond.methodLink RX1 55 yX7_last ∈ tb := tb_mem 527 (by decide +kernel) (by decide +kernel)
theorem kX1_55 : CV RX1 55 yX7_last cX7_last 1 (some .int) 0 := ⟨w_362, w_527, w_360, w_361, w_59, od_21⟩
theorem w_528 : Cond.methodLink RX1 58 yX1_noteBits ∈ tb := tb_mem 528 (by decide +kernel) (by decide +kernel)
theorem w_531 : Cond.code yX1_noteBits cX1_noteBits 5 none ∈ tb := tb_mem 531 (by decide +kernel) (by decide +kernel)
theorem w_530 : Cond.instanceMethod yX1_noteBits ∈ tb := tb_mem 530 (by decide +kernel) (by decide +kernel)
theorem w_2 : Cond.selects RX1 yX1_noteBits yX1_noteBits ∈ tb := tb_mem 2 (by decide +kernel) (by decide +kernel)
theorem od_57 : okD yX1_noteBits 1 := ⟨by decide +kernel, by decide +kernel, by decide +kernel⟩
theorem kX1_58 : CV RX1 58 yX1_noteBits cX1_noteBits 5 none 1 := ⟨w_531, w_528, w_530, w_2, w_55, od_57⟩
theorem w_532 : Cond.methodLink RX1 62 yX1_allows ∈ tb := tb_mem 532 (by decide +kernel) (by decide +kernel)
theorem w_535 : Cond.code yX1_allows cX1_allows 4 (some .boolean) ∈ tb := tb_mem 535 (by decide +kernel) (by decide +kernel)
theorem w_533 : Cond.instanceMethod yX1_allows ∈ tb := tb_mem 533 (by decide +kernel) (by decide +kernel)
theorem w_534 : Cond.selects RX1 yX1_allows yX1_allows ∈ tb := tb_mem 534 (by decide +kernel) (by decide +kernel)
theorem od_58 : okD yX1_allows 3 := ⟨by decide +kernel, by decide +kernel, by decide +kernel⟩
theorem kX1_62 : CV RX1 62 yX1_allows cX1_allows 4 (some .boolean) 3 := ⟨w_535, w_532, w_533, w_534, w_55, od_58⟩
theorem w_536 : Cond.methodLink RX1 36 yX1_mark ∈ tb := tb_mem 536 (by decide +kernel) (by decide +kernel)
theorem w_539 : Cond.code yX1_mark cX1_mark 3 (some .int) ∈ tb := tb_mem 539 (by decide +kernel) (by decide +kernel)
theorem w_537 : Cond.instanceMethod yX1_mark ∈ tb := tb_mem 537 (by decide +kernel) (by decide +kernel)
theorem w_538 : Cond.selects RX1 yX1_mark yX1_mark ∈ tb := tb_mem 538 (by decide +kernel) (by decide +kernel)
theorem od_59 : okD yX1_mark 2 := ⟨by decide +kernel, by decide +kernel, by decide +kernel⟩
theorem kX1_36 : CV RX1 36 yX1_mark cX1_mark 3 (some .int) 2 := ⟨w_539, w_536, w_537, w_538, w_55, od_59⟩
theorem w_540 : Cond.methodLink RX1 32 yX1_has ∈ tb := tb_mem 540 (by decide +kernel) (by decide +kernel)
theorem w_543 : Cond.code yX1_has cX1_has 2 (some .boolean) ∈ tb := tb_mem 543 (by decide +kernel) (by decide +kernel)
theorem w_541 : Cond.instanceMethod yX1_has ∈ tb := tb_mem 541 (by decide +kernel) (by decide +kernel)
theorem w_542 : Cond.selects RX1 yX1_has yX1_has ∈ tb := tb_mem 542 (by decide +kernel) (by decide +kernel)
theorem od_60 : okD yX1_has 1 := ⟨by decide +kernel, by decide +kernel, by decide +kernel⟩
theorem kX1_32 : CV RX1 32 yX1_has cX1_has 2 (some .boolean) 1 := ⟨w_543, w_540, w_541, w_542, w_55, od_60⟩
theorem w_544 : Cond.methodLink RX1 66 yX1_binds ∈ tb := tb_mem 544 (by decide +kernel) (by decide +kernel)
theorem w_547 : Cond.code yX1_binds cX1_binds 3 (some .boolean) ∈ tb := tb_mem 547 (by decide +kernel) (by decide +kernel)
theorem w_545 : Cond.instanceMethod yX1_binds ∈ tb := tb_mem 545 (by decide +kernel) (by decide +kernel)
theorem w_546 : Cond.selects RX1 yX1_binds yX1_binds ∈ tb := tb_mem 546 (by decide +kernel) (by decide +kernel)
theorem od_61 : okD yX1_binds 2 := ⟨by decide +kernel, by decide +kernel, by decide +kernel⟩
theorem kX1_66 : CV RX1 66 yX1_binds cX1_binds 3 (some .boolean) 2 := ⟨w_547, w_544, w_545, w_546, w_55, od_61⟩
theorem w_548 : Cond.methodLink RX1 70 yX1_farthest ∈ tb := tb_mem 548 (by decide +kernel) (by decide +kernel)
theorem w_551 : Cond.code yX1_farthest cX1_farthest 3 (some .int) ∈ tb := tb_mem 551 (by decide +kernel) (by decide +kernel)
theorem w_549 : Cond.instanceMethod yX1_farthest ∈ tb := tb_mem 549 (by decide +kernel) (by decide +kernel)
theorem w_550 : Cond.selects RX1 yX1_farthest yX1_farthest ∈ tb := tb_mem 550 (by decide +kernel) (by decide +kernel)
theorem od_62 : okD yX1_farthest 1 := ⟨by decide +kernel, by decide +kernel, by decide +kernel⟩
theorem kX1_70 : CV RX1 70 yX1_farthest cX1_farthest 3 (some .int) 1 := ⟨w_551, w_548, w_549, w_550, w_55, od_62⟩
theorem w_552 : Cond.methodLink RL 63 yX11_told ∈ tb := tb_mem 552 (by decide +kernel) (by decide +kernel)
theorem w_555 : Cond.code yX11_told cX11_told 3 (some .int) ∈ tb := tb_mem 555 (by decide +kernel) (by decide +kernel)
theorem w_553 : Cond.instanceMethod yX11_told ∈ tb := tb_mem 553 (by decide +kernel) (by decide +kernel)
theorem w_554 : Cond.selects RX11 yX11_told yX11_told ∈ tb := tb_mem 554 (by decide +kernel) (by decide +kernel)
theorem od_63 : okD yX11_told 2 := ⟨by decide +kernel, by decide +kernel, by decide +kernel⟩
theorem kL_63 : CV RL 63 yX11_told cX11_told 3 (some .int) 2 := ⟨w_555, w_552, w_553, w_554, w_52, od_63⟩
theorem w_556 : Cond.methodLink RX11 174 yX1_has ∈ tb := tb_mem 556 (by decide +kernel) (by decide +kernel)
theorem kX11_174 : CV RX11 174 yX1_has cX1_has 2 (some .boolean) 1 := ⟨w_543, w_556, w_541, w_542, w_55, od_60⟩
theorem w_557 : Cond.methodLink RX11 175 yX1_mark ∈ tb := tb_mem 557 (by decide +kernel) (by decide +kernel)
theorem kX11_175 : CV RX11 175 yX1_mark cX1_mark 3 (some .int) 2 := ⟨w_539, w_557, w_537, w_538, w_55, od_59⟩
theorem w_558 : Cond.methodLink RL 67 yX11_lets ∈ tb := tb_mem 558 (by decide +kernel) (by decide +kernel)
theorem w_561 : Cond.code yX11_lets cX11_lets 3 (some .int) ∈ tb := tb_mem 561 (by decide +kernel) (by decide +kernel)
theorem w_559 : Cond.instanceMethod yX11_lets ∈ tb := tb_mem 559 (by decide +kernel) (by decide +kernel)
theorem w_560 : Cond.selects RX11 yX11_lets yX11_lets ∈ tb := tb_mem 560 (by decide +kernel) (by decide +kernel)
theorem od_64 : okD yX11_lets 2 := ⟨by decide +kernel, by decide +kernel, by decide +kernel⟩
theorem kL_67 : CV RL 67 yX11_lets cX11_lets 3 (some .int) 2 := ⟨w_561, w_558, w_559, w_560, w_52, od_64⟩
theorem w_562 : Cond.methodLink RX11 178 yX1_willing ∈ tb := tb_mem 562 (by decide +kernel) (by decide +kernel)
theorem kX11_178 : CV RX11 178 yX1_willing cX1_willing 13 (some .int) 3 := ⟨w_465, w_562, w_463, w_464, w_55, od_42⟩
theorem w_563 : Cond.methodLink RX11 181 yJ6_bitCount_0f7a4 ∈ tb := tb_mem 563 (by decide +kernel) (by decide +kernel)
theorem kX11_181 : CS RX11 181 yJ6_bitCount_0f7a4 cJ6_bitCount_0f7a4 1 (some .int) 1 := ⟨w_471, w_563, w_470, w_66, od_43⟩
theorem w_564 : Cond.methodLink RL 71 yX11_strict ∈ tb := tb_mem 564 (by decide +kernel) (by decide +kernel)
theorem w_567 : Cond.code yX11_strict cX11_strict 1 (some .int) ∈ tb := tb_mem 567 (by decide +kernel) (by decide +kernel)
theorem w_565 : Cond.instanceMethod yX11_strict ∈ tb := tb_mem 565 (by decide +kernel) (by decide +kernel)
theorem w_566 : Cond.selects RX11 yX11_strict yX11_strict ∈ tb := tb_mem 566 (by decide +kernel) (by decide +kernel)
theorem od_65 : okD yX11_strict 0 := ⟨by decide +kernel, by decide +kernel, by decide +kernel⟩
theorem kL_71 : CV RL 71 yX11_strict cX11_strict 1 (some .int) 0 := ⟨w_567, w_564, w_565, w_566, w_52, od_65⟩
theorem w_568 : Cond.methodLink RX11 186 yX11_strictest ∈ tb := tb_mem 568 (by decide +kernel) (by decide +kernel)
theorem w_571 : Cond.code yX11_strictest cX11_strictest 5 (some .int) ∈ tb := tb_mem 571 (by decide +kernel) (by decide +kernel)
theorem w_570 : Cond.instanceMethod yX11_strictest ∈ tb := tb_mem 570 (by decide +kernel) (by decide +kernel)
theorem w_3 : Cond.selects RX11 yX11_strictest yX11_strictest ∈ tb := tb_mem 3 (by decide +kernel) (by decide +kernel)
theorem od_66 : okD yX11_strictest 0 := ⟨by decide +kernel, by decide +kernel, by decide +kernel⟩
theorem kX11_186 : CV RX11 186 yX11_strictest cX11_strictest 5 (some .int) 0 := ⟨w_571, w_568, w_570, w_3, w_52, od_66⟩
theorem w_572 : Cond.methodLink RX11 239 yX1_size ∈ tb := tb_mem 572 (by decide +kernel) (by decide +kernel)
theorem w_575 : Cond.code yX1_size cX1_size 1 (some .int) ∈ tb := tb_mem 575 (by decide +kernel) (by decide +kernel)
theorem w_573 : Cond.instanceMethod yX1_size ∈ tb := tb_mem 573 (by decide +kernel) (by decide +kernel)
theorem w_574 : Cond.selects RX1 yX1_size yX1_size ∈ tb := tb_mem 574 (by decide +kernel) (by decide +kernel)
theorem od_67 : okD yX1_size 0 := ⟨by decide +kernel, by decide +kernel, by decide +kernel⟩
theorem kX11_239 : CV RX11 239 yX1_size cX1_size 1 (some .int) 0 := ⟨w_575, w_572, w_573, w_574, w_55, od_67⟩
theorem w_576 : Cond.methodLink RX11 269 yX11_passing ∈ tb := tb_mem 576 (by decide +kernel) (by decide +kernel)
theorem w_579 : Cond.code yX11_passing cX11_passing 7 (some .int) ∈ tb := tb_mem 579 (by decide +kernel) (by decide +kernel)
theorem w_578 : Cond.instanceMethod yX11_passing ∈ tb := tb_mem 578 (by decide +kernel) (by decide +kernel)
theorem w_4 : Cond.selects RX11 yX11_passing yX11_passing ∈ tb := tb_mem 4 (by decide +kernel) (by decide +kernel)
theorem od_68 : okD yX11_passing 1 := ⟨by decide +kernel, by decide +kernel, by decide +kernel⟩
theorem kX11_269 : CV RX11 269 yX11_passing cX11_passing 7 (some .int) 1 := ⟨w_579, w_576, w_578, w_4, w_52, od_68⟩
theorem w_580 : Cond.methodLink RX11 272 yX2_open ∈ tb := tb_mem 580 (by decide +kernel) (by decide +kernel)
theorem w_583 : Cond.code yX2_open cX2_open 2 none ∈ tb := tb_mem 583 (by decide +kernel) (by decide +kernel)
theorem w_581 : Cond.instanceMethod yX2_open ∈ tb := tb_mem 581 (by decide +kernel) (by decide +kernel)
theorem w_582 : Cond.selects RX2 yX2_open yX2_open ∈ tb := tb_mem 582 (by decide +kernel) (by decide +kernel)
theorem w_56 : Cond.initialized RX2 ∈ tb := tb_mem 56 (by decide +kernel) (by decide +kernel)
theorem od_69 : okD yX2_open 0 := ⟨by decide +kernel, by decide +kernel, by decide +kernel⟩
theorem kX11_272 : CV RX11 272 yX2_open cX2_open 2 none 0 := ⟨w_583, w_580, w_581, w_582, w_56, od_69⟩
theorem w_584 : Cond.methodLink RX11 275 yX4_gap ∈ tb := tb_mem 584 (by decide +kernel) (by decide +kernel)
theorem kX11_275_4 : CU RX11 275 RX4 yX4_gap yX4_gap cX4_gap 3 (some .int) 2 := ⟨w_426, w_584, w_411, w_409, w_410, w_409, w_54, ⟨_, _, _, w_426⟩, od_33⟩
theorem kX11_275_0 : CU RX11 275 RX0 yX4_gap yX0_gap cX0_gap 4 (some .int) 2 := ⟨w_414, w_584, w_411, w_409, w_412, w_413, w_64, ⟨_, _, _, w_426⟩, od_33⟩
theorem kX11_275_3 : CU RX11 275 RX3 yX4_gap yX8_gap cX8_gap 3 (some .int) 2 := ⟨w_423, w_584, w_411, w_409, w_421, w_422, w_63, ⟨_, _, _, w_426⟩, od_33⟩
theorem kX11_275_5 : CU RX11 275 RX5 yX4_gap yX4_gap cX4_gap 3 (some .int) 2 := ⟨w_426, w_584, w_411, w_409, w_424, w_409, w_54, ⟨_, _, _, w_426⟩, od_33⟩
theorem kX11_275_8 : CU RX11 275 RX8 yX4_gap yX8_gap cX8_gap 3 (some .int) 2 := ⟨w_423, w_584, w_411, w_409, w_425, w_422, w_63, ⟨_, _, _, w_426⟩, od_33⟩
theorem w_585 : Cond.methodLink RX11 276 yX1_allows ∈ tb := tb_mem 585 (by decide +kernel) (by decide +kernel)
theorem kX11_276 : CV RX11 276 yX1_allows cX1_allows 4 (some .boolean) 3 := ⟨w_535, w_585, w_533, w_534, w_55, od_58⟩
theorem w_586 : Cond.methodLink RX11 279 yX1_binds ∈ tb := tb_mem 586 (by decide +kernel) (by decide +kernel)
theorem kX11_279 : CV RX11 279 yX1_binds cX1_binds 3 (some .boolean) 2 := ⟨w_547, w_586, w_545, w_546, w_55, od_61⟩
theorem w_587 : Cond.methodLink RX11 282 yX2_meet ∈ tb := tb_mem 587 (by decide +kernel) (by decide +kernel)
theorem w_590 : Cond.code yX2_meet cX2_meet 2 none ∈ tb := tb_mem 590 (by decide +kernel) (by decide +kernel)
theorem w_588 : Cond.instanceMethod yX2_meet ∈ tb := tb_mem 588 (by decide +kernel) (by decide +kernel)
theorem w_589 : Cond.selects RX2 yX2_meet yX2_meet ∈ tb := tb_mem 589 (by decide +kernel) (by decide +kernel)
theorem od_70 : okD yX2_meet 1 := ⟨by decide +kernel, by decide +kernel, by decide +kernel⟩
theorem kX11_282 : CV RX11 282 yX2_meet cX2_meet 2 none 1 := ⟨w_590, w_587, w_588, w_589, w_56, od_70⟩
theorem w_591 : Cond.methodLink RX11 285 yX2_close ∈ tb := tb_mem 591 (by decide +kernel) (by decide +kernel)
theorem w_594 : Cond.code yX2_close cX2_close 3 none ∈ tb := tb_mem 594 (by decide +kernel) (by decide +kernel)
theorem w_592 : Cond.instanceMethod yX2_close ∈ tb := tb_mem 592 (by decide +kernel) (by decide +kernel)
theorem w_593 : Cond.selects RX2 yX2_close yX2_close ∈ tb := tb_mem 593 (by decide +kernel) (by decide +kernel)
theorem od_71 : okD yX2_close 0 := ⟨by decide +kernel, by decide +kernel, by decide +kernel⟩
theorem kX11_285 : CV RX11 285 yX2_close cX2_close 3 none 0 := ⟨w_594, w_591, w_592, w_593, w_56, od_71⟩
theorem w_595 : Cond.methodLink RX11 288 yX1_farthest ∈ tb := tb_mem 595 (by decide +kernel) (by decide +kernel)
theorem kX11_288 : CV RX11 288 yX1_farthest cX1_farthest 3 (some .int) 1 := ⟨w_551, w_595, w_549, w_550, w_55, od_62⟩
theorem w_596 : Cond.methodLink RX11 291 yX2_upTo ∈ tb := tb_mem 596 (by decide +kernel) (by decide +kernel)
theorem w_599 : Cond.code yX2_upTo cX2_upTo 4 (some .int) ∈ tb := tb_mem 599 (by decide +kernel) (by decide +kernel)
theorem w_597 : Cond.instanceMethod yX2_upTo ∈ tb := tb_mem 597 (by decide +kernel) (by decide +kernel)
theorem w_598 : Cond.selects RX2 yX2_upTo yX2_upTo ∈ tb := tb_mem 598 (by decide +kernel) (by decide +kernel)
theorem od_72 : okD yX2_upTo 1 := ⟨by decide +kernel, by decide +kernel, by decide +kernel⟩
theorem kX11_291 : CV RX11 291 yX2_upTo cX2_upTo 4 (some .int) 1 := ⟨w_599, w_596, w_597, w_598, w_56, od_72⟩
theorem w_600 : Cond.methodLink RL 75 yX11_slips ∈ tb := tb_mem 600 (by decide +kernel) (by decide +kernel)
theorem w_603 : Cond.code yX11_slips cX11_slips 3 (some .int) ∈ tb := tb_mem 603 (by decide +kernel) (by decide +kernel)
theorem w_601 : Cond.instanceMethod yX11_slips ∈ tb := tb_mem 601 (by decide +kernel) (by decide +kernel)
theorem w_602 : Cond.selects RX11 yX11_slips yX11_slips ∈ tb := tb_mem 602 (by decide +kernel) (by decide +kernel)
theorem od_73 : okD yX11_slips 2 := ⟨by decide +kernel, by decide +kernel, by decide +kernel⟩
theorem kL_75 : CV RL 75 yX11_slips cX11_slips 3 (some .int) 2 := ⟨w_603, w_600, w_601, w_602, w_52, od_73⟩
theorem w_604 : Cond.methodLink RX11 189 yX9_fewestSlips ∈ tb := tb_mem 604 (by decide +kernel) (by decide +kernel)
theorem w_607 : Cond.code yX9_fewestSlips cX9_fewestSlips 7 (some .int) ∈ tb := tb_mem 607 (by decide +kernel) (by decide +kernel)
theorem w_605 : Cond.instanceMethod yX9_fewestSlips ∈ tb := tb_mem 605 (by decide +kernel) (by decide +kernel)
theorem w_606 : Cond.selects RX9 yX9_fewestSlips yX9_fewestSlips ∈ tb := tb_mem 606 (by decide +kernel) (by decide +kernel)
theorem od_74 : okD yX9_fewestSlips 3 := ⟨by decide +kernel, by decide +kernel, by decide +kernel⟩
theorem kX11_189 : CV RX11 189 yX9_fewestSlips cX9_fewestSlips 7 (some .int) 3 := ⟨w_607, w_604, w_605, w_606, w_57, od_74⟩
theorem w_608 : Cond.methodLink RX9 42 yX9_startRound ∈ tb := tb_mem 608 (by decide +kernel) (by decide +kernel)
theorem w_611 : Cond.code yX9_startRound cX9_startRound 1 none ∈ tb := tb_mem 611 (by decide +kernel) (by decide +kernel)
theorem w_610 : Cond.instanceMethod yX9_startRound ∈ tb := tb_mem 610 (by decide +kernel) (by decide +kernel)
theorem w_5 : Cond.selects RX9 yX9_startRound yX9_startRound ∈ tb := tb_mem 5 (by decide +kernel) (by decide +kernel)
theorem od_75 : okD yX9_startRound 0 := ⟨by decide +kernel, by decide +kernel, by decide +kernel⟩
theorem kX9_42 : CV RX9 42 yX9_startRound cX9_startRound 1 none 0 := ⟨w_611, w_608, w_610, w_5, w_57, od_75⟩
theorem w_612 : Cond.methodLink RX9 45 yX9_reach ∈ tb := tb_mem 612 (by decide +kernel) (by decide +kernel)
theorem w_615 : Cond.code yX9_reach cX9_reach 3 none ∈ tb := tb_mem 615 (by decide +kernel) (by decide +kernel)
theorem w_614 : Cond.instanceMethod yX9_reach ∈ tb := tb_mem 614 (by decide +kernel) (by decide +kernel)
theorem w_6 : Cond.selects RX9 yX9_reach yX9_reach ∈ tb := tb_mem 6 (by decide +kernel) (by decide +kernel)
theorem od_76 : okD yX9_reach 2 := ⟨by decide +kernel, by decide +kernel, by decide +kernel⟩
theorem kX9_45 : CV RX9 45 yX9_reach cX9_reach 3 none 2 := ⟨w_615, w_612, w_614, w_6, w_57, od_76⟩
theorem w_616 : Cond.methodLink RX9 49 yX9_slipFrom ∈ tb := tb_mem 616 (by decide +kernel) (by decide +kernel)
theorem w_619 : Cond.code yX9_slipFrom cX9_slipFrom 6 none ∈ tb := tb_mem 619 (by decide +kernel) (by decide +kernel)
theorem w_618 : Cond.instanceMethod yX9_slipFrom ∈ tb := tb_mem 618 (by decide +kernel) (by decide +kernel)
theorem w_7 : Cond.selects RX9 yX9_slipFrom yX9_slipFrom ∈ tb := tb_mem 7 (by decide +kernel) (by decide +kernel)
theorem od_77 : okD yX9_slipFrom 2 := ⟨by decide +kernel, by decide +kernel, by decide +kernel⟩
theorem kX9_49 : CV RX9 49 yX9_slipFrom cX9_slipFrom 6 none 2 := ⟨w_619, w_616, w_618, w_7, w_57, od_77⟩
theorem w_620 : Cond.methodLink RX9 56 yX6_size ∈ tb := tb_mem 620 (by decide +kernel) (by decide +kernel)
theorem kX9_56 : CV RX9 56 yX6_size cX6_size 1 (some .int) 0 := ⟨w_385, w_620, w_383, w_384, w_53, od_27⟩
theorem w_621 : Cond.methodLink RX9 61 yX6_slip ∈ tb := tb_mem 621 (by decide +kernel) (by decide +kernel)
theorem w_624 : Cond.code yX6_slip cX6_slip 7 (some .int) ∈ tb := tb_mem 624 (by decide +kernel) (by decide +kernel)
theorem w_622 : Cond.instanceMethod yX6_slip ∈ tb := tb_mem 622 (by decide +kernel) (by decide +kernel)
theorem w_623 : Cond.selects RX6 yX6_slip yX6_slip ∈ tb := tb_mem 623 (by decide +kernel) (by decide +kernel)
theorem od_78 : okD yX6_slip 3 := ⟨by decide +kernel, by decide +kernel, by decide +kernel⟩
theorem kX9_61 : CV RX9 61 yX6_slip cX6_slip 7 (some .int) 3 := ⟨w_624, w_621, w_622, w_623, w_53, od_78⟩
theorem w_625 : Cond.methodLink RX6 30 yX6_has ∈ tb := tb_mem 625 (by decide +kernel) (by decide +kernel)
theorem kX6_30 : CV RX6 30 yX6_has cX6_has 2 (some .boolean) 1 := ⟨w_330, w_625, w_328, w_329, w_53, od_16⟩
theorem w_626 : Cond.methodLink RX6 34 yX4_slipped ∈ tb := tb_mem 626 (by decide +kernel) (by decide +kernel)
theorem w_629 : Cond.sameMethod RX4 RX4 "slipped" "(II)I" ∈ tb := tb_mem 629 (by decide +kernel) (by decide +kernel)
theorem w_634 : Cond.code yX4_slipped cX4_slipped 4 (some .int) ∈ tb := tb_mem 634 (by decide +kernel) (by decide +kernel)
theorem w_627 : Cond.instanceMethod yX4_slipped ∈ tb := tb_mem 627 (by decide +kernel) (by decide +kernel)
theorem od_79 : okD yX4_slipped 2 := ⟨by decide +kernel, by decide +kernel, by decide +kernel⟩
theorem w_628 : Cond.selects RX4 yX4_slipped yX4_slipped ∈ tb := tb_mem 628 (by decide +kernel) (by decide +kernel)
theorem kX6_34_4 : CU RX6 34 RX4 yX4_slipped yX4_slipped cX4_slipped 4 (some .int) 2 := ⟨w_634, w_626, w_629, w_627, w_628, w_627, w_54, ⟨_, _, _, w_634⟩, od_79⟩
theorem w_630 : Cond.selects RX0 yX4_slipped yX0_slipped ∈ tb := tb_mem 630 (by decide +kernel) (by decide +kernel)
theorem kX6_34_0 : CU RX6 34 RX0 yX4_slipped yX0_slipped cX0_slipped 3 (some .int) 2 := ⟨w_446, w_626, w_629, w_627, w_630, w_444, w_64, ⟨_, _, _, w_634⟩, od_79⟩
theorem w_631 : Cond.selects RX3 yX4_slipped yX4_slipped ∈ tb := tb_mem 631 (by decide +kernel) (by decide +kernel)
theorem kX6_34_3 : CU RX6 34 RX3 yX4_slipped yX4_slipped cX4_slipped 4 (some .int) 2 := ⟨w_634, w_626, w_629, w_627, w_631, w_627, w_54, ⟨_, _, _, w_634⟩, od_79⟩
theorem w_632 : Cond.selects RX5 yX4_slipped yX4_slipped ∈ tb := tb_mem 632 (by decide +kernel) (by decide +kernel)
theorem kX6_34_5 : CU RX6 34 RX5 yX4_slipped yX4_slipped cX4_slipped 4 (some .int) 2 := ⟨w_634, w_626, w_629, w_627, w_632, w_627, w_54, ⟨_, _, _, w_634⟩, od_79⟩
theorem w_633 : Cond.selects RX8 yX4_slipped yX4_slipped ∈ tb := tb_mem 633 (by decide +kernel) (by decide +kernel)
theorem kX6_34_8 : CU RX6 34 RX8 yX4_slipped yX4_slipped cX4_slipped 4 (some .int) 2 := ⟨w_634, w_626, w_629, w_627, w_633, w_627, w_54, ⟨_, _, _, w_634⟩, od_79⟩
theorem w_635 : Cond.methodLink RX9 65 yX1_agrees ∈ tb := tb_mem 635 (by decide +kernel) (by decide +kernel)
theorem kX9_65 : CV RX9 65 yX1_agrees cX1_agrees 4 (some .boolean) 3 := ⟨w_461, w_635, w_459, w_460, w_55, od_41⟩
theorem w_636 : Cond.methodLink RX9 52 yX9_isReached ∈ tb := tb_mem 636 (by decide +kernel) (by decide +kernel)
theorem w_639 : Cond.code yX9_isReached cX9_isReached 2 (some .boolean) ∈ tb := tb_mem 639 (by decide +kernel) (by decide +kernel)
theorem w_638 : Cond.instanceMethod yX9_isReached ∈ tb := tb_mem 638 (by decide +kernel) (by decide +kernel)
theorem w_8 : Cond.selects RX9 yX9_isReached yX9_isReached ∈ tb := tb_mem 8 (by decide +kernel) (by decide +kernel)
theorem od_80 : okD yX9_isReached 1 := ⟨by decide +kernel, by decide +kernel, by decide +kernel⟩
theorem kX9_52 : CV RX9 52 yX9_isReached cX9_isReached 2 (some .boolean) 1 := ⟨w_639, w_636, w_638, w_8, w_57, od_80⟩
theorem w_640 : Cond.methodLink RL 79 yX11_truth ∈ tb := tb_mem 640 (by decide +kernel) (by decide +kernel)
theorem w_643 : Cond.code yX11_truth cX11_truth 2 (some .int) ∈ tb := tb_mem 643 (by decide +kernel) (by decide +kernel)
theorem w_641 : Cond.instanceMethod yX11_truth ∈ tb := tb_mem 641 (by decide +kernel) (by decide +kernel)
theorem w_642 : Cond.selects RX11 yX11_truth yX11_truth ∈ tb := tb_mem 642 (by decide +kernel) (by decide +kernel)
theorem od_81 : okD yX11_truth 1 := ⟨by decide +kernel, by decide +kernel, by decide +kernel⟩
theorem kL_79 : CV RL 79 yX11_truth cX11_truth 2 (some .int) 1 := ⟨w_643, w_640, w_641, w_642, w_52, od_81⟩
theorem w_644 : Cond.methodLink RX11 192 yX9_seekTruth ∈ tb := tb_mem 644 (by decide +kernel) (by decide +kernel)
theorem w_647 : Cond.code yX9_seekTruth cX9_seekTruth 5 none ∈ tb := tb_mem 647 (by decide +kernel) (by decide +kernel)
theorem w_645 : Cond.instanceMethod yX9_seekTruth ∈ tb := tb_mem 645 (by decide +kernel) (by decide +kernel)
theorem w_646 : Cond.selects RX9 yX9_seekTruth yX9_seekTruth ∈ tb := tb_mem 646 (by decide +kernel) (by decide +kernel)
theorem od_82 : okD yX9_seekTruth 2 := ⟨by decide +kernel, by decide +kernel, by decide +kernel⟩
theorem kX11_192 : CV RX11 192 yX9_seekTruth cX9_seekTruth 5 none 2 := ⟨w_647, w_644, w_645, w_646, w_57, od_82⟩
theorem w_648 : Cond.methodLink RX9 71 yX6_aged ∈ tb := tb_mem 648 (by decide +kernel) (by decide +kernel)
theorem kX9_71 : CV RX9 71 yX6_aged cX6_aged 4 (some .int) 1 := ⟨w_435, w_648, w_433, w_434, w_53, od_37⟩
theorem w_649 : Cond.methodLink RX9 75 yX9_passYear ∈ tb := tb_mem 649 (by decide +kernel) (by decide +kernel)
theorem w_652 : Cond.code yX9_passYear cX9_passYear 10 none ∈ tb := tb_mem 652 (by decide +kernel) (by decide +kernel)
theorem w_651 : Cond.instanceMethod yX9_passYear ∈ tb := tb_mem 651 (by decide +kernel) (by decide +kernel)
theorem w_9 : Cond.selects RX9 yX9_passYear yX9_passYear ∈ tb := tb_mem 9 (by decide +kernel) (by decide +kernel)
theorem od_83 : okD yX9_passYear 2 := ⟨by decide +kernel, by decide +kernel, by decide +kernel⟩
theorem kX9_75 : CV RX9 75 yX9_passYear cX9_passYear 10 none 2 := ⟨w_652, w_649, w_651, w_9, w_57, od_83⟩
theorem w_653 : Cond.methodLink RX9 82 yX6_sizeIn ∈ tb := tb_mem 653 (by decide +kernel) (by decide +kernel)
theorem kX9_82 : CS RX9 82 yX6_sizeIn cX6_sizeIn 2 (some .int) 2 := ⟨w_358, w_653, w_357, w_53, od_20⟩
theorem w_654 : Cond.methodLink RX9 86 yX6_with ∈ tb := tb_mem 654 (by decide +kernel) (by decide +kernel)
theorem kX9_86 : CV RX9 86 yX6_with cX6_with 5 (some .int) 3 := ⟨w_320, w_654, w_318, w_319, w_53, od_14⟩
theorem w_655 : Cond.methodLink RX9 79 yX9_firstOf ∈ tb := tb_mem 655 (by decide +kernel) (by decide +kernel)
theorem w_658 : Cond.code yX9_firstOf cX9_firstOf 4 (some .int) ∈ tb := tb_mem 658 (by decide +kernel) (by decide +kernel)
theorem w_657 : Cond.instanceMethod yX9_firstOf ∈ tb := tb_mem 657 (by decide +kernel) (by decide +kernel)
theorem w_10 : Cond.selects RX9 yX9_firstOf yX9_firstOf ∈ tb := tb_mem 10 (by decide +kernel) (by decide +kernel)
theorem od_84 : okD yX9_firstOf 1 := ⟨by decide +kernel, by decide +kernel, by decide +kernel⟩
theorem kX9_79 : CV RX9 79 yX9_firstOf cX9_firstOf 4 (some .int) 1 := ⟨w_658, w_655, w_657, w_10, w_57, od_84⟩
theorem w_659 : Cond.methodLink RX11 196 yX9_trueYears ∈ tb := tb_mem 659 (by decide +kernel) (by decide +kernel)
theorem w_662 : Cond.code yX9_trueYears cX9_trueYears 1 (some .int) ∈ tb := tb_mem 662 (by decide +kernel) (by decide +kernel)
theorem w_660 : Cond.instanceMethod yX9_trueYears ∈ tb := tb_mem 660 (by decide +kernel) (by decide +kernel)
theorem w_661 : Cond.selects RX9 yX9_trueYears yX9_trueYears ∈ tb := tb_mem 661 (by decide +kernel) (by decide +kernel)
theorem od_85 : okD yX9_trueYears 0 := ⟨by decide +kernel, by decide +kernel, by decide +kernel⟩
theorem kX11_196 : CV RX11 196 yX9_trueYears cX9_trueYears 1 (some .int) 0 := ⟨w_662, w_659, w_660, w_661, w_57, od_85⟩
theorem w_663 : Cond.methodLink RX11 199 yX9_firstTrue ∈ tb := tb_mem 663 (by decide +kernel) (by decide +kernel)
theorem w_666 : Cond.code yX9_firstTrue cX9_firstTrue 1 (some .int) ∈ tb := tb_mem 666 (by decide +kernel) (by decide +kernel)
theorem w_664 : Cond.instanceMethod yX9_firstTrue ∈ tb := tb_mem 664 (by decide +kernel) (by decide +kernel)
theorem w_665 : Cond.selects RX9 yX9_firstTrue yX9_firstTrue ∈ tb := tb_mem 665 (by decide +kernel) (by decide +kernel)
theorem od_86 : okD yX9_firstTrue 0 := ⟨by decide +kernel, by decide +kernel, by decide +kernel⟩
theorem kX11_199 : CV RX11 199 yX9_firstTrue cX9_firstTrue 1 (some .int) 0 := ⟨w_666, w_663, w_664, w_665, w_57, od_86⟩
theorem w_667 : Cond.methodLink RL 83 yX11_copies ∈ tb := tb_mem 667 (by decide +kernel) (by decide +kernel)
theorem w_670 : Cond.code yX11_copies cX11_copies 4 (some .int) ∈ tb := tb_mem 670 (by decide +kernel) (by decide +kernel)
theorem w_668 : Cond.instanceMethod yX11_copies ∈ tb := tb_mem 668 (by decide +kernel) (by decide +kernel)
theorem w_669 : Cond.selects RX11 yX11_copies yX11_copies ∈ tb := tb_mem 669 (by decide +kernel) (by decide +kernel)
theorem od_87 : okD yX11_copies 3 := ⟨by decide +kernel, by decide +kernel, by decide +kernel⟩
theorem kL_83 : CV RL 83 yX11_copies cX11_copies 4 (some .int) 3 := ⟨w_670, w_667, w_668, w_669, w_52, od_87⟩
theorem w_671 : Cond.methodLink RX11 202 yX11_copied ∈ tb := tb_mem 671 (by decide +kernel) (by decide +kernel)
theorem w_674 : Cond.code yX11_copied cX11_copied 11 (some .int) ∈ tb := tb_mem 674 (by decide +kernel) (by decide +kernel)
theorem w_673 : Cond.instanceMethod yX11_copied ∈ tb := tb_mem 673 (by decide +kernel) (by decide +kernel)
theorem w_11 : Cond.selects RX11 yX11_copied yX11_copied ∈ tb := tb_mem 11 (by decide +kernel) (by decide +kernel)
theorem od_88 : okD yX11_copied 3 := ⟨by decide +kernel, by decide +kernel, by decide +kernel⟩
theorem kX11_202 : CV RX11 202 yX11_copied cX11_copied 11 (some .int) 3 := ⟨w_674, w_671, w_673, w_11, w_52, od_88⟩
theorem w_675 : Cond.methodLink RX11 295 yX11_nextSeed ∈ tb := tb_mem 675 (by decide +kernel) (by decide +kernel)
theorem w_677 : Cond.code yX11_nextSeed cX11_nextSeed 1 (some .int) ∈ tb := tb_mem 677 (by decide +kernel) (by decide +kernel)
theorem w_676 : Cond.static yX11_nextSeed ∈ tb := tb_mem 676 (by decide +kernel) (by decide +kernel)
theorem od_89 : okD yX11_nextSeed 1 := ⟨by decide +kernel, by decide +kernel, by decide +kernel⟩
theorem kX11_295 : CS RX11 295 yX11_nextSeed cX11_nextSeed 1 (some .int) 1 := ⟨w_677, w_675, w_676, w_52, od_89⟩
theorem w_681 : Cond.methodLink RX11 298 yX11_drawn ∈ tb := tb_mem 681 (by decide +kernel) (by decide +kernel)
theorem w_683 : Cond.code yX11_drawn cX11_drawn 2 (some .int) ∈ tb := tb_mem 683 (by decide +kernel) (by decide +kernel)
theorem w_682 : Cond.static yX11_drawn ∈ tb := tb_mem 682 (by decide +kernel) (by decide +kernel)
theorem od_90 : okD yX11_drawn 2 := ⟨by decide +kernel, by decide +kernel, by decide +kernel⟩
theorem kX11_298 : CS RX11 298 yX11_drawn cX11_drawn 2 (some .int) 2 := ⟨w_683, w_681, w_682, w_52, od_90⟩
theorem w_685 : Cond.methodLink RX11 301 yX6_slip ∈ tb := tb_mem 685 (by decide +kernel) (by decide +kernel)
theorem kX11_301 : CV RX11 301 yX6_slip cX6_slip 7 (some .int) 3 := ⟨w_624, w_685, w_622, w_623, w_53, od_78⟩
theorem w_686 : Cond.methodLink RL 88 yX11_back ∈ tb := tb_mem 686 (by decide +kernel) (by decide +kernel)
theorem w_689 : Cond.code yX11_back cX11_back 2 (some .int) ∈ tb := tb_mem 689 (by decide +kernel) (by decide +kernel)
theorem w_687 : Cond.instanceMethod yX11_back ∈ tb := tb_mem 687 (by decide +kernel) (by decide +kernel)
theorem w_688 : Cond.selects RX11 yX11_back yX11_back ∈ tb := tb_mem 688 (by decide +kernel) (by decide +kernel)
theorem od_91 : okD yX11_back 1 := ⟨by decide +kernel, by decide +kernel, by decide +kernel⟩
theorem kL_88 : CV RL 88 yX11_back cX11_back 2 (some .int) 1 := ⟨w_689, w_686, w_687, w_688, w_52, od_91⟩
theorem w_690 : Cond.methodLink RX11 205 yX6_steps ∈ tb := tb_mem 690 (by decide +kernel) (by decide +kernel)
theorem w_693 : Cond.code yX6_steps cX6_steps 5 (some .int) ∈ tb := tb_mem 693 (by decide +kernel) (by decide +kernel)
theorem w_691 : Cond.instanceMethod yX6_steps ∈ tb := tb_mem 691 (by decide +kernel) (by decide +kernel)
theorem w_692 : Cond.selects RX6 yX6_steps yX6_steps ∈ tb := tb_mem 692 (by decide +kernel) (by decide +kernel)
theorem od_92 : okD yX6_steps 2 := ⟨by decide +kernel, by decide +kernel, by decide +kernel⟩
theorem kX11_205 : CV RX11 205 yX6_steps cX6_steps 5 (some .int) 2 := ⟨w_693, w_690, w_691, w_692, w_53, od_92⟩
theorem w_694 : Cond.methodLink RX6 48 yX4_steps ∈ tb := tb_mem 694 (by decide +kernel) (by decide +kernel)
theorem w_697 : Cond.sameMethod RX4 RX4 "steps" "(II)I" ∈ tb := tb_mem 697 (by decide +kernel) (by decide +kernel)
theorem w_705 : Cond.code yX4_steps cX4_steps 3 (some .int) ∈ tb := tb_mem 705 (by decide +kernel) (by decide +kernel)
theorem w_695 : Cond.instanceMethod yX4_steps ∈ tb := tb_mem 695 (by decide +kernel) (by decide +kernel)
theorem od_93 : okD yX4_steps 2 := ⟨by decide +kernel, by decide +kernel, by decide +kernel⟩
theorem w_696 : Cond.selects RX4 yX4_steps yX4_steps ∈ tb := tb_mem 696 (by decide +kernel) (by decide +kernel)
theorem kX6_48_4 : CU RX6 48 RX4 yX4_steps yX4_steps cX4_steps 3 (some .int) 2 := ⟨w_705, w_694, w_697, w_695, w_696, w_695, w_54, ⟨_, _, _, w_705⟩, od_93⟩
theorem w_700 : Cond.code yX0_steps cX0_steps 3 (some .int) ∈ tb := tb_mem 700 (by decide +kernel) (by decide +kernel)
theorem w_698 : Cond.selects RX0 yX4_steps yX0_steps ∈ tb := tb_mem 698 (by decide +kernel) (by decide +kernel)
theorem w_699 : Cond.instanceMethod yX0_steps ∈ tb := tb_mem 699 (by decide +kernel) (by decide +kernel)
theorem kX6_48_0 : CU RX6 48 RX0 yX4_steps yX0_steps cX0_steps 3 (some .int) 2 := ⟨w_700, w_694, w_697, w_695, w_698, w_699, w_64, ⟨_, _, _, w_705⟩, od_93⟩
theorem w_702 : Cond.selects RX3 yX4_steps yX4_steps ∈ tb := tb_mem 702 (by decide +kernel) (by decide +kernel)
theorem kX6_48_3 : CU RX6 48 RX3 yX4_steps yX4_steps cX4_steps 3 (some .int) 2 := ⟨w_705, w_694, w_697, w_695, w_702, w_695, w_54, ⟨_, _, _, w_705⟩, od_93⟩
theorem w_703 : Cond.selects RX5 yX4_steps yX4_steps ∈ tb := tb_mem 703 (by decide +kernel) (by decide +kernel)
theorem kX6_48_5 : CU RX6 48 RX5 yX4_steps yX4_steps cX4_steps 3 (some .int) 2 := ⟨w_705, w_694, w_697, w_695, w_703, w_695, w_54, ⟨_, _, _, w_705⟩, od_93⟩
theorem w_704 : Cond.selects RX8 yX4_steps yX4_steps ∈ tb := tb_mem 704 (by decide +kernel) (by decide +kernel)
theorem kX6_48_8 : CU RX6 48 RX8 yX4_steps yX4_steps cX4_steps 3 (some .int) 2 := ⟨w_705, w_694, w_697, w_695, w_704, w_695, w_54, ⟨_, _, _, w_705⟩, od_93⟩
theorem w_701 : Cond.methodLink RX0 24 yX0_gap ∈ tb := tb_mem 701 (by decide +kernel) (by decide +kernel)
theorem w_1162 : Cond.selects RX0 yX0_gap yX0_gap ∈ tb := tb_mem 1162 (by decide +kernel) (by decide +kernel)
theorem od_94 : okD yX0_gap 2 := ⟨by decide +kernel, by decide +kernel, by decide +kernel⟩
theorem kX0_24 : CV RX0 24 yX0_gap cX0_gap 4 (some .int) 2 := ⟨w_414, w_701, w_413, w_1162, w_64, od_94⟩
theorem w_706 : Cond.methodLink RL 92 yX11_span ∈ tb := tb_mem 706 (by decide +kernel) (by decide +kernel)
theorem w_709 : Cond.code yX11_span cX11_span 2 (some .int) ∈ tb := tb_mem 709 (by decide +kernel) (by decide +kernel)
theorem w_707 : Cond.instanceMethod yX11_span ∈ tb := tb_mem 707 (by decide +kernel) (by decide +kernel)
theorem w_708 : Cond.selects RX11 yX11_span yX11_span ∈ tb := tb_mem 708 (by decide +kernel) (by decide +kernel)
theorem od_95 : okD yX11_span 1 := ⟨by decide +kernel, by decide +kernel, by decide +kernel⟩
theorem kL_92 : CV RL 92 yX11_span cX11_span 2 (some .int) 1 := ⟨w_709, w_706, w_707, w_708, w_52, od_95⟩
theorem w_710 : Cond.methodLink RX11 208 yX11_within ∈ tb := tb_mem 710 (by decide +kernel) (by decide +kernel)
theorem w_713 : Cond.code yX11_within cX11_within 6 (some .int) ∈ tb := tb_mem 713 (by decide +kernel) (by decide +kernel)
theorem w_712 : Cond.instanceMethod yX11_within ∈ tb := tb_mem 712 (by decide +kernel) (by decide +kernel)
theorem w_12 : Cond.selects RX11 yX11_within yX11_within ∈ tb := tb_mem 12 (by decide +kernel) (by decide +kernel)
theorem od_96 : okD yX11_within 1 := ⟨by decide +kernel, by decide +kernel, by decide +kernel⟩
theorem kX11_208 : CV RX11 208 yX11_within cX11_within 6 (some .int) 1 := ⟨w_713, w_710, w_712, w_12, w_52, od_96⟩
theorem w_714 : Cond.methodLink RX11 294 yX4_steps ∈ tb := tb_mem 714 (by decide +kernel) (by decide +kernel)
theorem kX11_294_4 : CU RX11 294 RX4 yX4_steps yX4_steps cX4_steps 3 (some .int) 2 := ⟨w_705, w_714, w_697, w_695, w_696, w_695, w_54, ⟨_, _, _, w_705⟩, od_93⟩
theorem kX11_294_0 : CU RX11 294 RX0 yX4_steps yX0_steps cX0_steps 3 (some .int) 2 := ⟨w_700, w_714, w_697, w_695, w_698, w_699, w_64, ⟨_, _, _, w_705⟩, od_93⟩
theorem kX11_294_3 : CU RX11 294 RX3 yX4_steps yX4_steps cX4_steps 3 (some .int) 2 := ⟨w_705, w_714, w_697, w_695, w_702, w_695, w_54, ⟨_, _, _, w_705⟩, od_93⟩
theorem kX11_294_5 : CU RX11 294 RX5 yX4_steps yX4_steps cX4_steps 3 (some .int) 2 := ⟨w_705, w_714, w_697, w_695, w_703, w_695, w_54, ⟨_, _, _, w_705⟩, od_93⟩
theorem kX11_294_8 : CU RX11 294 RX8 yX4_steps yX4_steps cX4_steps 3 (some .int) 2 := ⟨w_705, w_714, w_697, w_695, w_704, w_695, w_54, ⟨_, _, _, w_705⟩, od_93⟩
theorem w_715 : Cond.methodLink RL 96 yX11_person ∈ tb := tb_mem 715 (by decide +kernel) (by decide +kernel)
theorem w_718 : Cond.code yX11_person cX11_person 3 (some .int) ∈ tb := tb_mem 718 (by decide +kernel) (by decide +kernel)
theorem w_716 : Cond.instanceMethod yX11_person ∈ tb := tb_mem 716 (by decide +kernel) (by decide +kernel)
theorem w_717 : Cond.selects RX11 yX11_person yX11_person ∈ tb := tb_mem 717 (by decide +kernel) (by decide +kernel)
theorem od_97 : okD yX11_person 1 := ⟨by decide +kernel, by decide +kernel, by decide +kernel⟩
theorem kL_96 : CV RL 96 yX11_person cX11_person 3 (some .int) 1 := ⟨w_718, w_715, w_716, w_717, w_52, od_97⟩
theorem w_719 : Cond.methodLink RX11 211 yX11_refusalOf ∈ tb := tb_mem 719 (by decide +kernel) (by decide +kernel)
theorem w_722 : Cond.code yX11_refusalOf cX11_refusalOf 3 (some .int) ∈ tb := tb_mem 722 (by decide +kernel) (by decide +kernel)
theorem w_721 : Cond.instanceMethod yX11_refusalOf ∈ tb := tb_mem 721 (by decide +kernel) (by decide +kernel)
theorem w_13 : Cond.selects RX11 yX11_refusalOf yX11_refusalOf ∈ tb := tb_mem 13 (by decide +kernel) (by decide +kernel)
theorem od_98 : okD yX11_refusalOf 2 := ⟨by decide +kernel, by decide +kernel, by decide +kernel⟩
theorem kX11_211 : CV RX11 211 yX11_refusalOf cX11_refusalOf 3 (some .int) 2 := ⟨w_722, w_719, w_721, w_13, w_52, od_98⟩
theorem w_723 : Cond.methodLink RL 100 yX11_gate ∈ tb := tb_mem 723 (by decide +kernel) (by decide +kernel)
theorem w_726 : Cond.code yX11_gate cX11_gate 1 (some .int) ∈ tb := tb_mem 726 (by decide +kernel) (by decide +kernel)
theorem w_724 : Cond.instanceMethod yX11_gate ∈ tb := tb_mem 724 (by decide +kernel) (by decide +kernel)
theorem w_725 : Cond.selects RX11 yX11_gate yX11_gate ∈ tb := tb_mem 725 (by decide +kernel) (by decide +kernel)
theorem od_99 : okD yX11_gate 0 := ⟨by decide +kernel, by decide +kernel, by decide +kernel⟩
theorem kL_100 : CV RL 100 yX11_gate cX11_gate 1 (some .int) 0 := ⟨w_726, w_723, w_724, w_725, w_52, od_99⟩
theorem w_727 : Cond.methodLink RX11 215 yX11_takenForKing ∈ tb := tb_mem 727 (by decide +kernel) (by decide +kernel)
theorem w_730 : Cond.code yX11_takenForKing cX11_takenForKing 9 (some .int) ∈ tb := tb_mem 730 (by decide +kernel) (by decide +kernel)
theorem w_729 : Cond.instanceMethod yX11_takenForKing ∈ tb := tb_mem 729 (by decide +kernel) (by decide +kernel)
theorem w_14 : Cond.selects RX11 yX11_takenForKing yX11_takenForKing ∈ tb := tb_mem 14 (by decide +kernel) (by decide +kernel)
theorem od_100 : okD yX11_takenForKing 0 := ⟨by decide +kernel, by decide +kernel, by decide +kernel⟩
theorem kX11_215 : CV RX11 215 yX11_takenForKing cX11_takenForKing 9 (some .int) 0 := ⟨w_730, w_727, w_729, w_14, w_52, od_100⟩
theorem w_731 : Cond.methodLink RL 104 yX11_heap ∈ tb := tb_mem 731 (by decide +kernel) (by decide +kernel)
theorem w_734 : Cond.code yX11_heap cX11_heap 3 (some .int) ∈ tb := tb_mem 734 (by decide +kernel) (by decide +kernel)
theorem w_732 : Cond.instanceMethod yX11_heap ∈ tb := tb_mem 732 (by decide +kernel) (by decide +kernel)
theorem w_733 : Cond.selects RX11 yX11_heap yX11_heap ∈ tb := tb_mem 733 (by decide +kernel) (by decide +kernel)
theorem od_101 : okD yX11_heap 1 := ⟨by decide +kernel, by decide +kernel, by decide +kernel⟩
theorem kL_104 : CV RL 104 yX11_heap cX11_heap 3 (some .int) 1 := ⟨w_734, w_731, w_732, w_733, w_52, od_101⟩
theorem w_735 : Cond.methodLink RL 108 yX11_order ∈ tb := tb_mem 735 (by decide +kernel) (by decide +kernel)
theorem w_738 : Cond.code yX11_order cX11_order 2 (some .int) ∈ tb := tb_mem 738 (by decide +kernel) (by decide +kernel)
theorem w_736 : Cond.instanceMethod yX11_order ∈ tb := tb_mem 736 (by decide +kernel) (by decide +kernel)
theorem w_737 : Cond.selects RX11 yX11_order yX11_order ∈ tb := tb_mem 737 (by decide +kernel) (by decide +kernel)
theorem od_102 : okD yX11_order 1 := ⟨by decide +kernel, by decide +kernel, by decide +kernel⟩
theorem kL_108 : CV RL 108 yX11_order cX11_order 2 (some .int) 1 := ⟨w_738, w_735, w_736, w_737, w_52, od_102⟩
theorem w_739 : Cond.methodLink RX11 218 yX10_sort ∈ tb := tb_mem 739 (by decide +kernel) (by decide +kernel)
theorem w_742 : Cond.code yX10_sort cX10_sort 4 none ∈ tb := tb_mem 742 (by decide +kernel) (by decide +kernel)
theorem w_740 : Cond.instanceMethod yX10_sort ∈ tb := tb_mem 740 (by decide +kernel) (by decide +kernel)
theorem w_741 : Cond.selects RX10 yX10_sort yX10_sort ∈ tb := tb_mem 741 (by decide +kernel) (by decide +kernel)
theorem od_103 : okD yX10_sort 1 := ⟨by decide +kernel, by decide +kernel, by decide +kernel⟩
theorem kX11_218 : CV RX11 218 yX10_sort cX10_sort 4 none 1 := ⟨w_742, w_739, w_740, w_741, w_58, od_103⟩
theorem w_743 : Cond.methodLink RX10 32 yX7_size ∈ tb := tb_mem 743 (by decide +kernel) (by decide +kernel)
theorem kX10_32 : CV RX10 32 yX7_size cX7_size 1 (some .int) 0 := ⟨w_274, w_743, w_272, w_273, w_59, od_10⟩
theorem w_744 : Cond.methodLink RX10 37 yJ9_min_7cf53 ∈ tb := tb_mem 744 (by decide +kernel) (by decide +kernel)
theorem kX10_37 : CS RX10 37 yJ9_min_7cf53 cJ9_min_7cf53 2 (some .int) 2 := ⟨w_420, w_744, w_419, w_60, od_35⟩
theorem w_745 : Cond.methodLink RX10 43 yX7_get ∈ tb := tb_mem 745 (by decide +kernel) (by decide +kernel)
theorem kX10_43 : CV RX10 43 yX7_get cX7_get 2 (some .int) 1 := ⟨w_366, w_745, w_364, w_365, w_59, od_22⟩
theorem w_746 : Cond.methodLink RX10 47 yX6_gap ∈ tb := tb_mem 746 (by decide +kernel) (by decide +kernel)
theorem kX10_47 : CV RX10 47 yX6_gap cX6_gap 5 (some .int) 2 := ⟨w_405, w_746, w_403, w_404, w_53, od_32⟩
theorem w_747 : Cond.methodLink RX10 52 yX10_tryPlaces ∈ tb := tb_mem 747 (by decide +kernel) (by decide +kernel)
theorem w_750 : Cond.code yX10_tryPlaces cX10_tryPlaces 6 none ∈ tb := tb_mem 750 (by decide +kernel) (by decide +kernel)
theorem w_749 : Cond.instanceMethod yX10_tryPlaces ∈ tb := tb_mem 749 (by decide +kernel) (by decide +kernel)
theorem w_15 : Cond.selects RX10 yX10_tryPlaces yX10_tryPlaces ∈ tb := tb_mem 15 (by decide +kernel) (by decide +kernel)
theorem od_104 : okD yX10_tryPlaces 3 := ⟨by decide +kernel, by decide +kernel, by decide +kernel⟩
theorem kX10_52 : CV RX10 52 yX10_tryPlaces cX10_tryPlaces 6 none 3 := ⟨w_750, w_747, w_749, w_15, w_58, od_104⟩
theorem w_754 : Cond.methodLink RX11 222 yX10_cost ∈ tb := tb_mem 754 (by decide +kernel) (by decide +kernel)
theorem w_757 : Cond.code yX10_cost cX10_cost 1 (some .int) ∈ tb := tb_mem 757 (by decide +kernel) (by decide +kernel)
theorem w_755 : Cond.instanceMethod yX10_cost ∈ tb := tb_mem 755 (by decide +kernel) (by decide +kernel)
theorem w_756 : Cond.selects RX10 yX10_cost yX10_cost ∈ tb := tb_mem 756 (by decide +kernel) (by decide +kernel)
theorem od_105 : okD yX10_cost 0 := ⟨by decide +kernel, by decide +kernel, by decide +kernel⟩
theorem kX11_222 : CV RX11 222 yX10_cost cX10_cost 1 (some .int) 0 := ⟨w_757, w_754, w_755, w_756, w_58, od_105⟩
theorem w_758 : Cond.methodLink RX11 225 yX10_place ∈ tb := tb_mem 758 (by decide +kernel) (by decide +kernel)
theorem w_761 : Cond.code yX10_place cX10_place 2 (some .int) ∈ tb := tb_mem 761 (by decide +kernel) (by decide +kernel)
theorem w_759 : Cond.instanceMethod yX10_place ∈ tb := tb_mem 759 (by decide +kernel) (by decide +kernel)
theorem w_760 : Cond.selects RX10 yX10_place yX10_place ∈ tb := tb_mem 760 (by decide +kernel) (by decide +kernel)
theorem od_106 : okD yX10_place 1 := ⟨by decide +kernel, by decide +kernel, by decide +kernel⟩
theorem kX11_225 : CV RX11 225 yX10_place cX10_place 2 (some .int) 1 := ⟨w_761, w_758, w_759, w_760, w_58, od_106⟩
theorem w_762 : Cond.methodLink RL 112 yX11_image ∈ tb := tb_mem 762 (by decide +kernel) (by decide +kernel)
theorem w_765 : Cond.code yX11_image cX11_image 1 (some .int) ∈ tb := tb_mem 765 (by decide +kernel) (by decide +kernel)
theorem w_763 : Cond.instanceMethod yX11_image ∈ tb := tb_mem 763 (by decide +kernel) (by decide +kernel)
theorem w_764 : Cond.selects RX11 yX11_image yX11_image ∈ tb := tb_mem 764 (by decide +kernel) (by decide +kernel)
theorem od_107 : okD yX11_image 0 := ⟨by decide +kernel, by decide +kernel, by decide +kernel⟩
theorem kL_112 : CV RL 112 yX11_image cX11_image 1 (some .int) 0 := ⟨w_765, w_762, w_763, w_764, w_52, od_107⟩
theorem w_766 : Cond.methodLink RL 116 yX11_restore ∈ tb := tb_mem 766 (by decide +kernel) (by decide +kernel)
theorem w_769 : Cond.code yX11_restore cX11_restore 1 (some .int) ∈ tb := tb_mem 769 (by decide +kernel) (by decide +kernel)
theorem w_767 : Cond.instanceMethod yX11_restore ∈ tb := tb_mem 767 (by decide +kernel) (by decide +kernel)
theorem w_768 : Cond.selects RX11 yX11_restore yX11_restore ∈ tb := tb_mem 768 (by decide +kernel) (by decide +kernel)
theorem od_108 : okD yX11_restore 0 := ⟨by decide +kernel, by decide +kernel, by decide +kernel⟩
theorem kL_116 : CV RL 116 yX11_restore cX11_restore 1 (some .int) 0 := ⟨w_769, w_766, w_767, w_768, w_52, od_108⟩
theorem w_770 : Cond.methodLink RL 120 yX11_count ∈ tb := tb_mem 770 (by decide +kernel) (by decide +kernel)
theorem w_773 : Cond.code yX11_count cX11_count 2 (some .int) ∈ tb := tb_mem 773 (by decide +kernel) (by decide +kernel)
theorem w_771 : Cond.instanceMethod yX11_count ∈ tb := tb_mem 771 (by decide +kernel) (by decide +kernel)
theorem w_772 : Cond.selects RX11 yX11_count yX11_count ∈ tb := tb_mem 772 (by decide +kernel) (by decide +kernel)
theorem od_109 : okD yX11_count 1 := ⟨by decide +kernel, by decide +kernel, by decide +kernel⟩
theorem kL_120 : CV RL 120 yX11_count cX11_count 2 (some .int) 1 := ⟨w_773, w_770, w_771, w_772, w_52, od_109⟩
theorem w_774 : Cond.methodLink RX11 228 yX11_howMany ∈ tb := tb_mem 774 (by decide +kernel) (by decide +kernel)
theorem w_777 : Cond.code yX11_howMany cX11_howMany 2 (some .int) ∈ tb := tb_mem 777 (by decide +kernel) (by decide +kernel)
theorem w_776 : Cond.instanceMethod yX11_howMany ∈ tb := tb_mem 776 (by decide +kernel) (by decide +kernel)
theorem w_16 : Cond.selects RX11 yX11_howMany yX11_howMany ∈ tb := tb_mem 16 (by decide +kernel) (by decide +kernel)
theorem od_110 : okD yX11_howMany 1 := ⟨by decide +kernel, by decide +kernel, by decide +kernel⟩
theorem kX11_228 : CV RX11 228 yX11_howMany cX11_howMany 2 (some .int) 1 := ⟨w_777, w_774, w_776, w_16, w_52, od_110⟩
theorem w_778 : Cond.methodLink RL 124 yX11_digest ∈ tb := tb_mem 778 (by decide +kernel) (by decide +kernel)
theorem w_781 : Cond.code yX11_digest cX11_digest 5 (some .long) ∈ tb := tb_mem 781 (by decide +kernel) (by decide +kernel)
theorem w_779 : Cond.instanceMethod yX11_digest ∈ tb := tb_mem 779 (by decide +kernel) (by decide +kernel)
theorem w_780 : Cond.selects RX11 yX11_digest yX11_digest ∈ tb := tb_mem 780 (by decide +kernel) (by decide +kernel)
theorem od_111 : okD yX11_digest 0 := ⟨by decide +kernel, by decide +kernel, by decide +kernel⟩
theorem kL_124 : CV RL 124 yX11_digest cX11_digest 5 (some .long) 0 := ⟨w_781, w_778, w_779, w_780, w_52, od_111⟩
theorem w_784 : Cond.methodLink RX11 235 yX11_withRow ∈ tb := tb_mem 784 (by decide +kernel) (by decide +kernel)
theorem w_786 : Cond.code yX11_withRow cX11_withRow 4 (some .long) ∈ tb := tb_mem 786 (by decide +kernel) (by decide +kernel)
theorem w_785 : Cond.static yX11_withRow ∈ tb := tb_mem 785 (by decide +kernel) (by decide +kernel)
theorem od_112 : okD yX11_withRow 2 := ⟨by decide +kernel, by decide +kernel, by decide +kernel⟩
theorem kX11_235 : CS RX11 235 yX11_withRow cX11_withRow 4 (some .long) 2 := ⟨w_786, w_784, w_785, w_52, od_112⟩
theorem w_787 : Cond.methodLink RX11 240 yX11_withFindings ∈ tb := tb_mem 787 (by decide +kernel) (by decide +kernel)
theorem w_790 : Cond.code yX11_withFindings cX11_withFindings 4 (some .long) ∈ tb := tb_mem 790 (by decide +kernel) (by decide +kernel)
theorem w_789 : Cond.instanceMethod yX11_withFindings ∈ tb := tb_mem 789 (by decide +kernel) (by decide +kernel)
theorem w_17 : Cond.selects RX11 yX11_withFindings yX11_withFindings ∈ tb := tb_mem 17 (by decide +kernel) (by decide +kernel)
theorem od_113 : okD yX11_withFindings 1 := ⟨by decide +kernel, by decide +kernel, by decide +kernel⟩
theorem kX11_240 : CV RX11 240 yX11_withFindings cX11_withFindings 4 (some .long) 1 := ⟨w_790, w_787, w_789, w_17, w_52, od_113⟩
theorem w_793 : Cond.methodLink RL 12 yX12_init ∈ tb := tb_mem 793 (by decide +kernel) (by decide +kernel)
theorem w_795 : Cond.code yX12_init cX12_init 1 none ∈ tb := tb_mem 795 (by decide +kernel) (by decide +kernel)
theorem w_794 : Cond.instanceMethod yX12_init ∈ tb := tb_mem 794 (by decide +kernel) (by decide +kernel)
theorem w_61 : Cond.initialized RX12 ∈ tb := tb_mem 61 (by decide +kernel) (by decide +kernel)
theorem od_114 : okD yX12_init 0 := ⟨by decide +kernel, by decide +kernel, by decide +kernel⟩
theorem kL_12 : CN RL 12 yX12_init cX12_init 1 0 := ⟨w_795, Or.inl w_793, w_794, w_61, rfl, od_114⟩
theorem w_796 : Cond.methodLink RX12 1 objectInit ∈ tb := tb_mem 796 (by decide +kernel) (by decide +kernel)
theorem w_891 : Cond.methodLink RL 17 yX12_feature ∈ tb := tb_mem 891 (by decide +kernel) (by decide +kernel)
theorem w_894 : Cond.code yX12_feature cX12_feature 3 (some .int) ∈ tb := tb_mem 894 (by decide +kernel) (by decide +kernel)
theorem w_892 : Cond.instanceMethod yX12_feature ∈ tb := tb_mem 892 (by decide +kernel) (by decide +kernel)
theorem w_893 : Cond.selects RX12 yX12_feature yX12_feature ∈ tb := tb_mem 893 (by decide +kernel) (by decide +kernel)
theorem od_115 : okD yX12_feature 2 := ⟨by decide +kernel, by decide +kernel, by decide +kernel⟩
theorem kL_17 : CV RL 17 yX12_feature cX12_feature 3 (some .int) 2 := ⟨w_894, w_891, w_892, w_893, w_61, od_115⟩
theorem w_896 : Cond.methodLink RX12 68 yX12_in ∈ tb := tb_mem 896 (by decide +kernel) (by decide +kernel)
theorem w_898 : Cond.code yX12_in cX12_in 6 (some .boolean) ∈ tb := tb_mem 898 (by decide +kernel) (by decide +kernel)
theorem w_897 : Cond.static yX12_in ∈ tb := tb_mem 897 (by decide +kernel) (by decide +kernel)
theorem od_116 : okD yX12_in 3 := ⟨by decide +kernel, by decide +kernel, by decide +kernel⟩
theorem kX12_68 : CS RX12 68 yX12_in cX12_in 6 (some .boolean) 3 := ⟨w_898, w_896, w_897, w_61, od_116⟩
theorem w_900 : Cond.methodLink RX12 79 yX12_lacks ∈ tb := tb_mem 900 (by decide +kernel) (by decide +kernel)
theorem w_903 : Cond.code yX12_lacks cX12_lacks 1 (some .boolean) ∈ tb := tb_mem 903 (by decide +kernel) (by decide +kernel)
theorem w_902 : Cond.instanceMethod yX12_lacks ∈ tb := tb_mem 902 (by decide +kernel) (by decide +kernel)
theorem w_18 : Cond.selects RX12 yX12_lacks yX12_lacks ∈ tb := tb_mem 18 (by decide +kernel) (by decide +kernel)
theorem od_117 : okD yX12_lacks 0 := ⟨by decide +kernel, by decide +kernel, by decide +kernel⟩
theorem kX12_79 : CV RX12 79 yX12_lacks cX12_lacks 1 (some .boolean) 0 := ⟨w_903, w_900, w_902, w_18, w_61, od_117⟩
theorem w_904 : Cond.methodLink RL 21 yX12_about ∈ tb := tb_mem 904 (by decide +kernel) (by decide +kernel)
theorem w_907 : Cond.code yX12_about cX12_about 3 (some .int) ∈ tb := tb_mem 907 (by decide +kernel) (by decide +kernel)
theorem w_905 : Cond.instanceMethod yX12_about ∈ tb := tb_mem 905 (by decide +kernel) (by decide +kernel)
theorem w_906 : Cond.selects RX12 yX12_about yX12_about ∈ tb := tb_mem 906 (by decide +kernel) (by decide +kernel)
theorem od_118 : okD yX12_about 2 := ⟨by decide +kernel, by decide +kernel, by decide +kernel⟩
theorem kL_21 : CV RL 21 yX12_about cX12_about 3 (some .int) 2 := ⟨w_907, w_904, w_905, w_906, w_61, od_118⟩
theorem w_908 : Cond.methodLink RX12 98 yX12_isFeature ∈ tb := tb_mem 908 (by decide +kernel) (by decide +kernel)
theorem w_911 : Cond.code yX12_isFeature cX12_isFeature 2 (some .boolean) ∈ tb := tb_mem 911 (by decide +kernel) (by decide +kernel)
theorem w_910 : Cond.instanceMethod yX12_isFeature ∈ tb := tb_mem 910 (by decide +kernel) (by decide +kernel)
theorem w_19 : Cond.selects RX12 yX12_isFeature yX12_isFeature ∈ tb := tb_mem 19 (by decide +kernel) (by decide +kernel)
theorem od_119 : okD yX12_isFeature 1 := ⟨by decide +kernel, by decide +kernel, by decide +kernel⟩
theorem kX12_98 : CV RX12 98 yX12_isFeature cX12_isFeature 2 (some .boolean) 1 := ⟨w_911, w_908, w_910, w_19, w_61, od_119⟩
theorem w_912 : Cond.methodLink RX12 102 yX12_tellFeature ∈ tb := tb_mem 912 (by decide +kernel) (by decide +kernel)
theorem w_915 : Cond.code yX12_tellFeature cX12_tellFeature 3 (some .int) ∈ tb := tb_mem 915 (by decide +kernel) (by decide +kernel)
theorem w_914 : Cond.instanceMethod yX12_tellFeature ∈ tb := tb_mem 914 (by decide +kernel) (by decide +kernel)
theorem w_20 : Cond.selects RX12 yX12_tellFeature yX12_tellFeature ∈ tb := tb_mem 20 (by decide +kernel) (by decide +kernel)
theorem od_120 : okD yX12_tellFeature 2 := ⟨by decide +kernel, by decide +kernel, by decide +kernel⟩
theorem kX12_102 : CV RX12 102 yX12_tellFeature cX12_tellFeature 3 (some .int) 2 := ⟨w_915, w_912, w_914, w_20, w_61, od_120⟩
theorem w_916 : Cond.methodLink RX12 91 yX12_last ∈ tb := tb_mem 916 (by decide +kernel) (by decide +kernel)
theorem w_919 : Cond.code yX12_last cX12_last 1 (some .int) ∈ tb := tb_mem 919 (by decide +kernel) (by decide +kernel)
theorem w_918 : Cond.instanceMethod yX12_last ∈ tb := tb_mem 918 (by decide +kernel) (by decide +kernel)
theorem w_21 : Cond.selects RX12 yX12_last yX12_last ∈ tb := tb_mem 21 (by decide +kernel) (by decide +kernel)
theorem od_121 : okD yX12_last 0 := ⟨by decide +kernel, by decide +kernel, by decide +kernel⟩
theorem kX12_91 : CV RX12 91 yX12_last cX12_last 1 (some .int) 0 := ⟨w_919, w_916, w_918, w_21, w_61, od_121⟩
theorem w_920 : Cond.methodLink RX12 94 yX12_sizeOf ∈ tb := tb_mem 920 (by decide +kernel) (by decide +kernel)
theorem w_922 : Cond.code yX12_sizeOf cX12_sizeOf 4 (some .int) ∈ tb := tb_mem 922 (by decide +kernel) (by decide +kernel)
theorem w_921 : Cond.static yX12_sizeOf ∈ tb := tb_mem 921 (by decide +kernel) (by decide +kernel)
theorem od_122 : okD yX12_sizeOf 2 := ⟨by decide +kernel, by decide +kernel, by decide +kernel⟩
theorem kX12_94 : CS RX12 94 yX12_sizeOf cX12_sizeOf 4 (some .int) 2 := ⟨w_922, w_920, w_921, w_61, od_122⟩
theorem w_923 : Cond.methodLink RL 25 yX12_as ∈ tb := tb_mem 923 (by decide +kernel) (by decide +kernel)
theorem w_926 : Cond.code yX12_as cX12_as 4 (some .int) ∈ tb := tb_mem 926 (by decide +kernel) (by decide +kernel)
theorem w_924 : Cond.instanceMethod yX12_as ∈ tb := tb_mem 924 (by decide +kernel) (by decide +kernel)
theorem w_925 : Cond.selects RX12 yX12_as yX12_as ∈ tb := tb_mem 925 (by decide +kernel) (by decide +kernel)
theorem od_123 : okD yX12_as 2 := ⟨by decide +kernel, by decide +kernel, by decide +kernel⟩
theorem kL_25 : CV RL 25 yX12_as cX12_as 4 (some .int) 2 := ⟨w_926, w_923, w_924, w_925, w_61, od_123⟩
theorem w_927 : Cond.methodLink RL 30 yX12_begin ∈ tb := tb_mem 927 (by decide +kernel) (by decide +kernel)
theorem w_930 : Cond.code yX12_begin cX12_begin 1 (some .int) ∈ tb := tb_mem 930 (by decide +kernel) (by decide +kernel)
theorem w_928 : Cond.instanceMethod yX12_begin ∈ tb := tb_mem 928 (by decide +kernel) (by decide +kernel)
theorem w_929 : Cond.selects RX12 yX12_begin yX12_begin ∈ tb := tb_mem 929 (by decide +kernel) (by decide +kernel)
theorem od_124 : okD yX12_begin 0 := ⟨by decide +kernel, by decide +kernel, by decide +kernel⟩
theorem kL_30 : CV RL 30 yX12_begin cX12_begin 1 (some .int) 0 := ⟨w_930, w_927, w_928, w_929, w_61, od_124⟩
theorem w_931 : Cond.methodLink RX12 105 yX12_kingAsPortrait ∈ tb := tb_mem 931 (by decide +kernel) (by decide +kernel)
theorem w_934 : Cond.code yX12_kingAsPortrait cX12_kingAsPortrait 3 (some .int) ∈ tb := tb_mem 934 (by decide +kernel) (by decide +kernel)
theorem w_933 : Cond.instanceMethod yX12_kingAsPortrait ∈ tb := tb_mem 933 (by decide +kernel) (by decide +kernel)
theorem w_22 : Cond.selects RX12 yX12_kingAsPortrait yX12_kingAsPortrait ∈ tb := tb_mem 22 (by decide +kernel) (by decide +kernel)
theorem od_125 : okD yX12_kingAsPortrait 0 := ⟨by decide +kernel, by decide +kernel, by decide +kernel⟩
theorem kX12_105 : CV RX12 105 yX12_kingAsPortrait cX12_kingAsPortrait 3 (some .int) 0 := ⟨w_934, w_931, w_933, w_22, w_61, od_125⟩
theorem w_935 : Cond.methodLink RX12 87 yX12_unit ∈ tb := tb_mem 935 (by decide +kernel) (by decide +kernel)
theorem w_937 : Cond.code yX12_unit cX12_unit 1 (some .int) ∈ tb := tb_mem 937 (by decide +kernel) (by decide +kernel)
theorem w_936 : Cond.static yX12_unit ∈ tb := tb_mem 936 (by decide +kernel) (by decide +kernel)
theorem od_126 : okD yX12_unit 1 := ⟨by decide +kernel, by decide +kernel, by decide +kernel⟩
theorem kX12_87 : CS RX12 87 yX12_unit cX12_unit 1 (some .int) 1 := ⟨w_937, w_935, w_936, w_61, od_126⟩
theorem w_938 : Cond.methodLink RL 34 yX12_apart ∈ tb := tb_mem 938 (by decide +kernel) (by decide +kernel)
theorem w_941 : Cond.code yX12_apart cX12_apart 3 (some .int) ∈ tb := tb_mem 941 (by decide +kernel) (by decide +kernel)
theorem w_939 : Cond.instanceMethod yX12_apart ∈ tb := tb_mem 939 (by decide +kernel) (by decide +kernel)
theorem w_940 : Cond.selects RX12 yX12_apart yX12_apart ∈ tb := tb_mem 940 (by decide +kernel) (by decide +kernel)
theorem od_127 : okD yX12_apart 2 := ⟨by decide +kernel, by decide +kernel, by decide +kernel⟩
theorem kL_34 : CV RL 34 yX12_apart cX12_apart 3 (some .int) 2 := ⟨w_941, w_938, w_939, w_940, w_61, od_127⟩
theorem w_942 : Cond.methodLink RX12 118 yX12_isPortrait ∈ tb := tb_mem 942 (by decide +kernel) (by decide +kernel)
theorem w_945 : Cond.code yX12_isPortrait cX12_isPortrait 2 (some .boolean) ∈ tb := tb_mem 945 (by decide +kernel) (by decide +kernel)
theorem w_944 : Cond.instanceMethod yX12_isPortrait ∈ tb := tb_mem 944 (by decide +kernel) (by decide +kernel)
theorem w_23 : Cond.selects RX12 yX12_isPortrait yX12_isPortrait ∈ tb := tb_mem 23 (by decide +kernel) (by decide +kernel)
theorem od_128 : okD yX12_isPortrait 1 := ⟨by decide +kernel, by decide +kernel, by decide +kernel⟩
theorem kX12_118 : CV RX12 118 yX12_isPortrait cX12_isPortrait 2 (some .boolean) 1 := ⟨w_945, w_942, w_944, w_23, w_61, od_128⟩
theorem w_946 : Cond.methodLink RX12 83 yX12_portraits ∈ tb := tb_mem 946 (by decide +kernel) (by decide +kernel)
theorem w_949 : Cond.code yX12_portraits cX12_portraits 3 (some .int) ∈ tb := tb_mem 949 (by decide +kernel) (by decide +kernel)
theorem w_948 : Cond.instanceMethod yX12_portraits ∈ tb := tb_mem 948 (by decide +kernel) (by decide +kernel)
theorem w_24 : Cond.selects RX12 yX12_portraits yX12_portraits ∈ tb := tb_mem 24 (by decide +kernel) (by decide +kernel)
theorem od_129 : okD yX12_portraits 0 := ⟨by decide +kernel, by decide +kernel, by decide +kernel⟩
theorem kX12_83 : CV RX12 83 yX12_portraits cX12_portraits 3 (some .int) 0 := ⟨w_949, w_946, w_948, w_24, w_61, od_129⟩
theorem w_950 : Cond.methodLink RX12 121 yX12_apartOf ∈ tb := tb_mem 950 (by decide +kernel) (by decide +kernel)
theorem w_953 : Cond.code yX12_apartOf cX12_apartOf 5 (some .int) ∈ tb := tb_mem 953 (by decide +kernel) (by decide +kernel)
theorem w_952 : Cond.instanceMethod yX12_apartOf ∈ tb := tb_mem 952 (by decide +kernel) (by decide +kernel)
theorem w_25 : Cond.selects RX12 yX12_apartOf yX12_apartOf ∈ tb := tb_mem 25 (by decide +kernel) (by decide +kernel)
theorem od_130 : okD yX12_apartOf 2 := ⟨by decide +kernel, by decide +kernel, by decide +kernel⟩
theorem kX12_121 : CV RX12 121 yX12_apartOf cX12_apartOf 5 (some .int) 2 := ⟨w_953, w_950, w_952, w_25, w_61, od_130⟩
theorem w_954 : Cond.methodLink RX12 115 yX12_apartIn ∈ tb := tb_mem 954 (by decide +kernel) (by decide +kernel)
theorem w_957 : Cond.code yX12_apartIn cX12_apartIn 5 (some .int) ∈ tb := tb_mem 957 (by decide +kernel) (by decide +kernel)
theorem w_956 : Cond.instanceMethod yX12_apartIn ∈ tb := tb_mem 956 (by decide +kernel) (by decide +kernel)
theorem w_26 : Cond.selects RX12 yX12_apartIn yX12_apartIn ∈ tb := tb_mem 26 (by decide +kernel) (by decide +kernel)
theorem od_131 : okD yX12_apartIn 3 := ⟨by decide +kernel, by decide +kernel, by decide +kernel⟩
theorem kX12_115 : CV RX12 115 yX12_apartIn cX12_apartIn 5 (some .int) 3 := ⟨w_957, w_954, w_956, w_26, w_61, od_131⟩
theorem w_958 : Cond.methodLink RX12 111 yX12_stepsOf ∈ tb := tb_mem 958 (by decide +kernel) (by decide +kernel)
theorem w_961 : Cond.code yX12_stepsOf cX12_stepsOf 5 (some .int) ∈ tb := tb_mem 961 (by decide +kernel) (by decide +kernel)
theorem w_960 : Cond.instanceMethod yX12_stepsOf ∈ tb := tb_mem 960 (by decide +kernel) (by decide +kernel)
theorem w_27 : Cond.selects RX12 yX12_stepsOf yX12_stepsOf ∈ tb := tb_mem 27 (by decide +kernel) (by decide +kernel)
theorem od_132 : okD yX12_stepsOf 3 := ⟨by decide +kernel, by decide +kernel, by decide +kernel⟩
theorem kX12_111 : CV RX12 111 yX12_stepsOf cX12_stepsOf 5 (some .int) 3 := ⟨w_961, w_958, w_960, w_27, w_61, od_132⟩
theorem w_962 : Cond.methodLink RX12 108 yX12_gap ∈ tb := tb_mem 962 (by decide +kernel) (by decide +kernel)
theorem w_964 : Cond.code yX12_gap cX12_gap 2 (some .int) ∈ tb := tb_mem 964 (by decide +kernel) (by decide +kernel)
theorem w_963 : Cond.static yX12_gap ∈ tb := tb_mem 963 (by decide +kernel) (by decide +kernel)
theorem od_133 : okD yX12_gap 2 := ⟨by decide +kernel, by decide +kernel, by decide +kernel⟩
theorem kX12_108 : CS RX12 108 yX12_gap cX12_gap 2 (some .int) 2 := ⟨w_964, w_962, w_963, w_61, od_133⟩
theorem w_965 : Cond.methodLink RL 39 yX12_paint ∈ tb := tb_mem 965 (by decide +kernel) (by decide +kernel)
theorem w_968 : Cond.code yX12_paint cX12_paint 3 (some .int) ∈ tb := tb_mem 968 (by decide +kernel) (by decide +kernel)
theorem w_966 : Cond.instanceMethod yX12_paint ∈ tb := tb_mem 966 (by decide +kernel) (by decide +kernel)
theorem w_967 : Cond.selects RX12 yX12_paint yX12_paint ∈ tb := tb_mem 967 (by decide +kernel) (by decide +kernel)
theorem od_134 : okD yX12_paint 1 := ⟨by decide +kernel, by decide +kernel, by decide +kernel⟩
theorem kL_39 : CV RL 39 yX12_paint cX12_paint 3 (some .int) 1 := ⟨w_968, w_965, w_966, w_967, w_61, od_134⟩
theorem w_969 : Cond.methodLink RX12 124 yX12_keepKing ∈ tb := tb_mem 969 (by decide +kernel) (by decide +kernel)
theorem w_972 : Cond.code yX12_keepKing cX12_keepKing 2 none ∈ tb := tb_mem 972 (by decide +kernel) (by decide +kernel)
theorem w_971 : Cond.instanceMethod yX12_keepKing ∈ tb := tb_mem 971 (by decide +kernel) (by decide +kernel)
theorem w_28 : Cond.selects RX12 yX12_keepKing yX12_keepKing ∈ tb := tb_mem 28 (by decide +kernel) (by decide +kernel)
theorem od_135 : okD yX12_keepKing 0 := ⟨by decide +kernel, by decide +kernel, by decide +kernel⟩
theorem kX12_124 : CV RX12 124 yX12_keepKing cX12_keepKing 2 none 0 := ⟨w_972, w_969, w_971, w_28, w_61, od_135⟩
theorem w_973 : Cond.methodLink RX12 127 yX12_age ∈ tb := tb_mem 973 (by decide +kernel) (by decide +kernel)
theorem w_976 : Cond.code yX12_age cX12_age 2 none ∈ tb := tb_mem 976 (by decide +kernel) (by decide +kernel)
theorem w_975 : Cond.instanceMethod yX12_age ∈ tb := tb_mem 975 (by decide +kernel) (by decide +kernel)
theorem w_29 : Cond.selects RX12 yX12_age yX12_age ∈ tb := tb_mem 29 (by decide +kernel) (by decide +kernel)
theorem od_136 : okD yX12_age 0 := ⟨by decide +kernel, by decide +kernel, by decide +kernel⟩
theorem kX12_127 : CV RX12 127 yX12_age cX12_age 2 none 0 := ⟨w_976, w_973, w_975, w_29, w_61, od_136⟩
theorem w_977 : Cond.methodLink RX12 130 yX12_isLet ∈ tb := tb_mem 977 (by decide +kernel) (by decide +kernel)
theorem w_980 : Cond.code yX12_isLet cX12_isLet 3 (some .boolean) ∈ tb := tb_mem 980 (by decide +kernel) (by decide +kernel)
theorem w_979 : Cond.instanceMethod yX12_isLet ∈ tb := tb_mem 979 (by decide +kernel) (by decide +kernel)
theorem w_30 : Cond.selects RX12 yX12_isLet yX12_isLet ∈ tb := tb_mem 30 (by decide +kernel) (by decide +kernel)
theorem od_137 : okD yX12_isLet 2 := ⟨by decide +kernel, by decide +kernel, by decide +kernel⟩
theorem kX12_130 : CV RX12 130 yX12_isLet cX12_isLet 3 (some .boolean) 2 := ⟨w_980, w_977, w_979, w_30, w_61, od_137⟩
theorem w_981 : Cond.methodLink RX12 163 yX12_letsMany ∈ tb := tb_mem 981 (by decide +kernel) (by decide +kernel)
theorem w_984 : Cond.code yX12_letsMany cX12_letsMany 5 (some .int) ∈ tb := tb_mem 984 (by decide +kernel) (by decide +kernel)
theorem w_983 : Cond.instanceMethod yX12_letsMany ∈ tb := tb_mem 983 (by decide +kernel) (by decide +kernel)
theorem w_31 : Cond.selects RX12 yX12_letsMany yX12_letsMany ∈ tb := tb_mem 31 (by decide +kernel) (by decide +kernel)
theorem od_138 : okD yX12_letsMany 2 := ⟨by decide +kernel, by decide +kernel, by decide +kernel⟩
theorem kX12_163 : CV RX12 163 yX12_letsMany cX12_letsMany 5 (some .int) 2 := ⟨w_984, w_981, w_983, w_31, w_61, od_138⟩
theorem w_985 : Cond.methodLink RX12 159 yX12_letsOne ∈ tb := tb_mem 985 (by decide +kernel) (by decide +kernel)
theorem w_988 : Cond.code yX12_letsOne cX12_letsOne 9 (some .boolean) ∈ tb := tb_mem 988 (by decide +kernel) (by decide +kernel)
theorem w_987 : Cond.instanceMethod yX12_letsOne ∈ tb := tb_mem 987 (by decide +kernel) (by decide +kernel)
theorem w_32 : Cond.selects RX12 yX12_letsOne yX12_letsOne ∈ tb := tb_mem 32 (by decide +kernel) (by decide +kernel)
theorem od_139 : okD yX12_letsOne 3 := ⟨by decide +kernel, by decide +kernel, by decide +kernel⟩
theorem kX12_159 : CV RX12 159 yX12_letsOne cX12_letsOne 9 (some .boolean) 3 := ⟨w_988, w_985, w_987, w_32, w_61, od_139⟩
theorem w_989 : Cond.methodLink RX12 134 yX12_putBack ∈ tb := tb_mem 989 (by decide +kernel) (by decide +kernel)
theorem w_992 : Cond.code yX12_putBack cX12_putBack 2 none ∈ tb := tb_mem 992 (by decide +kernel) (by decide +kernel)
theorem w_991 : Cond.instanceMethod yX12_putBack ∈ tb := tb_mem 991 (by decide +kernel) (by decide +kernel)
theorem w_33 : Cond.selects RX12 yX12_putBack yX12_putBack ∈ tb := tb_mem 33 (by decide +kernel) (by decide +kernel)
theorem od_140 : okD yX12_putBack 0 := ⟨by decide +kernel, by decide +kernel, by decide +kernel⟩
theorem kX12_134 : CV RX12 134 yX12_putBack cX12_putBack 2 none 0 := ⟨w_992, w_989, w_991, w_33, w_61, od_140⟩
theorem w_993 : Cond.methodLink RL 43 yX12_line ∈ tb := tb_mem 993 (by decide +kernel) (by decide +kernel)
theorem w_996 : Cond.code yX12_line cX12_line 2 (some .int) ∈ tb := tb_mem 996 (by decide +kernel) (by decide +kernel)
theorem w_994 : Cond.instanceMethod yX12_line ∈ tb := tb_mem 994 (by decide +kernel) (by decide +kernel)
theorem w_995 : Cond.selects RX12 yX12_line yX12_line ∈ tb := tb_mem 995 (by decide +kernel) (by decide +kernel)
theorem od_141 : okD yX12_line 1 := ⟨by decide +kernel, by decide +kernel, by decide +kernel⟩
theorem kL_43 : CV RL 43 yX12_line cX12_line 2 (some .int) 1 := ⟨w_996, w_993, w_994, w_995, w_61, od_141⟩
theorem w_997 : Cond.methodLink RL 50 yX12_letters ∈ tb := tb_mem 997 (by decide +kernel) (by decide +kernel)
theorem w_1000 : Cond.code yX12_letters cX12_letters 9 (some .int) ∈ tb := tb_mem 1000 (by decide +kernel) (by decide +kernel)
theorem w_998 : Cond.instanceMethod yX12_letters ∈ tb := tb_mem 998 (by decide +kernel) (by decide +kernel)
theorem w_999 : Cond.selects RX12 yX12_letters yX12_letters ∈ tb := tb_mem 999 (by decide +kernel) (by decide +kernel)
theorem od_142 : okD yX12_letters 1 := ⟨by decide +kernel, by decide +kernel, by decide +kernel⟩
theorem kL_50 : CV RL 50 yX12_letters cX12_letters 9 (some .int) 1 := ⟨w_1000, w_997, w_998, w_999, w_61, od_142⟩
theorem w_1002 : Cond.methodLink RL 54 yX12_blank ∈ tb := tb_mem 1002 (by decide +kernel) (by decide +kernel)
theorem w_1005 : Cond.code yX12_blank cX12_blank 2 (some .int) ∈ tb := tb_mem 1005 (by decide +kernel) (by decide +kernel)
theorem w_1003 : Cond.instanceMethod yX12_blank ∈ tb := tb_mem 1003 (by decide +kernel) (by decide +kernel)
theorem w_1004 : Cond.selects RX12 yX12_blank yX12_blank ∈ tb := tb_mem 1004 (by decide +kernel) (by decide +kernel)
theorem od_143 : okD yX12_blank 0 := ⟨by decide +kernel, by decide +kernel, by decide +kernel⟩
theorem kL_54 : CV RL 54 yX12_blank cX12_blank 2 (some .int) 0 := ⟨w_1005, w_1002, w_1003, w_1004, w_61, od_143⟩
theorem w_1006 : Cond.methodLink RL 58 yX12_fault ∈ tb := tb_mem 1006 (by decide +kernel) (by decide +kernel)
theorem w_1009 : Cond.code yX12_fault cX12_fault 1 (some .int) ∈ tb := tb_mem 1009 (by decide +kernel) (by decide +kernel)
theorem w_1007 : Cond.instanceMethod yX12_fault ∈ tb := tb_mem 1007 (by decide +kernel) (by decide +kernel)
theorem w_1008 : Cond.selects RX12 yX12_fault yX12_fault ∈ tb := tb_mem 1008 (by decide +kernel) (by decide +kernel)
theorem od_144 : okD yX12_fault 0 := ⟨by decide +kernel, by decide +kernel, by decide +kernel⟩
theorem kL_58 : CV RL 58 yX12_fault cX12_fault 1 (some .int) 0 := ⟨w_1009, w_1006, w_1007, w_1008, w_61, od_144⟩
theorem w_1010 : Cond.methodLink RX12 151 yX12_faultOf ∈ tb := tb_mem 1010 (by decide +kernel) (by decide +kernel)
theorem w_1013 : Cond.code yX12_faultOf cX12_faultOf 2 (some .int) ∈ tb := tb_mem 1013 (by decide +kernel) (by decide +kernel)
theorem w_1012 : Cond.instanceMethod yX12_faultOf ∈ tb := tb_mem 1012 (by decide +kernel) (by decide +kernel)
theorem w_34 : Cond.selects RX12 yX12_faultOf yX12_faultOf ∈ tb := tb_mem 34 (by decide +kernel) (by decide +kernel)
theorem od_145 : okD yX12_faultOf 0 := ⟨by decide +kernel, by decide +kernel, by decide +kernel⟩
theorem kX12_151 : CV RX12 151 yX12_faultOf cX12_faultOf 2 (some .int) 0 := ⟨w_1013, w_1010, w_1012, w_34, w_61, od_145⟩
theorem w_1014 : Cond.methodLink RX12 148 yX12_go ∈ tb := tb_mem 1014 (by decide +kernel) (by decide +kernel)
theorem w_1017 : Cond.code yX12_go cX12_go 4 (some .boolean) ∈ tb := tb_mem 1017 (by decide +kernel) (by decide +kernel)
theorem w_1016 : Cond.instanceMethod yX12_go ∈ tb := tb_mem 1016 (by decide +kernel) (by decide +kernel)
theorem w_35 : Cond.selects RX12 yX12_go yX12_go ∈ tb := tb_mem 35 (by decide +kernel) (by decide +kernel)
theorem od_146 : okD yX12_go 1 := ⟨by decide +kernel, by decide +kernel, by decide +kernel⟩
theorem kX12_148 : CV RX12 148 yX12_go cX12_go 4 (some .boolean) 1 := ⟨w_1017, w_1014, w_1016, w_35, w_61, od_146⟩
theorem w_1018 : Cond.methodLink RL 62 yX12_judge ∈ tb := tb_mem 1018 (by decide +kernel) (by decide +kernel)
theorem w_1021 : Cond.code yX12_judge cX12_judge 2 (some .int) ∈ tb := tb_mem 1021 (by decide +kernel) (by decide +kernel)
theorem w_1019 : Cond.instanceMethod yX12_judge ∈ tb := tb_mem 1019 (by decide +kernel) (by decide +kernel)
theorem w_1020 : Cond.selects RX12 yX12_judge yX12_judge ∈ tb := tb_mem 1020 (by decide +kernel) (by decide +kernel)
theorem od_147 : okD yX12_judge 0 := ⟨by decide +kernel, by decide +kernel, by decide +kernel⟩
theorem kL_62 : CV RL 62 yX12_judge cX12_judge 2 (some .int) 0 := ⟨w_1021, w_1018, w_1019, w_1020, w_61, od_147⟩
theorem w_1022 : Cond.methodLink RL 66 yX12_told ∈ tb := tb_mem 1022 (by decide +kernel) (by decide +kernel)
theorem w_1025 : Cond.code yX12_told cX12_told 3 (some .int) ∈ tb := tb_mem 1025 (by decide +kernel) (by decide +kernel)
theorem w_1023 : Cond.instanceMethod yX12_told ∈ tb := tb_mem 1023 (by decide +kernel) (by decide +kernel)
theorem w_1024 : Cond.selects RX12 yX12_told yX12_told ∈ tb := tb_mem 1024 (by decide +kernel) (by decide +kernel)
theorem od_148 : okD yX12_told 2 := ⟨by decide +kernel, by decide +kernel, by decide +kernel⟩
theorem kL_66 : CV RL 66 yX12_told cX12_told 3 (some .int) 2 := ⟨w_1025, w_1022, w_1023, w_1024, w_61, od_148⟩
theorem w_1027 : Cond.methodLink RL 70 yX12_lets ∈ tb := tb_mem 1027 (by decide +kernel) (by decide +kernel)
theorem w_1030 : Cond.code yX12_lets cX12_lets 3 (some .int) ∈ tb := tb_mem 1030 (by decide +kernel) (by decide +kernel)
theorem w_1028 : Cond.instanceMethod yX12_lets ∈ tb := tb_mem 1028 (by decide +kernel) (by decide +kernel)
theorem w_1029 : Cond.selects RX12 yX12_lets yX12_lets ∈ tb := tb_mem 1029 (by decide +kernel) (by decide +kernel)
theorem od_149 : okD yX12_lets 2 := ⟨by decide +kernel, by decide +kernel, by decide +kernel⟩
theorem kL_70 : CV RL 70 yX12_lets cX12_lets 3 (some .int) 2 := ⟨w_1030, w_1027, w_1028, w_1029, w_61, od_149⟩
theorem w_1031 : Cond.methodLink RL 74 yX12_strict ∈ tb := tb_mem 1031 (by decide +kernel) (by decide +kernel)
theorem w_1034 : Cond.code yX12_strict cX12_strict 1 (some .int) ∈ tb := tb_mem 1034 (by decide +kernel) (by decide +kernel)
theorem w_1032 : Cond.instanceMethod yX12_strict ∈ tb := tb_mem 1032 (by decide +kernel) (by decide +kernel)
theorem w_1033 : Cond.selects RX12 yX12_strict yX12_strict ∈ tb := tb_mem 1033 (by decide +kernel) (by decide +kernel)
theorem od_150 : okD yX12_strict 0 := ⟨by decide +kernel, by decide +kernel, by decide +kernel⟩
theorem kL_74 : CV RL 74 yX12_strict cX12_strict 1 (some .int) 0 := ⟨w_1034, w_1031, w_1032, w_1033, w_61, od_150⟩
theorem w_1035 : Cond.methodLink RX12 167 yX12_strictOf ∈ tb := tb_mem 1035 (by decide +kernel) (by decide +kernel)
theorem w_1038 : Cond.code yX12_strictOf cX12_strictOf 6 (some .int) ∈ tb := tb_mem 1038 (by decide +kernel) (by decide +kernel)
theorem w_1037 : Cond.instanceMethod yX12_strictOf ∈ tb := tb_mem 1037 (by decide +kernel) (by decide +kernel)
theorem w_36 : Cond.selects RX12 yX12_strictOf yX12_strictOf ∈ tb := tb_mem 36 (by decide +kernel) (by decide +kernel)
theorem od_151 : okD yX12_strictOf 0 := ⟨by decide +kernel, by decide +kernel, by decide +kernel⟩
theorem kX12_167 : CV RX12 167 yX12_strictOf cX12_strictOf 6 (some .int) 0 := ⟨w_1038, w_1035, w_1037, w_36, w_61, od_151⟩
theorem w_1040 : Cond.methodLink RL 78 yX12_slips ∈ tb := tb_mem 1040 (by decide +kernel) (by decide +kernel)
theorem w_1043 : Cond.code yX12_slips cX12_slips 3 (some .int) ∈ tb := tb_mem 1043 (by decide +kernel) (by decide +kernel)
theorem w_1041 : Cond.instanceMethod yX12_slips ∈ tb := tb_mem 1041 (by decide +kernel) (by decide +kernel)
theorem w_1042 : Cond.selects RX12 yX12_slips yX12_slips ∈ tb := tb_mem 1042 (by decide +kernel) (by decide +kernel)
theorem od_152 : okD yX12_slips 2 := ⟨by decide +kernel, by decide +kernel, by decide +kernel⟩
theorem kL_78 : CV RL 78 yX12_slips cX12_slips 3 (some .int) 2 := ⟨w_1043, w_1040, w_1041, w_1042, w_61, od_152⟩
theorem w_1044 : Cond.methodLink RX12 173 yX12_slipsOf ∈ tb := tb_mem 1044 (by decide +kernel) (by decide +kernel)
theorem w_1047 : Cond.code yX12_slipsOf cX12_slipsOf 8 (some .int) ∈ tb := tb_mem 1047 (by decide +kernel) (by decide +kernel)
theorem w_1046 : Cond.instanceMethod yX12_slipsOf ∈ tb := tb_mem 1046 (by decide +kernel) (by decide +kernel)
theorem w_37 : Cond.selects RX12 yX12_slipsOf yX12_slipsOf ∈ tb := tb_mem 37 (by decide +kernel) (by decide +kernel)
theorem od_153 : okD yX12_slipsOf 2 := ⟨by decide +kernel, by decide +kernel, by decide +kernel⟩
theorem kX12_173 : CV RX12 173 yX12_slipsOf cX12_slipsOf 8 (some .int) 2 := ⟨w_1047, w_1044, w_1046, w_37, w_61, od_153⟩
theorem w_1048 : Cond.methodLink RX12 170 yX12_slipOf ∈ tb := tb_mem 1048 (by decide +kernel) (by decide +kernel)
theorem w_1051 : Cond.code yX12_slipOf cX12_slipOf 6 (some .int) ∈ tb := tb_mem 1051 (by decide +kernel) (by decide +kernel)
theorem w_1050 : Cond.instanceMethod yX12_slipOf ∈ tb := tb_mem 1050 (by decide +kernel) (by decide +kernel)
theorem w_38 : Cond.selects RX12 yX12_slipOf yX12_slipOf ∈ tb := tb_mem 38 (by decide +kernel) (by decide +kernel)
theorem od_154 : okD yX12_slipOf 3 := ⟨by decide +kernel, by decide +kernel, by decide +kernel⟩
theorem kX12_170 : CV RX12 170 yX12_slipOf cX12_slipOf 6 (some .int) 3 := ⟨w_1051, w_1048, w_1050, w_38, w_61, od_154⟩
theorem w_1052 : Cond.methodLink RL 82 yX12_truth ∈ tb := tb_mem 1052 (by decide +kernel) (by decide +kernel)
theorem w_1055 : Cond.code yX12_truth cX12_truth 6 (some .int) ∈ tb := tb_mem 1055 (by decide +kernel) (by decide +kernel)
theorem w_1053 : Cond.instanceMethod yX12_truth ∈ tb := tb_mem 1053 (by decide +kernel) (by decide +kernel)
theorem w_1054 : Cond.selects RX12 yX12_truth yX12_truth ∈ tb := tb_mem 1054 (by decide +kernel) (by decide +kernel)
theorem od_155 : okD yX12_truth 1 := ⟨by decide +kernel, by decide +kernel, by decide +kernel⟩
theorem kL_82 : CV RL 82 yX12_truth cX12_truth 6 (some .int) 1 := ⟨w_1055, w_1052, w_1053, w_1054, w_61, od_155⟩
theorem w_1056 : Cond.methodLink RX12 182 yX12_truthBy ∈ tb := tb_mem 1056 (by decide +kernel) (by decide +kernel)
theorem w_1059 : Cond.code yX12_truthBy cX12_truthBy 10 (some .int) ∈ tb := tb_mem 1059 (by decide +kernel) (by decide +kernel)
theorem w_1058 : Cond.instanceMethod yX12_truthBy ∈ tb := tb_mem 1058 (by decide +kernel) (by decide +kernel)
theorem w_39 : Cond.selects RX12 yX12_truthBy yX12_truthBy ∈ tb := tb_mem 39 (by decide +kernel) (by decide +kernel)
theorem od_156 : okD yX12_truthBy 1 := ⟨by decide +kernel, by decide +kernel, by decide +kernel⟩
theorem kX12_182 : CV RX12 182 yX12_truthBy cX12_truthBy 10 (some .int) 1 := ⟨w_1059, w_1056, w_1058, w_39, w_61, od_156⟩
theorem w_1060 : Cond.methodLink RX12 176 yX12_madeTrue ∈ tb := tb_mem 1060 (by decide +kernel) (by decide +kernel)
theorem w_1063 : Cond.code yX12_madeTrue cX12_madeTrue 3 (some .int) ∈ tb := tb_mem 1063 (by decide +kernel) (by decide +kernel)
theorem w_1062 : Cond.instanceMethod yX12_madeTrue ∈ tb := tb_mem 1062 (by decide +kernel) (by decide +kernel)
theorem w_40 : Cond.selects RX12 yX12_madeTrue yX12_madeTrue ∈ tb := tb_mem 40 (by decide +kernel) (by decide +kernel)
theorem od_157 : okD yX12_madeTrue 2 := ⟨by decide +kernel, by decide +kernel, by decide +kernel⟩
theorem kX12_176 : CV RX12 176 yX12_madeTrue cX12_madeTrue 3 (some .int) 2 := ⟨w_1063, w_1060, w_1062, w_40, w_61, od_157⟩
theorem w_1064 : Cond.methodLink RL 87 yX12_copies ∈ tb := tb_mem 1064 (by decide +kernel) (by decide +kernel)
theorem w_1067 : Cond.code yX12_copies cX12_copies 10 (some .int) ∈ tb := tb_mem 1067 (by decide +kernel) (by decide +kernel)
theorem w_1065 : Cond.instanceMethod yX12_copies ∈ tb := tb_mem 1065 (by decide +kernel) (by decide +kernel)
theorem w_1066 : Cond.selects RX12 yX12_copies yX12_copies ∈ tb := tb_mem 1066 (by decide +kernel) (by decide +kernel)
theorem od_158 : okD yX12_copies 3 := ⟨by decide +kernel, by decide +kernel, by decide +kernel⟩
theorem kL_87 : CV RL 87 yX12_copies cX12_copies 10 (some .int) 3 := ⟨w_1067, w_1064, w_1065, w_1066, w_61, od_158⟩
theorem w_1070 : Cond.methodLink RX12 199 yX12_draw ∈ tb := tb_mem 1070 (by decide +kernel) (by decide +kernel)
theorem w_1073 : Cond.code yX12_draw cX12_draw 2 (some .int) ∈ tb := tb_mem 1073 (by decide +kernel) (by decide +kernel)
theorem w_1072 : Cond.instanceMethod yX12_draw ∈ tb := tb_mem 1072 (by decide +kernel) (by decide +kernel)
theorem w_41 : Cond.selects RX12 yX12_draw yX12_draw ∈ tb := tb_mem 41 (by decide +kernel) (by decide +kernel)
theorem od_159 : okD yX12_draw 1 := ⟨by decide +kernel, by decide +kernel, by decide +kernel⟩
theorem kX12_199 : CV RX12 199 yX12_draw cX12_draw 2 (some .int) 1 := ⟨w_1073, w_1070, w_1072, w_41, w_61, od_159⟩
theorem w_1078 : Cond.methodLink RL 91 yX12_back ∈ tb := tb_mem 1078 (by decide +kernel) (by decide +kernel)
theorem w_1081 : Cond.code yX12_back cX12_back 2 (some .int) ∈ tb := tb_mem 1081 (by decide +kernel) (by decide +kernel)
theorem w_1079 : Cond.instanceMethod yX12_back ∈ tb := tb_mem 1079 (by decide +kernel) (by decide +kernel)
theorem w_1080 : Cond.selects RX12 yX12_back yX12_back ∈ tb := tb_mem 1080 (by decide +kernel) (by decide +kernel)
theorem od_160 : okD yX12_back 1 := ⟨by decide +kernel, by decide +kernel, by decide +kernel⟩
theorem kL_91 : CV RL 91 yX12_back cX12_back 2 (some .int) 1 := ⟨w_1081, w_1078, w_1079, w_1080, w_61, od_160⟩
theorem w_1082 : Cond.methodLink RX12 202 yX12_backOf ∈ tb := tb_mem 1082 (by decide +kernel) (by decide +kernel)
theorem w_1085 : Cond.code yX12_backOf cX12_backOf 4 (some .int) ∈ tb := tb_mem 1085 (by decide +kernel) (by decide +kernel)
theorem w_1084 : Cond.instanceMethod yX12_backOf ∈ tb := tb_mem 1084 (by decide +kernel) (by decide +kernel)
theorem w_42 : Cond.selects RX12 yX12_backOf yX12_backOf ∈ tb := tb_mem 42 (by decide +kernel) (by decide +kernel)
theorem od_161 : okD yX12_backOf 1 := ⟨by decide +kernel, by decide +kernel, by decide +kernel⟩
theorem kX12_202 : CV RX12 202 yX12_backOf cX12_backOf 4 (some .int) 1 := ⟨w_1085, w_1082, w_1084, w_42, w_61, od_161⟩
theorem w_1086 : Cond.methodLink RL 95 yX12_span ∈ tb := tb_mem 1086 (by decide +kernel) (by decide +kernel)
theorem w_1089 : Cond.code yX12_span cX12_span 2 (some .int) ∈ tb := tb_mem 1089 (by decide +kernel) (by decide +kernel)
theorem w_1087 : Cond.instanceMethod yX12_span ∈ tb := tb_mem 1087 (by decide +kernel) (by decide +kernel)
theorem w_1088 : Cond.selects RX12 yX12_span yX12_span ∈ tb := tb_mem 1088 (by decide +kernel) (by decide +kernel)
theorem od_162 : okD yX12_span 1 := ⟨by decide +kernel, by decide +kernel, by decide +kernel⟩
theorem kL_95 : CV RL 95 yX12_span cX12_span 2 (some .int) 1 := ⟨w_1089, w_1086, w_1087, w_1088, w_61, od_162⟩
theorem w_1090 : Cond.methodLink RX12 205 yX12_spanOf ∈ tb := tb_mem 1090 (by decide +kernel) (by decide +kernel)
theorem w_1093 : Cond.code yX12_spanOf cX12_spanOf 4 (some .int) ∈ tb := tb_mem 1093 (by decide +kernel) (by decide +kernel)
theorem w_1092 : Cond.instanceMethod yX12_spanOf ∈ tb := tb_mem 1092 (by decide +kernel) (by decide +kernel)
theorem w_43 : Cond.selects RX12 yX12_spanOf yX12_spanOf ∈ tb := tb_mem 43 (by decide +kernel) (by decide +kernel)
theorem od_163 : okD yX12_spanOf 1 := ⟨by decide +kernel, by decide +kernel, by decide +kernel⟩
theorem kX12_205 : CV RX12 205 yX12_spanOf cX12_spanOf 4 (some .int) 1 := ⟨w_1093, w_1090, w_1092, w_43, w_61, od_163⟩
theorem w_1094 : Cond.methodLink RL 99 yX12_person ∈ tb := tb_mem 1094 (by decide +kernel) (by decide +kernel)
theorem w_1097 : Cond.code yX12_person cX12_person 2 (some .int) ∈ tb := tb_mem 1097 (by decide +kernel) (by decide +kernel)
theorem w_1095 : Cond.instanceMethod yX12_person ∈ tb := tb_mem 1095 (by decide +kernel) (by decide +kernel)
theorem w_1096 : Cond.selects RX12 yX12_person yX12_person ∈ tb := tb_mem 1096 (by decide +kernel) (by decide +kernel)
theorem od_164 : okD yX12_person 1 := ⟨by decide +kernel, by decide +kernel, by decide +kernel⟩
theorem kL_99 : CV RL 99 yX12_person cX12_person 2 (some .int) 1 := ⟨w_1097, w_1094, w_1095, w_1096, w_61, od_164⟩
theorem w_1098 : Cond.methodLink RL 103 yX12_gate ∈ tb := tb_mem 1098 (by decide +kernel) (by decide +kernel)
theorem w_1101 : Cond.code yX12_gate cX12_gate 1 (some .int) ∈ tb := tb_mem 1101 (by decide +kernel) (by decide +kernel)
theorem w_1099 : Cond.instanceMethod yX12_gate ∈ tb := tb_mem 1099 (by decide +kernel) (by decide +kernel)
theorem w_1100 : Cond.selects RX12 yX12_gate yX12_gate ∈ tb := tb_mem 1100 (by decide +kernel) (by decide +kernel)
theorem od_165 : okD yX12_gate 0 := ⟨by decide +kernel, by decide +kernel, by decide +kernel⟩
theorem kL_103 : CV RL 103 yX12_gate cX12_gate 1 (some .int) 0 := ⟨w_1101, w_1098, w_1099, w_1100, w_61, od_165⟩
theorem w_1102 : Cond.methodLink RX12 211 yX12_gateOf ∈ tb := tb_mem 1102 (by decide +kernel) (by decide +kernel)
theorem w_1105 : Cond.code yX12_gateOf cX12_gateOf 8 (some .int) ∈ tb := tb_mem 1105 (by decide +kernel) (by decide +kernel)
theorem w_1104 : Cond.instanceMethod yX12_gateOf ∈ tb := tb_mem 1104 (by decide +kernel) (by decide +kernel)
theorem w_44 : Cond.selects RX12 yX12_gateOf yX12_gateOf ∈ tb := tb_mem 44 (by decide +kernel) (by decide +kernel)
theorem od_166 : okD yX12_gateOf 0 := ⟨by decide +kernel, by decide +kernel, by decide +kernel⟩
theorem kX12_211 : CV RX12 211 yX12_gateOf cX12_gateOf 8 (some .int) 0 := ⟨w_1105, w_1102, w_1104, w_44, w_61, od_166⟩
theorem w_1106 : Cond.methodLink RL 107 yX12_heap ∈ tb := tb_mem 1106 (by decide +kernel) (by decide +kernel)
theorem w_1109 : Cond.code yX12_heap cX12_heap 2 (some .int) ∈ tb := tb_mem 1109 (by decide +kernel) (by decide +kernel)
theorem w_1107 : Cond.instanceMethod yX12_heap ∈ tb := tb_mem 1107 (by decide +kernel) (by decide +kernel)
theorem w_1108 : Cond.selects RX12 yX12_heap yX12_heap ∈ tb := tb_mem 1108 (by decide +kernel) (by decide +kernel)
theorem od_167 : okD yX12_heap 1 := ⟨by decide +kernel, by decide +kernel, by decide +kernel⟩
theorem kL_107 : CV RL 107 yX12_heap cX12_heap 2 (some .int) 1 := ⟨w_1109, w_1106, w_1107, w_1108, w_61, od_167⟩
theorem w_1110 : Cond.methodLink RL 111 yX12_order ∈ tb := tb_mem 1110 (by decide +kernel) (by decide +kernel)
theorem w_1113 : Cond.code yX12_order cX12_order 2 (some .int) ∈ tb := tb_mem 1113 (by decide +kernel) (by decide +kernel)
theorem w_1111 : Cond.instanceMethod yX12_order ∈ tb := tb_mem 1111 (by decide +kernel) (by decide +kernel)
theorem w_1112 : Cond.selects RX12 yX12_order yX12_order ∈ tb := tb_mem 1112 (by decide +kernel) (by decide +kernel)
theorem od_168 : okD yX12_order 1 := ⟨by decide +kernel, by decide +kernel, by decide +kernel⟩
theorem kL_111 : CV RL 111 yX12_order cX12_order 2 (some .int) 1 := ⟨w_1113, w_1110, w_1111, w_1112, w_61, od_168⟩
theorem w_1116 : Cond.methodLink RX12 227 yX12_tellOrder ∈ tb := tb_mem 1116 (by decide +kernel) (by decide +kernel)
theorem w_1119 : Cond.code yX12_tellOrder cX12_tellOrder 3 (some .int) ∈ tb := tb_mem 1119 (by decide +kernel) (by decide +kernel)
theorem w_1118 : Cond.instanceMethod yX12_tellOrder ∈ tb := tb_mem 1118 (by decide +kernel) (by decide +kernel)
theorem w_45 : Cond.selects RX12 yX12_tellOrder yX12_tellOrder ∈ tb := tb_mem 45 (by decide +kernel) (by decide +kernel)
theorem od_169 : okD yX12_tellOrder 1 := ⟨by decide +kernel, by decide +kernel, by decide +kernel⟩
theorem kX12_227 : CV RX12 227 yX12_tellOrder cX12_tellOrder 3 (some .int) 1 := ⟨w_1119, w_1116, w_1118, w_45, w_61, od_169⟩
theorem w_1120 : Cond.methodLink RX12 220 yX12_layOrder ∈ tb := tb_mem 1120 (by decide +kernel) (by decide +kernel)
theorem w_1123 : Cond.code yX12_layOrder cX12_layOrder 5 (some .int) ∈ tb := tb_mem 1123 (by decide +kernel) (by decide +kernel)
theorem w_1122 : Cond.instanceMethod yX12_layOrder ∈ tb := tb_mem 1122 (by decide +kernel) (by decide +kernel)
theorem w_46 : Cond.selects RX12 yX12_layOrder yX12_layOrder ∈ tb := tb_mem 46 (by decide +kernel) (by decide +kernel)
theorem od_170 : okD yX12_layOrder 0 := ⟨by decide +kernel, by decide +kernel, by decide +kernel⟩
theorem kX12_220 : CV RX12 220 yX12_layOrder cX12_layOrder 5 (some .int) 0 := ⟨w_1123, w_1120, w_1122, w_46, w_61, od_170⟩
theorem w_1124 : Cond.methodLink RX12 217 yX12_nextRow ∈ tb := tb_mem 1124 (by decide +kernel) (by decide +kernel)
theorem w_1127 : Cond.code yX12_nextRow cX12_nextRow 6 (some .boolean) ∈ tb := tb_mem 1127 (by decide +kernel) (by decide +kernel)
theorem w_1126 : Cond.instanceMethod yX12_nextRow ∈ tb := tb_mem 1126 (by decide +kernel) (by decide +kernel)
theorem w_47 : Cond.selects RX12 yX12_nextRow yX12_nextRow ∈ tb := tb_mem 47 (by decide +kernel) (by decide +kernel)
theorem od_171 : okD yX12_nextRow 0 := ⟨by decide +kernel, by decide +kernel, by decide +kernel⟩
theorem kX12_217 : CV RX12 217 yX12_nextRow cX12_nextRow 6 (some .boolean) 0 := ⟨w_1127, w_1124, w_1126, w_47, w_61, od_171⟩
theorem w_1128 : Cond.methodLink RL 115 yX12_image ∈ tb := tb_mem 1128 (by decide +kernel) (by decide +kernel)
theorem w_1131 : Cond.code yX12_image cX12_image 1 (some .int) ∈ tb := tb_mem 1131 (by decide +kernel) (by decide +kernel)
theorem w_1129 : Cond.instanceMethod yX12_image ∈ tb := tb_mem 1129 (by decide +kernel) (by decide +kernel)
theorem w_1130 : Cond.selects RX12 yX12_image yX12_image ∈ tb := tb_mem 1130 (by decide +kernel) (by decide +kernel)
theorem od_172 : okD yX12_image 0 := ⟨by decide +kernel, by decide +kernel, by decide +kernel⟩
theorem kL_115 : CV RL 115 yX12_image cX12_image 1 (some .int) 0 := ⟨w_1131, w_1128, w_1129, w_1130, w_61, od_172⟩
theorem w_1132 : Cond.methodLink RX12 230 yX12_copy ∈ tb := tb_mem 1132 (by decide +kernel) (by decide +kernel)
theorem w_1134 : Cond.code yX12_copy cX12_copy 3 none ∈ tb := tb_mem 1134 (by decide +kernel) (by decide +kernel)
theorem w_1133 : Cond.static yX12_copy ∈ tb := tb_mem 1133 (by decide +kernel) (by decide +kernel)
theorem od_173 : okD yX12_copy 2 := ⟨by decide +kernel, by decide +kernel, by decide +kernel⟩
theorem kX12_230 : CS RX12 230 yX12_copy cX12_copy 3 none 2 := ⟨w_1134, w_1132, w_1133, w_61, od_173⟩
theorem w_1135 : Cond.methodLink RL 119 yX12_restore ∈ tb := tb_mem 1135 (by decide +kernel) (by decide +kernel)
theorem w_1138 : Cond.code yX12_restore cX12_restore 1 (some .int) ∈ tb := tb_mem 1138 (by decide +kernel) (by decide +kernel)
theorem w_1136 : Cond.instanceMethod yX12_restore ∈ tb := tb_mem 1136 (by decide +kernel) (by decide +kernel)
theorem w_1137 : Cond.selects RX12 yX12_restore yX12_restore ∈ tb := tb_mem 1137 (by decide +kernel) (by decide +kernel)
theorem od_174 : okD yX12_restore 0 := ⟨by decide +kernel, by decide +kernel, by decide +kernel⟩
theorem kL_119 : CV RL 119 yX12_restore cX12_restore 1 (some .int) 0 := ⟨w_1138, w_1135, w_1136, w_1137, w_61, od_174⟩
theorem w_1139 : Cond.methodLink RL 123 yX12_count ∈ tb := tb_mem 1139 (by decide +kernel) (by decide +kernel)
theorem w_1142 : Cond.code yX12_count cX12_count 2 (some .int) ∈ tb := tb_mem 1142 (by decide +kernel) (by decide +kernel)
theorem w_1140 : Cond.instanceMethod yX12_count ∈ tb := tb_mem 1140 (by decide +kernel) (by decide +kernel)
theorem w_1141 : Cond.selects RX12 yX12_count yX12_count ∈ tb := tb_mem 1141 (by decide +kernel) (by decide +kernel)
theorem od_175 : okD yX12_count 1 := ⟨by decide +kernel, by decide +kernel, by decide +kernel⟩
theorem kL_123 : CV RL 123 yX12_count cX12_count 2 (some .int) 1 := ⟨w_1142, w_1139, w_1140, w_1141, w_61, od_175⟩
theorem w_1143 : Cond.methodLink RX12 240 yX12_countOf ∈ tb := tb_mem 1143 (by decide +kernel) (by decide +kernel)
theorem w_1146 : Cond.code yX12_countOf cX12_countOf 2 (some .int) ∈ tb := tb_mem 1146 (by decide +kernel) (by decide +kernel)
theorem w_1145 : Cond.instanceMethod yX12_countOf ∈ tb := tb_mem 1145 (by decide +kernel) (by decide +kernel)
theorem w_48 : Cond.selects RX12 yX12_countOf yX12_countOf ∈ tb := tb_mem 48 (by decide +kernel) (by decide +kernel)
theorem od_176 : okD yX12_countOf 1 := ⟨by decide +kernel, by decide +kernel, by decide +kernel⟩
theorem kX12_240 : CV RX12 240 yX12_countOf cX12_countOf 2 (some .int) 1 := ⟨w_1146, w_1143, w_1145, w_48, w_61, od_176⟩
theorem w_1147 : Cond.methodLink RL 128 yX12_digest ∈ tb := tb_mem 1147 (by decide +kernel) (by decide +kernel)
theorem w_1150 : Cond.code yX12_digest cX12_digest 3 (some .long) ∈ tb := tb_mem 1150 (by decide +kernel) (by decide +kernel)
theorem w_1148 : Cond.instanceMethod yX12_digest ∈ tb := tb_mem 1148 (by decide +kernel) (by decide +kernel)
theorem w_1149 : Cond.selects RX12 yX12_digest yX12_digest ∈ tb := tb_mem 1149 (by decide +kernel) (by decide +kernel)
theorem od_177 : okD yX12_digest 0 := ⟨by decide +kernel, by decide +kernel, by decide +kernel⟩
theorem kL_128 : CV RL 128 yX12_digest cX12_digest 3 (some .long) 0 := ⟨w_1150, w_1147, w_1148, w_1149, w_61, od_177⟩
theorem w_1152 : Cond.methodLink RX12 249 yX12_say ∈ tb := tb_mem 1152 (by decide +kernel) (by decide +kernel)
theorem w_1155 : Cond.code yX12_say cX12_say 3 none ∈ tb := tb_mem 1155 (by decide +kernel) (by decide +kernel)
theorem w_1154 : Cond.instanceMethod yX12_say ∈ tb := tb_mem 1154 (by decide +kernel) (by decide +kernel)
theorem w_49 : Cond.selects RX12 yX12_say yX12_say ∈ tb := tb_mem 49 (by decide +kernel) (by decide +kernel)
theorem od_178 : okD yX12_say 1 := ⟨by decide +kernel, by decide +kernel, by decide +kernel⟩
theorem kX12_249 : CV RX12 249 yX12_say cX12_say 3 none 1 := ⟨w_1155, w_1152, w_1154, w_49, w_61, od_178⟩
theorem w_1157 : Cond.methodLink RX12 255 yX12_sayLine ∈ tb := tb_mem 1157 (by decide +kernel) (by decide +kernel)
theorem w_1160 : Cond.code yX12_sayLine cX12_sayLine 2 none ∈ tb := tb_mem 1160 (by decide +kernel) (by decide +kernel)
theorem w_1159 : Cond.instanceMethod yX12_sayLine ∈ tb := tb_mem 1159 (by decide +kernel) (by decide +kernel)
theorem w_50 : Cond.selects RX12 yX12_sayLine yX12_sayLine ∈ tb := tb_mem 50 (by decide +kernel) (by decide +kernel)
theorem od_179 : okD yX12_sayLine 0 := ⟨by decide +kernel, by decide +kernel, by decide +kernel⟩
theorem kX12_255 : CV RX12 255 yX12_sayLine cX12_sayLine 2 none 0 := ⟨w_1160, w_1157, w_1159, w_50, w_61, od_179⟩
theorem w_85 : Cond.methodLinkNest RX6 21 yX4_init "LikeLastYears" ∈ nst := nst_mem 85 (by decide +kernel) (by decide +kernel)
theorem w_87 : Cond.code yX4_init cX4_init 1 none ∈ tb := tb_mem 87 (by decide +kernel) (by decide +kernel)
theorem w_86 : Cond.instanceMethod yX4_init ∈ tb := tb_mem 86 (by decide +kernel) (by decide +kernel)
theorem od_180 : okD yX4_init 0 := ⟨by decide +kernel, by decide +kernel, by decide +kernel⟩
theorem kX6_21 : CN RX6 21 yX4_init cX4_init 1 0 := ⟨w_87, Or.inr ⟨_, w_85⟩, w_86, w_54, rfl, od_180⟩
theorem w_125 : Cond.methodLinkNest RX11 27 yX2_init "LikeLastYears" ∈ nst := nst_mem 125 (by decide +kernel) (by decide +kernel)
theorem w_127 : Cond.code yX2_init cX2_init 1 none ∈ tb := tb_mem 127 (by decide +kernel) (by decide +kernel)
theorem w_126 : Cond.instanceMethod yX2_init ∈ tb := tb_mem 126 (by decide +kernel) (by decide +kernel)
theorem od_181 : okD yX2_init 0 := ⟨by decide +kernel, by decide +kernel, by decide +kernel⟩
theorem kX11_27 : CN RX11 27 yX2_init cX2_init 1 0 := ⟨w_127, Or.inr ⟨_, w_125⟩, w_126, w_56, rfl, od_181⟩
theorem w_284 : Cond.methodLinkNest RX11 246 yX5_init "LikeLastYears" ∈ nst := nst_mem 284 (by decide +kernel) (by decide +kernel)
theorem w_286 : Cond.code yX5_init cX5_init 1 none ∈ tb := tb_mem 286 (by decide +kernel) (by decide +kernel)
theorem w_285 : Cond.instanceMethod yX5_init ∈ tb := tb_mem 285 (by decide +kernel) (by decide +kernel)
theorem od_182 : okD yX5_init 0 := ⟨by decide +kernel, by decide +kernel, by decide +kernel⟩
theorem kX11_246 : CN RX11 246 yX5_init cX5_init 1 0 := ⟨w_286, Or.inr ⟨_, w_284⟩, w_285, w_62, rfl, od_182⟩
theorem w_287 : Cond.methodLinkNest RX5 3 yX4_init "LikeLastYears" ∈ nst := nst_mem 287 (by decide +kernel) (by decide +kernel)
theorem kX5_3 : CN RX5 3 yX4_init cX4_init 1 0 := ⟨w_87, Or.inr ⟨_, w_287⟩, w_86, w_54, rfl, od_180⟩
theorem w_291 : Cond.methodLinkNest RX11 249 yX8_init "LikeLastYears" ∈ nst := nst_mem 291 (by decide +kernel) (by decide +kernel)
theorem w_293 : Cond.code yX8_init cX8_init 1 none ∈ tb := tb_mem 293 (by decide +kernel) (by decide +kernel)
theorem w_292 : Cond.instanceMethod yX8_init ∈ tb := tb_mem 292 (by decide +kernel) (by decide +kernel)
theorem od_183 : okD yX8_init 0 := ⟨by decide +kernel, by decide +kernel, by decide +kernel⟩
theorem kX11_249 : CN RX11 249 yX8_init cX8_init 1 0 := ⟨w_293, Or.inr ⟨_, w_291⟩, w_292, w_63, rfl, od_183⟩
theorem w_294 : Cond.methodLinkNest RX8 3 yX4_init "LikeLastYears" ∈ nst := nst_mem 294 (by decide +kernel) (by decide +kernel)
theorem kX8_3 : CN RX8 3 yX4_init cX4_init 1 0 := ⟨w_87, Or.inr ⟨_, w_294⟩, w_86, w_54, rfl, od_180⟩
theorem w_298 : Cond.methodLinkNest RX11 252 yX0_init "LikeLastYears" ∈ nst := nst_mem 298 (by decide +kernel) (by decide +kernel)
theorem w_300 : Cond.code yX0_init cX0_init 1 none ∈ tb := tb_mem 300 (by decide +kernel) (by decide +kernel)
theorem w_299 : Cond.instanceMethod yX0_init ∈ tb := tb_mem 299 (by decide +kernel) (by decide +kernel)
theorem od_184 : okD yX0_init 0 := ⟨by decide +kernel, by decide +kernel, by decide +kernel⟩
theorem kX11_252 : CN RX11 252 yX0_init cX0_init 1 0 := ⟨w_300, Or.inr ⟨_, w_298⟩, w_299, w_64, rfl, od_184⟩
theorem w_301 : Cond.methodLinkNest RX0 3 yX4_init "LikeLastYears" ∈ nst := nst_mem 301 (by decide +kernel) (by decide +kernel)
theorem kX0_3 : CN RX0 3 yX4_init cX4_init 1 0 := ⟨w_87, Or.inr ⟨_, w_301⟩, w_86, w_54, rfl, od_180⟩
theorem w_305 : Cond.methodLinkNest RX11 255 yX3_init "LikeLastYears" ∈ nst := nst_mem 305 (by decide +kernel) (by decide +kernel)
theorem w_307 : Cond.code yX3_init cX3_init 1 none ∈ tb := tb_mem 307 (by decide +kernel) (by decide +kernel)
theorem w_306 : Cond.instanceMethod yX3_init ∈ tb := tb_mem 306 (by decide +kernel) (by decide +kernel)
theorem od_185 : okD yX3_init 0 := ⟨by decide +kernel, by decide +kernel, by decide +kernel⟩
theorem kX11_255 : CN RX11 255 yX3_init cX3_init 1 0 := ⟨w_307, Or.inr ⟨_, w_305⟩, w_306, w_65, rfl, od_185⟩
theorem w_308 : Cond.methodLinkNest RX3 3 yX8_init "LikeLastYears" ∈ nst := nst_mem 308 (by decide +kernel) (by decide +kernel)
theorem kX3_3 : CN RX3 3 yX8_init cX8_init 1 0 := ⟨w_293, Or.inr ⟨_, w_308⟩, w_292, w_63, rfl, od_183⟩
theorem w_311 : Cond.methodLinkNest RX11 258 yX4_init "LikeLastYears" ∈ nst := nst_mem 311 (by decide +kernel) (by decide +kernel)
theorem kX11_258 : CN RX11 258 yX4_init cX4_init 1 0 := ⟨w_87, Or.inr ⟨_, w_311⟩, w_86, w_54, rfl, od_180⟩
end
section
section VL
variable {p : Program} {l : Launch} {e : Env} {R : Room} {s : State} {m : MethodId} {args : Array Value} {below : List Frame} {meth : Method} {c : Code} {cells slots : Nat} {Q : State → Prop} {cc : ByteArray} {nL : Nat} {y : MethodName} {ret : Option FieldType} {G : GX} {A : Nat → Prop} {ad : Nat → Nat} {ws : List CE} {pc : Nat} {r : List (Option Value)} {st : List Value}
theorem V_iload_0 (X : CX p s m args meth c cc nL y ret G A) {x : Int32} (hd : decode cc pc = .ok (.iload 0, 2)) (k : V p l e R s m args below meth c cells slots Q G A nL ad ws (pc + 2) (some (.int x) :: r) (.int x :: st)) : V p l e R s m args below meth c cells slots Q G A nL ad ws pc (some (.int x) :: r) st := V_iload X hd rfl k
theorem V_iload_n0 (X : CX p s m args meth c cc nL y ret G A) {x : Int32} (hd : decode cc pc = .ok (.iload_n 0, 1)) (k : V p l e R s m args below meth c cells slots Q G A nL ad ws (pc + 1) (some (.int x) :: r) (.int x :: st)) : V p l e R s m args below meth c cells slots Q G A nL ad ws pc (some (.int x) :: r) st := V_iload_n X hd rfl k
theorem V_lload_0 (X : CX p s m args meth c cc nL y ret G A) {x : Int64} (hd : decode cc pc = .ok (.lload 0, 2)) (k : V p l e R s m args below meth c cells slots Q G A nL ad ws (pc + 2) (some (.long x) :: r) (.long x :: st)) : V p l e R s m args below meth c cells slots Q G A nL ad ws pc (some (.long x) :: r) st := V_lload X hd rfl k
theorem V_lload_n0 (X : CX p s m args meth c cc nL y ret G A) {x : Int64} (hd : decode cc pc = .ok (.lload_n 0, 1)) (k : V p l e R s m args below meth c cells slots Q G A nL ad ws (pc + 1) (some (.long x) :: r) (.long x :: st)) : V p l e R s m args below meth c cells slots Q G A nL ad ws pc (some (.long x) :: r) st := V_lload_n X hd rfl k
theorem V_aload_0 (X : CX p s m args meth c cc nL y ret G A) {x : Nat} (hd : decode cc pc = .ok (.aload 0, 2)) (k : V p l e R s m args below meth c cells slots Q G A nL ad ws (pc + 2) (some (.ref x) :: r) (.ref x :: st)) : V p l e R s m args below meth c cells slots Q G A nL ad ws pc (some (.ref x) :: r) st := V_aload X hd rfl k
theorem V_aload_n0 (X : CX p s m args meth c cc nL y ret G A) {x : Nat} (hd : decode cc pc = .ok (.aload_n 0, 1)) (k : V p l e R s m args below meth c cells slots Q G A nL ad ws (pc + 1) (some (.ref x) :: r) (.ref x :: st)) : V p l e R s m args below meth c cells slots Q G A nL ad ws pc (some (.ref x) :: r) st := V_aload_n X hd rfl k
theorem V_istore_0 (X : CX p s m args meth c cc nL y ret G A) {a0 : Option Value} {x : Int32} (hd : decode cc pc = .ok (.istore 0, 2)) (hj : 0 < nL) (hn : noL (a0 :: r) 0 = true) (k : V p l e R s m args below meth c cells slots Q G A nL ad ws (pc + 2) (some (.int x) :: r) st) : V p l e R s m args below meth c cells slots Q G A nL ad ws pc (a0 :: r) (.int x :: st) := V_istore X hd hj hn rfl k
theorem V_istore_n0 (X : CX p s m args meth c cc nL y ret G A) {a0 : Option Value} {x : Int32} (hd : decode cc pc = .ok (.istore_n 0, 1)) (hj : 0 < nL) (hn : noL (a0 :: r) 0 = true) (k : V p l e R s m args below meth c cells slots Q G A nL ad ws (pc + 1) (some (.int x) :: r) st) : V p l e R s m args below meth c cells slots Q G A nL ad ws pc (a0 :: r) (.int x :: st) := V_istore_n X hd hj hn rfl k
theorem V_astore_0 (X : CX p s m args meth c cc nL y ret G A) {a0 : Option Value} {x : Nat} (hd : decode cc pc = .ok (.astore 0, 2)) (hj : 0 < nL) (hn : noL (a0 :: r) 0 = true) (k : V p l e R s m args below meth c cells slots Q G A nL ad ws (pc + 2) (some (.ref x) :: r) st) : V p l e R s m args below meth c cells slots Q G A nL ad ws pc (a0 :: r) (.ref x :: st) := V_astore X hd hj hn rfl k
theorem V_astore_n0 (X : CX p s m args meth c cc nL y ret G A) {a0 : Option Value} {x : Nat} (hd : decode cc pc = .ok (.astore_n 0, 1)) (hj : 0 < nL) (hn : noL (a0 :: r) 0 = true) (k : V p l e R s m args below meth c cells slots Q G A nL ad ws (pc + 1) (some (.ref x) :: r) st) : V p l e R s m args below meth c cells slots Q G A nL ad ws pc (a0 :: r) (.ref x :: st) := V_astore_n X hd hj hn rfl k
theorem V_lstore_0 (X : CX p s m args meth c cc nL y ret G A) {a0 a1 : Option Value} {x : Int64} (hd : decode cc pc = .ok (.lstore 0, 2)) (hj : 0 + 1 < nL) (hn : noL (a0 :: a1 :: r) 0 = true) (k : V p l e R s m args below meth c cells slots Q G A nL ad ws (pc + 2) (some (.long x) :: none :: r) st) : V p l e R s m args below meth c cells slots Q G A nL ad ws pc (a0 :: a1 :: r) (.long x :: st) := V_lstore X hd hj hn rfl k
theorem V_lstore_n0 (X : CX p s m args meth c cc nL y ret G A) {a0 a1 : Option Value} {x : Int64} (hd : decode cc pc = .ok (.lstore_n 0, 1)) (hj : 0 + 1 < nL) (hn : noL (a0 :: a1 :: r) 0 = true) (k : V p l e R s m args below meth c cells slots Q G A nL ad ws (pc + 1) (some (.long x) :: none :: r) st) : V p l e R s m args below meth c cells slots Q G A nL ad ws pc (a0 :: a1 :: r) (.long x :: st) := V_lstore_n X hd hj hn rfl k
theorem V_iinc_0 (X : CX p s m args meth c cc nL y ret G A) {x v : Int32} {n : Int} (hd : decode cc pc = .ok (.iinc 0 n, 3)) (hj : 0 < nL) (hn : noL (some (.int x) :: r) 0 = true) (hv : x + Int32.ofInt n = v) (k : V p l e R s m args below meth c cells slots Q G A nL ad ws (pc + 3) (some (.int v) :: r) st) : V p l e R s m args below meth c cells slots Q G A nL ad ws pc (some (.int x) :: r) st := V_iinc X hd hj rfl hn (by rw [hv]; rfl) k
theorem V_iload_1 (X : CX p s m args meth c cc nL y ret G A) {a0 : Option Value} {x : Int32} (hd : decode cc pc = .ok (.iload 1, 2)) (k : V p l e R s m args below meth c cells slots Q G A nL ad ws (pc + 2) (a0 :: some (.int x) :: r) (.int x :: st)) : V p l e R s m args below meth c cells slots Q G A nL ad ws pc (a0 :: some (.int x) :: r) st := V_iload X hd rfl k
theorem V_iload_n1 (X : CX p s m args meth c cc nL y ret G A) {a0 : Option Value} {x : Int32} (hd : decode cc pc = .ok (.iload_n 1, 1)) (k : V p l e R s m args below meth c cells slots Q G A nL ad ws (pc + 1) (a0 :: some (.int x) :: r) (.int x :: st)) : V p l e R s m args below meth c cells slots Q G A nL ad ws pc (a0 :: some (.int x) :: r) st := V_iload_n X hd rfl k
theorem V_lload_1 (X : CX p s m args meth c cc nL y ret G A) {a0 : Option Value} {x : Int64} (hd : decode cc pc = .ok (.lload 1, 2)) (k : V p l e R s m args below meth c cells slots Q G A nL ad ws (pc + 2) (a0 :: some (.long x) :: r) (.long x :: st)) : V p l e R s m args below meth c cells slots Q G A nL ad ws pc (a0 :: some (.long x) :: r) st := V_lload X hd rfl k
theorem V_lload_n1 (X : CX p s m args meth c cc nL y ret G A) {a0 : Option Value} {x : Int64} (hd : decode cc pc = .ok (.lload_n 1, 1)) (k : V p l e R s m args below meth c cells slots Q G A nL ad ws (pc + 1) (a0 :: some (.long x) :: r) (.long x :: st)) : V p l e R s m args below meth c cells slots Q G A nL ad ws pc (a0 :: some (.long x) :: r) st := V_lload_n X hd rfl k
theorem V_aload_1 (X : CX p s m args meth c cc nL y ret G A) {a0 : Option Value} {x : Nat} (hd : decode cc pc = .ok (.aload 1, 2)) (k : V p l e R s m args below meth c cells slots Q G A nL ad ws (pc + 2) (a0 :: some (.ref x) :: r) (.ref x :: st)) : V p l e R s m args below meth c cells slots Q G A nL ad ws pc (a0 :: some (.ref x) :: r) st := V_aload X hd rfl k
theorem V_aload_n1 (X : CX p s m args meth c cc nL y ret G A) {a0 : Option Value} {x : Nat} (hd : decode cc pc = .ok (.aload_n 1, 1)) (k : V p l e R s m args below meth c cells slots Q G A nL ad ws (pc + 1) (a0 :: some (.ref x) :: r) (.ref x :: st)) : V p l e R s m args below meth c cells slots Q G A nL ad ws pc (a0 :: some (.ref x) :: r) st := V_aload_n X hd rfl k
theorem V_istore_1 (X : CX p s m args meth c cc nL y ret G A) {a0 a1 : Option Value} {x : Int32} (hd : decode cc pc = .ok (.istore 1, 2)) (hj : 1 < nL) (hn : noL (a0 :: a1 :: r) 1 = true) (k : V p l e R s m args below meth c cells slots Q G A nL ad ws (pc + 2) (a0 :: some (.int x) :: r) st) : V p l e R s m args below meth c cells slots Q G A nL ad ws pc (a0 :: a1 :: r) (.int x :: st) := V_istore X hd hj hn rfl k
theorem V_istore_n1 (X : CX p s m args meth c cc nL y ret G A) {a0 a1 : Option Value} {x : Int32} (hd : decode cc pc = .ok (.istore_n 1, 1)) (hj : 1 < nL) (hn : noL (a0 :: a1 :: r) 1 = true) (k : V p l e R s m args below meth c cells slots Q G A nL ad ws (pc + 1) (a0 :: some (.int x) :: r) st) : V p l e R s m args below meth c cells slots Q G A nL ad ws pc (a0 :: a1 :: r) (.int x :: st) := V_istore_n X hd hj hn rfl k
theorem V_astore_1 (X : CX p s m args meth c cc nL y ret G A) {a0 a1 : Option Value} {x : Nat} (hd : decode cc pc = .ok (.astore 1, 2)) (hj : 1 < nL) (hn : noL (a0 :: a1 :: r) 1 = true) (k : V p l e R s m args below meth c cells slots Q G A nL ad ws (pc + 2) (a0 :: some (.ref x) :: r) st) : V p l e R s m args below meth c cells slots Q G A nL ad ws pc (a0 :: a1 :: r) (.ref x :: st) := V_astore X hd hj hn rfl k
theorem V_astore_n1 (X : CX p s m args meth c cc nL y ret G A) {a0 a1 : Option Value} {x : Nat} (hd : decode cc pc = .ok (.astore_n 1, 1)) (hj : 1 < nL) (hn : noL (a0 :: a1 :: r) 1 = true) (k : V p l e R s m args below meth c cells slots Q G A nL ad ws (pc + 1) (a0 :: some (.ref x) :: r) st) : V p l e R s m args below meth c cells slots Q G A nL ad ws pc (a0 :: a1 :: r) (.ref x :: st) := V_astore_n X hd hj hn rfl k
theorem V_lstore_1 (X : CX p s m args meth c cc nL y ret G A) {a0 a1 a2 : Option Value} {x : Int64} (hd : decode cc pc = .ok (.lstore 1, 2)) (hj : 1 + 1 < nL) (hn : noL (a0 :: a1 :: a2 :: r) 1 = true) (k : V p l e R s m args below meth c cells slots Q G A nL ad ws (pc + 2) (a0 :: some (.long x) :: none :: r) st) : V p l e R s m args below meth c cells slots Q G A nL ad ws pc (a0 :: a1 :: a2 :: r) (.long x :: st) := V_lstore X hd hj hn rfl k
theorem V_lstore_n1 (X : CX p s m args meth c cc nL y ret G A) {a0 a1 a2 : Option Value} {x : Int64} (hd : decode cc pc = .ok (.lstore_n 1, 1)) (hj : 1 + 1 < nL) (hn : noL (a0 :: a1 :: a2 :: r) 1 = true) (k : V p l e R s m args below meth c cells slots Q G A nL ad ws (pc + 1) (a0 :: some (.long x) :: none :: r) st) : V p l e R s m args below meth c cells slots Q G A nL ad ws pc (a0 :: a1 :: a2 :: r) (.long x :: st) := V_lstore_n X hd hj hn rfl k
theorem V_iinc_1 (X : CX p s m args meth c cc nL y ret G A) {a0 : Option Value} {x v : Int32} {n : Int} (hd : decode cc pc = .ok (.iinc 1 n, 3)) (hj : 1 < nL) (hn : noL (a0 :: some (.int x) :: r) 1 = true) (hv : x + Int32.ofInt n = v) (k : V p l e R s m args below meth c cells slots Q G A nL ad ws (pc + 3) (a0 :: some (.int v) :: r) st) : V p l e R s m args below meth c cells slots Q G A nL ad ws pc (a0 :: some (.int x) :: r) st := V_iinc X hd hj rfl hn (by rw [hv]; rfl) k
theorem V_iload_2 (X : CX p s m args meth c cc nL y ret G A) {a0 a1 : Option Value} {x : Int32} (hd : decode cc pc = .ok (.iload 2, 2)) (k : V p l e R s m args below meth c cells slots Q G A nL ad ws (pc + 2) (a0 :: a1 :: some (.int x) :: r) (.int x :: st)) : V p l e R s m args below meth c cells slots Q G A nL ad ws pc (a0 :: a1 :: some (.int x) :: r) st := V_iload X hd rfl k
theorem V_iload_n2 (X : CX p s m args meth c cc nL y ret G A) {a0 a1 : Option Value} {x : Int32} (hd : decode cc pc = .ok (.iload_n 2, 1)) (k : V p l e R s m args below meth c cells slots Q G A nL ad ws (pc + 1) (a0 :: a1 :: some (.int x) :: r) (.int x :: st)) : V p l e R s m args below meth c cells slots Q G A nL ad ws pc (a0 :: a1 :: some (.int x) :: r) st := V_iload_n X hd rfl k
theorem V_lload_2 (X : CX p s m args meth c cc nL y ret G A) {a0 a1 : Option Value} {x : Int64} (hd : decode cc pc = .ok (.lload 2, 2)) (k : V p l e R s m args below meth c cells slots Q G A nL ad ws (pc + 2) (a0 :: a1 :: some (.long x) :: r) (.long x :: st)) : V p l e R s m args below meth c cells slots Q G A nL ad ws pc (a0 :: a1 :: some (.long x) :: r) st := V_lload X hd rfl k
theorem V_lload_n2 (X : CX p s m args meth c cc nL y ret G A) {a0 a1 : Option Value} {x : Int64} (hd : decode cc pc = .ok (.lload_n 2, 1)) (k : V p l e R s m args below meth c cells slots Q G A nL ad ws (pc + 1) (a0 :: a1 :: some (.long x) :: r) (.long x :: st)) : V p l e R s m args below meth c cells slots Q G A nL ad ws pc (a0 :: a1 :: some (.long x) :: r) st := V_lload_n X hd rfl k
theorem V_aload_2 (X : CX p s m args meth c cc nL y ret G A) {a0 a1 : Option Value} {x : Nat} (hd : decode cc pc = .ok (.aload 2, 2)) (k : V p l e R s m args below meth c cells slots Q G A nL ad ws (pc + 2) (a0 :: a1 :: some (.ref x) :: r) (.ref x :: st)) : V p l e R s m args below meth c cells slots Q G A nL ad ws pc (a0 :: a1 :: some (.ref x) :: r) st := V_aload X hd rfl k
theorem V_aload_n2 (X : CX p s m args meth c cc nL y ret G A) {a0 a1 : Option Value} {x : Nat} (hd : decode cc pc = .ok (.aload_n 2, 1)) (k : V p l e R s m args below meth c cells slots Q G A nL ad ws (pc + 1) (a0 :: a1 :: some (.ref x) :: r) (.ref x :: st)) : V p l e R s m args below meth c cells slots Q G A nL ad ws pc (a0 :: a1 :: some (.ref x) :: r) st := V_aload_n X hd rfl k
theorem V_istore_2 (X : CX p s m args meth c cc nL y ret G A) {a0 a1 a2 : Option Value} {x : Int32} (hd : decode cc pc = .ok (.istore 2, 2)) (hj : 2 < nL) (hn : noL (a0 :: a1 :: a2 :: r) 2 = true) (k : V p l e R s m args below meth c cells slots Q G A nL ad ws (pc + 2) (a0 :: a1 :: some (.int x) :: r) st) : V p l e R s m args below meth c cells slots Q G A nL ad ws pc (a0 :: a1 :: a2 :: r) (.int x :: st) := V_istore X hd hj hn rfl k
theorem V_istore_n2 (X : CX p s m args meth c cc nL y ret G A) {a0 a1 a2 : Option Value} {x : Int32} (hd : decode cc pc = .ok (.istore_n 2, 1)) (hj : 2 < nL) (hn : noL (a0 :: a1 :: a2 :: r) 2 = true) (k : V p l e R s m args below meth c cells slots Q G A nL ad ws (pc + 1) (a0 :: a1 :: some (.int x) :: r) st) : V p l e R s m args below meth c cells slots Q G A nL ad ws pc (a0 :: a1 :: a2 :: r) (.int x :: st) := V_istore_n X hd hj hn rfl k
theorem V_astore_2 (X : CX p s m args meth c cc nL y ret G A) {a0 a1 a2 : Option Value} {x : Nat} (hd : decode cc pc = .ok (.astore 2, 2)) (hj : 2 < nL) (hn : noL (a0 :: a1 :: a2 :: r) 2 = true) (k : V p l e R s m args below meth c cells slots Q G A nL ad ws (pc + 2) (a0 :: a1 :: some (.ref x) :: r) st) : V p l e R s m args below meth c cells slots Q G A nL ad ws pc (a0 :: a1 :: a2 :: r) (.ref x :: st) := V_astore X hd hj hn rfl k
theorem V_astore_n2 (X : CX p s m args meth c cc nL y ret G A) {a0 a1 a2 : Option Value} {x : Nat} (hd : decode cc pc = .ok (.astore_n 2, 1)) (hj : 2 < nL) (hn : noL (a0 :: a1 :: a2 :: r) 2 = true) (k : V p l e R s m args below meth c cells slots Q G A nL ad ws (pc + 1) (a0 :: a1 :: some (.ref x) :: r) st) : V p l e R s m args below meth c cells slots Q G A nL ad ws pc (a0 :: a1 :: a2 :: r) (.ref x :: st) := V_astore_n X hd hj hn rfl k
theorem V_lstore_2 (X : CX p s m args meth c cc nL y ret G A) {a0 a1 a2 a3 : Option Value} {x : Int64} (hd : decode cc pc = .ok (.lstore 2, 2)) (hj : 2 + 1 < nL) (hn : noL (a0 :: a1 :: a2 :: a3 :: r) 2 = true) (k : V p l e R s m args below meth c cells slots Q G A nL ad ws (pc + 2) (a0 :: a1 :: some (.long x) :: none :: r) st) : V p l e R s m args below meth c cells slots Q G A nL ad ws pc (a0 :: a1 :: a2 :: a3 :: r) (.long x :: st) := V_lstore X hd hj hn rfl k
theorem V_lstore_n2 (X : CX p s m args meth c cc nL y ret G A) {a0 a1 a2 a3 : Option Value} {x : Int64} (hd : decode cc pc = .ok (.lstore_n 2, 1)) (hj : 2 + 1 < nL) (hn : noL (a0 :: a1 :: a2 :: a3 :: r) 2 = true) (k : V p l e R s m args below meth c cells slots Q G A nL ad ws (pc + 1) (a0 :: a1 :: some (.long x) :: none :: r) st) : V p l e R s m args below meth c cells slots Q G A nL ad ws pc (a0 :: a1 :: a2 :: a3 :: r) (.long x :: st) := V_lstore_n X hd hj hn rfl k
theorem V_iinc_2 (X : CX p s m args meth c cc nL y ret G A) {a0 a1 : Option Value} {x v : Int32} {n : Int} (hd : decode cc pc = .ok (.iinc 2 n, 3)) (hj : 2 < nL) (hn : noL (a0 :: a1 :: some (.int x) :: r) 2 = true) (hv : x + Int32.ofInt n = v) (k : V p l e R s m args below meth c cells slots Q G A nL ad ws (pc + 3) (a0 :: a1 :: some (.int v) :: r) st) : V p l e R s m args below meth c cells slots Q G A nL ad ws pc (a0 :: a1 :: some (.int x) :: r) st := V_iinc X hd hj rfl hn (by rw [hv]; rfl) k
theorem V_iload_3 (X : CX p s m args meth c cc nL y ret G A) {a0 a1 a2 : Option Value} {x : Int32} (hd : decode cc pc = .ok (.iload 3, 2)) (k : V p l e R s m args below meth c cells slots Q G A nL ad ws (pc + 2) (a0 :: a1 :: a2 :: some (.int x) :: r) (.int x :: st)) : V p l e R s m args below meth c cells slots Q G A nL ad ws pc (a0 :: a1 :: a2 :: some (.int x) :: r) st := V_iload X hd rfl k
theorem V_iload_n3 (X : CX p s m args meth c cc nL y ret G A) {a0 a1 a2 : Option Value} {x : Int32} (hd : decode cc pc = .ok (.iload_n 3, 1)) (k : V p l e R s m args below meth c cells slots Q G A nL ad ws (pc + 1) (a0 :: a1 :: a2 :: some (.int x) :: r) (.int x :: st)) : V p l e R s m args below meth c cells slots Q G A nL ad ws pc (a0 :: a1 :: a2 :: some (.int x) :: r) st := V_iload_n X hd rfl k
theorem V_lload_3 (X : CX p s m args meth c cc nL y ret G A) {a0 a1 a2 : Option Value} {x : Int64} (hd : decode cc pc = .ok (.lload 3, 2)) (k : V p l e R s m args below meth c cells slots Q G A nL ad ws (pc + 2) (a0 :: a1 :: a2 :: some (.long x) :: r) (.long x :: st)) : V p l e R s m args below meth c cells slots Q G A nL ad ws pc (a0 :: a1 :: a2 :: some (.long x) :: r) st := V_lload X hd rfl k
theorem V_lload_n3 (X : CX p s m args meth c cc nL y ret G A) {a0 a1 a2 : Option Value} {x : Int64} (hd : decode cc pc = .ok (.lload_n 3, 1)) (k : V p l e R s m args below meth c cells slots Q G A nL ad ws (pc + 1) (a0 :: a1 :: a2 :: some (.long x) :: r) (.long x :: st)) : V p l e R s m args below meth c cells slots Q G A nL ad ws pc (a0 :: a1 :: a2 :: some (.long x) :: r) st := V_lload_n X hd rfl k
theorem V_aload_3 (X : CX p s m args meth c cc nL y ret G A) {a0 a1 a2 : Option Value} {x : Nat} (hd : decode cc pc = .ok (.aload 3, 2)) (k : V p l e R s m args below meth c cells slots Q G A nL ad ws (pc + 2) (a0 :: a1 :: a2 :: some (.ref x) :: r) (.ref x :: st)) : V p l e R s m args below meth c cells slots Q G A nL ad ws pc (a0 :: a1 :: a2 :: some (.ref x) :: r) st := V_aload X hd rfl k
theorem V_aload_n3 (X : CX p s m args meth c cc nL y ret G A) {a0 a1 a2 : Option Value} {x : Nat} (hd : decode cc pc = .ok (.aload_n 3, 1)) (k : V p l e R s m args below meth c cells slots Q G A nL ad ws (pc + 1) (a0 :: a1 :: a2 :: some (.ref x) :: r) (.ref x :: st)) : V p l e R s m args below meth c cells slots Q G A nL ad ws pc (a0 :: a1 :: a2 :: some (.ref x) :: r) st := V_aload_n X hd rfl k
theorem V_istore_3 (X : CX p s m args meth c cc nL y ret G A) {a0 a1 a2 a3 : Option Value} {x : Int32} (hd : decode cc pc = .ok (.istore 3, 2)) (hj : 3 < nL) (hn : noL (a0 :: a1 :: a2 :: a3 :: r) 3 = true) (k : V p l e R s m args below meth c cells slots Q G A nL ad ws (pc + 2) (a0 :: a1 :: a2 :: some (.int x) :: r) st) : V p l e R s m args below meth c cells slots Q G A nL ad ws pc (a0 :: a1 :: a2 :: a3 :: r) (.int x :: st) := V_istore X hd hj hn rfl k
theorem V_istore_n3 (X : CX p s m args meth c cc nL y ret G A) {a0 a1 a2 a3 : Option Value} {x : Int32} (hd : decode cc pc = .ok (.istore_n 3, 1)) (hj : 3 < nL) (hn : noL (a0 :: a1 :: a2 :: a3 :: r) 3 = true) (k : V p l e R s m args below meth c cells slots Q G A nL ad ws (pc + 1) (a0 :: a1 :: a2 :: some (.int x) :: r) st) : V p l e R s m args below meth c cells slots Q G A nL ad ws pc (a0 :: a1 :: a2 :: a3 :: r) (.int x :: st) := V_istore_n X hd hj hn rfl k
theorem V_astore_3 (X : CX p s m args meth c cc nL y ret G A) {a0 a1 a2 a3 : Option Value} {x : Nat} (hd : decode cc pc = .ok (.astore 3, 2)) (hj : 3 < nL) (hn : noL (a0 :: a1 :: a2 :: a3 :: r) 3 = true) (k : V p l e R s m args below meth c cells slots Q G A nL ad ws (pc + 2) (a0 :: a1 :: a2 :: some (.ref x) :: r) st) : V p l e R s m args below meth c cells slots Q G A nL ad ws pc (a0 :: a1 :: a2 :: a3 :: r) (.ref x :: st) := V_astore X hd hj hn rfl k
theorem V_astore_n3 (X : CX p s m args meth c cc nL y ret G A) {a0 a1 a2 a3 : Option Value} {x : Nat} (hd : decode cc pc = .ok (.astore_n 3, 1)) (hj : 3 < nL) (hn : noL (a0 :: a1 :: a2 :: a3 :: r) 3 = true) (k : V p l e R s m args below meth c cells slots Q G A nL ad ws (pc + 1) (a0 :: a1 :: a2 :: some (.ref x) :: r) st) : V p l e R s m args below meth c cells slots Q G A nL ad ws pc (a0 :: a1 :: a2 :: a3 :: r) (.ref x :: st) := V_astore_n X hd hj hn rfl k
theorem V_lstore_3 (X : CX p s m args meth c cc nL y ret G A) {a0 a1 a2 a3 a4 : Option Value} {x : Int64} (hd : decode cc pc = .ok (.lstore 3, 2)) (hj : 3 + 1 < nL) (hn : noL (a0 :: a1 :: a2 :: a3 :: a4 :: r) 3 = true) (k : V p l e R s m args below meth c cells slots Q G A nL ad ws (pc + 2) (a0 :: a1 :: a2 :: some (.long x) :: none :: r) st) : V p l e R s m args below meth c cells slots Q G A nL ad ws pc (a0 :: a1 :: a2 :: a3 :: a4 :: r) (.long x :: st) := V_lstore X hd hj hn rfl k
theorem V_lstore_n3 (X : CX p s m args meth c cc nL y ret G A) {a0 a1 a2 a3 a4 : Option Value} {x : Int64} (hd : decode cc pc = .ok (.lstore_n 3, 1)) (hj : 3 + 1 < nL) (hn : noL (a0 :: a1 :: a2 :: a3 :: a4 :: r) 3 = true) (k : V p l e R s m args below meth c cells slots Q G A nL ad ws (pc + 1) (a0 :: a1 :: a2 :: some (.long x) :: none :: r) st) : V p l e R s m args below meth c cells slots Q G A nL ad ws pc (a0 :: a1 :: a2 :: a3 :: a4 :: r) (.long x :: st) := V_lstore_n X hd hj hn rfl k
theorem V_iinc_3 (X : CX p s m args meth c cc nL y ret G A) {a0 a1 a2 : Option Value} {x v : Int32} {n : Int} (hd : decode cc pc = .ok (.iinc 3 n, 3)) (hj : 3 < nL) (hn : noL (a0 :: a1 :: a2 :: some (.int x) :: r) 3 = true) (hv : x + Int32.ofInt n = v) (k : V p l e R s m args below meth c cells slots Q G A nL ad ws (pc + 3) (a0 :: a1 :: a2 :: some (.int v) :: r) st) : V p l e R s m args below meth c cells slots Q G A nL ad ws pc (a0 :: a1 :: a2 :: some (.int x) :: r) st := V_iinc X hd hj rfl hn (by rw [hv]; rfl) k
theorem V_iload_4 (X : CX p s m args meth c cc nL y ret G A) {a0 a1 a2 a3 : Option Value} {x : Int32} (hd : decode cc pc = .ok (.iload 4, 2)) (k : V p l e R s m args below meth c cells slots Q G A nL ad ws (pc + 2) (a0 :: a1 :: a2 :: a3 :: some (.int x) :: r) (.int x :: st)) : V p l e R s m args below meth c cells slots Q G A nL ad ws pc (a0 :: a1 :: a2 :: a3 :: some (.int x) :: r) st := V_iload X hd rfl k
theorem V_lload_4 (X : CX p s m args meth c cc nL y ret G A) {a0 a1 a2 a3 : Option Value} {x : Int64} (hd : decode cc pc = .ok (.lload 4, 2)) (k : V p l e R s m args below meth c cells slots Q G A nL ad ws (pc + 2) (a0 :: a1 :: a2 :: a3 :: some (.long x) :: r) (.long x :: st)) : V p l e R s m args below meth c cells slots Q G A nL ad ws pc (a0 :: a1 :: a2 :: a3 :: some (.long x) :: r) st := V_lload X hd rfl k
theorem V_aload_4 (X : CX p s m args meth c cc nL y ret G A) {a0 a1 a2 a3 : Option Value} {x : Nat} (hd : decode cc pc = .ok (.aload 4, 2)) (k : V p l e R s m args below meth c cells slots Q G A nL ad ws (pc + 2) (a0 :: a1 :: a2 :: a3 :: some (.ref x) :: r) (.ref x :: st)) : V p l e R s m args below meth c cells slots Q G A nL ad ws pc (a0 :: a1 :: a2 :: a3 :: some (.ref x) :: r) st := V_aload X hd rfl k
theorem V_istore_4 (X : CX p s m args meth c cc nL y ret G A) {a0 a1 a2 a3 a4 : Option Value} {x : Int32} (hd : decode cc pc = .ok (.istore 4, 2)) (hj : 4 < nL) (hn : noL (a0 :: a1 :: a2 :: a3 :: a4 :: r) 4 = true) (k : V p l e R s m args below meth c cells slots Q G A nL ad ws (pc + 2) (a0 :: a1 :: a2 :: a3 :: some (.int x) :: r) st) : V p l e R s m args below meth c cells slots Q G A nL ad ws pc (a0 :: a1 :: a2 :: a3 :: a4 :: r) (.int x :: st) := V_istore X hd hj hn rfl k
theorem V_astore_4 (X : CX p s m args meth c cc nL y ret G A) {a0 a1 a2 a3 a4 : Option Value} {x : Nat} (hd : decode cc pc = .ok (.astore 4, 2)) (hj : 4 < nL) (hn : noL (a0 :: a1 :: a2 :: a3 :: a4 :: r) 4 = true) (k : V p l e R s m args below meth c cells slots Q G A nL ad ws (pc + 2) (a0 :: a1 :: a2 :: a3 :: some (.ref x) :: r) st) : V p l e R s m args below meth c cells slots Q G A nL ad ws pc (a0 :: a1 :: a2 :: a3 :: a4 :: r) (.ref x :: st) := V_astore X hd hj hn rfl k
theorem V_lstore_4 (X : CX p s m args meth c cc nL y ret G A) {a0 a1 a2 a3 a4 a5 : Option Value} {x : Int64} (hd : decode cc pc = .ok (.lstore 4, 2)) (hj : 4 + 1 < nL) (hn : noL (a0 :: a1 :: a2 :: a3 :: a4 :: a5 :: r) 4 = true) (k : V p l e R s m args below meth c cells slots Q G A nL ad ws (pc + 2) (a0 :: a1 :: a2 :: a3 :: some (.long x) :: none :: r) st) : V p l e R s m args below meth c cells slots Q G A nL ad ws pc (a0 :: a1 :: a2 :: a3 :: a4 :: a5 :: r) (.long x :: st) := V_lstore X hd hj hn rfl k
theorem V_iinc_4 (X : CX p s m args meth c cc nL y ret G A) {a0 a1 a2 a3 : Option Value} {x v : Int32} {n : Int} (hd : decode cc pc = .ok (.iinc 4 n, 3)) (hj : 4 < nL) (hn : noL (a0 :: a1 :: a2 :: a3 :: some (.int x) :: r) 4 = true) (hv : x + Int32.ofInt n = v) (k : V p l e R s m args below meth c cells slots Q G A nL ad ws (pc + 3) (a0 :: a1 :: a2 :: a3 :: some (.int v) :: r) st) : V p l e R s m args below meth c cells slots Q G A nL ad ws pc (a0 :: a1 :: a2 :: a3 :: some (.int x) :: r) st := V_iinc X hd hj rfl hn (by rw [hv]; rfl) k
theorem V_iload_5 (X : CX p s m args meth c cc nL y ret G A) {a0 a1 a2 a3 a4 : Option Value} {x : Int32} (hd : decode cc pc = .ok (.iload 5, 2)) (k : V p l e R s m args below meth c cells slots Q G A nL ad ws (pc + 2) (a0 :: a1 :: a2 :: a3 :: a4 :: some (.int x) :: r) (.int x :: st)) : V p l e R s m args below meth c cells slots Q G A nL ad ws pc (a0 :: a1 :: a2 :: a3 :: a4 :: some (.int x) :: r) st := V_iload X hd rfl k
theorem V_lload_5 (X : CX p s m args meth c cc nL y ret G A) {a0 a1 a2 a3 a4 : Option Value} {x : Int64} (hd : decode cc pc = .ok (.lload 5, 2)) (k : V p l e R s m args below meth c cells slots Q G A nL ad ws (pc + 2) (a0 :: a1 :: a2 :: a3 :: a4 :: some (.long x) :: r) (.long x :: st)) : V p l e R s m args below meth c cells slots Q G A nL ad ws pc (a0 :: a1 :: a2 :: a3 :: a4 :: some (.long x) :: r) st := V_lload X hd rfl k
theorem V_aload_5 (X : CX p s m args meth c cc nL y ret G A) {a0 a1 a2 a3 a4 : Option Value} {x : Nat} (hd : decode cc pc = .ok (.aload 5, 2)) (k : V p l e R s m args below meth c cells slots Q G A nL ad ws (pc + 2) (a0 :: a1 :: a2 :: a3 :: a4 :: some (.ref x) :: r) (.ref x :: st)) : V p l e R s m args below meth c cells slots Q G A nL ad ws pc (a0 :: a1 :: a2 :: a3 :: a4 :: some (.ref x) :: r) st := V_aload X hd rfl k
theorem V_istore_5 (X : CX p s m args meth c cc nL y ret G A) {a0 a1 a2 a3 a4 a5 : Option Value} {x : Int32} (hd : decode cc pc = .ok (.istore 5, 2)) (hj : 5 < nL) (hn : noL (a0 :: a1 :: a2 :: a3 :: a4 :: a5 :: r) 5 = true) (k : V p l e R s m args below meth c cells slots Q G A nL ad ws (pc + 2) (a0 :: a1 :: a2 :: a3 :: a4 :: some (.int x) :: r) st) : V p l e R s m args below meth c cells slots Q G A nL ad ws pc (a0 :: a1 :: a2 :: a3 :: a4 :: a5 :: r) (.int x :: st) := V_istore X hd hj hn rfl k
theorem V_astore_5 (X : CX p s m args meth c cc nL y ret G A) {a0 a1 a2 a3 a4 a5 : Option Value} {x : Nat} (hd : decode cc pc = .ok (.astore 5, 2)) (hj : 5 < nL) (hn : noL (a0 :: a1 :: a2 :: a3 :: a4 :: a5 :: r) 5 = true) (k : V p l e R s m args below meth c cells slots Q G A nL ad ws (pc + 2) (a0 :: a1 :: a2 :: a3 :: a4 :: some (.ref x) :: r) st) : V p l e R s m args below meth c cells slots Q G A nL ad ws pc (a0 :: a1 :: a2 :: a3 :: a4 :: a5 :: r) (.ref x :: st) := V_astore X hd hj hn rfl k
theorem V_lstore_5 (X : CX p s m args meth c cc nL y ret G A) {a0 a1 a2 a3 a4 a5 a6 : Option Value} {x : Int64} (hd : decode cc pc = .ok (.lstore 5, 2)) (hj : 5 + 1 < nL) (hn : noL (a0 :: a1 :: a2 :: a3 :: a4 :: a5 :: a6 :: r) 5 = true) (k : V p l e R s m args below meth c cells slots Q G A nL ad ws (pc + 2) (a0 :: a1 :: a2 :: a3 :: a4 :: some (.long x) :: none :: r) st) : V p l e R s m args below meth c cells slots Q G A nL ad ws pc (a0 :: a1 :: a2 :: a3 :: a4 :: a5 :: a6 :: r) (.long x :: st) := V_lstore X hd hj hn rfl k
theorem V_iinc_5 (X : CX p s m args meth c cc nL y ret G A) {a0 a1 a2 a3 a4 : Option Value} {x v : Int32} {n : Int} (hd : decode cc pc = .ok (.iinc 5 n, 3)) (hj : 5 < nL) (hn : noL (a0 :: a1 :: a2 :: a3 :: a4 :: some (.int x) :: r) 5 = true) (hv : x + Int32.ofInt n = v) (k : V p l e R s m args below meth c cells slots Q G A nL ad ws (pc + 3) (a0 :: a1 :: a2 :: a3 :: a4 :: some (.int v) :: r) st) : V p l e R s m args below meth c cells slots Q G A nL ad ws pc (a0 :: a1 :: a2 :: a3 :: a4 :: some (.int x) :: r) st := V_iinc X hd hj rfl hn (by rw [hv]; rfl) k
theorem V_iload_6 (X : CX p s m args meth c cc nL y ret G A) {a0 a1 a2 a3 a4 a5 : Option Value} {x : Int32} (hd : decode cc pc = .ok (.iload 6, 2)) (k : V p l e R s m args below meth c cells slots Q G A nL ad ws (pc + 2) (a0 :: a1 :: a2 :: a3 :: a4 :: a5 :: some (.int x) :: r) (.int x :: st)) : V p l e R s m args below meth c cells slots Q G A nL ad ws pc (a0 :: a1 :: a2 :: a3 :: a4 :: a5 :: some (.int x) :: r) st := V_iload X hd rfl k
theorem V_lload_6 (X : CX p s m args meth c cc nL y ret G A) {a0 a1 a2 a3 a4 a5 : Option Value} {x : Int64} (hd : decode cc pc = .ok (.lload 6, 2)) (k : V p l e R s m args below meth c cells slots Q G A nL ad ws (pc + 2) (a0 :: a1 :: a2 :: a3 :: a4 :: a5 :: some (.long x) :: r) (.long x :: st)) : V p l e R s m args below meth c cells slots Q G A nL ad ws pc (a0 :: a1 :: a2 :: a3 :: a4 :: a5 :: some (.long x) :: r) st := V_lload X hd rfl k
theorem V_aload_6 (X : CX p s m args meth c cc nL y ret G A) {a0 a1 a2 a3 a4 a5 : Option Value} {x : Nat} (hd : decode cc pc = .ok (.aload 6, 2)) (k : V p l e R s m args below meth c cells slots Q G A nL ad ws (pc + 2) (a0 :: a1 :: a2 :: a3 :: a4 :: a5 :: some (.ref x) :: r) (.ref x :: st)) : V p l e R s m args below meth c cells slots Q G A nL ad ws pc (a0 :: a1 :: a2 :: a3 :: a4 :: a5 :: some (.ref x) :: r) st := V_aload X hd rfl k
theorem V_istore_6 (X : CX p s m args meth c cc nL y ret G A) {a0 a1 a2 a3 a4 a5 a6 : Option Value} {x : Int32} (hd : decode cc pc = .ok (.istore 6, 2)) (hj : 6 < nL) (hn : noL (a0 :: a1 :: a2 :: a3 :: a4 :: a5 :: a6 :: r) 6 = true) (k : V p l e R s m args below meth c cells slots Q G A nL ad ws (pc + 2) (a0 :: a1 :: a2 :: a3 :: a4 :: a5 :: some (.int x) :: r) st) : V p l e R s m args below meth c cells slots Q G A nL ad ws pc (a0 :: a1 :: a2 :: a3 :: a4 :: a5 :: a6 :: r) (.int x :: st) := V_istore X hd hj hn rfl k
theorem V_astore_6 (X : CX p s m args meth c cc nL y ret G A) {a0 a1 a2 a3 a4 a5 a6 : Option Value} {x : Nat} (hd : decode cc pc = .ok (.astore 6, 2)) (hj : 6 < nL) (hn : noL (a0 :: a1 :: a2 :: a3 :: a4 :: a5 :: a6 :: r) 6 = true) (k : V p l e R s m args below meth c cells slots Q G A nL ad ws (pc + 2) (a0 :: a1 :: a2 :: a3 :: a4 :: a5 :: some (.ref x) :: r) st) : V p l e R s m args below meth c cells slots Q G A nL ad ws pc (a0 :: a1 :: a2 :: a3 :: a4 :: a5 :: a6 :: r) (.ref x :: st) := V_astore X hd hj hn rfl k
theorem V_lstore_6 (X : CX p s m args meth c cc nL y ret G A) {a0 a1 a2 a3 a4 a5 a6 a7 : Option Value} {x : Int64} (hd : decode cc pc = .ok (.lstore 6, 2)) (hj : 6 + 1 < nL) (hn : noL (a0 :: a1 :: a2 :: a3 :: a4 :: a5 :: a6 :: a7 :: r) 6 = true) (k : V p l e R s m args below meth c cells slots Q G A nL ad ws (pc + 2) (a0 :: a1 :: a2 :: a3 :: a4 :: a5 :: some (.long x) :: none :: r) st) : V p l e R s m args below meth c cells slots Q G A nL ad ws pc (a0 :: a1 :: a2 :: a3 :: a4 :: a5 :: a6 :: a7 :: r) (.long x :: st) := V_lstore X hd hj hn rfl k
theorem V_iinc_6 (X : CX p s m args meth c cc nL y ret G A) {a0 a1 a2 a3 a4 a5 : Option Value} {x v : Int32} {n : Int} (hd : decode cc pc = .ok (.iinc 6 n, 3)) (hj : 6 < nL) (hn : noL (a0 :: a1 :: a2 :: a3 :: a4 :: a5 :: some (.int x) :: r) 6 = true) (hv : x + Int32.ofInt n = v) (k : V p l e R s m args below meth c cells slots Q G A nL ad ws (pc + 3) (a0 :: a1 :: a2 :: a3 :: a4 :: a5 :: some (.int v) :: r) st) : V p l e R s m args below meth c cells slots Q G A nL ad ws pc (a0 :: a1 :: a2 :: a3 :: a4 :: a5 :: some (.int x) :: r) st := V_iinc X hd hj rfl hn (by rw [hv]; rfl) k
theorem V_iload_7 (X : CX p s m args meth c cc nL y ret G A) {a0 a1 a2 a3 a4 a5 a6 : Option Value} {x : Int32} (hd : decode cc pc = .ok (.iload 7, 2)) (k : V p l e R s m args below meth c cells slots Q G A nL ad ws (pc + 2) (a0 :: a1 :: a2 :: a3 :: a4 :: a5 :: a6 :: some (.int x) :: r) (.int x :: st)) : V p l e R s m args below meth c cells slots Q G A nL ad ws pc (a0 :: a1 :: a2 :: a3 :: a4 :: a5 :: a6 :: some (.int x) :: r) st := V_iload X hd rfl k
theorem V_lload_7 (X : CX p s m args meth c cc nL y ret G A) {a0 a1 a2 a3 a4 a5 a6 : Option Value} {x : Int64} (hd : decode cc pc = .ok (.lload 7, 2)) (k : V p l e R s m args below meth c cells slots Q G A nL ad ws (pc + 2) (a0 :: a1 :: a2 :: a3 :: a4 :: a5 :: a6 :: some (.long x) :: r) (.long x :: st)) : V p l e R s m args below meth c cells slots Q G A nL ad ws pc (a0 :: a1 :: a2 :: a3 :: a4 :: a5 :: a6 :: some (.long x) :: r) st := V_lload X hd rfl k
theorem V_aload_7 (X : CX p s m args meth c cc nL y ret G A) {a0 a1 a2 a3 a4 a5 a6 : Option Value} {x : Nat} (hd : decode cc pc = .ok (.aload 7, 2)) (k : V p l e R s m args below meth c cells slots Q G A nL ad ws (pc + 2) (a0 :: a1 :: a2 :: a3 :: a4 :: a5 :: a6 :: some (.ref x) :: r) (.ref x :: st)) : V p l e R s m args below meth c cells slots Q G A nL ad ws pc (a0 :: a1 :: a2 :: a3 :: a4 :: a5 :: a6 :: some (.ref x) :: r) st := V_aload X hd rfl k
theorem V_istore_7 (X : CX p s m args meth c cc nL y ret G A) {a0 a1 a2 a3 a4 a5 a6 a7 : Option Value} {x : Int32} (hd : decode cc pc = .ok (.istore 7, 2)) (hj : 7 < nL) (hn : noL (a0 :: a1 :: a2 :: a3 :: a4 :: a5 :: a6 :: a7 :: r) 7 = true) (k : V p l e R s m args below meth c cells slots Q G A nL ad ws (pc + 2) (a0 :: a1 :: a2 :: a3 :: a4 :: a5 :: a6 :: some (.int x) :: r) st) : V p l e R s m args below meth c cells slots Q G A nL ad ws pc (a0 :: a1 :: a2 :: a3 :: a4 :: a5 :: a6 :: a7 :: r) (.int x :: st) := V_istore X hd hj hn rfl k
theorem V_astore_7 (X : CX p s m args meth c cc nL y ret G A) {a0 a1 a2 a3 a4 a5 a6 a7 : Option Value} {x : Nat} (hd : decode cc pc = .ok (.astore 7, 2)) (hj : 7 < nL) (hn : noL (a0 :: a1 :: a2 :: a3 :: a4 :: a5 :: a6 :: a7 :: r) 7 = true) (k : V p l e R s m args below meth c cells slots Q G A nL ad ws (pc + 2) (a0 :: a1 :: a2 :: a3 :: a4 :: a5 :: a6 :: some (.ref x) :: r) st) : V p l e R s m args below meth c cells slots Q G A nL ad ws pc (a0 :: a1 :: a2 :: a3 :: a4 :: a5 :: a6 :: a7 :: r) (.ref x :: st) := V_astore X hd hj hn rfl k
theorem V_lstore_7 (X : CX p s m args meth c cc nL y ret G A) {a0 a1 a2 a3 a4 a5 a6 a7 a8 : Option Value} {x : Int64} (hd : decode cc pc = .ok (.lstore 7, 2)) (hj : 7 + 1 < nL) (hn : noL (a0 :: a1 :: a2 :: a3 :: a4 :: a5 :: a6 :: a7 :: a8 :: r) 7 = true) (k : V p l e R s m args below meth c cells slots Q G A nL ad ws (pc + 2) (a0 :: a1 :: a2 :: a3 :: a4 :: a5 :: a6 :: some (.long x) :: none :: r) st) : V p l e R s m args below meth c cells slots Q G A nL ad ws pc (a0 :: a1 :: a2 :: a3 :: a4 :: a5 :: a6 :: a7 :: a8 :: r) (.long x :: st) := V_lstore X hd hj hn rfl k
theorem V_iinc_7 (X : CX p s m args meth c cc nL y ret G A) {a0 a1 a2 a3 a4 a5 a6 : Option Value} {x v : Int32} {n : Int} (hd : decode cc pc = .ok (.iinc 7 n, 3)) (hj : 7 < nL) (hn : noL (a0 :: a1 :: a2 :: a3 :: a4 :: a5 :: a6 :: some (.int x) :: r) 7 = true) (hv : x + Int32.ofInt n = v) (k : V p l e R s m args below meth c cells slots Q G A nL ad ws (pc + 3) (a0 :: a1 :: a2 :: a3 :: a4 :: a5 :: a6 :: some (.int v) :: r) st) : V p l e R s m args below meth c cells slots Q G A nL ad ws pc (a0 :: a1 :: a2 :: a3 :: a4 :: a5 :: a6 :: some (.int x) :: r) st := V_iinc X hd hj rfl hn (by rw [hv]; rfl) k
theorem V_iload_8 (X : CX p s m args meth c cc nL y ret G A) {a0 a1 a2 a3 a4 a5 a6 a7 : Option Value} {x : Int32} (hd : decode cc pc = .ok (.iload 8, 2)) (k : V p l e R s m args below meth c cells slots Q G A nL ad ws (pc + 2) (a0 :: a1 :: a2 :: a3 :: a4 :: a5 :: a6 :: a7 :: some (.int x) :: r) (.int x :: st)) : V p l e R s m args below meth c cells slots Q G A nL ad ws pc (a0 :: a1 :: a2 :: a3 :: a4 :: a5 :: a6 :: a7 :: some (.int x) :: r) st := V_iload X hd rfl k
theorem V_lload_8 (X : CX p s m args meth c cc nL y ret G A) {a0 a1 a2 a3 a4 a5 a6 a7 : Option Value} {x : Int64} (hd : decode cc pc = .ok (.lload 8, 2)) (k : V p l e R s m args below meth c cells slots Q G A nL ad ws (pc + 2) (a0 :: a1 :: a2 :: a3 :: a4 :: a5 :: a6 :: a7 :: some (.long x) :: r) (.long x :: st)) : V p l e R s m args below meth c cells slots Q G A nL ad ws pc (a0 :: a1 :: a2 :: a3 :: a4 :: a5 :: a6 :: a7 :: some (.long x) :: r) st := V_lload X hd rfl k
theorem V_aload_8 (X : CX p s m args meth c cc nL y ret G A) {a0 a1 a2 a3 a4 a5 a6 a7 : Option Value} {x : Nat} (hd : decode cc pc = .ok (.aload 8, 2)) (k : V p l e R s m args below meth c cells slots Q G A nL ad ws (pc + 2) (a0 :: a1 :: a2 :: a3 :: a4 :: a5 :: a6 :: a7 :: some (.ref x) :: r) (.ref x :: st)) : V p l e R s m args below meth c cells slots Q G A nL ad ws pc (a0 :: a1 :: a2 :: a3 :: a4 :: a5 :: a6 :: a7 :: some (.ref x) :: r) st := V_aload X hd rfl k
theorem V_istore_8 (X : CX p s m args meth c cc nL y ret G A) {a0 a1 a2 a3 a4 a5 a6 a7 a8 : Option Value} {x : Int32} (hd : decode cc pc = .ok (.istore 8, 2)) (hj : 8 < nL) (hn : noL (a0 :: a1 :: a2 :: a3 :: a4 :: a5 :: a6 :: a7 :: a8 :: r) 8 = true) (k : V p l e R s m args below meth c cells slots Q G A nL ad ws (pc + 2) (a0 :: a1 :: a2 :: a3 :: a4 :: a5 :: a6 :: a7 :: some (.int x) :: r) st) : V p l e R s m args below meth c cells slots Q G A nL ad ws pc (a0 :: a1 :: a2 :: a3 :: a4 :: a5 :: a6 :: a7 :: a8 :: r) (.int x :: st) := V_istore X hd hj hn rfl k
theorem V_astore_8 (X : CX p s m args meth c cc nL y ret G A) {a0 a1 a2 a3 a4 a5 a6 a7 a8 : Option Value} {x : Nat} (hd : decode cc pc = .ok (.astore 8, 2)) (hj : 8 < nL) (hn : noL (a0 :: a1 :: a2 :: a3 :: a4 :: a5 :: a6 :: a7 :: a8 :: r) 8 = true) (k : V p l e R s m args below meth c cells slots Q G A nL ad ws (pc + 2) (a0 :: a1 :: a2 :: a3 :: a4 :: a5 :: a6 :: a7 :: some (.ref x) :: r) st) : V p l e R s m args below meth c cells slots Q G A nL ad ws pc (a0 :: a1 :: a2 :: a3 :: a4 :: a5 :: a6 :: a7 :: a8 :: r) (.ref x :: st) := V_astore X hd hj hn rfl k
theorem V_lstore_8 (X : CX p s m args meth c cc nL y ret G A) {a0 a1 a2 a3 a4 a5 a6 a7 a8 a9 : Option Value} {x : Int64} (hd : decode cc pc = .ok (.lstore 8, 2)) (hj : 8 + 1 < nL) (hn : noL (a0 :: a1 :: a2 :: a3 :: a4 :: a5 :: a6 :: a7 :: a8 :: a9 :: r) 8 = true) (k : V p l e R s m args below meth c cells slots Q G A nL ad ws (pc + 2) (a0 :: a1 :: a2 :: a3 :: a4 :: a5 :: a6 :: a7 :: some (.long x) :: none :: r) st) : V p l e R s m args below meth c cells slots Q G A nL ad ws pc (a0 :: a1 :: a2 :: a3 :: a4 :: a5 :: a6 :: a7 :: a8 :: a9 :: r) (.long x :: st) := V_lstore X hd hj hn rfl k
theorem V_iinc_8 (X : CX p s m args meth c cc nL y ret G A) {a0 a1 a2 a3 a4 a5 a6 a7 : Option Value} {x v : Int32} {n : Int} (hd : decode cc pc = .ok (.iinc 8 n, 3)) (hj : 8 < nL) (hn : noL (a0 :: a1 :: a2 :: a3 :: a4 :: a5 :: a6 :: a7 :: some (.int x) :: r) 8 = true) (hv : x + Int32.ofInt n = v) (k : V p l e R s m args below meth c cells slots Q G A nL ad ws (pc + 3) (a0 :: a1 :: a2 :: a3 :: a4 :: a5 :: a6 :: a7 :: some (.int v) :: r) st) : V p l e R s m args below meth c cells slots Q G A nL ad ws pc (a0 :: a1 :: a2 :: a3 :: a4 :: a5 :: a6 :: a7 :: some (.int x) :: r) st := V_iinc X hd hj rfl hn (by rw [hv]; rfl) k
theorem V_iload_9 (X : CX p s m args meth c cc nL y ret G A) {a0 a1 a2 a3 a4 a5 a6 a7 a8 : Option Value} {x : Int32} (hd : decode cc pc = .ok (.iload 9, 2)) (k : V p l e R s m args below meth c cells slots Q G A nL ad ws (pc + 2) (a0 :: a1 :: a2 :: a3 :: a4 :: a5 :: a6 :: a7 :: a8 :: some (.int x) :: r) (.int x :: st)) : V p l e R s m args below meth c cells slots Q G A nL ad ws pc (a0 :: a1 :: a2 :: a3 :: a4 :: a5 :: a6 :: a7 :: a8 :: some (.int x) :: r) st := V_iload X hd rfl k
theorem V_lload_9 (X : CX p s m args meth c cc nL y ret G A) {a0 a1 a2 a3 a4 a5 a6 a7 a8 : Option Value} {x : Int64} (hd : decode cc pc = .ok (.lload 9, 2)) (k : V p l e R s m args below meth c cells slots Q G A nL ad ws (pc + 2) (a0 :: a1 :: a2 :: a3 :: a4 :: a5 :: a6 :: a7 :: a8 :: some (.long x) :: r) (.long x :: st)) : V p l e R s m args below meth c cells slots Q G A nL ad ws pc (a0 :: a1 :: a2 :: a3 :: a4 :: a5 :: a6 :: a7 :: a8 :: some (.long x) :: r) st := V_lload X hd rfl k
theorem V_aload_9 (X : CX p s m args meth c cc nL y ret G A) {a0 a1 a2 a3 a4 a5 a6 a7 a8 : Option Value} {x : Nat} (hd : decode cc pc = .ok (.aload 9, 2)) (k : V p l e R s m args below meth c cells slots Q G A nL ad ws (pc + 2) (a0 :: a1 :: a2 :: a3 :: a4 :: a5 :: a6 :: a7 :: a8 :: some (.ref x) :: r) (.ref x :: st)) : V p l e R s m args below meth c cells slots Q G A nL ad ws pc (a0 :: a1 :: a2 :: a3 :: a4 :: a5 :: a6 :: a7 :: a8 :: some (.ref x) :: r) st := V_aload X hd rfl k
theorem V_istore_9 (X : CX p s m args meth c cc nL y ret G A) {a0 a1 a2 a3 a4 a5 a6 a7 a8 a9 : Option Value} {x : Int32} (hd : decode cc pc = .ok (.istore 9, 2)) (hj : 9 < nL) (hn : noL (a0 :: a1 :: a2 :: a3 :: a4 :: a5 :: a6 :: a7 :: a8 :: a9 :: r) 9 = true) (k : V p l e R s m args below meth c cells slots Q G A nL ad ws (pc + 2) (a0 :: a1 :: a2 :: a3 :: a4 :: a5 :: a6 :: a7 :: a8 :: some (.int x) :: r) st) : V p l e R s m args below meth c cells slots Q G A nL ad ws pc (a0 :: a1 :: a2 :: a3 :: a4 :: a5 :: a6 :: a7 :: a8 :: a9 :: r) (.int x :: st) := V_istore X hd hj hn rfl k
theorem V_astore_9 (X : CX p s m args meth c cc nL y ret G A) {a0 a1 a2 a3 a4 a5 a6 a7 a8 a9 : Option Value} {x : Nat} (hd : decode cc pc = .ok (.astore 9, 2)) (hj : 9 < nL) (hn : noL (a0 :: a1 :: a2 :: a3 :: a4 :: a5 :: a6 :: a7 :: a8 :: a9 :: r) 9 = true) (k : V p l e R s m args below meth c cells slots Q G A nL ad ws (pc + 2) (a0 :: a1 :: a2 :: a3 :: a4 :: a5 :: a6 :: a7 :: a8 :: some (.ref x) :: r) st) : V p l e R s m args below meth c cells slots Q G A nL ad ws pc (a0 :: a1 :: a2 :: a3 :: a4 :: a5 :: a6 :: a7 :: a8 :: a9 :: r) (.ref x :: st) := V_astore X hd hj hn rfl k
theorem V_lstore_9 (X : CX p s m args meth c cc nL y ret G A) {a0 a1 a2 a3 a4 a5 a6 a7 a8 a9 a10 : Option Value} {x : Int64} (hd : decode cc pc = .ok (.lstore 9, 2)) (hj : 9 + 1 < nL) (hn : noL (a0 :: a1 :: a2 :: a3 :: a4 :: a5 :: a6 :: a7 :: a8 :: a9 :: a10 :: r) 9 = true) (k : V p l e R s m args below meth c cells slots Q G A nL ad ws (pc + 2) (a0 :: a1 :: a2 :: a3 :: a4 :: a5 :: a6 :: a7 :: a8 :: some (.long x) :: none :: r) st) : V p l e R s m args below meth c cells slots Q G A nL ad ws pc (a0 :: a1 :: a2 :: a3 :: a4 :: a5 :: a6 :: a7 :: a8 :: a9 :: a10 :: r) (.long x :: st) := V_lstore X hd hj hn rfl k
theorem V_iinc_9 (X : CX p s m args meth c cc nL y ret G A) {a0 a1 a2 a3 a4 a5 a6 a7 a8 : Option Value} {x v : Int32} {n : Int} (hd : decode cc pc = .ok (.iinc 9 n, 3)) (hj : 9 < nL) (hn : noL (a0 :: a1 :: a2 :: a3 :: a4 :: a5 :: a6 :: a7 :: a8 :: some (.int x) :: r) 9 = true) (hv : x + Int32.ofInt n = v) (k : V p l e R s m args below meth c cells slots Q G A nL ad ws (pc + 3) (a0 :: a1 :: a2 :: a3 :: a4 :: a5 :: a6 :: a7 :: a8 :: some (.int v) :: r) st) : V p l e R s m args below meth c cells slots Q G A nL ad ws pc (a0 :: a1 :: a2 :: a3 :: a4 :: a5 :: a6 :: a7 :: a8 :: some (.int x) :: r) st := V_iinc X hd hj rfl hn (by rw [hv]; rfl) k
theorem V_iload_10 (X : CX p s m args meth c cc nL y ret G A) {a0 a1 a2 a3 a4 a5 a6 a7 a8 a9 : Option Value} {x : Int32} (hd : decode cc pc = .ok (.iload 10, 2)) (k : V p l e R s m args below meth c cells slots Q G A nL ad ws (pc + 2) (a0 :: a1 :: a2 :: a3 :: a4 :: a5 :: a6 :: a7 :: a8 :: a9 :: some (.int x) :: r) (.int x :: st)) : V p l e R s m args below meth c cells slots Q G A nL ad ws pc (a0 :: a1 :: a2 :: a3 :: a4 :: a5 :: a6 :: a7 :: a8 :: a9 :: some (.int x) :: r) st := V_iload X hd rfl k
theorem V_lload_10 (X : CX p s m args meth c cc nL y ret G A) {a0 a1 a2 a3 a4 a5 a6 a7 a8 a9 : Option Value} {x : Int64} (hd : decode cc pc = .ok (.lload 10, 2)) (k : V p l e R s m args below meth c cells slots Q G A nL ad ws (pc + 2) (a0 :: a1 :: a2 :: a3 :: a4 :: a5 :: a6 :: a7 :: a8 :: a9 :: some (.long x) :: r) (.long x :: st)) : V p l e R s m args below meth c cells slots Q G A nL ad ws pc (a0 :: a1 :: a2 :: a3 :: a4 :: a5 :: a6 :: a7 :: a8 :: a9 :: some (.long x) :: r) st := V_lload X hd rfl k
theorem V_aload_10 (X : CX p s m args meth c cc nL y ret G A) {a0 a1 a2 a3 a4 a5 a6 a7 a8 a9 : Option Value} {x : Nat} (hd : decode cc pc = .ok (.aload 10, 2)) (k : V p l e R s m args below meth c cells slots Q G A nL ad ws (pc + 2) (a0 :: a1 :: a2 :: a3 :: a4 :: a5 :: a6 :: a7 :: a8 :: a9 :: some (.ref x) :: r) (.ref x :: st)) : V p l e R s m args below meth c cells slots Q G A nL ad ws pc (a0 :: a1 :: a2 :: a3 :: a4 :: a5 :: a6 :: a7 :: a8 :: a9 :: some (.ref x) :: r) st := V_aload X hd rfl k
theorem V_istore_10 (X : CX p s m args meth c cc nL y ret G A) {a0 a1 a2 a3 a4 a5 a6 a7 a8 a9 a10 : Option Value} {x : Int32} (hd : decode cc pc = .ok (.istore 10, 2)) (hj : 10 < nL) (hn : noL (a0 :: a1 :: a2 :: a3 :: a4 :: a5 :: a6 :: a7 :: a8 :: a9 :: a10 :: r) 10 = true) (k : V p l e R s m args below meth c cells slots Q G A nL ad ws (pc + 2) (a0 :: a1 :: a2 :: a3 :: a4 :: a5 :: a6 :: a7 :: a8 :: a9 :: some (.int x) :: r) st) : V p l e R s m args below meth c cells slots Q G A nL ad ws pc (a0 :: a1 :: a2 :: a3 :: a4 :: a5 :: a6 :: a7 :: a8 :: a9 :: a10 :: r) (.int x :: st) := V_istore X hd hj hn rfl k
theorem V_astore_10 (X : CX p s m args meth c cc nL y ret G A) {a0 a1 a2 a3 a4 a5 a6 a7 a8 a9 a10 : Option Value} {x : Nat} (hd : decode cc pc = .ok (.astore 10, 2)) (hj : 10 < nL) (hn : noL (a0 :: a1 :: a2 :: a3 :: a4 :: a5 :: a6 :: a7 :: a8 :: a9 :: a10 :: r) 10 = true) (k : V p l e R s m args below meth c cells slots Q G A nL ad ws (pc + 2) (a0 :: a1 :: a2 :: a3 :: a4 :: a5 :: a6 :: a7 :: a8 :: a9 :: some (.ref x) :: r) st) : V p l e R s m args below meth c cells slots Q G A nL ad ws pc (a0 :: a1 :: a2 :: a3 :: a4 :: a5 :: a6 :: a7 :: a8 :: a9 :: a10 :: r) (.ref x :: st) := V_astore X hd hj hn rfl k
theorem V_lstore_10 (X : CX p s m args meth c cc nL y ret G A) {a0 a1 a2 a3 a4 a5 a6 a7 a8 a9 a10 a11 : Option Value} {x : Int64} (hd : decode cc pc = .ok (.lstore 10, 2)) (hj : 10 + 1 < nL) (hn : noL (a0 :: a1 :: a2 :: a3 :: a4 :: a5 :: a6 :: a7 :: a8 :: a9 :: a10 :: a11 :: r) 10 = true) (k : V p l e R s m args below meth c cells slots Q G A nL ad ws (pc + 2) (a0 :: a1 :: a2 :: a3 :: a4 :: a5 :: a6 :: a7 :: a8 :: a9 :: some (.long x) :: none :: r) st) : V p l e R s m args below meth c cells slots Q G A nL ad ws pc (a0 :: a1 :: a2 :: a3 :: a4 :: a5 :: a6 :: a7 :: a8 :: a9 :: a10 :: a11 :: r) (.long x :: st) := V_lstore X hd hj hn rfl k
theorem V_iinc_10 (X : CX p s m args meth c cc nL y ret G A) {a0 a1 a2 a3 a4 a5 a6 a7 a8 a9 : Option Value} {x v : Int32} {n : Int} (hd : decode cc pc = .ok (.iinc 10 n, 3)) (hj : 10 < nL) (hn : noL (a0 :: a1 :: a2 :: a3 :: a4 :: a5 :: a6 :: a7 :: a8 :: a9 :: some (.int x) :: r) 10 = true) (hv : x + Int32.ofInt n = v) (k : V p l e R s m args below meth c cells slots Q G A nL ad ws (pc + 3) (a0 :: a1 :: a2 :: a3 :: a4 :: a5 :: a6 :: a7 :: a8 :: a9 :: some (.int v) :: r) st) : V p l e R s m args below meth c cells slots Q G A nL ad ws pc (a0 :: a1 :: a2 :: a3 :: a4 :: a5 :: a6 :: a7 :: a8 :: a9 :: some (.int x) :: r) st := V_iinc X hd hj rfl hn (by rw [hv]; rfl) k
theorem V_iload_11 (X : CX p s m args meth c cc nL y ret G A) {a0 a1 a2 a3 a4 a5 a6 a7 a8 a9 a10 : Option Value} {x : Int32} (hd : decode cc pc = .ok (.iload 11, 2)) (k : V p l e R s m args below meth c cells slots Q G A nL ad ws (pc + 2) (a0 :: a1 :: a2 :: a3 :: a4 :: a5 :: a6 :: a7 :: a8 :: a9 :: a10 :: some (.int x) :: r) (.int x :: st)) : V p l e R s m args below meth c cells slots Q G A nL ad ws pc (a0 :: a1 :: a2 :: a3 :: a4 :: a5 :: a6 :: a7 :: a8 :: a9 :: a10 :: some (.int x) :: r) st := V_iload X hd rfl k
theorem V_lload_11 (X : CX p s m args meth c cc nL y ret G A) {a0 a1 a2 a3 a4 a5 a6 a7 a8 a9 a10 : Option Value} {x : Int64} (hd : decode cc pc = .ok (.lload 11, 2)) (k : V p l e R s m args below meth c cells slots Q G A nL ad ws (pc + 2) (a0 :: a1 :: a2 :: a3 :: a4 :: a5 :: a6 :: a7 :: a8 :: a9 :: a10 :: some (.long x) :: r) (.long x :: st)) : V p l e R s m args below meth c cells slots Q G A nL ad ws pc (a0 :: a1 :: a2 :: a3 :: a4 :: a5 :: a6 :: a7 :: a8 :: a9 :: a10 :: some (.long x) :: r) st := V_lload X hd rfl k
theorem V_aload_11 (X : CX p s m args meth c cc nL y ret G A) {a0 a1 a2 a3 a4 a5 a6 a7 a8 a9 a10 : Option Value} {x : Nat} (hd : decode cc pc = .ok (.aload 11, 2)) (k : V p l e R s m args below meth c cells slots Q G A nL ad ws (pc + 2) (a0 :: a1 :: a2 :: a3 :: a4 :: a5 :: a6 :: a7 :: a8 :: a9 :: a10 :: some (.ref x) :: r) (.ref x :: st)) : V p l e R s m args below meth c cells slots Q G A nL ad ws pc (a0 :: a1 :: a2 :: a3 :: a4 :: a5 :: a6 :: a7 :: a8 :: a9 :: a10 :: some (.ref x) :: r) st := V_aload X hd rfl k
theorem V_istore_11 (X : CX p s m args meth c cc nL y ret G A) {a0 a1 a2 a3 a4 a5 a6 a7 a8 a9 a10 a11 : Option Value} {x : Int32} (hd : decode cc pc = .ok (.istore 11, 2)) (hj : 11 < nL) (hn : noL (a0 :: a1 :: a2 :: a3 :: a4 :: a5 :: a6 :: a7 :: a8 :: a9 :: a10 :: a11 :: r) 11 = true) (k : V p l e R s m args below meth c cells slots Q G A nL ad ws (pc + 2) (a0 :: a1 :: a2 :: a3 :: a4 :: a5 :: a6 :: a7 :: a8 :: a9 :: a10 :: some (.int x) :: r) st) : V p l e R s m args below meth c cells slots Q G A nL ad ws pc (a0 :: a1 :: a2 :: a3 :: a4 :: a5 :: a6 :: a7 :: a8 :: a9 :: a10 :: a11 :: r) (.int x :: st) := V_istore X hd hj hn rfl k
theorem V_astore_11 (X : CX p s m args meth c cc nL y ret G A) {a0 a1 a2 a3 a4 a5 a6 a7 a8 a9 a10 a11 : Option Value} {x : Nat} (hd : decode cc pc = .ok (.astore 11, 2)) (hj : 11 < nL) (hn : noL (a0 :: a1 :: a2 :: a3 :: a4 :: a5 :: a6 :: a7 :: a8 :: a9 :: a10 :: a11 :: r) 11 = true) (k : V p l e R s m args below meth c cells slots Q G A nL ad ws (pc + 2) (a0 :: a1 :: a2 :: a3 :: a4 :: a5 :: a6 :: a7 :: a8 :: a9 :: a10 :: some (.ref x) :: r) st) : V p l e R s m args below meth c cells slots Q G A nL ad ws pc (a0 :: a1 :: a2 :: a3 :: a4 :: a5 :: a6 :: a7 :: a8 :: a9 :: a10 :: a11 :: r) (.ref x :: st) := V_astore X hd hj hn rfl k
theorem V_lstore_11 (X : CX p s m args meth c cc nL y ret G A) {a0 a1 a2 a3 a4 a5 a6 a7 a8 a9 a10 a11 a12 : Option Value} {x : Int64} (hd : decode cc pc = .ok (.lstore 11, 2)) (hj : 11 + 1 < nL) (hn : noL (a0 :: a1 :: a2 :: a3 :: a4 :: a5 :: a6 :: a7 :: a8 :: a9 :: a10 :: a11 :: a12 :: r) 11 = true) (k : V p l e R s m args below meth c cells slots Q G A nL ad ws (pc + 2) (a0 :: a1 :: a2 :: a3 :: a4 :: a5 :: a6 :: a7 :: a8 :: a9 :: a10 :: some (.long x) :: none :: r) st) : V p l e R s m args below meth c cells slots Q G A nL ad ws pc (a0 :: a1 :: a2 :: a3 :: a4 :: a5 :: a6 :: a7 :: a8 :: a9 :: a10 :: a11 :: a12 :: r) (.long x :: st) := V_lstore X hd hj hn rfl k
theorem V_iinc_11 (X : CX p s m args meth c cc nL y ret G A) {a0 a1 a2 a3 a4 a5 a6 a7 a8 a9 a10 : Option Value} {x v : Int32} {n : Int} (hd : decode cc pc = .ok (.iinc 11 n, 3)) (hj : 11 < nL) (hn : noL (a0 :: a1 :: a2 :: a3 :: a4 :: a5 :: a6 :: a7 :: a8 :: a9 :: a10 :: some (.int x) :: r) 11 = true) (hv : x + Int32.ofInt n = v) (k : V p l e R s m args below meth c cells slots Q G A nL ad ws (pc + 3) (a0 :: a1 :: a2 :: a3 :: a4 :: a5 :: a6 :: a7 :: a8 :: a9 :: a10 :: some (.int v) :: r) st) : V p l e R s m args below meth c cells slots Q G A nL ad ws pc (a0 :: a1 :: a2 :: a3 :: a4 :: a5 :: a6 :: a7 :: a8 :: a9 :: a10 :: some (.int x) :: r) st := V_iinc X hd hj rfl hn (by rw [hv]; rfl) k
end VL
end
section
/-! the numbers of the document, as natural numbers -/
def dg (p f : Nat) : Nat := p / 10 ^ f % 10
def dist (a b : Nat) : Nat := if a ≤ b then b - a else a - b
def gapK (k a b : Nat) : Nat := if k = 2 ∨ k = 4 then (if a = b then 0 else 9) else if k = 3 then min (dist a b) (10 - dist a b) else dist a b
def stepK (k a b : Nat) : Nat := if k = 3 then min (dist a b) (10 - dist a b) else dist a b
def agedK (k a : Nat) : Nat := if k = 1 then a - 1 else if k = 3 then (a + 1) % 10 else a
def slipK (k a : Nat) (up : Bool) : Option Nat := if k = 3 then some ((a + (if up then 1 else 9)) % 10) else if up then (if 9 ≤ a then none else some (a + 1)) else (if a = 0 then none else some (a - 1))
def sumF (g : Nat → Nat) : Nat → Nat
  | 0 => 0
  | n + 1 => sumF g n + g n
def gapP (n : Nat) (K : Nat → Nat) (a b : Nat) : Nat := sumF (fun f => gapK (K f) (dg a f) (dg b f)) n
def stepP (n : Nat) (K : Nat → Nat) (a b : Nat) : Nat := sumF (fun f => stepK (K f) (dg a f) (dg b f)) n
def withP (p f v : Nat) : Nat := p - dg p f * 10 ^ f + v * 10 ^ f
def slipP (K : Nat → Nat) (p f : Nat) (up : Bool) : Option Nat := (slipK (K f) (dg p f) up).map (withP p f)
def agedP (n : Nat) (K : Nat → Nat) (p : Nat) : Nat := sumF (fun f => agedK (K f) (dg p f) * 10 ^ f) n + p / 10 ^ n * 10 ^ n
theorem dg_lt (p f : Nat) : dg p f < 10 := Nat.mod_lt _ (by decide)
theorem dg_mul_le (p f : Nat) : dg p f * 10 ^ f ≤ p := by
  unfold dg
  calc p / 10 ^ f % 10 * 10 ^ f ≤ p / 10 ^ f * 10 ^ f := Nat.mul_le_mul_right _ (Nat.mod_le _ _)
    _ ≤ p := Nat.div_mul_le_self _ _
theorem dist_comm (a b : Nat) : dist a b = dist b a := by unfold dist; split <;> split <;> omega
theorem gapK_comm (k a b : Nat) : gapK k a b = gapK k b a := by
  unfold gapK
  rw [dist_comm a b]
  simp only [eq_comm]
theorem stepK_comm (k a b : Nat) : stepK k a b = stepK k b a := by unfold stepK; rw [dist_comm a b]
theorem dist_lt {a b : Nat} (ha : a < 10) (hb : b < 10) : dist a b < 10 := by unfold dist; split <;> omega
theorem gapK_lt {k a b : Nat} (ha : a < 10) (hb : b < 10) : gapK k a b < 10 := by
  have := dist_lt ha hb
  unfold gapK
  split
  · split <;> omega
  · split <;> omega
theorem stepK_lt {k a b : Nat} (ha : a < 10) (hb : b < 10) : stepK k a b < 10 := by
  have := dist_lt ha hb
  unfold stepK
  split <;> omega
theorem gapK_self (k a : Nat) : gapK k a a = 0 := by
  unfold gapK dist
  simp
theorem agedK_lt {k a : Nat} (ha : a < 10) : agedK k a < 10 := by unfold agedK; split <;> (try split) <;> omega
theorem slipK_lt {k a v : Nat} {up : Bool} (ha : a < 10) (h : slipK k a up = some v) : v < 10 := by
  unfold slipK at h
  split at h
  · cases h; omega
  · split at h
    · split at h
      · cases h
      · cases h; omega
    · split at h
      · cases h
      · cases h; omega
theorem sumF_le {g : Nat → Nat} {b : Nat} : ∀ n, (∀ f, f < n → g f ≤ b) → sumF g n ≤ n * b
  | 0, _ => by simp [sumF]
  | n + 1, h => by
    have h1 := sumF_le n (fun f hf => h f (by omega))
    have h2 := h n (by omega)
    rw [sumF, Nat.add_mul]
    omega
theorem sumF_congr {g h : Nat → Nat} : ∀ n, (∀ f, f < n → g f = h f) → sumF g n = sumF h n
  | 0, _ => rfl
  | n + 1, e => by rw [sumF, sumF, sumF_congr n (fun f hf => e f (by omega)), e n (by omega)]
theorem gapP_comm (n : Nat) (K : Nat → Nat) (a b : Nat) : gapP n K a b = gapP n K b a := sumF_congr n (fun f _ => gapK_comm _ _ _)
theorem stepP_comm (n : Nat) (K : Nat → Nat) (a b : Nat) : stepP n K a b = stepP n K b a := sumF_congr n (fun f _ => stepK_comm _ _ _)
theorem gapP_le (n : Nat) (K : Nat → Nat) (a b : Nat) : gapP n K a b ≤ n * 9 := sumF_le n (fun f _ => Nat.le_of_lt_succ (gapK_lt (dg_lt _ _) (dg_lt _ _)))
theorem stepP_le (n : Nat) (K : Nat → Nat) (a b : Nat) : stepP n K a b ≤ n * 9 := sumF_le n (fun f _ => Nat.le_of_lt_succ (stepK_lt (dg_lt _ _) (dg_lt _ _)))
/-! digits -/
theorem dg_split (p f : Nat) : p = p % 10 ^ f + dg p f * 10 ^ f + p / 10 ^ (f + 1) * 10 ^ (f + 1) := by
  have h1 := Nat.div_add_mod p (10 ^ f)
  have h2 := Nat.div_add_mod (p / 10 ^ f) 10
  have h3 : p / 10 ^ (f + 1) = p / 10 ^ f / 10 := by rw [Nat.pow_succ, Nat.div_div_eq_div_mul]
  unfold dg
  rw [h3, Nat.pow_succ]
  generalize p / 10 ^ f = q at *
  generalize 10 ^ f = t at *
  have h4 : t * q = t * (10 * (q / 10)) + t * (q % 10) := by rw [← Nat.mul_add, h2]
  have h5 : q / 10 * (t * 10) = t * (10 * (q / 10)) := by rw [Nat.mul_comm, Nat.mul_assoc]
  have h6 : q % 10 * t = t * (q % 10) := Nat.mul_comm _ _
  omega
theorem withP_eq (p f v : Nat) : withP p f v = p % 10 ^ f + v * 10 ^ f + p / 10 ^ (f + 1) * 10 ^ (f + 1) := by
  have h := dg_split p f
  unfold withP
  generalize dg p f * 10 ^ f = x at *
  generalize p / 10 ^ (f + 1) * 10 ^ (f + 1) = z at *
  generalize p % 10 ^ f = w at *
  omega
theorem withP_lt {p f v n : Nat} (hp : p < 10 ^ n) (hf : f < n) (hv : v < 10) : withP p f v < 10 ^ n := by
  rw [withP_eq]
  obtain ⟨d, rfl⟩ : ∃ d, n = f + 1 + d := ⟨n - (f + 1), by omega⟩
  have h1 : p % 10 ^ f < 10 ^ f := Nat.mod_lt _ (Nat.pow_pos (by decide))
  have h2 : p / 10 ^ (f + 1) < 10 ^ d := by
    apply Nat.div_lt_of_lt_mul
    rw [← Nat.pow_add]; exact hp
  have h3 : v * 10 ^ f ≤ 9 * 10 ^ f := Nat.mul_le_mul_right _ (by omega)
  have h4 : p / 10 ^ (f + 1) * 10 ^ (f + 1) ≤ (10 ^ d - 1) * 10 ^ (f + 1) := Nat.mul_le_mul_right _ (by omega)
  have h5 : (10 ^ d - 1) * 10 ^ (f + 1) + 10 ^ (f + 1) = 10 ^ (f + 1 + d) := by
    rw [Nat.pow_add 10 (f + 1) d, Nat.sub_mul, Nat.one_mul, Nat.mul_comm (10 ^ d)]
    have : 10 ^ (f + 1) ≤ 10 ^ (f + 1) * 10 ^ d := Nat.le_mul_of_pos_right _ (Nat.pow_pos (by decide))
    omega
  have h6 : (10 : Nat) ^ (f + 1) = 10 ^ f * 10 := Nat.pow_succ ..
  omega
theorem withP_add (p f v : Nat) : withP p f v + dg p f * 10 ^ f = p + v * 10 ^ f := by
  have := dg_mul_le p f
  unfold withP
  omega
theorem dg_withP_self {p f v : Nat} (hv : v < 10) : dg (withP p f v) f = v := by
  rw [withP_eq, dg]
  have h1 : p % 10 ^ f < 10 ^ f := Nat.mod_lt _ (Nat.pow_pos (by decide))
  have h2 : p % 10 ^ f + v * 10 ^ f + p / 10 ^ (f + 1) * 10 ^ (f + 1) = p % 10 ^ f + 10 ^ f * (v + 10 * (p / 10 ^ (f + 1))) := by
    rw [Nat.pow_succ, Nat.mul_add]
    have : p / (10 ^ f * 10) * (10 ^ f * 10) = 10 ^ f * (10 * (p / (10 ^ f * 10))) := by rw [Nat.mul_comm, Nat.mul_assoc]
    rw [Nat.mul_comm v]
    omega
  rw [h2, Nat.add_mul_div_left _ _ (Nat.pow_pos (by decide)), Nat.div_eq_of_lt h1]
  omega
theorem dg_withP_ne {p f g v : Nat} (hv : v < 10) (h : g ≠ f) : dg (withP p f v) g = dg p g := by
  rcases Nat.lt_or_gt_of_ne h with h | h
  · obtain ⟨d, rfl⟩ : ∃ d, f = g + 1 + d := ⟨f - (g + 1), by omega⟩
    have e : ∀ q : Nat, dg q g = q % 10 ^ (g + 1) / 10 ^ g := fun q => by
      unfold dg; rw [Nat.pow_succ, Nat.mod_mul_right_div_self]
    rw [e, e]
    have key : withP p (g + 1 + d) v % 10 ^ (g + 1) = p % 10 ^ (g + 1) := by
      have h1 := withP_add p (g + 1 + d) v
      have h2 : (withP p (g + 1 + d) v + dg p (g + 1 + d) * 10 ^ (g + 1 + d)) % 10 ^ (g + 1) = (p + v * 10 ^ (g + 1 + d)) % 10 ^ (g + 1) := by rw [h1]
      rw [Nat.pow_add 10 (g + 1) d] at h2
      rw [show dg p (g + 1 + d) * (10 ^ (g + 1) * 10 ^ d) = 10 ^ (g + 1) * (dg p (g + 1 + d) * 10 ^ d) by rw [← Nat.mul_assoc, Nat.mul_comm (dg p _), Nat.mul_assoc], show v * (10 ^ (g + 1) * 10 ^ d) = 10 ^ (g + 1) * (v * 10 ^ d) by rw [← Nat.mul_assoc, Nat.mul_comm v, Nat.mul_assoc], Nat.add_mul_mod_self_left, Nat.add_mul_mod_self_left] at h2
      exact h2
    rw [key]
  · obtain ⟨d, rfl⟩ : ∃ d, g = f + 1 + d := ⟨g - (f + 1), by omega⟩
    have e : ∀ q : Nat, dg q (f + 1 + d) = q / 10 ^ (f + 1) / 10 ^ d % 10 := fun q => by
      unfold dg; rw [Nat.pow_add, Nat.div_div_eq_div_mul]
    rw [e, e]
    have key : withP p f v / 10 ^ (f + 1) = p / 10 ^ (f + 1) := by
      rw [withP_eq]
      have h1 : p % 10 ^ f < 10 ^ f := Nat.mod_lt _ (Nat.pow_pos (by decide))
      have h3 : v * 10 ^ f ≤ 9 * 10 ^ f := Nat.mul_le_mul_right _ (by omega)
      have h6 : (10 : Nat) ^ (f + 1) = 10 ^ f * 10 := Nat.pow_succ ..
      rw [Nat.mul_comm (p / 10 ^ (f + 1)), Nat.add_mul_div_left _ _ (Nat.pow_pos (by decide)), Nat.div_eq_of_lt (by omega), Nat.zero_add]
    rw [key]
theorem dg_small {p f n : Nat} (hp : p < 10 ^ n) (hf : n ≤ f) : dg p f = 0 := by
  have h : p / 10 ^ f = 0 := Nat.div_eq_of_lt (Nat.lt_of_lt_of_le hp (Nat.pow_le_pow_right (by decide) hf))
  unfold dg
  rw [h]
theorem dg_ext : ∀ {n p q : Nat}, p < 10 ^ n → q < 10 ^ n → (∀ f, f < n → dg p f = dg q f) → p = q
  | 0, p, q, hp, hq, _ => by simp at hp hq; omega
  | n + 1, p, q, hp, hq, h => by
    have h0 : p % 10 = q % 10 := by simpa [dg] using h 0 (by omega)
    have h1 : p / 10 = q / 10 := by
      refine dg_ext (n := n) (by rw [Nat.pow_succ] at hp; omega) (by rw [Nat.pow_succ] at hq; omega) (fun f hf => ?_)
      have := h (f + 1) (by omega)
      simp only [dg, Nat.pow_succ', ← Nat.div_div_eq_div_mul] at this ⊢
      exact this
    omega
theorem pow_le4 {n : Nat} (h : n ≤ 4) : 10 ^ n ≤ 10000 := Nat.pow_le_pow_right (n := 10) (by decide) h
/-! Int32 -/
theorem i32_withP (p f v : Nat) : nI p + (nI v - nI (dg p f)) * nI (10 ^ f) = nI (withP p f v) := by
  have h := congrArg nI (withP_add p f v)
  rw [← nI_add, ← nI_add, ← pk_mul, ← pk_mul] at h
  generalize nI p = a at *
  generalize nI v = b at *
  generalize nI (dg p f) = d at *
  generalize nI (10 ^ f) = t at *
  generalize nI (withP p f v) = w at *
  grind
theorem i32_dg {p f : Nat} (hp : p < 2147483648) (hf : f < 5) : nI p / nI (10 ^ f) - nI p / nI (10 ^ f) / nI 10 * nI 10 = nI (dg p f) := by
  have h1 : 10 ^ f < 2 ^ 31 := by
    have : 10 ^ f ≤ 10 ^ 4 := Nat.pow_le_pow_right (by decide) (by omega)
    omega
  rw [pk_div (by omega) (Nat.pow_pos (by decide)) h1]
  have h2 : p / 10 ^ f < 2 ^ 31 := Nat.lt_of_le_of_lt (Nat.div_le_self _ _) (by omega)
  exact pk_rem h2 (by decide) (by decide)
end
section
/-! the JDK's small methods -/
def absI (x : Int32) : Int32 := if 0 ≤ x then x else -x
def fmI (x z : Int32) : Int32 := if 0 ≤ x ^^^ z then x - x / z * z else if x - x / z * z = 0 then x - x / z * z else x - x / z * z + z
def bI (b : Bool) : Int32 := if b then nI 1 else nI 0
theorem t_abs (l : Launch) (G : GX) (ad : Nat → Nat) (ws : List CE) (x : Int32) : Ct l G yJ9_abs_0f7a4 cJ9_abs_0f7a4 1 (some .int) 0 0 0 ad ws [.int x] (pI ad (fun r ws2 => r = absI x ∧ ws2 = ws)) := by
  refine Ct.of [some (.int x)] (by decide +kernel) (Nat.le_of_ble_eq_true rfl) rfl ?_
  intro p e s m args below meth c A X
  refine V_iload_n0 X dJ9_abs_0f7a4_0 ?_
  refine V_if_ge X 9 dJ9_abs_0f7a4_1 (by decide) (fun h => ?_) (fun h => ?_)
  · refine V_iload_n0 X dJ9_abs_0f7a4_9 ?_
    exact V_iret X dJ9_abs_0f7a4_10 ⟨by simp [absI, h], rfl⟩
  · refine V_iload_n0 X dJ9_abs_0f7a4_4 ?_
    refine V_ineg X dJ9_abs_0f7a4_5 ?_
    refine V_goto X 10 dJ9_abs_0f7a4_6 (by decide) ?_
    exact V_iret X dJ9_abs_0f7a4_10 ⟨by simp [absI, h], rfl⟩
theorem t_max (l : Launch) (G : GX) (ad : Nat → Nat) (ws : List CE) (x z : Int32) : Ct l G yJ9_max_7cf53 cJ9_max_7cf53 2 (some .int) 0 0 0 ad ws [.int x, .int z] (pI ad (fun r ws2 => r = (if x < z then z else x) ∧ ws2 = ws)) := by
  refine Ct.of [some (.int x), some (.int z)] (by decide +kernel) (Nat.le_of_ble_eq_true rfl) rfl ?_
  intro p e s m args below meth c A X
  refine V_iload_n0 X dJ9_max_7cf53_0 ?_
  refine V_iload_n1 X dJ9_max_7cf53_1 ?_
  refine V_icmp_lt X 9 dJ9_max_7cf53_2 (by decide) (fun h => ?_) (fun h => ?_)
  · refine V_iload_n1 X dJ9_max_7cf53_9 ?_
    exact V_iret X dJ9_max_7cf53_10 ⟨by simp [h], rfl⟩
  · refine V_iload_n0 X dJ9_max_7cf53_5 ?_
    refine V_goto X 10 dJ9_max_7cf53_6 (by decide) ?_
    exact V_iret X dJ9_max_7cf53_10 ⟨by simp [h], rfl⟩
theorem t_min (l : Launch) (G : GX) (ad : Nat → Nat) (ws : List CE) (x z : Int32) : Ct l G yJ9_min_7cf53 cJ9_min_7cf53 2 (some .int) 0 0 0 ad ws [.int x, .int z] (pI ad (fun r ws2 => r = (if z < x then z else x) ∧ ws2 = ws)) := by
  refine Ct.of [some (.int x), some (.int z)] (by decide +kernel) (Nat.le_of_ble_eq_true rfl) rfl ?_
  intro p e s m args below meth c A X
  refine V_iload_n0 X dJ9_min_7cf53_0 ?_
  refine V_iload_n1 X dJ9_min_7cf53_1 ?_
  refine V_icmp_gt X 9 dJ9_min_7cf53_2 (by decide) (fun h => ?_) (fun h => ?_)
  · refine V_iload_n1 X dJ9_min_7cf53_9 ?_
    exact V_iret X dJ9_min_7cf53_10 ⟨by simp [h], rfl⟩
  · refine V_iload_n0 X dJ9_min_7cf53_5 ?_
    refine V_goto X 10 dJ9_min_7cf53_6 (by decide) ?_
    exact V_iret X dJ9_min_7cf53_10 ⟨by simp [h], rfl⟩
theorem t_fm (l : Launch) (G : GX) (ad : Nat → Nat) (ws : List CE) (x z : Int32) (hz : ¬ z = 0) : Ct l G yJ9_floorMod_7cf53 cJ9_floorMod_7cf53 3 (some .int) 0 0 0 ad ws [.int x, .int z] (pI ad (fun r ws2 => r = fmI x z ∧ ws2 = ws)) := by
  refine Ct.of [some (.int x), some (.int z), none] (by decide +kernel) (Nat.le_of_ble_eq_true rfl) rfl ?_
  intro p e s m args below meth c A X
  refine V_iload_n0 X dJ9_floorMod_7cf53_0 ?_
  refine V_iload_n1 X dJ9_floorMod_7cf53_1 ?_
  refine V_irem X dJ9_floorMod_7cf53_2 hz ?_
  refine V_istore_n2 X dJ9_floorMod_7cf53_3 (Nat.le_of_ble_eq_true rfl) rfl ?_
  refine V_iload_n0 X dJ9_floorMod_7cf53_4 ?_
  refine V_iload_n1 X dJ9_floorMod_7cf53_5 ?_
  refine V_ixor X dJ9_floorMod_7cf53_6 ?_
  refine V_if_ge X 18 dJ9_floorMod_7cf53_7 (by decide) (fun h => ?_) (fun h => ?_)
  · refine V_iload_n2 X dJ9_floorMod_7cf53_18 ?_
    exact V_iret X dJ9_floorMod_7cf53_19 ⟨by simp only [fmI, if_pos h], rfl⟩
  · refine V_iload_n2 X dJ9_floorMod_7cf53_10 ?_
    refine V_if_eq X 18 dJ9_floorMod_7cf53_11 (by decide) (fun h2 => ?_) (fun h2 => ?_)
    · refine V_iload_n2 X dJ9_floorMod_7cf53_18 ?_
      exact V_iret X dJ9_floorMod_7cf53_19 ⟨by simp only [fmI, if_neg h, if_pos h2], rfl⟩
    · refine V_iload_n2 X dJ9_floorMod_7cf53_14 ?_
      refine V_iload_n1 X dJ9_floorMod_7cf53_15 ?_
      refine V_iadd X dJ9_floorMod_7cf53_16 ?_
      exact V_iret X dJ9_floorMod_7cf53_17 ⟨by simp only [fmI, if_neg h, if_neg h2], rfl⟩
/-! finite facts -/
theorem f_abs : ∀ a, a < 10 → ∀ b, b < 10 → absI (nI a - nI b) = nI (dist a b) := by decide +kernel
theorem f_beard : ∀ d, d < 10 → (if nI 10 - nI d < nI d then nI 10 - nI d else nI d) = nI (min d (10 - d)) := by decide +kernel
theorem f_hair : ∀ a, a < 10 → (if nI 0 < nI a - nI 1 then nI a - nI 1 else nI 0) = nI (a - 1) := by decide +kernel
theorem f_fm1 : ∀ a, a < 10 → fmI (nI a + nI 1) (nI 10) = nI ((a + 1) % 10) := by decide +kernel
theorem f_fm9 : ∀ a, a < 10 → fmI (nI a + (-1)) (nI 10) = nI ((a + 9) % 10) := by decide +kernel
def byI (up : Bool) : Int32 := if up then nI 1 else (-1)
def optI (o : Option Nat) : Int32 := match o with
  | none => (-1)
  | some v => nI v
theorem f_slip : ∀ a, a < 10 → ∀ up : Bool, (nI a + byI up < 0 → optI (slipK 0 a up) = -1) ∧ (¬ nI a + byI up < 0 → nI a + byI up ≤ nI 9 → optI (slipK 0 a up) = nI a + byI up) ∧ (¬ nI a + byI up ≤ nI 9 → optI (slipK 0 a up) = -1) := by decide +kernel
theorem f_slip3 : ∀ a, a < 10 → ∀ up : Bool, fmI (nI a + byI up) (nI 10) = optI (slipK 3 a up) := by decide +kernel
/-! the kinds -/
theorem t_kind4 (l : Launch) (G : GX) (ad : Nat → Nat) (ws : List CE) (k : Nat) : Ct l G yX4_kind cX4_kind 1 (some .int) 0 0 0 ad ws [.ref k] (pI ad (fun r ws2 => r = nI 0 ∧ ws2 = ws)) := by
  refine Ct.of [some (.ref k)] (by decide +kernel) (Nat.le_of_ble_eq_true rfl) rfl ?_
  intro p e s m args below meth c A X
  refine V_iconstE X (nI 0) dX4_kind_0 (by decide +kernel) ?_
  exact V_iret X dX4_kind_1 ⟨rfl, rfl⟩
theorem t_kind5 (l : Launch) (G : GX) (ad : Nat → Nat) (ws : List CE) (k : Nat) : Ct l G yX5_kind cX5_kind 1 (some .int) 0 0 0 ad ws [.ref k] (pI ad (fun r ws2 => r = nI 1 ∧ ws2 = ws)) := by
  refine Ct.of [some (.ref k)] (by decide +kernel) (Nat.le_of_ble_eq_true rfl) rfl ?_
  intro p e s m args below meth c A X
  refine V_iconstE X (nI 1) dX5_kind_0 (by decide +kernel) ?_
  exact V_iret X dX5_kind_1 ⟨rfl, rfl⟩
theorem t_kind8 (l : Launch) (G : GX) (ad : Nat → Nat) (ws : List CE) (k : Nat) : Ct l G yX8_kind cX8_kind 1 (some .int) 0 0 0 ad ws [.ref k] (pI ad (fun r ws2 => r = nI 2 ∧ ws2 = ws)) := by
  refine Ct.of [some (.ref k)] (by decide +kernel) (Nat.le_of_ble_eq_true rfl) rfl ?_
  intro p e s m args below meth c A X
  refine V_iconstE X (nI 2) dX8_kind_0 (by decide +kernel) ?_
  exact V_iret X dX8_kind_1 ⟨rfl, rfl⟩
theorem t_kind0 (l : Launch) (G : GX) (ad : Nat → Nat) (ws : List CE) (k : Nat) : Ct l G yX0_kind cX0_kind 1 (some .int) 0 0 0 ad ws [.ref k] (pI ad (fun r ws2 => r = nI 3 ∧ ws2 = ws)) := by
  refine Ct.of [some (.ref k)] (by decide +kernel) (Nat.le_of_ble_eq_true rfl) rfl ?_
  intro p e s m args below meth c A X
  refine V_iconstE X (nI 3) dX0_kind_0 (by decide +kernel) ?_
  exact V_iret X dX0_kind_1 ⟨rfl, rfl⟩
theorem t_kind3 (l : Launch) (G : GX) (ad : Nat → Nat) (ws : List CE) (k : Nat) : Ct l G yX3_kind cX3_kind 1 (some .int) 0 0 0 ad ws [.ref k] (pI ad (fun r ws2 => r = nI 4 ∧ ws2 = ws)) := by
  refine Ct.of [some (.ref k)] (by decide +kernel) (Nat.le_of_ble_eq_true rfl) rfl ?_
  intro p e s m args below meth c A X
  refine V_iconstE X (nI 4) dX3_kind_0 (by decide +kernel) ?_
  exact V_iret X dX3_kind_1 ⟨rfl, rfl⟩
theorem t_aged4 (l : Launch) (G : GX) (ad : Nat → Nat) (ws : List CE) (k : Nat) (x : Int32) : Ct l G yX4_aged cX4_aged 2 (some .int) 0 0 0 ad ws [.ref k, .int x] (pI ad (fun r ws2 => r = x ∧ ws2 = ws)) := by
  refine Ct.of [some (.ref k), some (.int x)] (by decide +kernel) (Nat.le_of_ble_eq_true rfl) rfl ?_
  intro p e s m args below meth c A X
  refine V_iload_n1 X dX4_aged_0 ?_
  exact V_iret X dX4_aged_1 ⟨rfl, rfl⟩
theorem t_aged5 (l : Launch) (G : GX) (ad : Nat → Nat) (ws : List CE) (k a : Nat) (ha : a < 10) : Ct l G yX5_aged cX5_aged 2 (some .int) 1 0 0 ad ws [.ref k, .int (nI a)] (pI ad (fun r ws2 => r = nI (agedK 1 a) ∧ ws2 = ws)) := by
  refine Ct.of [some (.ref k), some (.int (nI a))] (by decide +kernel) (Nat.le_of_ble_eq_true rfl) rfl ?_
  intro p e s m args below meth c A X
  refine V_iconstE X (nI 0) dX5_aged_0 (by decide +kernel) ?_
  refine V_iload_n1 X dX5_aged_1 ?_
  refine V_iconstE X (nI 1) dX5_aged_2 (by decide +kernel) ?_
  refine V_isub X dX5_aged_3 ?_
  refine V_cS2I X dX5_aged_4 kX5_9 (t_max l G ad ws _ _) (Nat.le_of_ble_eq_true rfl) ⟨⟨Nat.le_of_ble_eq_true rfl, Nat.le_of_ble_eq_true rfl⟩, Nat.le_of_ble_eq_true rfl, Nat.le_of_ble_eq_true rfl⟩ (fun r ws2 hc => ?_)
  obtain ⟨rfl, hw9⟩ := hc
  obtain rfl := hw9.symm
  exact V_iret X dX5_aged_7 ⟨f_hair a ha, rfl⟩
theorem t_gap4 (l : Launch) (G : GX) (ad : Nat → Nat) (ws : List CE) (k a b : Nat) (ha : a < 10) (hb : b < 10) : Ct l G yX4_gap cX4_gap 3 (some .int) 1 0 0 ad ws [.ref k, .int (nI a), .int (nI b)] (pI ad (fun r ws2 => r = nI (dist a b) ∧ ws2 = ws)) := by
  refine Ct.of [some (.ref k), some (.int (nI a)), some (.int (nI b))] (by decide +kernel) (Nat.le_of_ble_eq_true rfl) rfl ?_
  intro p e s m args below meth c A X
  refine V_iload_n1 X dX4_gap_0 ?_
  refine V_iload_n2 X dX4_gap_1 ?_
  refine V_isub X dX4_gap_2 ?_
  refine V_cS1I X dX4_gap_3 kX4_9 (t_abs l G ad ws _) (Nat.le_of_ble_eq_true rfl) ⟨⟨Nat.le_of_ble_eq_true rfl, Nat.le_of_ble_eq_true rfl⟩, Nat.le_of_ble_eq_true rfl, Nat.le_of_ble_eq_true rfl⟩ (fun r ws2 hc => ?_)
  obtain ⟨rfl, hw9⟩ := hc
  obtain rfl := hw9.symm
  exact V_iret X dX4_gap_6 ⟨f_abs a ha b hb, rfl⟩
theorem t_steps4 (l : Launch) (G : GX) (ad : Nat → Nat) (ws : List CE) (k a b : Nat) (ha : a < 10) (hb : b < 10) : Ct l G yX4_steps cX4_steps 3 (some .int) 1 0 0 ad ws [.ref k, .int (nI a), .int (nI b)] (pI ad (fun r ws2 => r = nI (dist a b) ∧ ws2 = ws)) := by
  refine Ct.of [some (.ref k), some (.int (nI a)), some (.int (nI b))] (by decide +kernel) (Nat.le_of_ble_eq_true rfl) rfl ?_
  intro p e s m args below meth c A X
  refine V_iload_n1 X dX4_steps_0 ?_
  refine V_iload_n2 X dX4_steps_1 ?_
  refine V_isub X dX4_steps_2 ?_
  refine V_cS1I X dX4_steps_3 kX4_9 (t_abs l G ad ws _) (Nat.le_of_ble_eq_true rfl) ⟨⟨Nat.le_of_ble_eq_true rfl, Nat.le_of_ble_eq_true rfl⟩, Nat.le_of_ble_eq_true rfl, Nat.le_of_ble_eq_true rfl⟩ (fun r ws2 hc => ?_)
  obtain ⟨rfl, hw9⟩ := hc
  obtain rfl := hw9.symm
  exact V_iret X dX4_steps_6 ⟨f_abs a ha b hb, rfl⟩
theorem t_slip4 (l : Launch) (G : GX) (ad : Nat → Nat) (ws : List CE) (k a : Nat) (ha : a < 10) (up : Bool) : Ct l G yX4_slipped cX4_slipped 4 (some .int) 0 0 0 ad ws [.ref k, .int (nI a), .int (byI up)] (pI ad (fun r ws2 => r = optI (slipK 0 a up) ∧ ws2 = ws)) := by
  refine Ct.of [some (.ref k), some (.int (nI a)), some (.int (byI up)), none] (by decide +kernel) (Nat.le_of_ble_eq_true rfl) rfl ?_
  intro p e s m args below meth c A X
  have hf := f_slip a ha up
  refine V_iload_n1 X dX4_slipped_0 ?_
  refine V_iload_n2 X dX4_slipped_1 ?_
  refine V_iadd X dX4_slipped_2 ?_
  refine V_istore_n3 X dX4_slipped_3 (Nat.le_of_ble_eq_true rfl) rfl ?_
  refine V_iload_n3 X dX4_slipped_4 ?_
  refine V_if_lt X 14 dX4_slipped_5 (by decide) (fun h => ?_) (fun h => ?_)
  · refine V_iconstE X (-1) dX4_slipped_14 (by decide +kernel) ?_
    refine V_goto X 19 dX4_slipped_15 (by decide) ?_
    exact V_iret X dX4_slipped_19 ⟨(hf.1 h).symm, rfl⟩
  · refine V_iload_n3 X dX4_slipped_8 ?_
    refine V_bipushE X (nI 9) dX4_slipped_9 (by decide +kernel) ?_
    refine V_icmp_le X 18 dX4_slipped_11 (by decide) (fun h2 => ?_) (fun h2 => ?_)
    · refine V_iload_n3 X dX4_slipped_18 ?_
      exact V_iret X dX4_slipped_19 ⟨(hf.2.1 h h2).symm, rfl⟩
    · refine V_iconstE X (-1) dX4_slipped_14 (by decide +kernel) ?_
      refine V_goto X 19 dX4_slipped_15 (by decide) ?_
      exact V_iret X dX4_slipped_19 ⟨(hf.2.2 h2).symm, rfl⟩
theorem t_gap8 (l : Launch) (G : GX) (ad : Nat → Nat) (ws : List CE) (k a b : Nat) (ha : a < 10) (hb : b < 10) : Ct l G yX8_gap cX8_gap 3 (some .int) 0 0 0 ad ws [.ref k, .int (nI a), .int (nI b)] (pI ad (fun r ws2 => r = nI (if a = b then 0 else 9) ∧ ws2 = ws)) := by
  refine Ct.of [some (.ref k), some (.int (nI a)), some (.int (nI b))] (by decide +kernel) (Nat.le_of_ble_eq_true rfl) rfl ?_
  intro p e s m args below meth c A X
  refine V_iload_n1 X dX8_gap_0 ?_
  refine V_iload_n2 X dX8_gap_1 ?_
  refine V_icmp_ne X 9 dX8_gap_2 (by decide) (fun h => ?_) (fun h => ?_)
  · refine V_bipushE X (nI 9) dX8_gap_9 (by decide +kernel) ?_
    exact V_iret X dX8_gap_11 ⟨by rw [if_neg]; intro e9; exact h (by rw [e9]), rfl⟩
  · refine V_iconstE X (nI 0) dX8_gap_5 (by decide +kernel) ?_
    refine V_goto X 11 dX8_gap_6 (by decide) ?_
    exact V_iret X dX8_gap_11 ⟨by rw [if_pos]; exact (nI_eq (by omega) (by omega)).mp h, rfl⟩
theorem t_gap0 (l : Launch) (G : GX) (ad : Nat → Nat) (ws : List CE) (k a b : Nat) (ha : a < 10) (hb : b < 10) : Ct l G yX0_gap cX0_gap 4 (some .int) 1 0 0 ad ws [.ref k, .int (nI a), .int (nI b)] (pI ad (fun r ws2 => r = nI (min (dist a b) (10 - dist a b)) ∧ ws2 = ws)) := by
  refine Ct.of [some (.ref k), some (.int (nI a)), some (.int (nI b)), none] (by decide +kernel) (Nat.le_of_ble_eq_true rfl) rfl ?_
  intro p e s m args below meth c A X
  refine V_iload_n1 X dX0_gap_0 ?_
  refine V_iload_n2 X dX0_gap_1 ?_
  refine V_isub X dX0_gap_2 ?_
  refine V_cS1I X dX0_gap_3 kX0_15 (t_abs l G ad ws _) (Nat.le_of_ble_eq_true rfl) ⟨⟨Nat.le_of_ble_eq_true rfl, Nat.le_of_ble_eq_true rfl⟩, Nat.le_of_ble_eq_true rfl, Nat.le_of_ble_eq_true rfl⟩ (fun r ws2 hc => ?_)
  obtain ⟨rfl, hw9⟩ := hc
  obtain rfl := hw9.symm
  rw [f_abs a ha b hb]
  refine V_istore_n3 X dX0_gap_6 (Nat.le_of_ble_eq_true rfl) rfl ?_
  refine V_iload_n3 X dX0_gap_7 ?_
  refine V_bipushE X (nI 10) dX0_gap_8 (by decide +kernel) ?_
  refine V_iload_n3 X dX0_gap_10 ?_
  refine V_isub X dX0_gap_11 ?_
  refine V_cS2I X dX0_gap_12 kX0_21 (t_min l G ad ws _ _) (Nat.le_of_ble_eq_true rfl) ⟨⟨Nat.le_of_ble_eq_true rfl, Nat.le_of_ble_eq_true rfl⟩, Nat.le_of_ble_eq_true rfl, Nat.le_of_ble_eq_true rfl⟩ (fun r ws2 hc => ?_)
  obtain ⟨rfl, hw9⟩ := hc
  obtain rfl := hw9.symm
  exact V_iret X dX0_gap_15 ⟨f_beard _ (dist_lt ha hb), rfl⟩
theorem t_steps0 (l : Launch) (G : GX) (ad : Nat → Nat) (ws : List CE) (k a b : Nat) (ha : a < 10) (hb : b < 10) (hk : ws[k]? = some (oB 0 [])) : Ct l G yX0_steps cX0_steps 3 (some .int) 2 0 0 ad ws [.ref k, .int (nI a), .int (nI b)] (pI ad (fun r ws2 => r = nI (min (dist a b) (10 - dist a b)) ∧ ws2 = ws)) := by
  refine Ct.of [some (.ref k), some (.int (nI a)), some (.int (nI b))] (by decide +kernel) (Nat.le_of_ble_eq_true rfl) rfl ?_
  intro p e s m args below meth c A X
  refine V_aload_n0 X dX0_steps_0 ?_
  refine V_iload_n1 X dX0_steps_1 ?_
  refine V_iload_n2 X dX0_steps_2 ?_
  refine V_cV2I X dX0_steps_3 kX0_24 (t_gap0 l G ad ws k a b ha hb) (by assumption) (by rfl) (Nat.le_of_ble_eq_true rfl) ⟨⟨Nat.le_of_ble_eq_true rfl, Nat.le_of_ble_eq_true rfl⟩, Nat.le_of_ble_eq_true rfl, Nat.le_of_ble_eq_true rfl⟩ (fun r ws2 hc => ?_)
  obtain ⟨rfl, hw9⟩ := hc
  obtain rfl := hw9.symm
  exact V_iret X dX0_steps_6 ⟨rfl, rfl⟩
theorem t_slip0 (l : Launch) (G : GX) (ad : Nat → Nat) (ws : List CE) (k a : Nat) (ha : a < 10) (up : Bool) : Ct l G yX0_slipped cX0_slipped 3 (some .int) 1 0 0 ad ws [.ref k, .int (nI a), .int (byI up)] (pI ad (fun r ws2 => r = optI (slipK 3 a up) ∧ ws2 = ws)) := by
  refine Ct.of [some (.ref k), some (.int (nI a)), some (.int (byI up))] (by decide +kernel) (Nat.le_of_ble_eq_true rfl) rfl ?_
  intro p e s m args below meth c A X
  refine V_iload_n1 X dX0_slipped_0 ?_
  refine V_iload_n2 X dX0_slipped_1 ?_
  refine V_iadd X dX0_slipped_2 ?_
  refine V_bipushE X (nI 10) dX0_slipped_3 (by decide +kernel) ?_
  refine V_cS2I X dX0_slipped_5 kX0_27 (t_fm l G ad ws _ _ (by decide +kernel)) (Nat.le_of_ble_eq_true rfl) ⟨⟨Nat.le_of_ble_eq_true rfl, Nat.le_of_ble_eq_true rfl⟩, Nat.le_of_ble_eq_true rfl, Nat.le_of_ble_eq_true rfl⟩ (fun r ws2 hc => ?_)
  obtain ⟨rfl, hw9⟩ := hc
  obtain rfl := hw9.symm
  exact V_iret X dX0_slipped_8 ⟨f_slip3 a ha up, rfl⟩
theorem t_aged0 (l : Launch) (G : GX) (ad : Nat → Nat) (ws : List CE) (k a : Nat) (ha : a < 10) (hk : ws[k]? = some (oB 0 [])) : Ct l G yX0_aged cX0_aged 2 (some .int) 2 0 0 ad ws [.ref k, .int (nI a)] (pI ad (fun r ws2 => r = nI (agedK 3 a) ∧ ws2 = ws)) := by
  refine Ct.of [some (.ref k), some (.int (nI a))] (by decide +kernel) (Nat.le_of_ble_eq_true rfl) rfl ?_
  intro p e s m args below meth c A X
  refine V_aload_n0 X dX0_aged_0 ?_
  refine V_iload_n1 X dX0_aged_1 ?_
  refine V_iconstE X (nI 1) dX0_aged_2 (by decide +kernel) ?_
  refine V_cV2I X dX0_aged_3 kX0_9 (t_slip0 l G ad ws k a ha true) (by assumption) (by rfl) (Nat.le_of_ble_eq_true rfl) ⟨⟨Nat.le_of_ble_eq_true rfl, Nat.le_of_ble_eq_true rfl⟩, Nat.le_of_ble_eq_true rfl, Nat.le_of_ble_eq_true rfl⟩ (fun r ws2 hc => ?_)
  obtain ⟨rfl, hw9⟩ := hc
  obtain rfl := hw9.symm
  exact V_iret X dX0_aged_6 ⟨rfl, rfl⟩
end
section
/-! loops; calls of a kind's own methods -/
theorem inc1 (f : Nat) : nI f + Int32.ofInt 1 = nI (f + 1) := nI_1 f
theorem pw_ne {f : Nat} (h : f < 5) : ¬ nI (10 ^ f) = 0 := by
  have h1 : 10 ^ f ≤ 10 ^ 4 := Nat.pow_le_pow_right (by decide) (by omega)
  have h2 : 0 < 10 ^ f := Nat.pow_pos (by decide)
  exact nI_ne0 h2 (by omega)
section VM
variable {p : Program} {l : Launch} {e : Env} {R : Room} {s : State} {m : MethodId} {args : Array Value} {below : List Frame} {meth : Method} {c : Code} {cells slots : Nat} {Q : State → Prop} {cc : ByteArray} {nL : Nat} {y : MethodName} {ret : Option FieldType} {G : GX} {A : Nat → Prop} {ad : Nat → Nat} {ws : List CE} {pc : Nat} {lv : List (Option Value)} {st : List Value}
theorem V_loop (I : Nat → List CE → List (Option Value) → Prop) (n : Nat) (h0 : I n ws lv) (hs : ∀ (n : Nat) (ws : List CE) (lv : List (Option Value)), I n ws lv → (∀ (n2 : Nat) (ws2 : List CE) (lv2 : List (Option Value)), n2 < n → I n2 ws2 lv2 → V p l e R s m args below meth c cells slots Q G A nL ad ws2 pc lv2 st) → V p l e R s m args below meth c cells slots Q G A nL ad ws pc lv st) : V p l e R s m args below meth c cells slots Q G A nL ad ws pc lv st := by
  have key : ∀ (n : Nat) (ws : List CE) (lv : List (Option Value)), I n ws lv → V p l e R s m args below meth c cells slots Q G A nL ad ws pc lv st := by
    intro n
    induction n using Nat.strongRecOn with
    | ind n ih => exact fun ws lv h => hs n ws lv h (fun n2 ws2 lv2 hn h2 => ih n2 hn ws2 lv2 h2)
  exact key n ws lv h0
theorem V_tswI (X : CX p s m args meth c cc nL y ret G A) {dflt lo hi off : Int} {offs : Array Int} {len : Nat} {x : Int32} (tgt : Nat) (hd : decode cc pc = .ok (.tableswitch dflt lo hi offs, len)) (h1 : ¬ x.toInt < lo) (h2 : ¬ hi < x.toInt) (ho : offs[(x.toInt - lo).toNat]? = some off) (ht : (pc : Int) + off = (tgt : Int)) (k : V p l e R s m args below meth c cells slots Q G A nL ad ws tgt lv st) : V p l e R s m args below meth c cells slots Q G A nL ad ws pc lv (.int x :: st) := fun H locs ls hP hD hS hl => lv_tableIn X.1.1 X.1.2.1 hd h1 h2 ho ht (k H locs ls hP hD hS hl)
theorem V_tswO (X : CX p s m args meth c cc nL y ret G A) {dflt lo hi : Int} {offs : Array Int} {len : Nat} {x : Int32} (tgt : Nat) (hd : decode cc pc = .ok (.tableswitch dflt lo hi offs, len)) (h : x.toInt < lo ∨ hi < x.toInt) (ht : (pc : Int) + dflt = (tgt : Int)) (k : V p l e R s m args below meth c cells slots Q G A nL ad ws tgt lv st) : V p l e R s m args below meth c cells slots Q G A nL ad ws pc lv (.int x :: st) := fun H locs ls hP hD hS hl => lv_tableOut X.1.1 X.1.2.1 hd h ht (k H locs ls hP hD hS hl)
def clsK (k : Nat) : Nat := if k = 0 then 4 else if k = 1 then 5 else if k = 2 then 8 else if k = 3 then 0 else 3
def hR3 (R : Room) (cells slots : Nat) : Prop := 4 ≤ R.frames ∧ 160 ≤ R.locals ∧ cells ≤ R.cells ∧ slots ≤ R.slots
theorem hR3_use {R : Room} {cells slots h n : Nat} (H : hR3 R cells slots) (hh : h ≤ 3) (hn : n ≤ 20) : (h + 1 ≤ R.frames ∧ 8 + (n + 11) + 40 * h ≤ R.locals) ∧ cells + 0 ≤ R.cells ∧ slots + 0 ≤ R.slots := by
  obtain ⟨h1, h2, h3, h4⟩ := H
  exact ⟨⟨by omega, by omega⟩, by omega, by omega⟩
theorem VU_gap (X : CX p s m args meth c cc nL y ret G A) {idx q k a b : Nat} (hd : decode cc pc = .ok (.invokevirtual idx, 3)) (r0 : CU y.cls idx RX4 yX4_gap yX4_gap cX4_gap 3 (some .int) 2) (r1 : CU y.cls idx RX5 yX4_gap yX4_gap cX4_gap 3 (some .int) 2) (r2 : CU y.cls idx RX8 yX4_gap yX8_gap cX8_gap 3 (some .int) 2) (r3 : CU y.cls idx RX0 yX4_gap yX0_gap cX0_gap 4 (some .int) 2) (r4 : CU y.cls idx RX3 yX4_gap yX8_gap cX8_gap 3 (some .int) 2) (hk : k < 5) (hq : ws[q]? = some (oB (clsK k) [])) (ha : a < 10) (hb : b < 10) (hcat : (st.map fun v => v.category).sum ≤ 8) (hR : hR3 R cells slots)
    (kk : V p l e R s m args below meth c cells slots Q G A nL ad ws (pc + 3) lv (.int (nI (gapK k a b)) :: st)) : V p l e R s m args below meth c cells slots Q G A nL ad ws pc lv (.int (nI b) :: .int (nI a) :: .ref q :: st) := by
  rcases (show k = 0 ∨ k = 1 ∨ k = 2 ∨ k = 3 ∨ k = 4 by omega) with rfl | rfl | rfl | rfl | rfl
  · exact V_cU2I X hd r0 (t_gap4 l G ad ws q a b ha hb) hq rfl hcat (hR3_use hR (by decide) (by decide)) (fun r ws2 hc => by obtain ⟨rfl, rfl⟩ := hc; exact kk)
  · exact V_cU2I X hd r1 (t_gap4 l G ad ws q a b ha hb) hq rfl hcat (hR3_use hR (by decide) (by decide)) (fun r ws2 hc => by obtain ⟨rfl, rfl⟩ := hc; exact kk)
  · exact V_cU2I X hd r2 (t_gap8 l G ad ws q a b ha hb) hq rfl hcat (hR3_use hR (by decide) (by decide)) (fun r ws2 hc => by obtain ⟨rfl, rfl⟩ := hc; exact kk)
  · exact V_cU2I X hd r3 (t_gap0 l G ad ws q a b ha hb) hq rfl hcat (hR3_use hR (by decide) (by decide)) (fun r ws2 hc => by obtain ⟨rfl, rfl⟩ := hc; exact kk)
  · exact V_cU2I X hd r4 (t_gap8 l G ad ws q a b ha hb) hq rfl hcat (hR3_use hR (by decide) (by decide)) (fun r ws2 hc => by obtain ⟨rfl, rfl⟩ := hc; exact kk)
theorem VU_steps (X : CX p s m args meth c cc nL y ret G A) {idx q k a b : Nat} (hd : decode cc pc = .ok (.invokevirtual idx, 3)) (r0 : CU y.cls idx RX4 yX4_steps yX4_steps cX4_steps 3 (some .int) 2) (r1 : CU y.cls idx RX5 yX4_steps yX4_steps cX4_steps 3 (some .int) 2) (r2 : CU y.cls idx RX8 yX4_steps yX4_steps cX4_steps 3 (some .int) 2) (r3 : CU y.cls idx RX0 yX4_steps yX0_steps cX0_steps 3 (some .int) 2) (r4 : CU y.cls idx RX3 yX4_steps yX4_steps cX4_steps 3 (some .int) 2) (hk : k < 5) (hq : ws[q]? = some (oB (clsK k) [])) (ha : a < 10) (hb : b < 10) (hcat : (st.map fun v => v.category).sum ≤ 8) (hR : hR3 R cells slots)
    (kk : V p l e R s m args below meth c cells slots Q G A nL ad ws (pc + 3) lv (.int (nI (stepK k a b)) :: st)) : V p l e R s m args below meth c cells slots Q G A nL ad ws pc lv (.int (nI b) :: .int (nI a) :: .ref q :: st) := by
  rcases (show k = 0 ∨ k = 1 ∨ k = 2 ∨ k = 3 ∨ k = 4 by omega) with rfl | rfl | rfl | rfl | rfl
  · exact V_cU2I X hd r0 (t_steps4 l G ad ws q a b ha hb) hq rfl hcat (hR3_use hR (by decide) (by decide)) (fun r ws2 hc => by obtain ⟨rfl, rfl⟩ := hc; exact kk)
  · exact V_cU2I X hd r1 (t_steps4 l G ad ws q a b ha hb) hq rfl hcat (hR3_use hR (by decide) (by decide)) (fun r ws2 hc => by obtain ⟨rfl, rfl⟩ := hc; exact kk)
  · exact V_cU2I X hd r2 (t_steps4 l G ad ws q a b ha hb) hq rfl hcat (hR3_use hR (by decide) (by decide)) (fun r ws2 hc => by obtain ⟨rfl, rfl⟩ := hc; exact kk)
  · exact V_cU2I X hd r3 (t_steps0 l G ad ws q a b ha hb hq) hq rfl hcat (hR3_use hR (by decide) (by decide)) (fun r ws2 hc => by obtain ⟨rfl, rfl⟩ := hc; exact kk)
  · exact V_cU2I X hd r4 (t_steps4 l G ad ws q a b ha hb) hq rfl hcat (hR3_use hR (by decide) (by decide)) (fun r ws2 hc => by obtain ⟨rfl, rfl⟩ := hc; exact kk)
theorem VU_slip (X : CX p s m args meth c cc nL y ret G A) {idx q k a : Nat} {up : Bool} (hd : decode cc pc = .ok (.invokevirtual idx, 3)) (r0 : CU y.cls idx RX4 yX4_slipped yX4_slipped cX4_slipped 4 (some .int) 2) (r1 : CU y.cls idx RX5 yX4_slipped yX4_slipped cX4_slipped 4 (some .int) 2) (r2 : CU y.cls idx RX8 yX4_slipped yX4_slipped cX4_slipped 4 (some .int) 2) (r3 : CU y.cls idx RX0 yX4_slipped yX0_slipped cX0_slipped 3 (some .int) 2) (r4 : CU y.cls idx RX3 yX4_slipped yX4_slipped cX4_slipped 4 (some .int) 2) (hk : k < 5) (hq : ws[q]? = some (oB (clsK k) [])) (ha : a < 10) (hcat : (st.map fun v => v.category).sum ≤ 8) (hR : hR3 R cells slots)
    (kk : V p l e R s m args below meth c cells slots Q G A nL ad ws (pc + 3) lv (.int (optI (slipK k a up)) :: st)) : V p l e R s m args below meth c cells slots Q G A nL ad ws pc lv (.int (byI up) :: .int (nI a) :: .ref q :: st) := by
  rcases (show k = 0 ∨ k = 1 ∨ k = 2 ∨ k = 3 ∨ k = 4 by omega) with rfl | rfl | rfl | rfl | rfl
  · exact V_cU2I X hd r0 (t_slip4 l G ad ws q a ha up) hq rfl hcat (hR3_use hR (by decide) (by decide)) (fun r ws2 hc => by obtain ⟨rfl, rfl⟩ := hc; exact kk)
  · exact V_cU2I X hd r1 (t_slip4 l G ad ws q a ha up) hq rfl hcat (hR3_use hR (by decide) (by decide)) (fun r ws2 hc => by obtain ⟨rfl, rfl⟩ := hc; exact kk)
  · exact V_cU2I X hd r2 (t_slip4 l G ad ws q a ha up) hq rfl hcat (hR3_use hR (by decide) (by decide)) (fun r ws2 hc => by obtain ⟨rfl, rfl⟩ := hc; exact kk)
  · exact V_cU2I X hd r3 (t_slip0 l G ad ws q a ha up) hq rfl hcat (hR3_use hR (by decide) (by decide)) (fun r ws2 hc => by obtain ⟨rfl, rfl⟩ := hc; exact kk)
  · exact V_cU2I X hd r4 (t_slip4 l G ad ws q a ha up) hq rfl hcat (hR3_use hR (by decide) (by decide)) (fun r ws2 hc => by obtain ⟨rfl, rfl⟩ := hc; exact kk)
theorem VU_aged (X : CX p s m args meth c cc nL y ret G A) {idx q k a : Nat} (hd : decode cc pc = .ok (.invokevirtual idx, 3)) (r0 : CU y.cls idx RX4 yX4_aged yX4_aged cX4_aged 2 (some .int) 1) (r1 : CU y.cls idx RX5 yX4_aged yX5_aged cX5_aged 2 (some .int) 1) (r2 : CU y.cls idx RX8 yX4_aged yX4_aged cX4_aged 2 (some .int) 1) (r3 : CU y.cls idx RX0 yX4_aged yX0_aged cX0_aged 2 (some .int) 1) (r4 : CU y.cls idx RX3 yX4_aged yX4_aged cX4_aged 2 (some .int) 1) (hk : k < 5) (hq : ws[q]? = some (oB (clsK k) [])) (ha : a < 10) (hcat : (st.map fun v => v.category).sum ≤ 8) (hR : hR3 R cells slots)
    (kk : V p l e R s m args below meth c cells slots Q G A nL ad ws (pc + 3) lv (.int (nI (agedK k a)) :: st)) : V p l e R s m args below meth c cells slots Q G A nL ad ws pc lv (.int (nI a) :: .ref q :: st) := by
  rcases (show k = 0 ∨ k = 1 ∨ k = 2 ∨ k = 3 ∨ k = 4 by omega) with rfl | rfl | rfl | rfl | rfl
  · exact V_cU1I X hd r0 (t_aged4 l G ad ws q _) hq rfl hcat (hR3_use hR (by decide) (by decide)) (fun r ws2 hc => by obtain ⟨rfl, rfl⟩ := hc; exact kk)
  · exact V_cU1I X hd r1 (t_aged5 l G ad ws q a ha) hq rfl hcat (hR3_use hR (by decide) (by decide)) (fun r ws2 hc => by obtain ⟨rfl, rfl⟩ := hc; exact kk)
  · exact V_cU1I X hd r2 (t_aged4 l G ad ws q _) hq rfl hcat (hR3_use hR (by decide) (by decide)) (fun r ws2 hc => by obtain ⟨rfl, rfl⟩ := hc; exact kk)
  · exact V_cU1I X hd r3 (t_aged0 l G ad ws q a ha hq) hq rfl hcat (hR3_use hR (by decide) (by decide)) (fun r ws2 hc => by obtain ⟨rfl, rfl⟩ := hc; exact kk)
  · exact V_cU1I X hd r4 (t_aged4 l G ad ws q _) hq rfl hcat (hR3_use hR (by decide) (by decide)) (fun r ws2 hc => by obtain ⟨rfl, rfl⟩ := hc; exact kk)
theorem VU_kind (X : CX p s m args meth c cc nL y ret G A) {idx q k : Nat} (hd : decode cc pc = .ok (.invokevirtual idx, 3)) (r0 : CU y.cls idx RX4 yX4_kind yX4_kind cX4_kind 1 (some .int) 0) (r1 : CU y.cls idx RX5 yX4_kind yX5_kind cX5_kind 1 (some .int) 0) (r2 : CU y.cls idx RX8 yX4_kind yX8_kind cX8_kind 1 (some .int) 0) (r3 : CU y.cls idx RX0 yX4_kind yX0_kind cX0_kind 1 (some .int) 0) (r4 : CU y.cls idx RX3 yX4_kind yX3_kind cX3_kind 1 (some .int) 0) (hk : k < 5) (hq : ws[q]? = some (oB (clsK k) [])) (hcat : (st.map fun v => v.category).sum ≤ 8) (hR : hR3 R cells slots)
    (kk : V p l e R s m args below meth c cells slots Q G A nL ad ws (pc + 3) lv (.int (nI k) :: st)) : V p l e R s m args below meth c cells slots Q G A nL ad ws pc lv (.ref q :: st) := by
  rcases (show k = 0 ∨ k = 1 ∨ k = 2 ∨ k = 3 ∨ k = 4 by omega) with rfl | rfl | rfl | rfl | rfl
  · exact V_cU0I X hd r0 (t_kind4 l G ad ws q) hq rfl hcat (hR3_use hR (by decide) (by decide)) (fun r ws2 hc => by obtain ⟨rfl, rfl⟩ := hc; exact kk)
  · exact V_cU0I X hd r1 (t_kind5 l G ad ws q) hq rfl hcat (hR3_use hR (by decide) (by decide)) (fun r ws2 hc => by obtain ⟨rfl, rfl⟩ := hc; exact kk)
  · exact V_cU0I X hd r2 (t_kind8 l G ad ws q) hq rfl hcat (hR3_use hR (by decide) (by decide)) (fun r ws2 hc => by obtain ⟨rfl, rfl⟩ := hc; exact kk)
  · exact V_cU0I X hd r3 (t_kind0 l G ad ws q) hq rfl hcat (hR3_use hR (by decide) (by decide)) (fun r ws2 hc => by obtain ⟨rfl, rfl⟩ := hc; exact kk)
  · exact V_cU0I X hd r4 (t_kind3 l G ad ws q) hq rfl hcat (hR3_use hR (by decide) (by decide)) (fun r ws2 hc => by obtain ⟨rfl, rfl⟩ := hc; exact kk)
end VM
end
section
/-! Looks -/
def FeatAt (ws : List CE) (xs : List (Option Nat)) (K : Nat → Nat) : Prop := ∀ j, j < 4 → K j < 5 ∧ ∃ q, xs[j]? = some (some q) ∧ ws[q]? = some (oB (clsK (K j)) []) ∧ (q = 3 ∨ 47 ≤ q)
def LooksAt (ws : List CE) (n : Nat) (K : Nat → Nat) : Prop := n ≤ 4 ∧ ws[1]? = some (oB 6 [.ref 2, .int (nI n)]) ∧ ∃ xs : List (Option Nat), ws[2]? = some (rA xs) ∧ xs.length = 4 ∧ FeatAt ws xs K
def inR (n : Nat) (x : Int32) : Bool := decide (¬ x < 0) && decide (¬ nI n ≤ x)
theorem t_Lsize (l : Launch) (G : GX) (ad : Nat → Nat) (ws : List CE) (n : Nat) (K : Nat → Nat) (hL : LooksAt ws n K) : Ct l G yX6_size cX6_size 1 (some .int) 0 0 0 ad ws [.ref 1] (pI ad (fun r ws2 => r = nI n ∧ ws2 = ws)) := by
  refine Ct.of [some (.ref 1)] (by decide +kernel) (Nat.le_of_ble_eq_true rfl) rfl ?_
  intro p e s m args below meth c A X
  obtain ⟨hn, h1, xs, h2, hx4, hF⟩ := hL
  refine V_aload_n0 X dX6_size_0 ?_
  refine V_getf X dX6_size_1 fX6_17 (by assumption) (by rfl) ?_
  exact V_iret X dX6_size_4 ⟨rfl, rfl⟩
theorem t_LisFull (l : Launch) (G : GX) (ad : Nat → Nat) (ws : List CE) (n : Nat) (K : Nat → Nat) (hL : LooksAt ws n K) : Ct l G yX6_isFull cX6_isFull 1 (some .boolean) 0 0 0 ad ws [.ref 1] (pI ad (fun r ws2 => r = bI (decide (4 ≤ n)) ∧ ws2 = ws)) := by
  refine Ct.of [some (.ref 1)] (by decide +kernel) (Nat.le_of_ble_eq_true rfl) rfl ?_
  intro p e s m args below meth c A X
  obtain ⟨hn, h1, xs, h2, hx4, hF⟩ := hL
  refine V_aload_n0 X dX6_isFull_0 ?_
  refine V_getf X dX6_isFull_1 fX6_17 (by assumption) (by rfl) ?_
  refine V_iconstE X (nI 4) dX6_isFull_4 (by decide +kernel) ?_
  refine V_icmp_lt X 12 dX6_isFull_5 (by decide) (fun h => ?_) (fun h => ?_)
  · have h9 : ¬ 4 ≤ n := by have := (nI_ltI (by omega) (by omega)).mp h; omega
    refine V_iconstE X (nI 0) dX6_isFull_12 (by decide +kernel) ?_
    exact V_zret X dX6_isFull_13 rfl ⟨by simp [bI, h9], rfl⟩
  · have h9 : 4 ≤ n := by rcases Nat.lt_or_ge n 4 with q | q; exact absurd ((nI_ltI (by omega) (by omega)).mpr q) h; exact q
    refine V_iconstE X (nI 1) dX6_isFull_8 (by decide +kernel) ?_
    refine V_goto X 13 dX6_isFull_9 (by decide) ?_
    exact V_zret X dX6_isFull_13 rfl ⟨by simp [bI, h9], rfl⟩
theorem t_Lhas (l : Launch) (G : GX) (ad : Nat → Nat) (ws : List CE) (n : Nat) (K : Nat → Nat) (hL : LooksAt ws n K) (x : Int32) : Ct l G yX6_has cX6_has 2 (some .boolean) 0 0 0 ad ws [.ref 1, .int x] (pI ad (fun r ws2 => r = bI (inR n x) ∧ ws2 = ws)) := by
  refine Ct.of [some (.ref 1), some (.int x)] (by decide +kernel) (Nat.le_of_ble_eq_true rfl) rfl ?_
  intro p e s m args below meth c A X
  obtain ⟨hn, h1, xs, h2, hx4, hF⟩ := hL
  refine V_iload_n1 X dX6_has_0 ?_
  refine V_if_lt X 16 dX6_has_1 (by decide) (fun h => ?_) (fun h => ?_)
  · refine V_iconstE X (nI 0) dX6_has_16 (by decide +kernel) ?_
    exact V_zret X dX6_has_17 rfl ⟨by simp [bI, inR, h], rfl⟩
  · refine V_iload_n1 X dX6_has_4 ?_
    refine V_aload_n0 X dX6_has_5 ?_
    refine V_getf X dX6_has_6 fX6_17 (by assumption) (by rfl) ?_
    refine V_icmp_ge X 16 dX6_has_9 (by decide) (fun h2 => ?_) (fun h2 => ?_)
    · refine V_iconstE X (nI 0) dX6_has_16 (by decide +kernel) ?_
      exact V_zret X dX6_has_17 rfl ⟨by simp [bI, inR, h2], rfl⟩
    · refine V_iconstE X (nI 1) dX6_has_12 (by decide +kernel) ?_
      refine V_goto X 17 dX6_has_13 (by decide) ?_
      exact V_zret X dX6_has_17 rfl ⟨by simp [bI, inR, h, h2], rfl⟩
theorem t_Lat (l : Launch) (G : GX) (ad : Nat → Nat) (ws : List CE) (n : Nat) (K : Nat → Nat) (hL : LooksAt ws n K) (f : Nat) (hf : f < 4) : Ct l G yX6_at cX6_at 2 (some (.object "LikeLastYears$Feature")) 0 0 0 ad ws [.ref 1, .int (nI f)] (pR ad (fun q ws2 => (K f < 5 ∧ ws[q]? = some (oB (clsK (K f)) [])) ∧ ws2 = ws)) := by
  refine Ct.of [some (.ref 1), some (.int (nI f))] (by decide +kernel) (Nat.le_of_ble_eq_true rfl) rfl ?_
  intro p e s m args below meth c A X
  obtain ⟨hn, h1, xs, h2, hx4, hF⟩ := hL
  obtain ⟨hk5, q, hq1, hq2, hq3⟩ := hF f hf
  refine V_aload_n0 X dX6_at_0 ?_
  refine V_getf X dX6_at_1 fX6_11 (by assumption) (by rfl) ?_
  refine V_iload_n1 X dX6_at_4 ?_
  refine V_if_lt X 17 dX6_at_5 (by decide) (fun h => ?_) (fun h => ?_)
  · exact absurd h (nI_pos (by omega))
  · refine V_iload_n1 X dX6_at_8 ?_
    refine V_iconstE X (nI 4) dX6_at_9 (by decide +kernel) ?_
    refine V_icmp_ge X 17 dX6_at_10 (by decide) (fun h3 => ?_) (fun h3 => ?_)
    · exact absurd h3 (nI_ge hf (by decide))
    · refine V_iload_n1 X dX6_at_13 ?_
      refine V_goto X 18 dX6_at_14 (by decide) ?_
      refine V_aald X f dX6_at_18 (by assumption) rfl hq1 (by omega) ?_
      exact V_aretC X dX6_at_19 ⟨⟨hk5, hq2⟩, rfl⟩
theorem t_LisP (l : Launch) (G : GX) (ad : Nat → Nat) (ws : List CE) (n : Nat) (K : Nat → Nat) (hL : LooksAt ws n K) (hkP : ad kP = G.2.2.2) (x : Int32) : Ct l G yX6_isPortrait cX6_isPortrait 2 (some .boolean) 0 0 0 ad ws [.ref 1, .int x] (pI ad (fun r ws2 => r = bI (inR (10 ^ n) x) ∧ ws2 = ws)) := by
  refine Ct.of [some (.ref 1), some (.int x)] (by decide +kernel) (Nat.le_of_ble_eq_true rfl) rfl ?_
  intro p e s m args below meth c A X
  obtain ⟨hn, h1, xs, h2, hx4, hF⟩ := hL
  refine V_iload_n1 X dX6_isPortrait_0 ?_
  refine V_if_lt X 31 dX6_isPortrait_1 (by decide) (fun h => ?_) (fun h => ?_)
  · refine V_iconstE X (nI 0) dX6_isPortrait_31 (by decide +kernel) ?_
    exact V_zret X dX6_isPortrait_32 rfl ⟨by simp [bI, inR, h], rfl⟩
  · refine V_aload_n0 X dX6_isPortrait_4 ?_
    refine V_getf X dX6_isPortrait_5 fX6_17 (by assumption) (by rfl) ?_
    refine V_getP X dX6_isPortrait_8 hkP (Or.inr w_321) ?_
    refine V_alenP X dX6_isPortrait_11 hkP ?_
    refine V_icmp_ge X 31 dX6_isPortrait_12 (by decide) (fun h3 => ?_) (fun h3 => ?_)
    · exact absurd h3 (nI_ge (show n < 5 by omega) (by decide))
    · refine V_iload_n1 X dX6_isPortrait_15 ?_
      refine V_getP X dX6_isPortrait_16 hkP (Or.inr w_321) ?_
      refine V_aload_n0 X dX6_isPortrait_19 ?_
      refine V_getf X dX6_isPortrait_20 fX6_17 (by assumption) (by rfl) ?_
      refine V_ialdP X n dX6_isPortrait_23 hkP rfl (by omega) ?_
      refine V_icmp_ge X 31 dX6_isPortrait_24 (by decide) (fun h2 => ?_) (fun h2 => ?_)
      · refine V_iconstE X (nI 0) dX6_isPortrait_31 (by decide +kernel) ?_
        exact V_zret X dX6_isPortrait_32 rfl ⟨by simp [bI, inR, h2], rfl⟩
      · refine V_iconstE X (nI 1) dX6_isPortrait_27 (by decide +kernel) ?_
        refine V_goto X 32 dX6_isPortrait_28 (by decide) ?_
        exact V_zret X dX6_isPortrait_32 rfl ⟨by simp [bI, inR, h, h2], rfl⟩
theorem t_sizeIn (l : Launch) (G : GX) (ad : Nat → Nat) (ws : List CE) (hkP : ad kP = G.2.2.2) (p0 f : Nat) (hp : p0 < 2147483648) (hf : f < 4) : Ct l G yX6_sizeIn cX6_sizeIn 2 (some .int) 0 0 0 ad ws [.int (nI p0), .int (nI f)] (pI ad (fun r ws2 => r = nI (dg p0 f) ∧ ws2 = ws)) := by
  refine Ct.of [some (.int (nI p0)), some (.int (nI f))] (by decide +kernel) (Nat.le_of_ble_eq_true rfl) rfl ?_
  intro p e s m args below meth c A X
  have hf5 : f < 5 := by omega
  refine V_iload_n1 X dX6_sizeIn_0 ?_
  refine V_if_lt X 22 dX6_sizeIn_1 (by decide) (fun h => ?_) (fun h => ?_)
  · exact absurd h (nI_pos (by omega))
  · refine V_iload_n1 X dX6_sizeIn_4 ?_
    refine V_iconstE X (nI 4) dX6_sizeIn_5 (by decide +kernel) ?_
    refine V_icmp_ge X 22 dX6_sizeIn_6 (by decide) (fun h3 => ?_) (fun h3 => ?_)
    · exact absurd h3 (nI_ge hf (by decide))
    · refine V_iload_n0 X dX6_sizeIn_9 ?_
      refine V_getP X dX6_sizeIn_10 hkP (Or.inr w_321) ?_
      refine V_iload_n1 X dX6_sizeIn_13 ?_
      refine V_ialdP X f dX6_sizeIn_14 hkP rfl hf5 ?_
      refine V_idiv X dX6_sizeIn_15 (pw_ne hf5) ?_
      refine V_bipushE X (nI 10) dX6_sizeIn_16 (by decide +kernel) ?_
      refine V_irem X dX6_sizeIn_18 (by decide +kernel) ?_
      refine V_goto X 23 dX6_sizeIn_19 (by decide) ?_
      exact V_iret X dX6_sizeIn_23 ⟨i32_dg hp hf5, rfl⟩
theorem t_with (l : Launch) (G : GX) (ad : Nat → Nat) (ws : List CE) (hkP : ad kP = G.2.2.2) (p0 f v : Nat) (hp : p0 < 2147483648) (hf : f < 4) : Ct l G yX6_with cX6_with 5 (some .int) 1 0 0 ad ws [.ref 1, .int (nI p0), .int (nI f), .int (nI v)] (pI ad (fun r ws2 => r = nI (withP p0 f v) ∧ ws2 = ws)) := by
  refine Ct.of [some (.ref 1), some (.int (nI p0)), some (.int (nI f)), some (.int (nI v)), none] (by decide +kernel) (Nat.le_of_ble_eq_true rfl) rfl ?_
  intro p e s m args below meth c A X
  have hf5 : f < 5 := by omega
  refine V_iload_n2 X dX6_with_0 ?_
  refine V_if_lt X 9 dX6_with_1 (by decide) (fun h => ?_) (fun h => ?_)
  · exact absurd h (nI_pos (by omega))
  · refine V_iload_n2 X dX6_with_4 ?_
    refine V_iconstE X (nI 4) dX6_with_5 (by decide +kernel) ?_
    refine V_icmp_lt X 11 dX6_with_6 (by decide) (fun h3 => ?_) (fun h3 => ?_)
    · refine V_getP X dX6_with_11 hkP (Or.inr w_321) ?_
      refine V_iload_n2 X dX6_with_14 ?_
      refine V_ialdP X f dX6_with_15 hkP rfl hf5 ?_
      refine V_istore_4 X dX6_with_16 (Nat.le_of_ble_eq_true rfl) rfl ?_
      refine V_iload_n1 X dX6_with_18 ?_
      refine V_iload_n3 X dX6_with_19 ?_
      refine V_iload_n1 X dX6_with_20 ?_
      refine V_iload_4 X dX6_with_21 ?_
      refine V_idiv X dX6_with_23 (pw_ne hf5) ?_
      refine V_bipushE X (nI 10) dX6_with_24 (by decide +kernel) ?_
      refine V_irem X dX6_with_26 (by decide +kernel) ?_
      rw [i32_dg hp hf5]
      refine V_isub X dX6_with_27 ?_
      refine V_iload_4 X dX6_with_28 ?_
      refine V_imul X dX6_with_30 ?_
      refine V_iadd X dX6_with_31 ?_
      exact V_iret X dX6_with_32 ⟨i32_withP p0 f v, rfl⟩
    · exact absurd ((nI_ltI (b := 4) (by omega) (by omega)).mpr hf) h3
theorem optI_ne {v : Nat} (h : v < 10) : ¬ optI (some v) = -1 := by
  have : ∀ v, v < 10 → ¬ optI (some v) = -1 := by decide +kernel
  exact this v h
theorem t_slip (l : Launch) (G : GX) (ad : Nat → Nat) (ws : List CE) (n : Nat) (K : Nat → Nat) (hL : LooksAt ws n K) (hkP : ad kP = G.2.2.2) (p0 f : Nat) (hp : p0 < 2147483648) (hf0 : f < n) (up : Bool) : Ct l G yX6_slip cX6_slip 7 (some .int) 4 0 0 ad ws [.ref 1, .int (nI p0), .int (nI f), .int (byI up)] (pI ad (fun r ws2 => r = optI (slipP K p0 f up) ∧ ws2 = ws)) := by
  refine Ct.of [some (.ref 1), some (.int (nI p0)), some (.int (nI f)), some (.int (byI up)), none, none, none] (by decide +kernel) (Nat.le_of_ble_eq_true rfl) rfl ?_
  intro p e s m args below meth c A X
  have hL0 := hL
  obtain ⟨hn, h1, xs, h2, hx4, hF⟩ := hL
  have hf : f < 4 := by omega
  have hf5 : f < 5 := by omega
  have hin : inR n (nI f) = true := by simp [inR, nI_pos (show f < 2147483648 by omega), nI_ge hf0 (by omega)]
  obtain ⟨hk5, q, hq1, hq2, hq3⟩ := hF f hf
  refine V_aload_n0 X dX6_slip_0 ?_
  refine V_iload_n2 X dX6_slip_1 ?_
  refine V_cV1I X dX6_slip_2 kX6_30 (t_Lhas l G ad ws n K hL0 (nI f)) (by assumption) (by rfl) (Nat.le_of_ble_eq_true rfl) ⟨⟨Nat.le_of_ble_eq_true rfl, Nat.le_of_ble_eq_true rfl⟩, Nat.le_of_ble_eq_true rfl, Nat.le_of_ble_eq_true rfl⟩ (fun r ws2 hc => ?_)
  obtain ⟨rfl, hw9⟩ := hc
  obtain rfl := hw9.symm
  rw [hin]
  refine V_if_ne X 10 dX6_slip_5 (by decide) (fun h0 => ?_) (fun h0 => ?_)
  rotate_left
  · exact absurd h0 (by decide +kernel)
  refine V_getP X dX6_slip_10 hkP (Or.inr w_321) ?_
  refine V_iload_n2 X dX6_slip_13 ?_
  refine V_ialdP X f dX6_slip_14 hkP rfl hf5 ?_
  refine V_istore_4 X dX6_slip_15 (Nat.le_of_ble_eq_true rfl) rfl ?_
  refine V_iload_n1 X dX6_slip_17 ?_
  refine V_iload_4 X dX6_slip_18 ?_
  refine V_idiv X dX6_slip_20 (pw_ne hf5) ?_
  refine V_bipushE X (nI 10) dX6_slip_21 (by decide +kernel) ?_
  refine V_irem X dX6_slip_23 (by decide +kernel) ?_
  rw [i32_dg hp hf5]
  refine V_istore_5 X dX6_slip_24 (Nat.le_of_ble_eq_true rfl) rfl ?_
  refine V_aload_n0 X dX6_slip_26 ?_
  refine V_getf X dX6_slip_27 fX6_11 (by assumption) (by rfl) ?_
  refine V_iload_n2 X dX6_slip_30 ?_
  refine V_aald X f dX6_slip_31 (by assumption) rfl hq1 (by omega) ?_
  refine V_iload_5 X dX6_slip_32 ?_
  refine V_iload_n3 X dX6_slip_34 ?_
  refine VU_slip X dX6_slip_35 kX6_34_4 kX6_34_5 kX6_34_8 kX6_34_0 kX6_34_3 hk5 hq2 (dg_lt _ _) (Nat.le_of_ble_eq_true rfl) ⟨Nat.le_of_ble_eq_true rfl, Nat.le_of_ble_eq_true rfl, Nat.le_of_ble_eq_true rfl, Nat.le_of_ble_eq_true rfl⟩ ?_
  refine V_istore_6 X dX6_slip_38 (Nat.le_of_ble_eq_true rfl) rfl ?_
  refine V_iload_6 X dX6_slip_40 ?_
  refine V_iconstE X (-1) dX6_slip_42 (by decide +kernel) ?_
  refine V_icmp_ne X 50 dX6_slip_43 (by decide) (fun h => ?_) (fun h => ?_)
  · cases hs : slipK (K f) (dg p0 f) up with
    | none => rw [hs] at h; exact absurd rfl h
    | some v =>
      refine V_iload_n1 X dX6_slip_50 ?_
      refine V_iload_6 X dX6_slip_51 ?_
      refine V_iload_5 X dX6_slip_53 ?_
      refine V_isub X dX6_slip_55 ?_
      refine V_iload_4 X dX6_slip_56 ?_
      refine V_imul X dX6_slip_58 ?_
      refine V_iadd X dX6_slip_59 ?_
      exact V_iret X dX6_slip_60 ⟨by unfold slipP; rw [hs]; exact i32_withP p0 f v, rfl⟩
  · refine V_iconstE X (-1) dX6_slip_46 (by decide +kernel) ?_
    refine V_goto X 60 dX6_slip_47 (by decide) ?_
    cases hs : slipK (K f) (dg p0 f) up with
    | none =>
      exact V_iret X dX6_slip_60 ⟨by unfold slipP; rw [hs]; rfl, rfl⟩
    | some v => rw [hs] at h; exact absurd h (optI_ne (slipK_lt (dg_lt _ _) hs))
theorem t_Lgap (l : Launch) (G : GX) (ad : Nat → Nat) (ws : List CE) (n : Nat) (K : Nat → Nat) (hL : LooksAt ws n K) (hkP : ad kP = G.2.2.2) (a b : Nat) (ha : a < 2147483648) (hb : b < 2147483648) : Ct l G yX6_gap cX6_gap 5 (some .int) 4 0 0 ad ws [.ref 1, .int (nI a), .int (nI b)] (pI ad (fun r ws2 => r = nI (gapP n K a b) ∧ ws2 = ws)) := by
  refine Ct.of [some (.ref 1), some (.int (nI a)), some (.int (nI b)), none, none] (by decide +kernel) (Nat.le_of_ble_eq_true rfl) rfl ?_
  intro p e s m args below meth c A X
  have hL0 := hL
  obtain ⟨hn, h1, xs, h2, hx4, hF⟩ := hL
  refine V_iconstE X (nI 0) dX6_gap_0 (by decide +kernel) ?_
  refine V_istore_n3 X dX6_gap_1 (Nat.le_of_ble_eq_true rfl) rfl ?_
  refine V_iconstE X (nI 0) dX6_gap_2 (by decide +kernel) ?_
  refine V_istore_4 X dX6_gap_3 (Nat.le_of_ble_eq_true rfl) rfl ?_
  refine V_loop (fun k ws2 lv2 => ∃ f, f + k = n ∧ ws2 = ws ∧ lv2 = [some (.ref 1), some (.int (nI a)), some (.int (nI b)), some (.int (nI (gapP f K a b))), some (.int (nI f))]) n ⟨0, by omega, rfl, rfl⟩ ?_
  rintro k _ _ ⟨f, hf, rfl, rfl⟩ ih
  refine V_iload_4 X dX6_gap_5 ?_
  refine V_aload_n0 X dX6_gap_7 ?_
  refine V_getf X dX6_gap_8 fX6_17 (by assumption) (by rfl) ?_
  refine V_icmp_ge X 44 dX6_gap_11 (by decide) (fun h => ?_) (fun h => ?_)
  · have e9 : f = n := by have := (nI_leI (by omega) (by omega)).mp h; omega
    subst e9
    refine V_iload_n3 X dX6_gap_44 ?_
    exact V_iret X dX6_gap_45 ⟨rfl, rfl⟩
  · have e9 : f < n := by rcases Nat.lt_or_ge f n with q | q; exact q; exact absurd ((nI_leI (by omega) (by omega)).mpr q) h
    refine V_iload_n3 X dX6_gap_14 ?_
    refine V_aload_n0 X dX6_gap_15 ?_
    refine V_iload_4 X dX6_gap_16 ?_
    refine V_cV1R X dX6_gap_18 kX6_38 (t_Lat l G ad _ n K hL0 f (by omega)) (by assumption) (by rfl) (Nat.le_of_ble_eq_true rfl) ⟨⟨Nat.le_of_ble_eq_true rfl, Nat.le_of_ble_eq_true rfl⟩, Nat.le_of_ble_eq_true rfl, Nat.le_of_ble_eq_true rfl⟩ (fun r ws2 hc => ?_)
    obtain ⟨⟨hk5, hq2⟩, hw9⟩ := hc
    obtain rfl := hw9.symm
    refine V_iload_n1 X dX6_gap_21 ?_
    refine V_iload_4 X dX6_gap_22 ?_
    refine V_cS2I X dX6_gap_24 kX6_42 (t_sizeIn l G ad _ hkP a f ha (by omega)) (Nat.le_of_ble_eq_true rfl) ⟨⟨Nat.le_of_ble_eq_true rfl, Nat.le_of_ble_eq_true rfl⟩, Nat.le_of_ble_eq_true rfl, Nat.le_of_ble_eq_true rfl⟩ (fun r ws2 hc => ?_)
    obtain ⟨rfl, hw9⟩ := hc
    obtain rfl := hw9.symm
    refine V_iload_n2 X dX6_gap_27 ?_
    refine V_iload_4 X dX6_gap_28 ?_
    refine V_cS2I X dX6_gap_30 kX6_42 (t_sizeIn l G ad _ hkP b f hb (by omega)) (Nat.le_of_ble_eq_true rfl) ⟨⟨Nat.le_of_ble_eq_true rfl, Nat.le_of_ble_eq_true rfl⟩, Nat.le_of_ble_eq_true rfl, Nat.le_of_ble_eq_true rfl⟩ (fun r ws2 hc => ?_)
    obtain ⟨rfl, hw9⟩ := hc
    obtain rfl := hw9.symm
    refine VU_gap X dX6_gap_33 kX6_45_4 kX6_45_5 kX6_45_8 kX6_45_0 kX6_45_3 hk5 hq2 (dg_lt _ _) (dg_lt _ _) (Nat.le_of_ble_eq_true rfl) ⟨Nat.le_of_ble_eq_true rfl, Nat.le_of_ble_eq_true rfl, Nat.le_of_ble_eq_true rfl, Nat.le_of_ble_eq_true rfl⟩ ?_
    refine V_iadd X dX6_gap_36 ?_
    refine V_istore_n3 X dX6_gap_37 (Nat.le_of_ble_eq_true rfl) rfl ?_
    refine V_iinc_4 X dX6_gap_38 (Nat.le_of_ble_eq_true rfl) rfl (inc1 _) ?_
    refine V_goto X 5 dX6_gap_41 (by decide) ?_
    exact ih (k - 1) _ _ (by omega) ⟨f + 1, by omega, rfl, by rw [nI_add]; rfl⟩
theorem t_Lsteps (l : Launch) (G : GX) (ad : Nat → Nat) (ws : List CE) (n : Nat) (K : Nat → Nat) (hL : LooksAt ws n K) (hkP : ad kP = G.2.2.2) (a b : Nat) (ha : a < 2147483648) (hb : b < 2147483648) : Ct l G yX6_steps cX6_steps 5 (some .int) 4 0 0 ad ws [.ref 1, .int (nI a), .int (nI b)] (pI ad (fun r ws2 => r = nI (stepP n K a b) ∧ ws2 = ws)) := by
  refine Ct.of [some (.ref 1), some (.int (nI a)), some (.int (nI b)), none, none] (by decide +kernel) (Nat.le_of_ble_eq_true rfl) rfl ?_
  intro p e s m args below meth c A X
  have hL0 := hL
  obtain ⟨hn, h1, xs, h2, hx4, hF⟩ := hL
  refine V_iconstE X (nI 0) dX6_steps_0 (by decide +kernel) ?_
  refine V_istore_n3 X dX6_steps_1 (Nat.le_of_ble_eq_true rfl) rfl ?_
  refine V_iconstE X (nI 0) dX6_steps_2 (by decide +kernel) ?_
  refine V_istore_4 X dX6_steps_3 (Nat.le_of_ble_eq_true rfl) rfl ?_
  refine V_loop (fun k ws2 lv2 => ∃ f, f + k = n ∧ ws2 = ws ∧ lv2 = [some (.ref 1), some (.int (nI a)), some (.int (nI b)), some (.int (nI (stepP f K a b))), some (.int (nI f))]) n ⟨0, by omega, rfl, rfl⟩ ?_
  rintro k _ _ ⟨f, hf, rfl, rfl⟩ ih
  refine V_iload_4 X dX6_steps_5 ?_
  refine V_aload_n0 X dX6_steps_7 ?_
  refine V_getf X dX6_steps_8 fX6_17 (by assumption) (by rfl) ?_
  refine V_icmp_ge X 44 dX6_steps_11 (by decide) (fun h => ?_) (fun h => ?_)
  · have e9 : f = n := by have := (nI_leI (by omega) (by omega)).mp h; omega
    subst e9
    refine V_iload_n3 X dX6_steps_44 ?_
    exact V_iret X dX6_steps_45 ⟨rfl, rfl⟩
  · have e9 : f < n := by rcases Nat.lt_or_ge f n with q | q; exact q; exact absurd ((nI_leI (by omega) (by omega)).mpr q) h
    refine V_iload_n3 X dX6_steps_14 ?_
    refine V_aload_n0 X dX6_steps_15 ?_
    refine V_iload_4 X dX6_steps_16 ?_
    refine V_cV1R X dX6_steps_18 kX6_38 (t_Lat l G ad _ n K hL0 f (by omega)) (by assumption) (by rfl) (Nat.le_of_ble_eq_true rfl) ⟨⟨Nat.le_of_ble_eq_true rfl, Nat.le_of_ble_eq_true rfl⟩, Nat.le_of_ble_eq_true rfl, Nat.le_of_ble_eq_true rfl⟩ (fun r ws2 hc => ?_)
    obtain ⟨⟨hk5, hq2⟩, hw9⟩ := hc
    obtain rfl := hw9.symm
    refine V_iload_n1 X dX6_steps_21 ?_
    refine V_iload_4 X dX6_steps_22 ?_
    refine V_cS2I X dX6_steps_24 kX6_42 (t_sizeIn l G ad _ hkP a f ha (by omega)) (Nat.le_of_ble_eq_true rfl) ⟨⟨Nat.le_of_ble_eq_true rfl, Nat.le_of_ble_eq_true rfl⟩, Nat.le_of_ble_eq_true rfl, Nat.le_of_ble_eq_true rfl⟩ (fun r ws2 hc => ?_)
    obtain ⟨rfl, hw9⟩ := hc
    obtain rfl := hw9.symm
    refine V_iload_n2 X dX6_steps_27 ?_
    refine V_iload_4 X dX6_steps_28 ?_
    refine V_cS2I X dX6_steps_30 kX6_42 (t_sizeIn l G ad _ hkP b f hb (by omega)) (Nat.le_of_ble_eq_true rfl) ⟨⟨Nat.le_of_ble_eq_true rfl, Nat.le_of_ble_eq_true rfl⟩, Nat.le_of_ble_eq_true rfl, Nat.le_of_ble_eq_true rfl⟩ (fun r ws2 hc => ?_)
    obtain ⟨rfl, hw9⟩ := hc
    obtain rfl := hw9.symm
    refine VU_steps X dX6_steps_33 kX6_48_4 kX6_48_5 kX6_48_8 kX6_48_0 kX6_48_3 hk5 hq2 (dg_lt _ _) (dg_lt _ _) (Nat.le_of_ble_eq_true rfl) ⟨Nat.le_of_ble_eq_true rfl, Nat.le_of_ble_eq_true rfl, Nat.le_of_ble_eq_true rfl, Nat.le_of_ble_eq_true rfl⟩ ?_
    refine V_iadd X dX6_steps_36 ?_
    refine V_istore_n3 X dX6_steps_37 (Nat.le_of_ble_eq_true rfl) rfl ?_
    refine V_iinc_4 X dX6_steps_38 (Nat.le_of_ble_eq_true rfl) rfl (inc1 _) ?_
    refine V_goto X 5 dX6_steps_41 (by decide) ?_
    exact ih (k - 1) _ _ (by omega) ⟨f + 1, by omega, rfl, by rw [nI_add]; rfl⟩
theorem agedP_lt0 (K : Nat → Nat) (p0 : Nat) : ∀ f, sumF (fun f => agedK (K f) (dg p0 f) * 10 ^ f) f < 10 ^ f
  | 0 => by simp [sumF]
  | f + 1 => by
    have h1 := agedP_lt0 K p0 f
    have h2 : agedK (K f) (dg p0 f) ≤ 9 := Nat.le_of_lt_succ (agedK_lt (dg_lt _ _))
    have h3 : agedK (K f) (dg p0 f) * 10 ^ f ≤ 9 * 10 ^ f := Nat.mul_le_mul_right _ h2
    rw [sumF, Nat.pow_succ]
    omega
theorem dg_agedP (K : Nat → Nat) (p0 f : Nat) : dg (agedP f K p0) f = dg p0 f := by
  show (sumF (fun f => agedK (K f) (dg p0 f) * 10 ^ f) f + p0 / 10 ^ f * 10 ^ f) / 10 ^ f % 10 = p0 / 10 ^ f % 10
  rw [Nat.mul_comm (p0 / 10 ^ f), Nat.add_mul_div_left _ _ (Nat.pow_pos (by decide)), Nat.div_eq_of_lt (agedP_lt0 K p0 f), Nat.zero_add]
theorem agedP_step (K : Nat → Nat) (p0 f : Nat) : withP (agedP f K p0) f (agedK (K f) (dg p0 f)) = agedP (f + 1) K p0 := by
  have h := withP_add (agedP f K p0) f (agedK (K f) (dg p0 f))
  rw [dg_agedP] at h
  have h2 := dg_split p0 f
  have h3 := Nat.div_add_mod p0 (10 ^ f)
  rw [Nat.mul_comm] at h3
  unfold agedP at h ⊢
  rw [sumF]
  omega
theorem agedP_lt {n : Nat} {K : Nat → Nat} {p0 : Nat} (h : p0 < 10 ^ n) : agedP n K p0 < 10 ^ n := by
  unfold agedP
  rw [Nat.div_eq_of_lt h]
  have := agedP_lt0 K p0 n
  omega
theorem agedP_le (n f : Nat) (K : Nat → Nat) (p0 : Nat) (hp : p0 < 10 ^ n) (hf : f ≤ n) : agedP f K p0 < 10 ^ n := by
  have h1 := agedP_lt0 K p0 f
  have h2 : p0 / 10 ^ f < 10 ^ (n - f) := by
    apply Nat.div_lt_of_lt_mul
    rw [← Nat.pow_add, Nat.add_sub_cancel' hf]; exact hp
  have h3 : p0 / 10 ^ f * 10 ^ f ≤ (10 ^ (n - f) - 1) * 10 ^ f := Nat.mul_le_mul_right _ (by omega)
  have h4 : (10 ^ (n - f) - 1) * 10 ^ f + 10 ^ f = 10 ^ n := by
    rw [Nat.sub_mul, Nat.one_mul, ← Nat.pow_add, Nat.sub_add_cancel hf]
    have : 10 ^ f ≤ 10 ^ n := Nat.pow_le_pow_right (by decide) hf
    omega
  unfold agedP
  omega
theorem t_Laged (l : Launch) (G : GX) (ad : Nat → Nat) (ws : List CE) (n : Nat) (K : Nat → Nat) (hL : LooksAt ws n K) (hkP : ad kP = G.2.2.2) (a : Nat) (ha : a < 10 ^ n) : Ct l G yX6_aged cX6_aged 4 (some .int) 4 0 0 ad ws [.ref 1, .int (nI a)] (pI ad (fun r ws2 => r = nI (agedP n K a) ∧ ws2 = ws)) := by
  refine Ct.of [some (.ref 1), some (.int (nI a)), none, none] (by decide +kernel) (Nat.le_of_ble_eq_true rfl) rfl ?_
  intro p e s m args below meth c A X
  have hL0 := hL
  obtain ⟨hn, h1, xs, h2, hx4, hF⟩ := hL
  have h104 := pow_le4 hn
  refine V_iload_n1 X dX6_aged_0 ?_
  refine V_istore_n2 X dX6_aged_1 (Nat.le_of_ble_eq_true rfl) rfl ?_
  refine V_iconstE X (nI 0) dX6_aged_2 (by decide +kernel) ?_
  refine V_istore_n3 X dX6_aged_3 (Nat.le_of_ble_eq_true rfl) rfl ?_
  refine V_loop (fun k ws2 lv2 => ∃ f, f + k = n ∧ ws2 = ws ∧ lv2 = [some (.ref 1), some (.int (nI a)), some (.int (nI (agedP f K a))), some (.int (nI f))]) n ⟨0, by omega, rfl, by simp [agedP, sumF]⟩ ?_
  rintro k _ _ ⟨f, hf, rfl, rfl⟩ ih
  refine V_iload_n3 X dX6_aged_4 ?_
  refine V_aload_n0 X dX6_aged_5 ?_
  refine V_getf X dX6_aged_6 fX6_17 (by assumption) (by rfl) ?_
  refine V_icmp_ge X 38 dX6_aged_9 (by decide) (fun h => ?_) (fun h => ?_)
  · have e9 : f = n := by have := (nI_leI (by omega) (by omega)).mp h; omega
    subst e9
    refine V_iload_n2 X dX6_aged_38 ?_
    exact V_iret X dX6_aged_39 ⟨rfl, rfl⟩
  · have e9 : f < n := by rcases Nat.lt_or_ge f n with q | q; exact q; exact absurd ((nI_leI (by omega) (by omega)).mpr q) h
    refine V_aload_n0 X dX6_aged_12 ?_
    refine V_iload_n2 X dX6_aged_13 ?_
    refine V_iload_n3 X dX6_aged_14 ?_
    refine V_aload_n0 X dX6_aged_15 ?_
    refine V_iload_n3 X dX6_aged_16 ?_
    refine V_cV1R X dX6_aged_17 kX6_38 (t_Lat l G ad _ n K hL0 f (by omega)) (by assumption) (by rfl) (Nat.le_of_ble_eq_true rfl) ⟨⟨Nat.le_of_ble_eq_true rfl, Nat.le_of_ble_eq_true rfl⟩, Nat.le_of_ble_eq_true rfl, Nat.le_of_ble_eq_true rfl⟩ (fun r ws2 hc => ?_)
    obtain ⟨⟨hk5, hq2⟩, hw9⟩ := hc
    obtain rfl := hw9.symm
    refine V_iload_n1 X dX6_aged_20 ?_
    refine V_iload_n3 X dX6_aged_21 ?_
    refine V_cS2I X dX6_aged_22 kX6_42 (t_sizeIn l G ad _ hkP a f (by omega) (by omega)) (Nat.le_of_ble_eq_true rfl) ⟨⟨Nat.le_of_ble_eq_true rfl, Nat.le_of_ble_eq_true rfl⟩, Nat.le_of_ble_eq_true rfl, Nat.le_of_ble_eq_true rfl⟩ (fun r ws2 hc => ?_)
    obtain ⟨rfl, hw9⟩ := hc
    obtain rfl := hw9.symm
    refine VU_aged X dX6_aged_25 kX6_51_4 kX6_51_5 kX6_51_8 kX6_51_0 kX6_51_3 hk5 hq2 (dg_lt _ _) (Nat.le_of_ble_eq_true rfl) ⟨Nat.le_of_ble_eq_true rfl, Nat.le_of_ble_eq_true rfl, Nat.le_of_ble_eq_true rfl, Nat.le_of_ble_eq_true rfl⟩ ?_
    have h8 := agedP_le n f K a ha (by omega)
    refine V_cV3I X dX6_aged_28 kX6_55 (t_with l G ad _ hkP (agedP f K a) f _ (by omega) (by omega)) (by assumption) (by rfl) (Nat.le_of_ble_eq_true rfl) ⟨⟨Nat.le_of_ble_eq_true rfl, Nat.le_of_ble_eq_true rfl⟩, Nat.le_of_ble_eq_true rfl, Nat.le_of_ble_eq_true rfl⟩ (fun r ws2 hc => ?_)
    obtain ⟨rfl, hw9⟩ := hc
    obtain rfl := hw9.symm
    rw [agedP_step]
    refine V_istore_n2 X dX6_aged_31 (Nat.le_of_ble_eq_true rfl) rfl ?_
    refine V_iinc_3 X dX6_aged_32 (Nat.le_of_ble_eq_true rfl) rfl (inc1 _) ?_
    refine V_goto X 4 dX6_aged_35 (by decide) ?_
    exact ih (k - 1) _ _ (by omega) ⟨f + 1, by omega, rfl, rfl⟩
end
