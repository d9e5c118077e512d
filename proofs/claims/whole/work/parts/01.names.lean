-- ===== PART A: goes FIRST, ahead of the names: the tables' words, and 'selects' of the private methods out of them =====
/-- a private method of a class that the tables say can be made, by its rows of tables_1 -/
def lw_okq (q : MethodName × Nat) : Prop := (q.1.cls ≠ "java/lang/invoke/MethodHandle" ∧ q.1.cls ≠ "java/lang/invoke/VarHandle") ∧ Cond.instantiable q.1.cls q.2 ∈ tables_1 ∧ Cond.privateMethod q.1 ∈ tables_1 ∧ Cond.instanceMethod q.1 ∈ tables_1
theorem lw_p0 : lw_okq (⟨"SnoresGold$Camp", "forgetMan", "(I)V"⟩, 10) := ⟨⟨by decide +kernel, by decide +kernel⟩, List.mem_of_getElem? (i := 28) (by decide +kernel), List.mem_of_getElem? (i := 215) (by decide +kernel), List.mem_of_getElem? (i := 216) (by decide +kernel)⟩
theorem lw_p1 : lw_okq (⟨"SnoresGold$Camp", "cellsClaimedBy", "(I)J"⟩, 10) := ⟨⟨by decide +kernel, by decide +kernel⟩, List.mem_of_getElem? (i := 28) (by decide +kernel), List.mem_of_getElem? (i := 279) (by decide +kernel), List.mem_of_getElem? (i := 280) (by decide +kernel)⟩
theorem lw_p2 : lw_okq (⟨"SnoresGold", "playWeeks", "()I"⟩, 10) := ⟨⟨by decide +kernel, by decide +kernel⟩, List.mem_of_getElem? (i := 14) (by decide +kernel), List.mem_of_getElem? (i := 335) (by decide +kernel), List.mem_of_getElem? (i := 336) (by decide +kernel)⟩
theorem lw_p3 : lw_okq (⟨"SnoresGold$Week", "act", "(LSnoresGold$Camp;II)V"⟩, 5) := ⟨⟨by decide +kernel, by decide +kernel⟩, List.mem_of_getElem? (i := 129) (by decide +kernel), List.mem_of_getElem? (i := 353) (by decide +kernel), List.mem_of_getElem? (i := 354) (by decide +kernel)⟩
theorem lw_p4 : lw_okq (⟨"SnoresGold$Camp", "passNight", "()V"⟩, 10) := ⟨⟨by decide +kernel, by decide +kernel⟩, List.mem_of_getElem? (i := 28) (by decide +kernel), List.mem_of_getElem? (i := 389) (by decide +kernel), List.mem_of_getElem? (i := 390) (by decide +kernel)⟩
theorem lw_p5 : lw_okq (⟨"SnoresGold", "refusalOfSteps", "(III)I"⟩, 10) := ⟨⟨by decide +kernel, by decide +kernel⟩, List.mem_of_getElem? (i := 14) (by decide +kernel), List.mem_of_getElem? (i := 507) (by decide +kernel), List.mem_of_getElem? (i := 508) (by decide +kernel)⟩
theorem lw_p6 : lw_okq (⟨"SnoresGold", "quietest", "(IIIZ)I"⟩, 10) := ⟨⟨by decide +kernel, by decide +kernel⟩, List.mem_of_getElem? (i := 14) (by decide +kernel), List.mem_of_getElem? (i := 511) (by decide +kernel), List.mem_of_getElem? (i := 512) (by decide +kernel)⟩
theorem lw_p7 : lw_okq (⟨"SnoresGold$Tales", "holdTogether", "(I)Z"⟩, 4) := ⟨⟨by decide +kernel, by decide +kernel⟩, List.mem_of_getElem? (i := 67) (by decide +kernel), List.mem_of_getElem? (i := 554) (by decide +kernel), List.mem_of_getElem? (i := 555) (by decide +kernel)⟩
theorem lw_p8 : lw_okq (⟨"SnoresGold$Tales", "isGoldBy", "(II)Z"⟩, 4) := ⟨⟨by decide +kernel, by decide +kernel⟩, List.mem_of_getElem? (i := 67) (by decide +kernel), List.mem_of_getElem? (i := 558) (by decide +kernel), List.mem_of_getElem? (i := 559) (by decide +kernel)⟩
theorem lw_p9 : lw_okq (⟨"SnoresGold", "readDigits", "(I)V"⟩, 10) := ⟨⟨by decide +kernel, by decide +kernel⟩, List.mem_of_getElem? (i := 14) (by decide +kernel), List.mem_of_getElem? (i := 569) (by decide +kernel), List.mem_of_getElem? (i := 570) (by decide +kernel)⟩
theorem lw_p10 : lw_okq (⟨"SnoresGold", "digitsAreTwos", "()Z"⟩, 10) := ⟨⟨by decide +kernel, by decide +kernel⟩, List.mem_of_getElem? (i := 14) (by decide +kernel), List.mem_of_getElem? (i := 573) (by decide +kernel), List.mem_of_getElem? (i := 574) (by decide +kernel)⟩
theorem lw_p11 : lw_okq (⟨"SnoresGold", "digitAt", "(I)I"⟩, 10) := ⟨⟨by decide +kernel, by decide +kernel⟩, List.mem_of_getElem? (i := 14) (by decide +kernel), List.mem_of_getElem? (i := 577) (by decide +kernel), List.mem_of_getElem? (i := 578) (by decide +kernel)⟩
theorem lw_p12 : lw_okq (⟨"SnoresGold", "wouldRatherShare", "(II)Z"⟩, 10) := ⟨⟨by decide +kernel, by decide +kernel⟩, List.mem_of_getElem? (i := 14) (by decide +kernel), List.mem_of_getElem? (i := 581) (by decide +kernel), List.mem_of_getElem? (i := 582) (by decide +kernel)⟩
theorem lw_p13 : lw_okq (⟨"SnoresGold", "findLeads", "(I)V"⟩, 10) := ⟨⟨by decide +kernel, by decide +kernel⟩, List.mem_of_getElem? (i := 14) (by decide +kernel), List.mem_of_getElem? (i := 652) (by decide +kernel), List.mem_of_getElem? (i := 653) (by decide +kernel)⟩
theorem lw_p14 : lw_okq (⟨"SnoresGold", "leadAt", "(I)I"⟩, 10) := ⟨⟨by decide +kernel, by decide +kernel⟩, List.mem_of_getElem? (i := 14) (by decide +kernel), List.mem_of_getElem? (i := 656) (by decide +kernel), List.mem_of_getElem? (i := 657) (by decide +kernel)⟩
theorem lw_p15 : lw_okq (⟨"SnoresGold", "hearWithAndWithoutCold", "(I)V"⟩, 10) := ⟨⟨by decide +kernel, by decide +kernel⟩, List.mem_of_getElem? (i := 14) (by decide +kernel), List.mem_of_getElem? (i := 664) (by decide +kernel), List.mem_of_getElem? (i := 665) (by decide +kernel)⟩
def lw_privs_1 : List (MethodName × Nat) := [(⟨"SnoresGold$Camp", "forgetMan", "(I)V"⟩, 10), (⟨"SnoresGold$Camp", "cellsClaimedBy", "(I)J"⟩, 10), (⟨"SnoresGold", "playWeeks", "()I"⟩, 10), (⟨"SnoresGold$Week", "act", "(LSnoresGold$Camp;II)V"⟩, 5), (⟨"SnoresGold$Camp", "passNight", "()V"⟩, 10), (⟨"SnoresGold", "refusalOfSteps", "(III)I"⟩, 10), (⟨"SnoresGold", "quietest", "(IIIZ)I"⟩, 10), (⟨"SnoresGold$Tales", "holdTogether", "(I)Z"⟩, 4), (⟨"SnoresGold$Tales", "isGoldBy", "(II)Z"⟩, 4), (⟨"SnoresGold", "readDigits", "(I)V"⟩, 10), (⟨"SnoresGold", "digitsAreTwos", "()Z"⟩, 10), (⟨"SnoresGold", "digitAt", "(I)I"⟩, 10), (⟨"SnoresGold", "wouldRatherShare", "(II)Z"⟩, 10), (⟨"SnoresGold", "findLeads", "(I)V"⟩, 10), (⟨"SnoresGold", "leadAt", "(I)I"⟩, 10), (⟨"SnoresGold", "hearWithAndWithoutCold", "(I)V"⟩, 10)]
theorem lw_r1 : ∀ q ∈ lw_privs_1, lw_okq q := List.forall_mem_cons.mpr ⟨lw_p0, List.forall_mem_cons.mpr ⟨lw_p1, List.forall_mem_cons.mpr ⟨lw_p2, List.forall_mem_cons.mpr ⟨lw_p3, List.forall_mem_cons.mpr ⟨lw_p4, List.forall_mem_cons.mpr ⟨lw_p5, List.forall_mem_cons.mpr ⟨lw_p6, List.forall_mem_cons.mpr ⟨lw_p7, List.forall_mem_cons.mpr ⟨lw_p8, List.forall_mem_cons.mpr ⟨lw_p9, List.forall_mem_cons.mpr ⟨lw_p10, List.forall_mem_cons.mpr ⟨lw_p11, List.forall_mem_cons.mpr ⟨lw_p12, List.forall_mem_cons.mpr ⟨lw_p13, List.forall_mem_cons.mpr ⟨lw_p14, List.forall_mem_cons.mpr ⟨lw_p15, fun _ h => absurd h List.not_mem_nil⟩⟩⟩⟩⟩⟩⟩⟩⟩⟩⟩⟩⟩⟩⟩⟩
theorem lw_p16 : lw_okq (⟨"SnoresGold", "heardIfSick", "(II)I"⟩, 10) := ⟨⟨by decide +kernel, by decide +kernel⟩, List.mem_of_getElem? (i := 14) (by decide +kernel), List.mem_of_getElem? (i := 673) (by decide +kernel), List.mem_of_getElem? (i := 674) (by decide +kernel)⟩
theorem lw_p17 : lw_okq (⟨"SnoresGold", "imageOf", "(I)LSnoresGold$Memory;"⟩, 10) := ⟨⟨by decide +kernel, by decide +kernel⟩, List.mem_of_getElem? (i := 14) (by decide +kernel), List.mem_of_getElem? (i := 699) (by decide +kernel), List.mem_of_getElem? (i := 700) (by decide +kernel)⟩
theorem lw_p18 : lw_okq (⟨"SnoresGold", "toldOfMan", "(II)I"⟩, 10) := ⟨⟨by decide +kernel, by decide +kernel⟩, List.mem_of_getElem? (i := 14) (by decide +kernel), List.mem_of_getElem? (i := 733) (by decide +kernel), List.mem_of_getElem? (i := 734) (by decide +kernel)⟩
theorem lw_p19 : lw_okq (⟨"SnoresGold", "toldOfCell", "(I)I"⟩, 10) := ⟨⟨by decide +kernel, by decide +kernel⟩, List.mem_of_getElem? (i := 14) (by decide +kernel), List.mem_of_getElem? (i := 739) (by decide +kernel), List.mem_of_getElem? (i := 740) (by decide +kernel)⟩
theorem lw_p20 : lw_okq (⟨"SnoresGold", "toldOfKnown", "(II)I"⟩, 10) := ⟨⟨by decide +kernel, by decide +kernel⟩, List.mem_of_getElem? (i := 14) (by decide +kernel), List.mem_of_getElem? (i := 743) (by decide +kernel), List.mem_of_getElem? (i := 744) (by decide +kernel)⟩
theorem lw_p21 : lw_okq (⟨"SnoresGoldModel", "isMan", "(I)Z"⟩, 37) := ⟨⟨by decide +kernel, by decide +kernel⟩, List.mem_of_getElem? (i := 748) (by decide +kernel), List.mem_of_getElem? (i := 891) (by decide +kernel), List.mem_of_getElem? (i := 892) (by decide +kernel)⟩
theorem lw_p22 : lw_okq (⟨"SnoresGoldModel", "knownBy", "(I)I"⟩, 37) := ⟨⟨by decide +kernel, by decide +kernel⟩, List.mem_of_getElem? (i := 748) (by decide +kernel), List.mem_of_getElem? (i := 900) (by decide +kernel), List.mem_of_getElem? (i := 901) (by decide +kernel)⟩
theorem lw_p23 : lw_okq (⟨"SnoresGoldModel", "isKnown", "(II)Z"⟩, 37) := ⟨⟨by decide +kernel, by decide +kernel⟩, List.mem_of_getElem? (i := 748) (by decide +kernel), List.mem_of_getElem? (i := 904) (by decide +kernel), List.mem_of_getElem? (i := 905) (by decide +kernel)⟩
theorem lw_p24 : lw_okq (⟨"SnoresGoldModel", "claimedCells", "()I"⟩, 37) := ⟨⟨by decide +kernel, by decide +kernel⟩, List.mem_of_getElem? (i := 748) (by decide +kernel), List.mem_of_getElem? (i := 912) (by decide +kernel), List.mem_of_getElem? (i := 913) (by decide +kernel)⟩
theorem lw_p25 : lw_okq (⟨"SnoresGoldModel", "claimedBy", "(I)I"⟩, 37) := ⟨⟨by decide +kernel, by decide +kernel⟩, List.mem_of_getElem? (i := 748) (by decide +kernel), List.mem_of_getElem? (i := 916) (by decide +kernel), List.mem_of_getElem? (i := 917) (by decide +kernel)⟩
theorem lw_p26 : lw_okq (⟨"SnoresGoldModel", "readOn", "(II)I"⟩, 37) := ⟨⟨by decide +kernel, by decide +kernel⟩, List.mem_of_getElem? (i := 748) (by decide +kernel), List.mem_of_getElem? (i := 934) (by decide +kernel), List.mem_of_getElem? (i := 935) (by decide +kernel)⟩
theorem lw_p27 : lw_okq (⟨"SnoresGoldModel", "deed", "(I)I"⟩, 37) := ⟨⟨by decide +kernel, by decide +kernel⟩, List.mem_of_getElem? (i := 748) (by decide +kernel), List.mem_of_getElem? (i := 938) (by decide +kernel), List.mem_of_getElem? (i := 939) (by decide +kernel)⟩
theorem lw_p28 : lw_okq (⟨"SnoresGoldModel", "close", "(II)I"⟩, 37) := ⟨⟨by decide +kernel, by decide +kernel⟩, List.mem_of_getElem? (i := 748) (by decide +kernel), List.mem_of_getElem? (i := 942) (by decide +kernel), List.mem_of_getElem? (i := 943) (by decide +kernel)⟩
theorem lw_p29 : lw_okq (⟨"SnoresGoldModel", "refusal", "()I"⟩, 37) := ⟨⟨by decide +kernel, by decide +kernel⟩, List.mem_of_getElem? (i := 748) (by decide +kernel), List.mem_of_getElem? (i := 953) (by decide +kernel), List.mem_of_getElem? (i := 954) (by decide +kernel)⟩
theorem lw_p30 : lw_okq (⟨"SnoresGoldModel", "keepNow", "()V"⟩, 37) := ⟨⟨by decide +kernel, by decide +kernel⟩, List.mem_of_getElem? (i := 748) (by decide +kernel), List.mem_of_getElem? (i := 957) (by decide +kernel), List.mem_of_getElem? (i := 958) (by decide +kernel)⟩
theorem lw_p31 : lw_okq (⟨"SnoresGoldModel", "goWeeks", "()V"⟩, 37) := ⟨⟨by decide +kernel, by decide +kernel⟩, List.mem_of_getElem? (i := 748) (by decide +kernel), List.mem_of_getElem? (i := 962) (by decide +kernel), List.mem_of_getElem? (i := 963) (by decide +kernel)⟩
def lw_privs_2 : List (MethodName × Nat) := [(⟨"SnoresGold", "heardIfSick", "(II)I"⟩, 10), (⟨"SnoresGold", "imageOf", "(I)LSnoresGold$Memory;"⟩, 10), (⟨"SnoresGold", "toldOfMan", "(II)I"⟩, 10), (⟨"SnoresGold", "toldOfCell", "(I)I"⟩, 10), (⟨"SnoresGold", "toldOfKnown", "(II)I"⟩, 10), (⟨"SnoresGoldModel", "isMan", "(I)Z"⟩, 37), (⟨"SnoresGoldModel", "knownBy", "(I)I"⟩, 37), (⟨"SnoresGoldModel", "isKnown", "(II)Z"⟩, 37), (⟨"SnoresGoldModel", "claimedCells", "()I"⟩, 37), (⟨"SnoresGoldModel", "claimedBy", "(I)I"⟩, 37), (⟨"SnoresGoldModel", "readOn", "(II)I"⟩, 37), (⟨"SnoresGoldModel", "deed", "(I)I"⟩, 37), (⟨"SnoresGoldModel", "close", "(II)I"⟩, 37), (⟨"SnoresGoldModel", "refusal", "()I"⟩, 37), (⟨"SnoresGoldModel", "keepNow", "()V"⟩, 37), (⟨"SnoresGoldModel", "goWeeks", "()V"⟩, 37)]
theorem lw_r2 : ∀ q ∈ lw_privs_2, lw_okq q := List.forall_mem_cons.mpr ⟨lw_p16, List.forall_mem_cons.mpr ⟨lw_p17, List.forall_mem_cons.mpr ⟨lw_p18, List.forall_mem_cons.mpr ⟨lw_p19, List.forall_mem_cons.mpr ⟨lw_p20, List.forall_mem_cons.mpr ⟨lw_p21, List.forall_mem_cons.mpr ⟨lw_p22, List.forall_mem_cons.mpr ⟨lw_p23, List.forall_mem_cons.mpr ⟨lw_p24, List.forall_mem_cons.mpr ⟨lw_p25, List.forall_mem_cons.mpr ⟨lw_p26, List.forall_mem_cons.mpr ⟨lw_p27, List.forall_mem_cons.mpr ⟨lw_p28, List.forall_mem_cons.mpr ⟨lw_p29, List.forall_mem_cons.mpr ⟨lw_p30, List.forall_mem_cons.mpr ⟨lw_p31, fun _ h => absurd h List.not_mem_nil⟩⟩⟩⟩⟩⟩⟩⟩⟩⟩⟩⟩⟩⟩⟩⟩
theorem lw_p32 : lw_okq (⟨"SnoresGoldModel", "whyNot", "(III)I"⟩, 37) := ⟨⟨by decide +kernel, by decide +kernel⟩, List.mem_of_getElem? (i := 748) (by decide +kernel), List.mem_of_getElem? (i := 966) (by decide +kernel), List.mem_of_getElem? (i := 967) (by decide +kernel)⟩
theorem lw_p33 : lw_okq (⟨"SnoresGoldModel", "canGo", "(II)Z"⟩, 37) := ⟨⟨by decide +kernel, by decide +kernel⟩, List.mem_of_getElem? (i := 748) (by decide +kernel), List.mem_of_getElem? (i := 970) (by decide +kernel), List.mem_of_getElem? (i := 971) (by decide +kernel)⟩
theorem lw_p34 : lw_okq (⟨"SnoresGoldModel", "happen", "(III)V"⟩, 37) := ⟨⟨by decide +kernel, by decide +kernel⟩, List.mem_of_getElem? (i := 748) (by decide +kernel), List.mem_of_getElem? (i := 981) (by decide +kernel), List.mem_of_getElem? (i := 982) (by decide +kernel)⟩
theorem lw_p35 : lw_okq (⟨"SnoresGoldModel", "claimHere", "(I)V"⟩, 37) := ⟨⟨by decide +kernel, by decide +kernel⟩, List.mem_of_getElem? (i := 748) (by decide +kernel), List.mem_of_getElem? (i := 985) (by decide +kernel), List.mem_of_getElem? (i := 986) (by decide +kernel)⟩
theorem lw_p36 : lw_okq (⟨"SnoresGoldModel", "passNight", "()V"⟩, 37) := ⟨⟨by decide +kernel, by decide +kernel⟩, List.mem_of_getElem? (i := 748) (by decide +kernel), List.mem_of_getElem? (i := 989) (by decide +kernel), List.mem_of_getElem? (i := 990) (by decide +kernel)⟩
theorem lw_p37 : lw_okq (⟨"SnoresGoldModel", "back", "(I)I"⟩, 37) := ⟨⟨by decide +kernel, by decide +kernel⟩, List.mem_of_getElem? (i := 748) (by decide +kernel), List.mem_of_getElem? (i := 993) (by decide +kernel), List.mem_of_getElem? (i := 994) (by decide +kernel)⟩
theorem lw_p38 : lw_okq (⟨"SnoresGoldModel", "ofMan", "(II)I"⟩, 37) := ⟨⟨by decide +kernel, by decide +kernel⟩, List.mem_of_getElem? (i := 748) (by decide +kernel), List.mem_of_getElem? (i := 1002) (by decide +kernel), List.mem_of_getElem? (i := 1003) (by decide +kernel)⟩
theorem lw_p39 : lw_okq (⟨"SnoresGoldModel", "snore", "(I)I"⟩, 37) := ⟨⟨by decide +kernel, by decide +kernel⟩, List.mem_of_getElem? (i := 748) (by decide +kernel), List.mem_of_getElem? (i := 1006) (by decide +kernel), List.mem_of_getElem? (i := 1007) (by decide +kernel)⟩
theorem lw_p40 : lw_okq (⟨"SnoresGoldModel", "snoreBy", "(II)I"⟩, 37) := ⟨⟨by decide +kernel, by decide +kernel⟩, List.mem_of_getElem? (i := 748) (by decide +kernel), List.mem_of_getElem? (i := 1010) (by decide +kernel), List.mem_of_getElem? (i := 1011) (by decide +kernel)⟩
theorem lw_p41 : lw_okq (⟨"SnoresGoldModel", "heardAt", "(II)I"⟩, 37) := ⟨⟨by decide +kernel, by decide +kernel⟩, List.mem_of_getElem? (i := 748) (by decide +kernel), List.mem_of_getElem? (i := 1018) (by decide +kernel), List.mem_of_getElem? (i := 1019) (by decide +kernel)⟩
theorem lw_p42 : lw_okq (⟨"SnoresGoldModel", "quietest", "(IIIZ)I"⟩, 37) := ⟨⟨by decide +kernel, by decide +kernel⟩, List.mem_of_getElem? (i := 748) (by decide +kernel), List.mem_of_getElem? (i := 1049) (by decide +kernel), List.mem_of_getElem? (i := 1050) (by decide +kernel)⟩
theorem lw_p43 : lw_okq (⟨"SnoresGoldModel", "quietAt", "(IIZ)I"⟩, 37) := ⟨⟨by decide +kernel, by decide +kernel⟩, List.mem_of_getElem? (i := 748) (by decide +kernel), List.mem_of_getElem? (i := 1053) (by decide +kernel), List.mem_of_getElem? (i := 1054) (by decide +kernel)⟩
theorem lw_p44 : lw_okq (⟨"SnoresGoldModel", "givenAway", "(II)I"⟩, 37) := ⟨⟨by decide +kernel, by decide +kernel⟩, List.mem_of_getElem? (i := 748) (by decide +kernel), List.mem_of_getElem? (i := 1057) (by decide +kernel), List.mem_of_getElem? (i := 1058) (by decide +kernel)⟩
theorem lw_p45 : lw_okq (⟨"SnoresGoldModel", "canBe", "(I)Z"⟩, 37) := ⟨⟨by decide +kernel, by decide +kernel⟩, List.mem_of_getElem? (i := 748) (by decide +kernel), List.mem_of_getElem? (i := 1077) (by decide +kernel), List.mem_of_getElem? (i := 1078) (by decide +kernel)⟩
theorem lw_p46 : lw_okq (⟨"SnoresGoldModel", "meant", "(II)I"⟩, 37) := ⟨⟨by decide +kernel, by decide +kernel⟩, List.mem_of_getElem? (i := 748) (by decide +kernel), List.mem_of_getElem? (i := 1081) (by decide +kernel), List.mem_of_getElem? (i := 1082) (by decide +kernel)⟩
theorem lw_p47 : lw_okq (⟨"SnoresGoldModel", "areTwos", "(I)Z"⟩, 37) := ⟨⟨by decide +kernel, by decide +kernel⟩, List.mem_of_getElem? (i := 748) (by decide +kernel), List.mem_of_getElem? (i := 1089) (by decide +kernel), List.mem_of_getElem? (i := 1090) (by decide +kernel)⟩
def lw_privs_3 : List (MethodName × Nat) := [(⟨"SnoresGoldModel", "whyNot", "(III)I"⟩, 37), (⟨"SnoresGoldModel", "canGo", "(II)Z"⟩, 37), (⟨"SnoresGoldModel", "happen", "(III)V"⟩, 37), (⟨"SnoresGoldModel", "claimHere", "(I)V"⟩, 37), (⟨"SnoresGoldModel", "passNight", "()V"⟩, 37), (⟨"SnoresGoldModel", "back", "(I)I"⟩, 37), (⟨"SnoresGoldModel", "ofMan", "(II)I"⟩, 37), (⟨"SnoresGoldModel", "snore", "(I)I"⟩, 37), (⟨"SnoresGoldModel", "snoreBy", "(II)I"⟩, 37), (⟨"SnoresGoldModel", "heardAt", "(II)I"⟩, 37), (⟨"SnoresGoldModel", "quietest", "(IIIZ)I"⟩, 37), (⟨"SnoresGoldModel", "quietAt", "(IIZ)I"⟩, 37), (⟨"SnoresGoldModel", "givenAway", "(II)I"⟩, 37), (⟨"SnoresGoldModel", "canBe", "(I)Z"⟩, 37), (⟨"SnoresGoldModel", "meant", "(II)I"⟩, 37), (⟨"SnoresGoldModel", "areTwos", "(I)Z"⟩, 37)]
theorem lw_r3 : ∀ q ∈ lw_privs_3, lw_okq q := List.forall_mem_cons.mpr ⟨lw_p32, List.forall_mem_cons.mpr ⟨lw_p33, List.forall_mem_cons.mpr ⟨lw_p34, List.forall_mem_cons.mpr ⟨lw_p35, List.forall_mem_cons.mpr ⟨lw_p36, List.forall_mem_cons.mpr ⟨lw_p37, List.forall_mem_cons.mpr ⟨lw_p38, List.forall_mem_cons.mpr ⟨lw_p39, List.forall_mem_cons.mpr ⟨lw_p40, List.forall_mem_cons.mpr ⟨lw_p41, List.forall_mem_cons.mpr ⟨lw_p42, List.forall_mem_cons.mpr ⟨lw_p43, List.forall_mem_cons.mpr ⟨lw_p44, List.forall_mem_cons.mpr ⟨lw_p45, List.forall_mem_cons.mpr ⟨lw_p46, List.forall_mem_cons.mpr ⟨lw_p47, fun _ h => absurd h List.not_mem_nil⟩⟩⟩⟩⟩⟩⟩⟩⟩⟩⟩⟩⟩⟩⟩⟩
theorem lw_p48 : lw_okq (⟨"SnoresGoldModel", "wouldLeave", "(II)Z"⟩, 37) := ⟨⟨by decide +kernel, by decide +kernel⟩, List.mem_of_getElem? (i := 748) (by decide +kernel), List.mem_of_getElem? (i := 1094) (by decide +kernel), List.mem_of_getElem? (i := 1095) (by decide +kernel)⟩
theorem lw_p49 : lw_okq (⟨"SnoresGoldModel", "halves", "(II)I"⟩, 37) := ⟨⟨by decide +kernel, by decide +kernel⟩, List.mem_of_getElem? (i := 748) (by decide +kernel), List.mem_of_getElem? (i := 1098) (by decide +kernel), List.mem_of_getElem? (i := 1099) (by decide +kernel)⟩
theorem lw_p50 : lw_okq (⟨"SnoresGoldModel", "goldOf", "(J)I"⟩, 37) := ⟨⟨by decide +kernel, by decide +kernel⟩, List.mem_of_getElem? (i := 748) (by decide +kernel), List.mem_of_getElem? (i := 1102) (by decide +kernel), List.mem_of_getElem? (i := 1103) (by decide +kernel)⟩
theorem lw_p51 : lw_okq (⟨"SnoresGoldModel", "fits", "(I)Z"⟩, 37) := ⟨⟨by decide +kernel, by decide +kernel⟩, List.mem_of_getElem? (i := 748) (by decide +kernel), List.mem_of_getElem? (i := 1118) (by decide +kernel), List.mem_of_getElem? (i := 1119) (by decide +kernel)⟩
theorem lw_p52 : lw_okq (⟨"SnoresGoldModel", "linesOn", "(I)I"⟩, 37) := ⟨⟨by decide +kernel, by decide +kernel⟩, List.mem_of_getElem? (i := 748) (by decide +kernel), List.mem_of_getElem? (i := 1131) (by decide +kernel), List.mem_of_getElem? (i := 1132) (by decide +kernel)⟩
theorem lw_p53 : lw_okq (⟨"SnoresGoldModel", "leftEnd", "(II)I"⟩, 37) := ⟨⟨by decide +kernel, by decide +kernel⟩, List.mem_of_getElem? (i := 748) (by decide +kernel), List.mem_of_getElem? (i := 1146) (by decide +kernel), List.mem_of_getElem? (i := 1147) (by decide +kernel)⟩
theorem lw_p54 : lw_okq (⟨"SnoresGoldModel", "rightEnd", "(II)I"⟩, 37) := ⟨⟨by decide +kernel, by decide +kernel⟩, List.mem_of_getElem? (i := 748) (by decide +kernel), List.mem_of_getElem? (i := 1150) (by decide +kernel), List.mem_of_getElem? (i := 1151) (by decide +kernel)⟩
theorem lw_p55 : lw_okq (⟨"SnoresGoldModel", "heardBy", "(II)I"⟩, 37) := ⟨⟨by decide +kernel, by decide +kernel⟩, List.mem_of_getElem? (i := 748) (by decide +kernel), List.mem_of_getElem? (i := 1160) (by decide +kernel), List.mem_of_getElem? (i := 1161) (by decide +kernel)⟩
theorem lw_p56 : lw_okq (⟨"SnoresGoldModel", "passAll", "(I)V"⟩, 37) := ⟨⟨by decide +kernel, by decide +kernel⟩, List.mem_of_getElem? (i := 748) (by decide +kernel), List.mem_of_getElem? (i := 1177) (by decide +kernel), List.mem_of_getElem? (i := 1178) (by decide +kernel)⟩
theorem lw_p57 : lw_okq (⟨"SnoresGoldModel", "pass", "(I)I"⟩, 37) := ⟨⟨by decide +kernel, by decide +kernel⟩, List.mem_of_getElem? (i := 748) (by decide +kernel), List.mem_of_getElem? (i := 1181) (by decide +kernel), List.mem_of_getElem? (i := 1182) (by decide +kernel)⟩
theorem lw_p58 : lw_okq (⟨"SnoresGoldModel", "passRow", "([II)V"⟩, 37) := ⟨⟨by decide +kernel, by decide +kernel⟩, List.mem_of_getElem? (i := 748) (by decide +kernel), List.mem_of_getElem? (i := 1185) (by decide +kernel), List.mem_of_getElem? (i := 1186) (by decide +kernel)⟩
theorem lw_p59 : lw_okq (⟨"SnoresGoldModel", "toldOf", "(II)I"⟩, 37) := ⟨⟨by decide +kernel, by decide +kernel⟩, List.mem_of_getElem? (i := 748) (by decide +kernel), List.mem_of_getElem? (i := 1202) (by decide +kernel), List.mem_of_getElem? (i := 1203) (by decide +kernel)⟩
def lw_privs_4 : List (MethodName × Nat) := [(⟨"SnoresGoldModel", "wouldLeave", "(II)Z"⟩, 37), (⟨"SnoresGoldModel", "halves", "(II)I"⟩, 37), (⟨"SnoresGoldModel", "goldOf", "(J)I"⟩, 37), (⟨"SnoresGoldModel", "fits", "(I)Z"⟩, 37), (⟨"SnoresGoldModel", "linesOn", "(I)I"⟩, 37), (⟨"SnoresGoldModel", "leftEnd", "(II)I"⟩, 37), (⟨"SnoresGoldModel", "rightEnd", "(II)I"⟩, 37), (⟨"SnoresGoldModel", "heardBy", "(II)I"⟩, 37), (⟨"SnoresGoldModel", "passAll", "(I)V"⟩, 37), (⟨"SnoresGoldModel", "pass", "(I)I"⟩, 37), (⟨"SnoresGoldModel", "passRow", "([II)V"⟩, 37), (⟨"SnoresGoldModel", "toldOf", "(II)I"⟩, 37)]
theorem lw_r4 : ∀ q ∈ lw_privs_4, lw_okq q := List.forall_mem_cons.mpr ⟨lw_p48, List.forall_mem_cons.mpr ⟨lw_p49, List.forall_mem_cons.mpr ⟨lw_p50, List.forall_mem_cons.mpr ⟨lw_p51, List.forall_mem_cons.mpr ⟨lw_p52, List.forall_mem_cons.mpr ⟨lw_p53, List.forall_mem_cons.mpr ⟨lw_p54, List.forall_mem_cons.mpr ⟨lw_p55, List.forall_mem_cons.mpr ⟨lw_p56, List.forall_mem_cons.mpr ⟨lw_p57, List.forall_mem_cons.mpr ⟨lw_p58, List.forall_mem_cons.mpr ⟨lw_p59, fun _ h => absurd h List.not_mem_nil⟩⟩⟩⟩⟩⟩⟩⟩⟩⟩⟩⟩
def lw_privs : List (MethodName × Nat) := lw_privs_1 ++ (lw_privs_2 ++ (lw_privs_3 ++ (lw_privs_4)))
def lw_tbl : List Cond := k2_sels lw_privs ++ tables_1
theorem lw_privs_ok : ∀ q ∈ lw_privs, lw_okq q := by
  show ∀ q ∈ lw_privs_1 ++ (lw_privs_2 ++ (lw_privs_3 ++ (lw_privs_4))), lw_okq q
  exact List.forall_mem_append.mpr ⟨lw_r1, List.forall_mem_append.mpr ⟨lw_r2, List.forall_mem_append.mpr ⟨lw_r3, lw_r4⟩⟩⟩
-- ===== end of PART A; then your names; then what follows =====
def RX0 : String := "SnoresGold$Camp"
def TX0 : u_T := fun k => match k with
  | 0 => ("SnoresGold$Camp", "goldOn", "[I", true)
  | 1 => ("SnoresGold$Camp", "claimers", "[I", true)
  | 2 => ("SnoresGold$Camp", "tents", "[I", true)
  | 3 => ("SnoresGold$Camp", "salts", "[I", true)
  | 4 => ("SnoresGold$Camp", "known", "[J", true)
  | 5 => ("SnoresGold$Camp", "snores", "[I", true)
  | 6 => ("SnoresGold$Camp", "men", "I", false)
  | 7 => ("SnoresGold$Camp", "withCold", "I", false)
  | 8 => ("SnoresGold$Camp", "whistling", "I", false)
  | _ => ("SnoresGold$Camp", "womans", "I", false)
def tyX0 : Nat → FieldType := fun k => match k with
  | 0 => .array .int
  | 1 => .array .int
  | 2 => .array .int
  | 3 => .array .int
  | 4 => .array .long
  | 5 => .array .int
  | 6 => .int
  | 7 => .int
  | 8 => .int
  | _ => .int
theorem nmX0 : ∀ a, a < 10 → ∀ b, b < 10 → a ≠ b → (TX0 a).2.1 ≠ (TX0 b).2.1 := by decide +kernel
theorem tyX0_ok : ∀ k, k < 10 → parseFieldDescriptor (TX0 k).2.2.1 = some (tyX0 k) := by decide +kernel
abbrev cX0_init : ByteArray := prog_2_method_1_code
def yX0_init : MethodName := ⟨RX0, "<init>", "()V"⟩
abbrev cX0_copyFrom : ByteArray := prog_2_method_2_code
def yX0_copyFrom : MethodName := ⟨RX0, "copyFrom", "(LSnoresGold$Camp;)V"⟩
abbrev cX0_goldOf : ByteArray := prog_2_method_3_code
def yX0_goldOf : MethodName := ⟨RX0, "goldOf", "(I)I"⟩
abbrev cX0_putGold : ByteArray := prog_2_method_4_code
def yX0_putGold : MethodName := ⟨RX0, "putGold", "(II)V"⟩
abbrev cX0_goldIn : ByteArray := prog_2_method_5_code
def yX0_goldIn : MethodName := ⟨RX0, "goldIn", "(J)I"⟩
abbrev cX0_claimerOf : ByteArray := prog_2_method_6_code
def yX0_claimerOf : MethodName := ⟨RX0, "claimerOf", "(I)I"⟩
abbrev cX0_setClaimer : ByteArray := prog_2_method_7_code
def yX0_setClaimer : MethodName := ⟨RX0, "setClaimer", "(II)V"⟩
abbrev cX0_countClaimedBy : ByteArray := prog_2_method_8_code
def yX0_countClaimedBy : MethodName := ⟨RX0, "countClaimedBy", "(I)I"⟩
abbrev cX0_countClaimed : ByteArray := prog_2_method_9_code
def yX0_countClaimed : MethodName := ⟨RX0, "countClaimed", "()I"⟩
abbrev cX0_cellsClaimedBy : ByteArray := prog_2_method_10_code
def yX0_cellsClaimedBy : MethodName := ⟨RX0, "cellsClaimedBy", "(I)J"⟩
abbrev cX0_menBits : ByteArray := prog_2_method_11_code
def yX0_menBits : MethodName := ⟨RX0, "menBits", "()I"⟩
abbrev cX0_countMen : ByteArray := prog_2_method_12_code
def yX0_countMen : MethodName := ⟨RX0, "countMen", "()I"⟩
abbrev cX0_isThere : ByteArray := prog_2_method_13_code
def yX0_isThere : MethodName := ⟨RX0, "isThere", "(I)Z"⟩
abbrev cX0_welcome : ByteArray := prog_2_method_14_code
def yX0_welcome : MethodName := ⟨RX0, "welcome", "(II)V"⟩
abbrev cX0_farewell : ByteArray := prog_2_method_15_code
def yX0_farewell : MethodName := ⟨RX0, "farewell", "(I)V"⟩
abbrev cX0_forgetMan : ByteArray := prog_2_method_16_code
def yX0_forgetMan : MethodName := ⟨RX0, "forgetMan", "(I)V"⟩
abbrev cX0_tentOf : ByteArray := prog_2_method_17_code
def yX0_tentOf : MethodName := ⟨RX0, "tentOf", "(I)I"⟩
abbrev cX0_saltOf : ByteArray := prog_2_method_18_code
def yX0_saltOf : MethodName := ⟨RX0, "saltOf", "(I)I"⟩
abbrev cX0_allSalt : ByteArray := prog_2_method_19_code
def yX0_allSalt : MethodName := ⟨RX0, "allSalt", "()I"⟩
abbrev cX0_womansShare : ByteArray := prog_2_method_20_code
def yX0_womansShare : MethodName := ⟨RX0, "womansShare", "()I"⟩
abbrev cX0_knownTo : ByteArray := prog_2_method_21_code
def yX0_knownTo : MethodName := ⟨RX0, "knownTo", "(I)J"⟩
abbrev cX0_isKnownTo : ByteArray := prog_2_method_22_code
def yX0_isKnownTo : MethodName := ⟨RX0, "isKnownTo", "(II)Z"⟩
abbrev cX0_setKnown : ByteArray := prog_2_method_23_code
def yX0_setKnown : MethodName := ⟨RX0, "setKnown", "(IIZ)V"⟩
abbrev cX0_hasCold : ByteArray := prog_2_method_24_code
def yX0_hasCold : MethodName := ⟨RX0, "hasCold", "(I)Z"⟩
abbrev cX0_isWhistling : ByteArray := prog_2_method_25_code
def yX0_isWhistling : MethodName := ⟨RX0, "isWhistling", "(I)Z"⟩
abbrev cX0_snoreOf : ByteArray := prog_2_method_26_code
def yX0_snoreOf : MethodName := ⟨RX0, "snoreOf", "(I)I"⟩
abbrev cX0_snoreIf : ByteArray := prog_2_method_27_code
def yX0_snoreIf : MethodName := ⟨RX0, "snoreIf", "(IZ)I"⟩
abbrev cX0_listen : ByteArray := prog_2_method_28_code
def yX0_listen : MethodName := ⟨RX0, "listen", "()V"⟩
abbrev cX0_heardAt : ByteArray := prog_2_method_29_code
def yX0_heardAt : MethodName := ⟨RX0, "heardAt", "(I)I"⟩
abbrev cX0_heardWithout : ByteArray := prog_2_method_30_code
def yX0_heardWithout : MethodName := ⟨RX0, "heardWithout", "(II)I"⟩
abbrev cX0_heardByOthers : ByteArray := prog_2_method_31_code
def yX0_heardByOthers : MethodName := ⟨RX0, "heardByOthers", "(II)I"⟩
abbrev cX0_twiceShare : ByteArray := prog_2_method_32_code
def yX0_twiceShare : MethodName := ⟨RX0, "twiceShare", "(II)I"⟩
abbrev cX0_reasonAgainst : ByteArray := prog_2_method_33_code
def yX0_reasonAgainst : MethodName := ⟨RX0, "reasonAgainst", "(II)I"⟩
abbrev cX0_perform : ByteArray := prog_2_method_34_code
def yX0_perform : MethodName := ⟨RX0, "perform", "(II)V"⟩
abbrev cX0_stepFrom : ByteArray := prog_2_method_35_code
def yX0_stepFrom : MethodName := ⟨RX0, "stepFrom", "(II)I"⟩
abbrev cX0_passNight : ByteArray := prog_2_method_36_code
def yX0_passNight : MethodName := ⟨RX0, "passNight", "()V"⟩
def RX1 : String := "SnoresGold$Memory"
def TX1 : u_T := fun k => match k with
  | 0 => ("SnoresGold$Memory", "camp", "LSnoresGold$Camp;", true)
  | 1 => ("SnoresGold$Memory", "tales", "LSnoresGold$Tales;", true)
  | 2 => ("SnoresGold$Memory", "sights", "LSnoresGold$Sights;", true)
  | _ => ("SnoresGold$Memory", "kept", "Z", false)
def tyX1 : Nat → FieldType := fun k => match k with
  | 0 => .object "SnoresGold$Camp"
  | 1 => .object "SnoresGold$Tales"
  | 2 => .object "SnoresGold$Sights"
  | _ => .boolean
theorem nmX1 : ∀ a, a < 4 → ∀ b, b < 4 → a ≠ b → (TX1 a).2.1 ≠ (TX1 b).2.1 := by decide +kernel
theorem tyX1_ok : ∀ k, k < 4 → parseFieldDescriptor (TX1 k).2.2.1 = some (tyX1 k) := by decide +kernel
abbrev cX1_init : ByteArray := prog_3_method_1_code
def yX1_init : MethodName := ⟨RX1, "<init>", "()V"⟩
abbrev cX1_copyFrom : ByteArray := prog_3_method_2_code
def yX1_copyFrom : MethodName := ⟨RX1, "copyFrom", "(LSnoresGold$Memory;)V"⟩
abbrev cX1_markKept : ByteArray := prog_3_method_3_code
def yX1_markKept : MethodName := ⟨RX1, "markKept", "()V"⟩
abbrev cX1_isKept : ByteArray := prog_3_method_4_code
def yX1_isKept : MethodName := ⟨RX1, "isKept", "()Z"⟩
def RX2 : String := "SnoresGold$Pad"
def TX2 : u_T := fun k => match k with
  | 0 => ("SnoresGold$Pad", "signs", "[I", true)
  | _ => ("SnoresGold$Pad", "count", "I", false)
def tyX2 : Nat → FieldType := fun k => match k with
  | 0 => .array .int
  | _ => .int
theorem nmX2 : ∀ a, a < 2 → ∀ b, b < 2 → a ≠ b → (TX2 a).2.1 ≠ (TX2 b).2.1 := by decide +kernel
theorem tyX2_ok : ∀ k, k < 2 → parseFieldDescriptor (TX2 k).2.2.1 = some (tyX2 k) := by decide +kernel
abbrev cX2_init : ByteArray := prog_4_method_1_code
def yX2_init : MethodName := ⟨RX2, "<init>", "()V"⟩
abbrev cX2_size : ByteArray := prog_4_method_2_code
def yX2_size : MethodName := ⟨RX2, "size", "()I"⟩
abbrev cX2_clear : ByteArray := prog_4_method_3_code
def yX2_clear : MethodName := ⟨RX2, "clear", "()V"⟩
abbrev cX2_add : ByteArray := prog_4_method_4_code
def yX2_add : MethodName := ⟨RX2, "add", "(I)Z"⟩
abbrev cX2_signAt : ByteArray := prog_4_method_5_code
def yX2_signAt : MethodName := ⟨RX2, "signAt", "(I)I"⟩
abbrev cX2_firstFault : ByteArray := prog_4_method_6_code
def yX2_firstFault : MethodName := ⟨RX2, "firstFault", "()I"⟩
abbrev cX2_isNight : ByteArray := prog_4_method_7_code
def yX2_isNight : MethodName := ⟨RX2, "isNight", "(I)Z"⟩
abbrev cX2_manBy : ByteArray := prog_4_method_8_code
def yX2_manBy : MethodName := ⟨RX2, "manBy", "(I)I"⟩
abbrev cX2_deedBy : ByteArray := prog_4_method_9_code
def yX2_deedBy : MethodName := ⟨RX2, "deedBy", "(I)I"⟩
abbrev cX2_isDeedOfMan : ByteArray := prog_4_method_10_code
def yX2_isDeedOfMan : MethodName := ⟨RX2, "isDeedOfMan", "(I)Z"⟩
def RX3 : String := "SnoresGold$Sights"
def TX3 : u_T := fun k => match k with
  | 0 => ("SnoresGold$Sights", "fitting", "J", false)
  | _ => ("SnoresGold$Sights", "count", "I", false)
def tyX3 : Nat → FieldType := fun k => match k with
  | 0 => .long
  | _ => .int
theorem nmX3 : ∀ a, a < 2 → ∀ b, b < 2 → a ≠ b → (TX3 a).2.1 ≠ (TX3 b).2.1 := by decide +kernel
theorem tyX3_ok : ∀ k, k < 2 → parseFieldDescriptor (TX3 k).2.2.1 = some (tyX3 k) := by decide +kernel
abbrev cX3_init : ByteArray := prog_5_method_1_code
def yX3_init : MethodName := ⟨RX3, "<init>", "()V"⟩
abbrev cX3_copyFrom : ByteArray := prog_5_method_2_code
def yX3_copyFrom : MethodName := ⟨RX3, "copyFrom", "(LSnoresGold$Sights;)V"⟩
abbrev cX3_size : ByteArray := prog_5_method_3_code
def yX3_size : MethodName := ⟨RX3, "size", "()I"⟩
abbrev cX3_clear : ByteArray := prog_5_method_4_code
def yX3_clear : MethodName := ⟨RX3, "clear", "()V"⟩
abbrev cX3_add : ByteArray := prog_5_method_5_code
def yX3_add : MethodName := ⟨RX3, "add", "(IZ)Z"⟩
abbrev cX3_countFitting : ByteArray := prog_5_method_6_code
def yX3_countFitting : MethodName := ⟨RX3, "countFitting", "()I"⟩
abbrev cX3_countThrough : ByteArray := prog_5_method_7_code
def yX3_countThrough : MethodName := ⟨RX3, "countThrough", "(I)I"⟩
abbrev cX3_fittingAt : ByteArray := prog_5_method_8_code
def yX3_fittingAt : MethodName := ⟨RX3, "fittingAt", "(I)I"⟩
abbrev cX3_lodesThrough : ByteArray := prog_5_method_9_code
def yX3_lodesThrough : MethodName := ⟨RX3, "lodesThrough", "(I)J"⟩
def RX4 : String := "SnoresGold$Tales"
def TX4 : u_T := fun k => match k with
  | 0 => ("SnoresGold$Tales", "tellers", "[I", true)
  | 1 => ("SnoresGold$Tales", "cells", "[I", true)
  | 2 => ("SnoresGold$Tales", "toldGolden", "I", false)
  | _ => ("SnoresGold$Tales", "count", "I", false)
def tyX4 : Nat → FieldType := fun k => match k with
  | 0 => .array .int
  | 1 => .array .int
  | 2 => .int
  | _ => .int
theorem nmX4 : ∀ a, a < 4 → ∀ b, b < 4 → a ≠ b → (TX4 a).2.1 ≠ (TX4 b).2.1 := by decide +kernel
theorem tyX4_ok : ∀ k, k < 4 → parseFieldDescriptor (TX4 k).2.2.1 = some (tyX4 k) := by decide +kernel
abbrev cX4_init : ByteArray := prog_6_method_1_code
def yX4_init : MethodName := ⟨RX4, "<init>", "()V"⟩
abbrev cX4_copyFrom : ByteArray := prog_6_method_2_code
def yX4_copyFrom : MethodName := ⟨RX4, "copyFrom", "(LSnoresGold$Tales;)V"⟩
abbrev cX4_size : ByteArray := prog_6_method_3_code
def yX4_size : MethodName := ⟨RX4, "size", "()I"⟩
abbrev cX4_clear : ByteArray := prog_6_method_4_code
def yX4_clear : MethodName := ⟨RX4, "clear", "()V"⟩
abbrev cX4_add : ByteArray := prog_6_method_5_code
def yX4_add : MethodName := ⟨RX4, "add", "(IIZ)Z"⟩
abbrev cX4_fewestLiars : ByteArray := prog_6_method_6_code
def yX4_fewestLiars : MethodName := ⟨RX4, "fewestLiars", "()I"⟩
abbrev cX4_holdTogether : ByteArray := prog_6_method_7_code
def yX4_holdTogether : MethodName := ⟨RX4, "holdTogether", "(I)Z"⟩
abbrev cX4_isGoldBy : ByteArray := prog_6_method_8_code
def yX4_isGoldBy : MethodName := ⟨RX4, "isGoldBy", "(II)Z"⟩
def RX5 : String := "SnoresGold$Week"
def TX5 : u_T := fun k => match k with
  | 0 => ("SnoresGold$Week", "acts", "I", false)
  | 1 => ("SnoresGold$Week", "bad", "I", false)
  | 2 => ("SnoresGold$Week", "reason", "I", false)
  | 3 => ("SnoresGold$Week", "firstEmpty", "I", false)
  | _ => ("SnoresGold$Week", "empty", "I", false)
def tyX5 : Nat → FieldType := fun k => match k with
  | 0 => .int
  | 1 => .int
  | 2 => .int
  | 3 => .int
  | _ => .int
theorem nmX5 : ∀ a, a < 5 → ∀ b, b < 5 → a ≠ b → (TX5 a).2.1 ≠ (TX5 b).2.1 := by decide +kernel
theorem tyX5_ok : ∀ k, k < 5 → parseFieldDescriptor (TX5 k).2.2.1 = some (tyX5 k) := by decide +kernel
abbrev cX5_init : ByteArray := prog_7_method_1_code
def yX5_init : MethodName := ⟨RX5, "<init>", "()V"⟩
abbrev cX5_play : ByteArray := prog_7_method_2_code
def yX5_play : MethodName := ⟨RX5, "play", "(LSnoresGold$Pad;LSnoresGold$Camp;)V"⟩
abbrev cX5_act : ByteArray := prog_7_method_3_code
def yX5_act : MethodName := ⟨RX5, "act", "(LSnoresGold$Camp;II)V"⟩
abbrev cX5_countActs : ByteArray := prog_7_method_4_code
def yX5_countActs : MethodName := ⟨RX5, "countActs", "()I"⟩
abbrev cX5_badAct : ByteArray := prog_7_method_5_code
def yX5_badAct : MethodName := ⟨RX5, "badAct", "()I"⟩
abbrev cX5_badReason : ByteArray := prog_7_method_6_code
def yX5_badReason : MethodName := ⟨RX5, "badReason", "()I"⟩
abbrev cX5_firstEmptyClaim : ByteArray := prog_7_method_7_code
def yX5_firstEmptyClaim : MethodName := ⟨RX5, "firstEmptyClaim", "()I"⟩
abbrev cX5_countEmptyClaims : ByteArray := prog_7_method_8_code
def yX5_countEmptyClaims : MethodName := ⟨RX5, "countEmptyClaims", "()I"⟩
def RX6 : String := "SnoresGold"
def TX6 : u_T := fun k => match k with
  | 0 => ("SnoresGold", "now", "LSnoresGold$Memory;", true)
  | 1 => ("SnoresGold", "imageZero", "LSnoresGold$Memory;", true)
  | 2 => ("SnoresGold", "imageOne", "LSnoresGold$Memory;", true)
  | 3 => ("SnoresGold", "pad", "LSnoresGold$Pad;", true)
  | 4 => ("SnoresGold", "week", "LSnoresGold$Week;", true)
  | 5 => ("SnoresGold", "ahead", "LSnoresGold$Camp;", true)
  | 6 => ("SnoresGold", "digits", "[I", true)
  | 7 => ("SnoresGold", "leads", "[I", true)
  | 8 => ("SnoresGold", "heardCalm", "[I", true)
  | _ => ("SnoresGold", "heardCold", "[I", true)
def tyX6 : Nat → FieldType := fun k => match k with
  | 0 => .object "SnoresGold$Memory"
  | 1 => .object "SnoresGold$Memory"
  | 2 => .object "SnoresGold$Memory"
  | 3 => .object "SnoresGold$Pad"
  | 4 => .object "SnoresGold$Week"
  | 5 => .object "SnoresGold$Camp"
  | 6 => .array .int
  | 7 => .array .int
  | 8 => .array .int
  | _ => .array .int
theorem nmX6 : ∀ a, a < 10 → ∀ b, b < 10 → a ≠ b → (TX6 a).2.1 ≠ (TX6 b).2.1 := by decide +kernel
theorem tyX6_ok : ∀ k, k < 10 → parseFieldDescriptor (TX6 k).2.2.1 = some (tyX6 k) := by decide +kernel
abbrev cX6_init : ByteArray := prog_1_method_1_code
def yX6_init : MethodName := ⟨RX6, "<init>", "()V"⟩
abbrev cX6_gold : ByteArray := prog_1_method_2_code
def yX6_gold : MethodName := ⟨RX6, "gold", "(II)I"⟩
abbrev cX6_man : ByteArray := prog_1_method_3_code
def yX6_man : MethodName := ⟨RX6, "man", "(II)I"⟩
abbrev cX6_leave : ByteArray := prog_1_method_4_code
def yX6_leave : MethodName := ⟨RX6, "leave", "(I)I"⟩
abbrev cX6_know : ByteArray := prog_1_method_5_code
def yX6_know : MethodName := ⟨RX6, "know", "(IIZ)I"⟩
abbrev cX6_claim : ByteArray := prog_1_method_6_code
def yX6_claim : MethodName := ⟨RX6, "claim", "(II)I"⟩
abbrev cX6_say : ByteArray := prog_1_method_7_code
def yX6_say : MethodName := ⟨RX6, "say", "(I)I"⟩
abbrev cX6_wipe : ByteArray := prog_1_method_8_code
def yX6_wipe : MethodName := ⟨RX6, "wipe", "()I"⟩
abbrev cX6_fault : ByteArray := prog_1_method_9_code
def yX6_fault : MethodName := ⟨RX6, "fault", "()I"⟩
abbrev cX6_judge : ByteArray := prog_1_method_10_code
def yX6_judge : MethodName := ⟨RX6, "judge", "(I)I"⟩
abbrev cX6_behind : ByteArray := prog_1_method_11_code
def yX6_behind : MethodName := ⟨RX6, "behind", "(II)I"⟩
abbrev cX6_heard : ByteArray := prog_1_method_12_code
def yX6_heard : MethodName := ⟨RX6, "heard", "(I)I"⟩
abbrev cX6_whose : ByteArray := prog_1_method_13_code
def yX6_whose : MethodName := ⟨RX6, "whose", "(I)I"⟩
abbrev cX6_nothing : ByteArray := prog_1_method_14_code
def yX6_nothing : MethodName := ⟨RX6, "nothing", "(I)I"⟩
abbrev cX6_done : ByteArray := prog_1_method_15_code
def yX6_done : MethodName := ⟨RX6, "done", "()I"⟩
abbrev cX6_loudest : ByteArray := prog_1_method_16_code
def yX6_loudest : MethodName := ⟨RX6, "loudest", "(I)I"⟩
abbrev cX6_playWeeks : ByteArray := prog_1_method_17_code
def yX6_playWeeks : MethodName := ⟨RX6, "playWeeks", "()I"⟩
abbrev cX6_sleep : ByteArray := prog_1_method_18_code
def yX6_sleep : MethodName := ⟨RX6, "sleep", "(III)I"⟩
abbrev cX6_hide : ByteArray := prog_1_method_19_code
def yX6_hide : MethodName := ⟨RX6, "hide", "(III)I"⟩
abbrev cX6_tale : ByteArray := prog_1_method_20_code
def yX6_tale : MethodName := ⟨RX6, "tale", "(IIZ)I"⟩
abbrev cX6_hush : ByteArray := prog_1_method_21_code
def yX6_hush : MethodName := ⟨RX6, "hush", "()I"⟩
abbrev cX6_liars : ByteArray := prog_1_method_22_code
def yX6_liars : MethodName := ⟨RX6, "liars", "(I)I"⟩
abbrev cX6_leaves : ByteArray := prog_1_method_23_code
def yX6_leaves : MethodName := ⟨RX6, "leaves", "(I)I"⟩
abbrev cX6_refusalOfSteps : ByteArray := prog_1_method_24_code
def yX6_refusalOfSteps : MethodName := ⟨RX6, "refusalOfSteps", "(III)I"⟩
abbrev cX6_quietest : ByteArray := prog_1_method_25_code
def yX6_quietest : MethodName := ⟨RX6, "quietest", "(IIIZ)I"⟩
abbrev cX6_readDigits : ByteArray := prog_1_method_26_code
def yX6_readDigits : MethodName := ⟨RX6, "readDigits", "(I)V"⟩
abbrev cX6_digitAt : ByteArray := prog_1_method_27_code
def yX6_digitAt : MethodName := ⟨RX6, "digitAt", "(I)I"⟩
abbrev cX6_digitsAreTwos : ByteArray := prog_1_method_28_code
def yX6_digitsAreTwos : MethodName := ⟨RX6, "digitsAreTwos", "()Z"⟩
abbrev cX6_wouldRatherShare : ByteArray := prog_1_method_29_code
def yX6_wouldRatherShare : MethodName := ⟨RX6, "wouldRatherShare", "(II)Z"⟩
abbrev cX6_seen : ByteArray := prog_1_method_30_code
def yX6_seen : MethodName := ⟨RX6, "seen", "(IZ)I"⟩
abbrev cX6_forget : ByteArray := prog_1_method_31_code
def yX6_forget : MethodName := ⟨RX6, "forget", "()I"⟩
abbrev cX6_lodes : ByteArray := prog_1_method_32_code
def yX6_lodes : MethodName := ⟨RX6, "lodes", "(I)I"⟩
abbrev cX6_odds : ByteArray := prog_1_method_33_code
def yX6_odds : MethodName := ⟨RX6, "odds", "(II)J"⟩
abbrev cX6_next : ByteArray := prog_1_method_34_code
def yX6_next : MethodName := ⟨RX6, "next", "(I)I"⟩
abbrev cX6_turns : ByteArray := prog_1_method_35_code
def yX6_turns : MethodName := ⟨RX6, "turns", "(II)I"⟩
abbrev cX6_colds : ByteArray := prog_1_method_36_code
def yX6_colds : MethodName := ⟨RX6, "colds", "(IIII)J"⟩
abbrev cX6_year : ByteArray := prog_1_method_37_code
def yX6_year : MethodName := ⟨RX6, "year", "(III)I"⟩
abbrev cX6_image : ByteArray := prog_1_method_38_code
def yX6_image : MethodName := ⟨RX6, "image", "(I)I"⟩
abbrev cX6_restore : ByteArray := prog_1_method_39_code
def yX6_restore : MethodName := ⟨RX6, "restore", "(I)I"⟩
abbrev cX6_told : ByteArray := prog_1_method_40_code
def yX6_told : MethodName := ⟨RX6, "told", "(I)I"⟩
abbrev cX6_toldOfMan : ByteArray := prog_1_method_41_code
def yX6_toldOfMan : MethodName := ⟨RX6, "toldOfMan", "(II)I"⟩
abbrev cX6_toldOfCell : ByteArray := prog_1_method_42_code
def yX6_toldOfCell : MethodName := ⟨RX6, "toldOfCell", "(I)I"⟩
abbrev cX6_toldOfKnown : ByteArray := prog_1_method_43_code
def yX6_toldOfKnown : MethodName := ⟨RX6, "toldOfKnown", "(II)I"⟩
abbrev cX6_imageOf : ByteArray := prog_1_method_44_code
def yX6_imageOf : MethodName := ⟨RX6, "imageOf", "(I)LSnoresGold$Memory;"⟩
abbrev cX6_leadAt : ByteArray := prog_1_method_45_code
def yX6_leadAt : MethodName := ⟨RX6, "leadAt", "(I)I"⟩
abbrev cX6_findLeads : ByteArray := prog_1_method_46_code
def yX6_findLeads : MethodName := ⟨RX6, "findLeads", "(I)V"⟩
abbrev cX6_hearWithAndWithoutCold : ByteArray := prog_1_method_47_code
def yX6_hearWithAndWithoutCold : MethodName := ⟨RX6, "hearWithAndWithoutCold", "(I)V"⟩
abbrev cX6_heardIfSick : ByteArray := prog_1_method_48_code
def yX6_heardIfSick : MethodName := ⟨RX6, "heardIfSick", "(II)I"⟩
abbrev cX6_weightOf : ByteArray := prog_1_method_49_code
def yX6_weightOf : MethodName := ⟨RX6, "weightOf", "(III)J"⟩
abbrev cX6_power : ByteArray := prog_1_method_50_code
def yX6_power : MethodName := ⟨RX6, "power", "(II)J"⟩
abbrev cX6_partOfFraction : ByteArray := prog_1_method_51_code
def yX6_partOfFraction : MethodName := ⟨RX6, "partOfFraction", "(JJI)J"⟩
abbrev cX6_greatestDivisor : ByteArray := prog_1_method_52_code
def yX6_greatestDivisor : MethodName := ⟨RX6, "greatestDivisor", "(JJ)J"⟩
abbrev cX6_isWithin : ByteArray := prog_1_method_53_code
def yX6_isWithin : MethodName := ⟨RX6, "isWithin", "(III)Z"⟩
abbrev cX6_isZeroOrOne : ByteArray := prog_1_method_54_code
def yX6_isZeroOrOne : MethodName := ⟨RX6, "isZeroOrOne", "(I)Z"⟩
abbrev cX6_isCell : ByteArray := prog_1_method_55_code
def yX6_isCell : MethodName := ⟨RX6, "isCell", "(I)Z"⟩
abbrev cX6_isManNumber : ByteArray := prog_1_method_56_code
def yX6_isManNumber : MethodName := ⟨RX6, "isManNumber", "(I)Z"⟩
abbrev cX6_hasBit : ByteArray := prog_1_method_57_code
def yX6_hasBit : MethodName := ⟨RX6, "hasBit", "(II)Z"⟩
abbrev cX6_columnOf : ByteArray := prog_1_method_58_code
def yX6_columnOf : MethodName := ⟨RX6, "columnOf", "(I)I"⟩
abbrev cX6_rowOf : ByteArray := prog_1_method_59_code
def yX6_rowOf : MethodName := ⟨RX6, "rowOf", "(I)I"⟩
abbrev cX6_distance : ByteArray := prog_1_method_60_code
def yX6_distance : MethodName := ⟨RX6, "distance", "(II)I"⟩
def RX7 : String := "SnoresGoldModel"
def TX7 : u_T := fun k => match k with
  | 0 => ("SnoresGoldModel", "ore", "[I", true)
  | 1 => ("SnoresGoldModel", "owner", "[I", true)
  | 2 => ("SnoresGoldModel", "men", "I", false)
  | 3 => ("SnoresGoldModel", "tent", "[I", true)
  | 4 => ("SnoresGoldModel", "knows", "[J", true)
  | 5 => ("SnoresGoldModel", "cold", "[I", true)
  | 6 => ("SnoresGoldModel", "whistles", "[I", true)
  | 7 => ("SnoresGoldModel", "salt", "[I", true)
  | 8 => ("SnoresGoldModel", "taleMan", "[I", true)
  | 9 => ("SnoresGoldModel", "taleCell", "[I", true)
  | 10 => ("SnoresGoldModel", "taleGold", "[I", true)
  | 11 => ("SnoresGoldModel", "tales", "I", false)
  | 12 => ("SnoresGoldModel", "sightCell", "[I", true)
  | 13 => ("SnoresGoldModel", "sightIs", "[I", true)
  | 14 => ("SnoresGoldModel", "sights", "I", false)
  | 15 => ("SnoresGoldModel", "pad", "[I", true)
  | 16 => ("SnoresGoldModel", "padMany", "I", false)
  | 17 => ("SnoresGoldModel", "act", "[I", true)
  | 18 => ("SnoresGoldModel", "who", "[I", true)
  | 19 => ("SnoresGoldModel", "way", "[I", true)
  | 20 => ("SnoresGoldModel", "acts", "I", false)
  | 21 => ("SnoresGoldModel", "womans", "I", false)
  | 22 => ("SnoresGoldModel", "firstNothing", "I", false)
  | 23 => ("SnoresGoldModel", "nothingMany", "I", false)
  | 24 => ("SnoresGoldModel", "actNow", "I", false)
  | 25 => ("SnoresGoldModel", "had", "[I", true)
  | 26 => ("SnoresGoldModel", "hadKnown", "[J", true)
  | 27 => ("SnoresGoldModel", "badAct", "I", false)
  | 28 => ("SnoresGoldModel", "badWhy", "I", false)
  | 29 => ("SnoresGoldModel", "with", "[I", true)
  | 30 => ("SnoresGoldModel", "digit", "[I", true)
  | 31 => ("SnoresGoldModel", "more", "[I", true)
  | 32 => ("SnoresGoldModel", "kept", "[I", true)
  | 33 => ("SnoresGoldModel", "keptKnown", "[J", true)
  | 34 => ("SnoresGoldModel", "isKept", "[Z", true)
  | 35 => ("SnoresGoldModel", "keptAt", "I", false)
  | _ => ("SnoresGoldModel", "isWriting", "Z", false)
def tyX7 : Nat → FieldType := fun k => match k with
  | 0 => .array .int
  | 1 => .array .int
  | 2 => .int
  | 3 => .array .int
  | 4 => .array .long
  | 5 => .array .int
  | 6 => .array .int
  | 7 => .array .int
  | 8 => .array .int
  | 9 => .array .int
  | 10 => .array .int
  | 11 => .int
  | 12 => .array .int
  | 13 => .array .int
  | 14 => .int
  | 15 => .array .int
  | 16 => .int
  | 17 => .array .int
  | 18 => .array .int
  | 19 => .array .int
  | 20 => .int
  | 21 => .int
  | 22 => .int
  | 23 => .int
  | 24 => .int
  | 25 => .array .int
  | 26 => .array .long
  | 27 => .int
  | 28 => .int
  | 29 => .array .int
  | 30 => .array .int
  | 31 => .array .int
  | 32 => .array .int
  | 33 => .array .long
  | 34 => .array .boolean
  | 35 => .int
  | _ => .boolean
theorem nmX7 : ∀ a, a < 37 → ∀ b, b < 37 → a ≠ b → (TX7 a).2.1 ≠ (TX7 b).2.1 := by decide +kernel
theorem tyX7_ok : ∀ k, k < 37 → parseFieldDescriptor (TX7 k).2.2.1 = some (tyX7 k) := by decide +kernel
abbrev cX7_init : ByteArray := prog_9_method_1_code
def yX7_init : MethodName := ⟨RX7, "<init>", "()V"⟩
abbrev cX7_in : ByteArray := prog_9_method_3_code
def yX7_in : MethodName := ⟨RX7, "in", "(JJJ)Z"⟩
abbrev cX7_ones : ByteArray := prog_9_method_4_code
def yX7_ones : MethodName := ⟨RX7, "ones", "(I)I"⟩
abbrev cX7_over : ByteArray := prog_9_method_5_code
def yX7_over : MethodName := ⟨RX7, "over", "(I)I"⟩
abbrev cX7_isCell : ByteArray := prog_9_method_6_code
def yX7_isCell : MethodName := ⟨RX7, "isCell", "(I)Z"⟩
abbrev cX7_apart : ByteArray := prog_9_method_7_code
def yX7_apart : MethodName := ⟨RX7, "apart", "(II)I"⟩
abbrev cX7_isMan : ByteArray := prog_9_method_8_code
def yX7_isMan : MethodName := ⟨RX7, "isMan", "(I)Z"⟩
abbrev cX7_isKnown : ByteArray := prog_9_method_9_code
def yX7_isKnown : MethodName := ⟨RX7, "isKnown", "(II)Z"⟩
abbrev cX7_gold : ByteArray := prog_9_method_10_code
def yX7_gold : MethodName := ⟨RX7, "gold", "(II)I"⟩
abbrev cX7_man : ByteArray := prog_9_method_11_code
def yX7_man : MethodName := ⟨RX7, "man", "(II)I"⟩
abbrev cX7_leave : ByteArray := prog_9_method_12_code
def yX7_leave : MethodName := ⟨RX7, "leave", "(I)I"⟩
abbrev cX7_know : ByteArray := prog_9_method_13_code
def yX7_know : MethodName := ⟨RX7, "know", "(IIZ)I"⟩
abbrev cX7_knownBy : ByteArray := prog_9_method_14_code
def yX7_knownBy : MethodName := ⟨RX7, "knownBy", "(I)I"⟩
abbrev cX7_claimedBy : ByteArray := prog_9_method_15_code
def yX7_claimedBy : MethodName := ⟨RX7, "claimedBy", "(I)I"⟩
abbrev cX7_claimedCells : ByteArray := prog_9_method_16_code
def yX7_claimedCells : MethodName := ⟨RX7, "claimedCells", "()I"⟩
abbrev cX7_claim : ByteArray := prog_9_method_17_code
def yX7_claim : MethodName := ⟨RX7, "claim", "(II)I"⟩
abbrev cX7_say : ByteArray := prog_9_method_18_code
def yX7_say : MethodName := ⟨RX7, "say", "(I)I"⟩
abbrev cX7_wipe : ByteArray := prog_9_method_19_code
def yX7_wipe : MethodName := ⟨RX7, "wipe", "()I"⟩
abbrev cX7_close : ByteArray := prog_9_method_20_code
def yX7_close : MethodName := ⟨RX7, "close", "(II)I"⟩
abbrev cX7_deed : ByteArray := prog_9_method_21_code
def yX7_deed : MethodName := ⟨RX7, "deed", "(I)I"⟩
abbrev cX7_readOn : ByteArray := prog_9_method_22_code
def yX7_readOn : MethodName := ⟨RX7, "readOn", "(II)I"⟩
abbrev cX7_fault : ByteArray := prog_9_method_23_code
def yX7_fault : MethodName := ⟨RX7, "fault", "()I"⟩
abbrev cX7_eastBy : ByteArray := prog_9_method_24_code
def yX7_eastBy : MethodName := ⟨RX7, "eastBy", "(I)I"⟩
abbrev cX7_northBy : ByteArray := prog_9_method_25_code
def yX7_northBy : MethodName := ⟨RX7, "northBy", "(I)I"⟩
abbrev cX7_canGo : ByteArray := prog_9_method_26_code
def yX7_canGo : MethodName := ⟨RX7, "canGo", "(II)Z"⟩
abbrev cX7_whyNot : ByteArray := prog_9_method_27_code
def yX7_whyNot : MethodName := ⟨RX7, "whyNot", "(III)I"⟩
abbrev cX7_claimHere : ByteArray := prog_9_method_28_code
def yX7_claimHere : MethodName := ⟨RX7, "claimHere", "(I)V"⟩
abbrev cX7_passNight : ByteArray := prog_9_method_29_code
def yX7_passNight : MethodName := ⟨RX7, "passNight", "()V"⟩
abbrev cX7_happen : ByteArray := prog_9_method_30_code
def yX7_happen : MethodName := ⟨RX7, "happen", "(III)V"⟩
abbrev cX7_keepNow : ByteArray := prog_9_method_31_code
def yX7_keepNow : MethodName := ⟨RX7, "keepNow", "()V"⟩
abbrev cX7_back : ByteArray := prog_9_method_32_code
def yX7_back : MethodName := ⟨RX7, "back", "(I)I"⟩
abbrev cX7_goWeeks : ByteArray := prog_9_method_33_code
def yX7_goWeeks : MethodName := ⟨RX7, "goWeeks", "()V"⟩
abbrev cX7_refusal : ByteArray := prog_9_method_34_code
def yX7_refusal : MethodName := ⟨RX7, "refusal", "()I"⟩
abbrev cX7_judge : ByteArray := prog_9_method_35_code
def yX7_judge : MethodName := ⟨RX7, "judge", "(I)I"⟩
abbrev cX7_snoreBy : ByteArray := prog_9_method_36_code
def yX7_snoreBy : MethodName := ⟨RX7, "snoreBy", "(II)I"⟩
abbrev cX7_snore : ByteArray := prog_9_method_37_code
def yX7_snore : MethodName := ⟨RX7, "snore", "(I)I"⟩
abbrev cX7_heardAt : ByteArray := prog_9_method_38_code
def yX7_heardAt : MethodName := ⟨RX7, "heardAt", "(II)I"⟩
abbrev cX7_ofMan : ByteArray := prog_9_method_39_code
def yX7_ofMan : MethodName := ⟨RX7, "ofMan", "(II)I"⟩
abbrev cX7_behind : ByteArray := prog_9_method_40_code
def yX7_behind : MethodName := ⟨RX7, "behind", "(II)I"⟩
abbrev cX7_heard : ByteArray := prog_9_method_41_code
def yX7_heard : MethodName := ⟨RX7, "heard", "(I)I"⟩
abbrev cX7_whose : ByteArray := prog_9_method_42_code
def yX7_whose : MethodName := ⟨RX7, "whose", "(I)I"⟩
abbrev cX7_nothing : ByteArray := prog_9_method_43_code
def yX7_nothing : MethodName := ⟨RX7, "nothing", "(I)I"⟩
abbrev cX7_done : ByteArray := prog_9_method_44_code
def yX7_done : MethodName := ⟨RX7, "done", "()I"⟩
abbrev cX7_loudest : ByteArray := prog_9_method_45_code
def yX7_loudest : MethodName := ⟨RX7, "loudest", "(I)I"⟩
abbrev cX7_givenAway : ByteArray := prog_9_method_46_code
def yX7_givenAway : MethodName := ⟨RX7, "givenAway", "(II)I"⟩
abbrev cX7_quietAt : ByteArray := prog_9_method_47_code
def yX7_quietAt : MethodName := ⟨RX7, "quietAt", "(IIZ)I"⟩
abbrev cX7_quietest : ByteArray := prog_9_method_48_code
def yX7_quietest : MethodName := ⟨RX7, "quietest", "(IIIZ)I"⟩
abbrev cX7_sleep : ByteArray := prog_9_method_49_code
def yX7_sleep : MethodName := ⟨RX7, "sleep", "(III)I"⟩
abbrev cX7_hide : ByteArray := prog_9_method_50_code
def yX7_hide : MethodName := ⟨RX7, "hide", "(III)I"⟩
abbrev cX7_tale : ByteArray := prog_9_method_51_code
def yX7_tale : MethodName := ⟨RX7, "tale", "(IIZ)I"⟩
abbrev cX7_hush : ByteArray := prog_9_method_52_code
def yX7_hush : MethodName := ⟨RX7, "hush", "()I"⟩
abbrev cX7_meant : ByteArray := prog_9_method_53_code
def yX7_meant : MethodName := ⟨RX7, "meant", "(II)I"⟩
abbrev cX7_canBe : ByteArray := prog_9_method_54_code
def yX7_canBe : MethodName := ⟨RX7, "canBe", "(I)Z"⟩
abbrev cX7_liars : ByteArray := prog_9_method_55_code
def yX7_liars : MethodName := ⟨RX7, "liars", "(I)I"⟩
abbrev cX7_goldOf : ByteArray := prog_9_method_56_code
def yX7_goldOf : MethodName := ⟨RX7, "goldOf", "(J)I"⟩
abbrev cX7_areTwos : ByteArray := prog_9_method_57_code
def yX7_areTwos : MethodName := ⟨RX7, "areTwos", "(I)Z"⟩
abbrev cX7_halves : ByteArray := prog_9_method_58_code
def yX7_halves : MethodName := ⟨RX7, "halves", "(II)I"⟩
abbrev cX7_wouldLeave : ByteArray := prog_9_method_59_code
def yX7_wouldLeave : MethodName := ⟨RX7, "wouldLeave", "(II)Z"⟩
abbrev cX7_leaves : ByteArray := prog_9_method_60_code
def yX7_leaves : MethodName := ⟨RX7, "leaves", "(I)I"⟩
abbrev cX7_isOn : ByteArray := prog_9_method_61_code
def yX7_isOn : MethodName := ⟨RX7, "isOn", "(II)Z"⟩
abbrev cX7_seen : ByteArray := prog_9_method_62_code
def yX7_seen : MethodName := ⟨RX7, "seen", "(IZ)I"⟩
abbrev cX7_forget : ByteArray := prog_9_method_63_code
def yX7_forget : MethodName := ⟨RX7, "forget", "()I"⟩
abbrev cX7_fits : ByteArray := prog_9_method_64_code
def yX7_fits : MethodName := ⟨RX7, "fits", "(I)Z"⟩
abbrev cX7_lodes : ByteArray := prog_9_method_65_code
def yX7_lodes : MethodName := ⟨RX7, "lodes", "(I)I"⟩
abbrev cX7_lowest : ByteArray := prog_9_method_66_code
def yX7_lowest : MethodName := ⟨RX7, "lowest", "(JJI)J"⟩
abbrev cX7_linesOn : ByteArray := prog_9_method_67_code
def yX7_linesOn : MethodName := ⟨RX7, "linesOn", "(I)I"⟩
abbrev cX7_odds : ByteArray := prog_9_method_68_code
def yX7_odds : MethodName := ⟨RX7, "odds", "(II)J"⟩
abbrev cX7_next : ByteArray := prog_9_method_69_code
def yX7_next : MethodName := ⟨RX7, "next", "(I)I"⟩
abbrev cX7_leftEnd : ByteArray := prog_9_method_70_code
def yX7_leftEnd : MethodName := ⟨RX7, "leftEnd", "(II)I"⟩
abbrev cX7_rightEnd : ByteArray := prog_9_method_71_code
def yX7_rightEnd : MethodName := ⟨RX7, "rightEnd", "(II)I"⟩
abbrev cX7_turns : ByteArray := prog_9_method_72_code
def yX7_turns : MethodName := ⟨RX7, "turns", "(II)I"⟩
abbrev cX7_heardBy : ByteArray := prog_9_method_73_code
def yX7_heardBy : MethodName := ⟨RX7, "heardBy", "(II)I"⟩
abbrev cX7_colds : ByteArray := prog_9_method_74_code
def yX7_colds : MethodName := ⟨RX7, "colds", "(IIII)J"⟩
abbrev cX7_year : ByteArray := prog_9_method_75_code
def yX7_year : MethodName := ⟨RX7, "year", "(III)I"⟩
abbrev cX7_pass : ByteArray := prog_9_method_76_code
def yX7_pass : MethodName := ⟨RX7, "pass", "(I)I"⟩
abbrev cX7_passRow : ByteArray := prog_9_method_77_code
def yX7_passRow : MethodName := ⟨RX7, "passRow", "([II)V"⟩
abbrev cX7_passAll : ByteArray := prog_9_method_78_code
def yX7_passAll : MethodName := ⟨RX7, "passAll", "(I)V"⟩
abbrev cX7_image : ByteArray := prog_9_method_79_code
def yX7_image : MethodName := ⟨RX7, "image", "(I)I"⟩
abbrev cX7_restore : ByteArray := prog_9_method_80_code
def yX7_restore : MethodName := ⟨RX7, "restore", "(I)I"⟩
abbrev cX7_toldOf : ByteArray := prog_9_method_81_code
def yX7_toldOf : MethodName := ⟨RX7, "toldOf", "(II)I"⟩
abbrev cX7_told : ByteArray := prog_9_method_82_code
def yX7_told : MethodName := ⟨RX7, "told", "(I)I"⟩
def RJ6 : String := "java/lang/Integer"
abbrev cJ6_bitCount_0f7a4 : ByteArray := prog_10_method_49_code
def yJ6_bitCount_0f7a4 : MethodName := ⟨RJ6, "bitCount", "(I)I"⟩
def RJ13 : String := "java/lang/Long"
abbrev cJ13_bitCount_95d88 : ByteArray := prog_11_method_50_code
def yJ13_bitCount_95d88 : MethodName := ⟨RJ13, "bitCount", "(J)I"⟩
def RJ9 : String := "java/lang/Math"
abbrev cJ9_abs_0f7a4 : ByteArray := prog_12_method_59_code
def yJ9_abs_0f7a4 : MethodName := ⟨RJ9, "abs", "(I)I"⟩
abbrev cJ9_max_7cf53 : ByteArray := prog_12_method_65_code
def yJ9_max_7cf53 : MethodName := ⟨RJ9, "max", "(II)I"⟩
abbrev cJ9_min_7cf53 : ByteArray := prog_12_method_69_code
def yJ9_min_7cf53 : MethodName := ⟨RJ9, "min", "(II)I"⟩
def RJ10 : String := "java/lang/System"
def RL : String := "SnoresGoldLaw"
abbrev cL_law : ByteArray := code
def yL_law : MethodName := ⟨RL, "law", "([I)Z"⟩
abbrev vwCl : List vw_C := [(RX0, TX0, 10), (RX1, TX1, 4), (RX2, TX2, 2), (RX3, TX3, 2), (RX4, TX4, 4), (RX5, TX5, 5), (RX6, TX6, 10), (RX7, TX7, 37)]
