section
-- ===== PART A: goes FIRST, ahead of the names: the tables' words, and 'selects' of the private methods out of them =====
/-- a private method of a class that the tables say can be made, by its rows of tables_1 -/
def lw_okq (q : MethodName × Nat) : Prop := (q.1.cls ≠ "java/lang/invoke/MethodHandle" ∧ q.1.cls ≠ "java/lang/invoke/VarHandle") ∧ Cond.instantiable q.1.cls q.2 ∈ tables_1 ∧ Cond.privateMethod q.1 ∈ tables_1 ∧ Cond.instanceMethod q.1 ∈ tables_1
theorem lw_p0 : lw_okq (⟨"SnoresGold$Camp", "forgetMan", "(I)V"⟩, 10) := ⟨⟨by decide +kernel, by decide +kernel⟩, List.mem_of_getElem? (i := 28) (by decide +kernel), List.mem_of_getElem? (i := 215) (by decide +kernel), List.mem_of_getElem? (i := 216) (by decide +kernel)⟩
theorem lw_p1 : lw_okq (⟨"SnoresGold$Camp", "cellsClaimedBy", "(I)J"⟩, 10) := ⟨⟨by decide +kernel, by decide +kernel⟩, List.mem_of_getElem? (i := 28) (by decide +kernel), List.mem_of_getElem? (i := 279) (by decide +kernel), List.mem_of_getElem? (i := 280) (by decide +kernel)⟩
theorem lw_p2 : lw_okq (⟨"SnoresGold", "playWeeks", "()I"⟩, 10) := ⟨⟨by decide +kernel, by decide +kernel⟩, List.mem_of_getElem? (i := 14) (by decide +kernel), List.mem_of_getElem? (i := 335) (by decide +kernel), List.mem_of_getElem? (i := 336) (by decide +kernel)⟩
theorem lw_p3 : lw_okq (⟨"SnoresGold$Week", "act", "(LSnoresGold$Camp;II)V"⟩, 5) := ⟨⟨by decide +kernel, by decide +kernel⟩, List.mem_of_getElem? (i := 129) (by decide +kernel), List.mem_of_getElem? (i := 353) (by decide +kernel), List.mem_of_getElem? (i := 354) (by decide +kernel)⟩
theorem lw_p4 : lw_okq (⟨"SnoresGold$Camp", "passNight", "()V"⟩, 10) := ⟨⟨by decide +kernel, by decide +kernel⟩, List.mem_of_getElem? (i := 28) (by decide +kernel), List.mem_of_getElem? (i := 389) (by decide +kernel), List.mem_of_getElem? (i := 390) (by decide +kernel)⟩
theorem lw_p5 : lw_okq (⟨"SnoresGold", "refusalOfSteps", "(III)I"⟩, 10) := ⟨⟨by decide +kernel, by decide +kernel⟩, List.mem_of_getElem? (i := 14) (by decide +kernel), List.mem_of_getElem? (i := 507) (by decide +kernel), List.mem_of_getElem? (i := 508) (by decide +kernel)⟩
theorem lw_p6 : lw_okq (⟨"SnoresGold", "quietest", "(IIIZ)I"⟩, 10) := ⟨⟨by decide +kernel, by decide +kernel⟩, List.mem_of_getElem? (i := 14) (by decide +kernel), List.mem_of_getElem? (i := 511) (by decide +kernel), List.mem_of_getElem? (i := 512) (by decide +kernel)⟩
theorem lw_p7 : lw_okq (⟨"SnoresGold$Tales", "holdTogether", "(I)Z"⟩, 4) := ⟨⟨by decide +kernel, by decide +kernel⟩, List.mem_of_getElem? (i := 67) (by decide +kernel), List.mem_of_getElem? (i := 554) (by decide +kernel), List.mem_of_getElem? (i := 555) (by decide +kernel)⟩
theorem lw_p8 : lw_okq (⟨"SnoresGold$Tales", "isGoldBy", "(II)Z"⟩, 4) := ⟨⟨by decide +kernel, by decide +kernel⟩, List.mem_of_getElem? (i := 67) (by decide +kernel), List.mem_of_getElem? (i := 558) (by decide +kernel), List.mem_of_getElem? (i := 559) (by decide +kernel)⟩
theorem lw_p9 : lw_okq (⟨"SnoresGold", "readDigits", "(I)V"⟩, 10) := ⟨⟨by decide +kernel, by decide +kernel⟩, List.mem_of_getElem? (i := 14) (by decide +kernel), List.mem_of_getElem? (i := 569) (by decide +kernel), List.mem_of_getElem? (i := 570) (by decide +kernel)⟩
theorem lw_p10 : lw_okq (⟨"SnoresGold", "digitsAreTwos", "()Z"⟩, 10) := ⟨⟨by decide +kernel, by decide +kernel⟩, List.mem_of_getElem? (i := 14) (by decide +kernel), List.mem_of_getElem? (i := 573) (by decide +kernel), List.mem_of_getElem? (i := 574) (by decide +kernel)⟩
theorem lw_p11 : lw_okq (⟨"SnoresGold", "digitAt", "(I)I"⟩, 10) := ⟨⟨by decide +kernel, by decide +kernel⟩, List.mem_of_getElem? (i := 14) (by decide +kernel), List.mem_of_getElem? (i := 577) (by decide +kernel), List.mem_of_getElem? (i := 578) (by decide +kernel)⟩
theorem lw_p12 : lw_okq (⟨"SnoresGold", "wouldRatherShare", "(II)Z"⟩, 10) := ⟨⟨by decide +kernel, by decide +kernel⟩, List.mem_of_getElem? (i := 14) (by decide +kernel), List.mem_of_getElem? (i := 581) (by decide +kernel), List.mem_of_getElem? (i := 582) (by decide +kernel)⟩
theorem lw_p13 : lw_okq (⟨"SnoresGold", "findLeads", "(I)V"⟩, 10) := ⟨⟨by decide +kernel, by decide +kernel⟩, List.mem_of_getElem? (i := 14) (by decide +kernel), List.mem_of_getElem? (i := 652) (by decide +kernel), List.mem_of_getElem? (i := 653) (by decide +kernel)⟩
theorem lw_p14 : lw_okq (⟨"SnoresGold", "leadAt", "(I)I"⟩, 10) := ⟨⟨by decide +kernel, by decide +kernel⟩, List.mem_of_getElem? (i := 14) (by decide +kernel), List.mem_of_getElem? (i := 656) (by decide +kernel), List.mem_of_getElem? (i := 657) (by decide +kernel)⟩
theorem lw_p15 : lw_okq (⟨"SnoresGold", "hearWithAndWithoutCold", "(I)V"⟩, 10) := ⟨⟨by decide +kernel, by decide +kernel⟩, List.mem_of_getElem? (i := 14) (by decide +kernel), List.mem_of_getElem? (i := 664) (by decide +kernel), List.mem_of_getElem? (i := 665) (by decide +kernel)⟩
def lw_privs_1 : List (MethodName × Nat) := [(⟨"SnoresGold$Camp", "forgetMan", "(I)V"⟩, 10), (⟨"SnoresGold$Camp", "cellsClaimedBy", "(I)J"⟩, 10), (⟨"SnoresGold", "playWeeks", "()I"⟩, 10), (⟨"SnoresGold$Week", "act", "(LSnoresGold$Camp;II)V"⟩, 5), (⟨"SnoresGold$Camp", "passNight", "()V"⟩, 10), (⟨"SnoresGold", "refusalOfSteps", "(III)I"⟩, 10), (⟨"SnoresGold", "quietest", "(IIIZ)I"⟩, 10), (⟨"SnoresGold$Tales", "holdTogether", "(I)Z"⟩, 4), (⟨"SnoresGold$Tales", "isGoldBy", "(II)Z"⟩, 4), (⟨"SnoresGold", "readDigits", "(I)V"⟩, 10), (⟨"SnoresGold", "digitsAreTwos", "()Z"⟩, 10), (⟨"SnoresGold", "digitAt", "(I)I"⟩, 10), (⟨"SnoresGold", "wouldRatherShare", "(II)Z"⟩, 10), (⟨"SnoresGold", "findLeads", "(I)V"⟩, 10), (⟨"SnoresGold", "leadAt", "(I)I"⟩, 10), (⟨"SnoresGold", "hearWithAndWithoutCold", "(I)V"⟩, 10)]
theorem lw_r1 : ∀ q ∈ lw_privs_1, lw_okq q := List.forall_mem_cons.mpr ⟨lw_p0, List.forall_mem_cons.mpr ⟨lw_p1, List.forall_mem_cons.mpr ⟨lw_p2, List.forall_mem_cons.mpr ⟨lw_p3, List.forall_mem_cons.mpr ⟨lw_p4, List.forall_mem_cons.mpr ⟨lw_p5, List.forall_mem_cons.mpr ⟨lw_p6, List.forall_mem_cons.mpr ⟨lw_p7, List.forall_mem_cons.mpr ⟨lw_p8, List.forall_mem_cons.mpr ⟨lw_p9, List.forall_mem_cons.mpr ⟨lw_p10, List.forall_mem_cons.mpr ⟨lw_p11, List.forall_mem_cons.mpr ⟨lw_p12, List.forall_mem_cons.mpr ⟨lw_p13, List.forall_mem_cons.mpr ⟨lw_p14, List.forall_mem_cons.mpr ⟨lw_p15, fun _ h => absurd h List.not_mem_nil⟩⟩⟩⟩⟩⟩⟩⟩⟩⟩⟩⟩⟩⟩⟩⟩
theorem lw_p16 : lw_okq (⟨"SnoresGold", "heardIfSick", "(II)I"⟩, 10) := ⟨⟨by decide +kernel, by decide +kernel⟩, List.mem_of_getElem? (i := 14) (by decide +kernel), List.mem_of_getElem? (i := 673) (by decide +kernel), List.mem_of_getElem? (i := 674) (by decide +kernel)⟩
theorem lw_p17 : lw_okq (⟨"SnoresGold", "imageOf", "(I)LSnoresGold$Memory;"⟩, 10) := ⟨⟨by decide +kernel, by decide +kernel⟩, List.mem_of_getElem? (i := 14) (by decide +kernel), List.mem_of_getElem? (i := 699) (by decide +kernel), List.mem_of_getElem? (i := 700) (by decide +kernel)⟩
theorem lw_p18 : lw_okq (⟨"SnoresGold", "toldOfMan", "(II)I"⟩, 10) := ⟨⟨by decide +kernel, by decide +kernel⟩, List.mem_of_getElem? (i := 14) (by decide +kernel), List.mem_of_getElem? (i := 733) (by decide +kernel), List.mem_of_getElem? (i := 734) (by decide +kernel)⟩
theorem lw_p19 : lw_okq (⟨"SnoresGold", "toldOfCell", "(I)I"⟩, 10) := ⟨⟨by decide +kernel, by decide +kernel⟩, List.mem_of_getElem? (i := 14) (by decide +kernel), List.mem_of_getElem? (i := 739) (by decide +kernel), List.mem_of_getElem? (i := 740) (by decide +kernel)⟩
theorem lw_p20 : lw_okq (⟨"SnoresGold", "toldOfKnown", "(II)I"⟩, 10) := ⟨⟨by decide +kernel, by decide +kernel⟩, List.mem_of_getElem? (i := 14) (by decide +kernel), List.mem_of_getElem? (i := 743) (by decide +kernel), List.mem_of_getElem? (i := 744) (by decide +kernel)⟩
theorem lw_p21 : lw_okq (⟨"SnoresGoldModel", "isMan", "(I)Z"⟩, 37) := ⟨⟨by decide +kernel, by decide +kernel⟩, List.mem_of_getElem? (i := 748) (by decide +kernel), List.mem_of_getElem? (i := 891) (by decide +kernel), List.mem_of_getElem? (i := 892) (by decide +kernel)⟩
theorem lw_p22 : lw_okq (⟨"SnoresGoldModel", "knownBy", "(I)I"⟩, 37) := ⟨⟨by decide +kernel, by decide +kernel⟩, List.mem_of_getElem? (i := 748) (by decide +kernel), List.mem_of_getElem? (i := 900) (by decide +kernel), List.mem_of_getElem? (i := 901) (by decide +kernel)⟩
theorem lw_p23 : lw_okq (⟨"SnoresGoldModel", "isKnown", "(II)Z"⟩, 37) := ⟨⟨by decide +kernel, by decide +kernel⟩, List.mem_of_getElem? (i := 748) (by decide +kernel), List.mem_of_getElem? (i := 904) (by decide +kernel), List.mem_of_getElem? (i := 905) (by decide +kernel)⟩
theorem lw_p24 : lw_okq (⟨"SnoresGoldModel", "claimedCells", "()I"⟩, 37) := ⟨⟨by decide +kernel, by decide +kernel⟩, List.mem_of_getElem? (i := 748) (by decide +kernel), List.mem_of_getElem? (i := 912) (by decide +kernel), List.mem_of_getElem? (i := 913) (by decide +kernel)⟩
theorem lw_p25 : lw_okq (⟨"SnoresGoldModel", "claimedBy", "(I)I"⟩, 37) := ⟨⟨by decide +kernel, by decide +kernel⟩, List.mem_of_getElem? (i := 748) (by decide +kernel), List.mem_of_getElem? (i := 916) (by decide +kernel), List.mem_of_getElem? (i := 917) (by decide +kernel)⟩
theorem lw_p26 : lw_okq (⟨"SnoresGoldModel", "readOn", "(II)I"⟩, 37) := ⟨⟨by decide +kernel, by decide +kernel⟩, List.mem_of_getElem? (i := 748) (by decide +kernel), List.mem_of_getElem? (i := 934) (by decide +kernel), List.mem_of_getElem? (i := 935) (by decide +kernel)⟩
theorem lw_p27 : lw_okq (⟨"SnoresGoldModel", "deed", "(I)I"⟩, 37) := ⟨⟨by decide +kernel, by decide +kernel⟩, List.mem_of_getElem? (i := 748) (by decide +kernel), List.mem_of_getElem? (i := 938) (by decide +kernel), List.mem_of_getElem? (i := 939) (by decide +kernel)⟩
theorem lw_p28 : lw_okq (⟨"SnoresGoldModel", "close", "(II)I"⟩, 37) := ⟨⟨by decide +kernel, by decide +kernel⟩, List.mem_of_getElem? (i := 748) (by decide +kernel), List.mem_of_getElem? (i := 942) (by decide +kernel), List.mem_of_getElem? (i := 943) (by decide +kernel)⟩
theorem lw_p29 : lw_okq (⟨"SnoresGoldModel", "refusal", "()I"⟩, 37) := ⟨⟨by decide +kernel, by decide +kernel⟩, List.mem_of_getElem? (i := 748) (by decide +kernel), List.mem_of_getElem? (i := 953) (by decide +kernel), List.mem_of_getElem? (i := 954) (by decide +kernel)⟩
theorem lw_p30 : lw_okq (⟨"SnoresGoldModel", "keepNow", "()V"⟩, 37) := ⟨⟨by decide +kernel, by decide +kernel⟩, List.mem_of_getElem? (i := 748) (by decide +kernel), List.mem_of_getElem? (i := 957) (by decide +kernel), List.mem_of_getElem? (i := 958) (by decide +kernel)⟩
theorem lw_p31 : lw_okq (⟨"SnoresGoldModel", "goWeeks", "()V"⟩, 37) := ⟨⟨by decide +kernel, by decide +kernel⟩, List.mem_of_getElem? (i := 748) (by decide +kernel), List.mem_of_getElem? (i := 962) (by decide +kernel), List.mem_of_getElem? (i := 963) (by decide +kernel)⟩
def lw_privs_2 : List (MethodName × Nat) := [(⟨"SnoresGold", "heardIfSick", "(II)I"⟩, 10), (⟨"SnoresGold", "imageOf", "(I)LSnoresGold$Memory;"⟩, 10), (⟨"SnoresGold", "toldOfMan", "(II)I"⟩, 10), (⟨"SnoresGold", "toldOfCell", "(I)I"⟩, 10), (⟨"SnoresGold", "toldOfKnown", "(II)I"⟩, 10), (⟨"SnoresGoldModel", "isMan", "(I)Z"⟩, 37), (⟨"SnoresGoldModel", "knownBy", "(I)I"⟩, 37), (⟨"SnoresGoldModel", "isKnown", "(II)Z"⟩, 37), (⟨"SnoresGoldModel", "claimedCells", "()I"⟩, 37), (⟨"SnoresGoldModel", "claimedBy", "(I)I"⟩, 37), (⟨"SnoresGoldModel", "readOn", "(II)I"⟩, 37), (⟨"SnoresGoldModel", "deed", "(I)I"⟩, 37), (⟨"SnoresGoldModel", "close", "(II)I"⟩, 37), (⟨"SnoresGoldModel", "refusal", "()I"⟩, 37), (⟨"SnoresGoldModel", "keepNow", "()V"⟩, 37), (⟨"SnoresGoldModel", "goWeeks", "()V"⟩, 37)]
theorem lw_r2 : ∀ q ∈ lw_privs_2, lw_okq q := List.forall_mem_cons.mpr ⟨lw_p16, List.forall_mem_cons.mpr ⟨lw_p17, List.forall_mem_cons.mpr ⟨lw_p18, List.forall_mem_cons.mpr ⟨lw_p19, List.forall_mem_cons.mpr ⟨lw_p20, List.forall_mem_cons.mpr ⟨lw_p21, List.forall_mem_cons.mpr ⟨lw_p22, List.forall_mem_cons.mpr ⟨lw_p23, List.forall_mem_cons.mpr ⟨lw_p24, List.forall_mem_cons.mpr ⟨lw_p25, List.forall_mem_cons.mpr ⟨lw_p26, List.forall_mem_cons.mpr ⟨lw_p27, List.forall_mem_cons.mpr ⟨lw_p28, List.forall_mem_cons.mpr ⟨lw_p29, List.forall_mem_cons.mpr ⟨lw_p30, List.forall_mem_cons.mpr ⟨lw_p31, fun _ h => absurd h List.not_mem_nil⟩⟩⟩⟩⟩⟩⟩⟩⟩⟩⟩⟩⟩⟩⟩⟩
theorem lw_p32 : lw_okq (⟨"SnoresGoldModel", "whyNot", "(III)I"⟩, 37) := ⟨⟨by decide +kernel, by decide +kernel⟩, List.mem_of_getElem? (i := 748) (by decide +kernel), List.mem_of_getElem? (i := 966) (by decide +kernel), List.mem_of_getElem? (i := 967) (by decide +kernel)⟩
theorem lw_p33 : lw_okq (⟨"SnoresGoldModel", "canGo", "(II)Z"⟩, 37) := ⟨⟨by decide +kernel, by decide +kernel⟩, List.mem_of_getElem? (i := 748) (by decide +kernel), List.mem_of_getElem? (i := 970) (by decide +kernel), List.mem_of_getElem? (i := 971) (by decide +kernel)⟩
theorem lw_p34 : lw_okq (⟨"SnoresGoldModel", "happen", "(III)V"⟩, 37) := ⟨⟨by decide +kernel, by decide +kernel⟩, List.mem_of_getElem? (i := 748) (by decide +kernel), List.mem_of_getElem? (i := 981) (by decide +kernel), List.mem_of_getElem? (i := 982) (by decide +kernel)⟩
theorem lw_p35 : lw_okq (⟨"SnoresGoldModel", "claimHere", "(I)V"⟩, 37) := ⟨⟨by decide +kernel, by decide +kernel⟩, List.mem_of_getElem? (i := 748) (by decide +kernel), List.mem_of_getElem? (i := 985) (by decide +kernel), List.mem_of_getElem? (i := 986) (by decide +kernel)⟩
theorem lw_p36 : lw_okq (⟨"SnoresGoldModel", "passNight", "()V"⟩, 37) := ⟨⟨by decide +kernel, by decide +kernel⟩, List.mem_of_getElem? (i := 748) (by decide +kernel), List.mem_of_getElem? (i := 989) (by decide +kernel), List.mem_of_getElem? (i := 990) (by decide +kernel)⟩
theorem lw_p37 : lw_okq (⟨"SnoresGoldModel", "back", "(I)I"⟩, 37) := ⟨⟨by decide +kernel, by decide +kernel⟩, List.mem_of_getElem? (i := 748) (by decide +kernel), List.mem_of_getElem? (i := 993) (by decide +kernel), List.mem_of_getElem? (i := 994) (by decide +kernel)⟩
theorem lw_p38 : lw_okq (⟨"SnoresGoldModel", "ofMan", "(II)I"⟩, 37) := ⟨⟨by decide +kernel, by decide +kernel⟩, List.mem_of_getElem? (i := 748) (by decide +kernel), List.mem_of_getElem? (i := 1002) (by decide +kernel), List.mem_of_getElem? (i := 1003) (by decide +kernel)⟩
theorem lw_p39 : lw_okq (⟨"SnoresGoldModel", "snore", "(I)I"⟩, 37) := ⟨⟨by decide +kernel, by decide +kernel⟩, List.mem_of_getElem? (i := 748) (by decide +kernel), List.mem_of_getElem? (i := 1006) (by decide +kernel), List.mem_of_getElem? (i := 1007) (by decide +kernel)⟩
theorem lw_p40 : lw_okq (⟨"SnoresGoldModel", "snoreBy", "(II)I"⟩, 37) := ⟨⟨by decide +kernel, by decide +kernel⟩, List.mem_of_getElem? (i := 748) (by decide +kernel), List.mem_of_getElem? (i := 1010) (by decide +kernel), List.mem_of_getElem? (i := 1011) (by decide +kernel)⟩
theorem lw_p41 : lw_okq (⟨"SnoresGoldModel", "heardAt", "(II)I"⟩, 37) := ⟨⟨by decide +kernel, by decide +kernel⟩, List.mem_of_getElem? (i := 748) (by decide +kernel), List.mem_of_getElem? (i := 1018) (by decide +kernel), List.mem_of_getElem? (i := 1019) (by decide +kernel)⟩
theorem lw_p42 : lw_okq (⟨"SnoresGoldModel", "quietest", "(IIIZ)I"⟩, 37) := ⟨⟨by decide +kernel, by decide +kernel⟩, List.mem_of_getElem? (i := 748) (by decide +kernel), List.mem_of_getElem? (i := 1049) (by decide +kernel), List.mem_of_getElem? (i := 1050) (by decide +kernel)⟩
theorem lw_p43 : lw_okq (⟨"SnoresGoldModel", "quietAt", "(IIZ)I"⟩, 37) := ⟨⟨by decide +kernel, by decide +kernel⟩, List.mem_of_getElem? (i := 748) (by decide +kernel), List.mem_of_getElem? (i := 1053) (by decide +kernel), List.mem_of_getElem? (i := 1054) (by decide +kernel)⟩
theorem lw_p44 : lw_okq (⟨"SnoresGoldModel", "givenAway", "(II)I"⟩, 37) := ⟨⟨by decide +kernel, by decide +kernel⟩, List.mem_of_getElem? (i := 748) (by decide +kernel), List.mem_of_getElem? (i := 1057) (by decide +kernel), List.mem_of_getElem? (i := 1058) (by decide +kernel)⟩
theorem lw_p45 : lw_okq (⟨"SnoresGoldModel", "canBe", "(I)Z"⟩, 37) := ⟨⟨by decide +kernel, by decide +kernel⟩, List.mem_of_getElem? (i := 748) (by decide +kernel), List.mem_of_getElem? (i := 1077) (by decide +kernel), List.mem_of_getElem? (i := 1078) (by decide +kernel)⟩
theorem lw_p46 : lw_okq (⟨"SnoresGoldModel", "meant", "(II)I"⟩, 37) := ⟨⟨by decide +kernel, by decide +kernel⟩, List.mem_of_getElem? (i := 748) (by decide +kernel), List.mem_of_getElem? (i := 1081) (by decide +kernel), List.mem_of_getElem? (i := 1082) (by decide +kernel)⟩
theorem lw_p47 : lw_okq (⟨"SnoresGoldModel", "areTwos", "(I)Z"⟩, 37) := ⟨⟨by decide +kernel, by decide +kernel⟩, List.mem_of_getElem? (i := 748) (by decide +kernel), List.mem_of_getElem? (i := 1089) (by decide +kernel), List.mem_of_getElem? (i := 1090) (by decide +kernel)⟩
def lw_privs_3 : List (MethodName × Nat) := [(⟨"SnoresGoldModel", "whyNot", "(III)I"⟩, 37), (⟨"SnoresGoldModel", "canGo", "(II)Z"⟩, 37), (⟨"SnoresGoldModel", "happen", "(III)V"⟩, 37), (⟨"SnoresGoldModel", "claimHere", "(I)V"⟩, 37), (⟨"SnoresGoldModel", "passNight", "()V"⟩, 37), (⟨"SnoresGoldModel", "back", "(I)I"⟩, 37), (⟨"SnoresGoldModel", "ofMan", "(II)I"⟩, 37), (⟨"SnoresGoldModel", "snore", "(I)I"⟩, 37), (⟨"SnoresGoldModel", "snoreBy", "(II)I"⟩, 37), (⟨"SnoresGoldModel", "heardAt", "(II)I"⟩, 37), (⟨"SnoresGoldModel", "quietest", "(IIIZ)I"⟩, 37), (⟨"SnoresGoldModel", "quietAt", "(IIZ)I"⟩, 37), (⟨"SnoresGoldModel", "givenAway", "(II)I"⟩, 37), (⟨"SnoresGoldModel", "canBe", "(I)Z"⟩, 37), (⟨"SnoresGoldModel", "meant", "(II)I"⟩, 37), (⟨"SnoresGoldModel", "areTwos", "(I)Z"⟩, 37)]
theorem lw_r3 : ∀ q ∈ lw_privs_3, lw_okq q := List.forall_mem_cons.mpr ⟨lw_p32, List.forall_mem_cons.mpr ⟨lw_p33, List.forall_mem_cons.mpr ⟨lw_p34, List.forall_mem_cons.mpr ⟨lw_p35, List.forall_mem_cons.mpr ⟨lw_p36, List.forall_mem_cons.mpr ⟨lw_p37, List.forall_mem_cons.mpr ⟨lw_p38, List.forall_mem_cons.mpr ⟨lw_p39, List.forall_mem_cons.mpr ⟨lw_p40, List.forall_mem_cons.mpr ⟨lw_p41, List.forall_mem_cons.mpr ⟨lw_p42, List.forall_mem_cons.mpr ⟨lw_p43, List.forall_mem_cons.mpr ⟨lw_p44, List.forall_mem_cons.mpr ⟨lw_p45, List.forall_mem_cons.mpr ⟨lw_p46, List.forall_mem_cons.mpr ⟨lw_p47, fun _ h => absurd h List.not_mem_nil⟩⟩⟩⟩⟩⟩⟩⟩⟩⟩⟩⟩⟩⟩⟩⟩
theorem lw_p48 : lw_okq (⟨"SnoresGoldModel", "wouldLeave", "(II)Z"⟩, 37) := ⟨⟨by decide +kernel, by decide +kernel⟩, List.mem_of_getElem? (i := 748) (by decide +kernel), List.mem_of_getElem? (i := 1094) (by decide +kernel), List.mem_of_getElem? (i := 1095) (by decide +kernel)⟩
theorem lw_p49 : lw_okq (⟨"SnoresGoldModel", "halves", "(II)I"⟩, 37) := ⟨⟨by decide +kernel, by decide +kernel⟩, List.mem_of_getElem? (i := 748) (by decide +kernel), List.mem_of_getElem? (i := 1098) (by decide +kernel), List.mem_of_getElem? (i := 1099) (by decide +kernel)⟩
theorem lw_p50 : lw_okq (⟨"SnoresGoldModel", "goldOf", "(J)I"⟩, 37) := ⟨⟨by decide +kernel, by decide +kernel⟩, List.mem_of_getElem? (i := 748) (by decide +kernel), List.mem_of_getElem? (i := 1102) (by decide +kernel), List.mem_of_getElem? (i := 1103) (by decide +kernel)⟩
theorem lw_p51 : lw_okq (⟨"SnoresGoldModel", "fits", "(I)Z"⟩, 37) := ⟨⟨by decide +kernel, by decide +kernel⟩, List.mem_of_getElem? (i := 748) (by decide +kernel), List.mem_of_getElem? (i := 1118) (by decide +kernel), List.mem_of_getElem? (i := 1119) (by decide +kernel)⟩
theorem lw_p52 : lw_okq (⟨"SnoresGoldModel", "linesOn", "(I)I"⟩, 37) := ⟨⟨by decide +kernel, by decide +kernel⟩, List.mem_of_getElem? (i := 748) (by decide +kernel), List.mem_of_getElem? (i := 1131) (by decide +kernel), List.mem_of_getElem? (i := 1132) (by decide +kernel)⟩
theorem lw_p53 : lw_okq (⟨"SnoresGoldModel", "leftEnd", "(II)I"⟩, 37) := ⟨⟨by decide +kernel, by decide +kernel⟩, List.mem_of_getElem? (i := 748) (by decide +kernel), List.mem_of_getElem? (i := 1146) (by decide +kernel), List.mem_of_getElem? (i := 1147) (by decide +kernel)⟩
theorem lw_p54 : lw_okq (⟨"SnoresGoldModel", "rightEnd", "(II)I"⟩, 37) := ⟨⟨by decide +kernel, by decide +kernel⟩, List.mem_of_getElem? (i := 748) (by decide +kernel), List.mem_of_getElem? (i := 1150) (by decide +kernel), List.mem_of_getElem? (i := 1151) (by decide +kernel)⟩
theorem lw_p55 : lw_okq (⟨"SnoresGoldModel", "heardBy", "(II)I"⟩, 37) := ⟨⟨by decide +kernel, by decide +kernel⟩, List.mem_of_getElem? (i := 748) (by decide +kernel), List.mem_of_getElem? (i := 1160) (by decide +kernel), List.mem_of_getElem? (i := 1161) (by decide +kernel)⟩
theorem lw_p56 : lw_okq (⟨"SnoresGoldModel", "passAll", "(I)V"⟩, 37) := ⟨⟨by decide +kernel, by decide +kernel⟩, List.mem_of_getElem? (i := 748) (by decide +kernel), List.mem_of_getElem? (i := 1177) (by decide +kernel), List.mem_of_getElem? (i := 1178) (by decide +kernel)⟩
theorem lw_p57 : lw_okq (⟨"SnoresGoldModel", "pass", "(I)I"⟩, 37) := ⟨⟨by decide +kernel, by decide +kernel⟩, List.mem_of_getElem? (i := 748) (by decide +kernel), List.mem_of_getElem? (i := 1181) (by decide +kernel), List.mem_of_getElem? (i := 1182) (by decide +kernel)⟩
theorem lw_p58 : lw_okq (⟨"SnoresGoldModel", "passRow", "([II)V"⟩, 37) := ⟨⟨by decide +kernel, by decide +kernel⟩, List.mem_of_getElem? (i := 748) (by decide +kernel), List.mem_of_getElem? (i := 1185) (by decide +kernel), List.mem_of_getElem? (i := 1186) (by decide +kernel)⟩
theorem lw_p59 : lw_okq (⟨"SnoresGoldModel", "toldOf", "(II)I"⟩, 37) := ⟨⟨by decide +kernel, by decide +kernel⟩, List.mem_of_getElem? (i := 748) (by decide +kernel), List.mem_of_getElem? (i := 1202) (by decide +kernel), List.mem_of_getElem? (i := 1203) (by decide +kernel)⟩
def lw_privs_4 : List (MethodName × Nat) := [(⟨"SnoresGoldModel", "wouldLeave", "(II)Z"⟩, 37), (⟨"SnoresGoldModel", "halves", "(II)I"⟩, 37), (⟨"SnoresGoldModel", "goldOf", "(J)I"⟩, 37), (⟨"SnoresGoldModel", "fits", "(I)Z"⟩, 37), (⟨"SnoresGoldModel", "linesOn", "(I)I"⟩, 37), (⟨"SnoresGoldModel", "leftEnd", "(II)I"⟩, 37), (⟨"SnoresGoldModel", "rightEnd", "(II)I"⟩, 37), (⟨"SnoresGoldModel", "heardBy", "(II)I"⟩, 37), (⟨"SnoresGoldModel", "passAll", "(I)V"⟩, 37), (⟨"SnoresGoldModel", "pass", "(I)I"⟩, 37), (⟨"SnoresGoldModel", "passRow", "([II)V"⟩, 37), (⟨"SnoresGoldModel", "toldOf", "(II)I"⟩, 37)]
theorem lw_r4 : ∀ q ∈ lw_privs_4, lw_okq q := List.forall_mem_cons.mpr ⟨lw_p48, List.forall_mem_cons.mpr ⟨lw_p49, List.forall_mem_cons.mpr ⟨lw_p50, List.forall_mem_cons.mpr ⟨lw_p51, List.forall_mem_cons.mpr ⟨lw_p52, List.forall_mem_cons.mpr ⟨lw_p53, List.forall_mem_cons.mpr ⟨lw_p54, List.forall_mem_cons.mpr ⟨lw_p55, List.forall_mem_cons.mpr ⟨lw_p56, List.forall_mem_cons.mpr ⟨lw_p57, List.forall_mem_cons.mpr ⟨lw_p58, List.forall_mem_cons.mpr ⟨lw_p59, fun _ h => absurd h List.not_mem_nil⟩⟩⟩⟩⟩⟩⟩⟩⟩⟩⟩⟩
def lw_privs : List (MethodName × Nat) := lw_privs_1 ++ (lw_privs_2 ++ (lw_privs_3 ++ (lw_privs_4)))
def lw_tbl : List Cond := k2_sels lw_privs ++ tables_1
theorem lw_privs_ok : ∀ q ∈ lw_privs, lw_okq q := by
  show ∀ q ∈ lw_privs_1 ++ (lw_privs_2 ++ (lw_privs_3 ++ (lw_privs_4))), lw_okq q
  exact List.forall_mem_append.mpr ⟨lw_r1, List.forall_mem_append.mpr ⟨lw_r2, List.forall_mem_append.mpr ⟨lw_r3, lw_r4⟩⟩⟩
-- ===== end of PART A; then your names; then what follows =====
def RX0 : String := "SnoresGold$Camp"
def TX0 : u_T := fun k => match k with
  | 0 => ("SnoresGold$Camp", "goldOn", "[I", true)
  | 1 => ("SnoresGold$Camp", "claimers", "[I", true)
  | 2 => ("SnoresGold$Camp", "tents", "[I", true)
  | 3 => ("SnoresGold$Camp", "salts", "[I", true)
  | 4 => ("SnoresGold$Camp", "known", "[J", true)
  | 5 => ("SnoresGold$Camp", "snores", "[I", true)
  | 6 => ("SnoresGold$Camp", "men", "I", false)
  | 7 => ("SnoresGold$Camp", "withCold", "I", false)
  | 8 => ("SnoresGold$Camp", "whistling", "I", false)
  | _ => ("SnoresGold$Camp", "womans", "I", false)
def tyX0 : Nat → FieldType := fun k => match k with
  | 0 => .array .int
  | 1 => .array .int
  | 2 => .array .int
  | 3 => .array .int
  | 4 => .array .long
  | 5 => .array .int
  | 6 => .int
  | 7 => .int
  | 8 => .int
  | _ => .int
theorem nmX0 : ∀ a, a < 10 → ∀ b, b < 10 → a ≠ b → (TX0 a).2.1 ≠ (TX0 b).2.1 := by decide +kernel
theorem tyX0_ok : ∀ k, k < 10 → parseFieldDescriptor (TX0 k).2.2.1 = some (tyX0 k) := by decide +kernel
abbrev cX0_init : ByteArray := prog_2_method_1_code
def yX0_init : MethodName := ⟨RX0, "<init>", "()V"⟩
abbrev cX0_copyFrom : ByteArray := prog_2_method_2_code
def yX0_copyFrom : MethodName := ⟨RX0, "copyFrom", "(LSnoresGold$Camp;)V"⟩
abbrev cX0_goldOf : ByteArray := prog_2_method_3_code
def yX0_goldOf : MethodName := ⟨RX0, "goldOf", "(I)I"⟩
abbrev cX0_putGold : ByteArray := prog_2_method_4_code
def yX0_putGold : MethodName := ⟨RX0, "putGold", "(II)V"⟩
abbrev cX0_goldIn : ByteArray := prog_2_method_5_code
def yX0_goldIn : MethodName := ⟨RX0, "goldIn", "(J)I"⟩
abbrev cX0_claimerOf : ByteArray := prog_2_method_6_code
def yX0_claimerOf : MethodName := ⟨RX0, "claimerOf", "(I)I"⟩
abbrev cX0_setClaimer : ByteArray := prog_2_method_7_code
def yX0_setClaimer : MethodName := ⟨RX0, "setClaimer", "(II)V"⟩
abbrev cX0_countClaimedBy : ByteArray := prog_2_method_8_code
def yX0_countClaimedBy : MethodName := ⟨RX0, "countClaimedBy", "(I)I"⟩
abbrev cX0_countClaimed : ByteArray := prog_2_method_9_code
def yX0_countClaimed : MethodName := ⟨RX0, "countClaimed", "()I"⟩
abbrev cX0_cellsClaimedBy : ByteArray := prog_2_method_10_code
def yX0_cellsClaimedBy : MethodName := ⟨RX0, "cellsClaimedBy", "(I)J"⟩
abbrev cX0_menBits : ByteArray := prog_2_method_11_code
def yX0_menBits : MethodName := ⟨RX0, "menBits", "()I"⟩
abbrev cX0_countMen : ByteArray := prog_2_method_12_code
def yX0_countMen : MethodName := ⟨RX0, "countMen", "()I"⟩
abbrev cX0_isThere : ByteArray := prog_2_method_13_code
def yX0_isThere : MethodName := ⟨RX0, "isThere", "(I)Z"⟩
abbrev cX0_welcome : ByteArray := prog_2_method_14_code
def yX0_welcome : MethodName := ⟨RX0, "welcome", "(II)V"⟩
abbrev cX0_farewell : ByteArray := prog_2_method_15_code
def yX0_farewell : MethodName := ⟨RX0, "farewell", "(I)V"⟩
abbrev cX0_forgetMan : ByteArray := prog_2_method_16_code
def yX0_forgetMan : MethodName := ⟨RX0, "forgetMan", "(I)V"⟩
abbrev cX0_tentOf : ByteArray := prog_2_method_17_code
def yX0_tentOf : MethodName := ⟨RX0, "tentOf", "(I)I"⟩
abbrev cX0_saltOf : ByteArray := prog_2_method_18_code
def yX0_saltOf : MethodName := ⟨RX0, "saltOf", "(I)I"⟩
abbrev cX0_allSalt : ByteArray := prog_2_method_19_code
def yX0_allSalt : MethodName := ⟨RX0, "allSalt", "()I"⟩
abbrev cX0_womansShare : ByteArray := prog_2_method_20_code
def yX0_womansShare : MethodName := ⟨RX0, "womansShare", "()I"⟩
abbrev cX0_knownTo : ByteArray := prog_2_method_21_code
def yX0_knownTo : MethodName := ⟨RX0, "knownTo", "(I)J"⟩
abbrev cX0_isKnownTo : ByteArray := prog_2_method_22_code
def yX0_isKnownTo : MethodName := ⟨RX0, "isKnownTo", "(II)Z"⟩
abbrev cX0_setKnown : ByteArray := prog_2_method_23_code
def yX0_setKnown : MethodName := ⟨RX0, "setKnown", "(IIZ)V"⟩
abbrev cX0_hasCold : ByteArray := prog_2_method_24_code
def yX0_hasCold : MethodName := ⟨RX0, "hasCold", "(I)Z"⟩
abbrev cX0_isWhistling : ByteArray := prog_2_method_25_code
def yX0_isWhistling : MethodName := ⟨RX0, "isWhistling", "(I)Z"⟩
abbrev cX0_snoreOf : ByteArray := prog_2_method_26_code
def yX0_snoreOf : MethodName := ⟨RX0, "snoreOf", "(I)I"⟩
abbrev cX0_snoreIf : ByteArray := prog_2_method_27_code
def yX0_snoreIf : MethodName := ⟨RX0, "snoreIf", "(IZ)I"⟩
abbrev cX0_listen : ByteArray := prog_2_method_28_code
def yX0_listen : MethodName := ⟨RX0, "listen", "()V"⟩
abbrev cX0_heardAt : ByteArray := prog_2_method_29_code
def yX0_heardAt : MethodName := ⟨RX0, "heardAt", "(I)I"⟩
abbrev cX0_heardWithout : ByteArray := prog_2_method_30_code
def yX0_heardWithout : MethodName := ⟨RX0, "heardWithout", "(II)I"⟩
abbrev cX0_heardByOthers : ByteArray := prog_2_method_31_code
def yX0_heardByOthers : MethodName := ⟨RX0, "heardByOthers", "(II)I"⟩
abbrev cX0_twiceShare : ByteArray := prog_2_method_32_code
def yX0_twiceShare : MethodName := ⟨RX0, "twiceShare", "(II)I"⟩
abbrev cX0_reasonAgainst : ByteArray := prog_2_method_33_code
def yX0_reasonAgainst : MethodName := ⟨RX0, "reasonAgainst", "(II)I"⟩
abbrev cX0_perform : ByteArray := prog_2_method_34_code
def yX0_perform : MethodName := ⟨RX0, "perform", "(II)V"⟩
abbrev cX0_stepFrom : ByteArray := prog_2_method_35_code
def yX0_stepFrom : MethodName := ⟨RX0, "stepFrom", "(II)I"⟩
abbrev cX0_passNight : ByteArray := prog_2_method_36_code
def yX0_passNight : MethodName := ⟨RX0, "passNight", "()V"⟩
def RX1 : String := "SnoresGold$Memory"
def TX1 : u_T := fun k => match k with
  | 0 => ("SnoresGold$Memory", "camp", "LSnoresGold$Camp;", true)
  | 1 => ("SnoresGold$Memory", "tales", "LSnoresGold$Tales;", true)
  | 2 => ("SnoresGold$Memory", "sights", "LSnoresGold$Sights;", true)
  | _ => ("SnoresGold$Memory", "kept", "Z", false)
def tyX1 : Nat → FieldType := fun k => match k with
  | 0 => .object "SnoresGold$Camp"
  | 1 => .object "SnoresGold$Tales"
  | 2 => .object "SnoresGold$Sights"
  | _ => .boolean
theorem nmX1 : ∀ a, a < 4 → ∀ b, b < 4 → a ≠ b → (TX1 a).2.1 ≠ (TX1 b).2.1 := by decide +kernel
theorem tyX1_ok : ∀ k, k < 4 → parseFieldDescriptor (TX1 k).2.2.1 = some (tyX1 k) := by decide +kernel
abbrev cX1_init : ByteArray := prog_3_method_1_code
def yX1_init : MethodName := ⟨RX1, "<init>", "()V"⟩
abbrev cX1_copyFrom : ByteArray := prog_3_method_2_code
def yX1_copyFrom : MethodName := ⟨RX1, "copyFrom", "(LSnoresGold$Memory;)V"⟩
abbrev cX1_markKept : ByteArray := prog_3_method_3_code
def yX1_markKept : MethodName := ⟨RX1, "markKept", "()V"⟩
abbrev cX1_isKept : ByteArray := prog_3_method_4_code
def yX1_isKept : MethodName := ⟨RX1, "isKept", "()Z"⟩
def RX2 : String := "SnoresGold$Pad"
def TX2 : u_T := fun k => match k with
  | 0 => ("SnoresGold$Pad", "signs", "[I", true)
  | _ => ("SnoresGold$Pad", "count", "I", false)
def tyX2 : Nat → FieldType := fun k => match k with
  | 0 => .array .int
  | _ => .int
theorem nmX2 : ∀ a, a < 2 → ∀ b, b < 2 → a ≠ b → (TX2 a).2.1 ≠ (TX2 b).2.1 := by decide +kernel
theorem tyX2_ok : ∀ k, k < 2 → parseFieldDescriptor (TX2 k).2.2.1 = some (tyX2 k) := by decide +kernel
abbrev cX2_init : ByteArray := prog_4_method_1_code
def yX2_init : MethodName := ⟨RX2, "<init>", "()V"⟩
abbrev cX2_size : ByteArray := prog_4_method_2_code
def yX2_size : MethodName := ⟨RX2, "size", "()I"⟩
abbrev cX2_clear : ByteArray := prog_4_method_3_code
def yX2_clear : MethodName := ⟨RX2, "clear", "()V"⟩
abbrev cX2_add : ByteArray := prog_4_method_4_code
def yX2_add : MethodName := ⟨RX2, "add", "(I)Z"⟩
abbrev cX2_signAt : ByteArray := prog_4_method_5_code
def yX2_signAt : MethodName := ⟨RX2, "signAt", "(I)I"⟩
abbrev cX2_firstFault : ByteArray := prog_4_method_6_code
def yX2_firstFault : MethodName := ⟨RX2, "firstFault", "()I"⟩
abbrev cX2_isNight : ByteArray := prog_4_method_7_code
def yX2_isNight : MethodName := ⟨RX2, "isNight", "(I)Z"⟩
abbrev cX2_manBy : ByteArray := prog_4_method_8_code
def yX2_manBy : MethodName := ⟨RX2, "manBy", "(I)I"⟩
abbrev cX2_deedBy : ByteArray := prog_4_method_9_code
def yX2_deedBy : MethodName := ⟨RX2, "deedBy", "(I)I"⟩
abbrev cX2_isDeedOfMan : ByteArray := prog_4_method_10_code
def yX2_isDeedOfMan : MethodName := ⟨RX2, "isDeedOfMan", "(I)Z"⟩
def RX3 : String := "SnoresGold$Sights"
def TX3 : u_T := fun k => match k with
  | 0 => ("SnoresGold$Sights", "fitting", "J", false)
  | _ => ("SnoresGold$Sights", "count", "I", false)
def tyX3 : Nat → FieldType := fun k => match k with
  | 0 => .long
  | _ => .int
theorem nmX3 : ∀ a, a < 2 → ∀ b, b < 2 → a ≠ b → (TX3 a).2.1 ≠ (TX3 b).2.1 := by decide +kernel
theorem tyX3_ok : ∀ k, k < 2 → parseFieldDescriptor (TX3 k).2.2.1 = some (tyX3 k) := by decide +kernel
abbrev cX3_init : ByteArray := prog_5_method_1_code
def yX3_init : MethodName := ⟨RX3, "<init>", "()V"⟩
abbrev cX3_copyFrom : ByteArray := prog_5_method_2_code
def yX3_copyFrom : MethodName := ⟨RX3, "copyFrom", "(LSnoresGold$Sights;)V"⟩
abbrev cX3_size : ByteArray := prog_5_method_3_code
def yX3_size : MethodName := ⟨RX3, "size", "()I"⟩
abbrev cX3_clear : ByteArray := prog_5_method_4_code
def yX3_clear : MethodName := ⟨RX3, "clear", "()V"⟩
abbrev cX3_add : ByteArray := prog_5_method_5_code
def yX3_add : MethodName := ⟨RX3, "add", "(IZ)Z"⟩
abbrev cX3_countFitting : ByteArray := prog_5_method_6_code
def yX3_countFitting : MethodName := ⟨RX3, "countFitting", "()I"⟩
abbrev cX3_countThrough : ByteArray := prog_5_method_7_code
def yX3_countThrough : MethodName := ⟨RX3, "countThrough", "(I)I"⟩
abbrev cX3_fittingAt : ByteArray := prog_5_method_8_code
def yX3_fittingAt : MethodName := ⟨RX3, "fittingAt", "(I)I"⟩
abbrev cX3_lodesThrough : ByteArray := prog_5_method_9_code
def yX3_lodesThrough : MethodName := ⟨RX3, "lodesThrough", "(I)J"⟩
def RX4 : String := "SnoresGold$Tales"
def TX4 : u_T := fun k => match k with
  | 0 => ("SnoresGold$Tales", "tellers", "[I", true)
  | 1 => ("SnoresGold$Tales", "cells", "[I", true)
  | 2 => ("SnoresGold$Tales", "toldGolden", "I", false)
  | _ => ("SnoresGold$Tales", "count", "I", false)
def tyX4 : Nat → FieldType := fun k => match k with
  | 0 => .array .int
  | 1 => .array .int
  | 2 => .int
  | _ => .int
theorem nmX4 : ∀ a, a < 4 → ∀ b, b < 4 → a ≠ b → (TX4 a).2.1 ≠ (TX4 b).2.1 := by decide +kernel
theorem tyX4_ok : ∀ k, k < 4 → parseFieldDescriptor (TX4 k).2.2.1 = some (tyX4 k) := by decide +kernel
abbrev cX4_init : ByteArray := prog_6_method_1_code
def yX4_init : MethodName := ⟨RX4, "<init>", "()V"⟩
abbrev cX4_copyFrom : ByteArray := prog_6_method_2_code
def yX4_copyFrom : MethodName := ⟨RX4, "copyFrom", "(LSnoresGold$Tales;)V"⟩
abbrev cX4_size : ByteArray := prog_6_method_3_code
def yX4_size : MethodName := ⟨RX4, "size", "()I"⟩
abbrev cX4_clear : ByteArray := prog_6_method_4_code
def yX4_clear : MethodName := ⟨RX4, "clear", "()V"⟩
abbrev cX4_add : ByteArray := prog_6_method_5_code
def yX4_add : MethodName := ⟨RX4, "add", "(IIZ)Z"⟩
abbrev cX4_fewestLiars : ByteArray := prog_6_method_6_code
def yX4_fewestLiars : MethodName := ⟨RX4, "fewestLiars", "()I"⟩
abbrev cX4_holdTogether : ByteArray := prog_6_method_7_code
def yX4_holdTogether : MethodName := ⟨RX4, "holdTogether", "(I)Z"⟩
abbrev cX4_isGoldBy : ByteArray := prog_6_method_8_code
def yX4_isGoldBy : MethodName := ⟨RX4, "isGoldBy", "(II)Z"⟩
def RX5 : String := "SnoresGold$Week"
def TX5 : u_T := fun k => match k with
  | 0 => ("SnoresGold$Week", "acts", "I", false)
  | 1 => ("SnoresGold$Week", "bad", "I", false)
  | 2 => ("SnoresGold$Week", "reason", "I", false)
  | 3 => ("SnoresGold$Week", "firstEmpty", "I", false)
  | _ => ("SnoresGold$Week", "empty", "I", false)
def tyX5 : Nat → FieldType := fun k => match k with
  | 0 => .int
  | 1 => .int
  | 2 => .int
  | 3 => .int
  | _ => .int
theorem nmX5 : ∀ a, a < 5 → ∀ b, b < 5 → a ≠ b → (TX5 a).2.1 ≠ (TX5 b).2.1 := by decide +kernel
theorem tyX5_ok : ∀ k, k < 5 → parseFieldDescriptor (TX5 k).2.2.1 = some (tyX5 k) := by decide +kernel
abbrev cX5_init : ByteArray := prog_7_method_1_code
def yX5_init : MethodName := ⟨RX5, "<init>", "()V"⟩
abbrev cX5_play : ByteArray := prog_7_method_2_code
def yX5_play : MethodName := ⟨RX5, "play", "(LSnoresGold$Pad;LSnoresGold$Camp;)V"⟩
abbrev cX5_act : ByteArray := prog_7_method_3_code
def yX5_act : MethodName := ⟨RX5, "act", "(LSnoresGold$Camp;II)V"⟩
abbrev cX5_countActs : ByteArray := prog_7_method_4_code
def yX5_countActs : MethodName := ⟨RX5, "countActs", "()I"⟩
abbrev cX5_badAct : ByteArray := prog_7_method_5_code
def yX5_badAct : MethodName := ⟨RX5, "badAct", "()I"⟩
abbrev cX5_badReason : ByteArray := prog_7_method_6_code
def yX5_badReason : MethodName := ⟨RX5, "badReason", "()I"⟩
abbrev cX5_firstEmptyClaim : ByteArray := prog_7_method_7_code
def yX5_firstEmptyClaim : MethodName := ⟨RX5, "firstEmptyClaim", "()I"⟩
abbrev cX5_countEmptyClaims : ByteArray := prog_7_method_8_code
def yX5_countEmptyClaims : MethodName := ⟨RX5, "countEmptyClaims", "()I"⟩
def RX6 : String := "SnoresGold"
def TX6 : u_T := fun k => match k with
  | 0 => ("SnoresGold", "now", "LSnoresGold$Memory;", true)
  | 1 => ("SnoresGold", "imageZero", "LSnoresGold$Memory;", true)
  | 2 => ("SnoresGold", "imageOne", "LSnoresGold$Memory;", true)
  | 3 => ("SnoresGold", "pad", "LSnoresGold$Pad;", true)
  | 4 => ("SnoresGold", "week", "LSnoresGold$Week;", true)
  | 5 => ("SnoresGold", "ahead", "LSnoresGold$Camp;", true)
  | 6 => ("SnoresGold", "digits", "[I", true)
  | 7 => ("SnoresGold", "leads", "[I", true)
  | 8 => ("SnoresGold", "heardCalm", "[I", true)
  | _ => ("SnoresGold", "heardCold", "[I", true)
def tyX6 : Nat → FieldType := fun k => match k with
  | 0 => .object "SnoresGold$Memory"
  | 1 => .object "SnoresGold$Memory"
  | 2 => .object "SnoresGold$Memory"
  | 3 => .object "SnoresGold$Pad"
  | 4 => .object "SnoresGold$Week"
  | 5 => .object "SnoresGold$Camp"
  | 6 => .array .int
  | 7 => .array .int
  | 8 => .array .int
  | _ => .array .int
theorem nmX6 : ∀ a, a < 10 → ∀ b, b < 10 → a ≠ b → (TX6 a).2.1 ≠ (TX6 b).2.1 := by decide +kernel
theorem tyX6_ok : ∀ k, k < 10 → parseFieldDescriptor (TX6 k).2.2.1 = some (tyX6 k) := by decide +kernel
abbrev cX6_init : ByteArray := prog_1_method_1_code
def yX6_init : MethodName := ⟨RX6, "<init>", "()V"⟩
abbrev cX6_gold : ByteArray := prog_1_method_2_code
def yX6_gold : MethodName := ⟨RX6, "gold", "(II)I"⟩
abbrev cX6_man : ByteArray := prog_1_method_3_code
def yX6_man : MethodName := ⟨RX6, "man", "(II)I"⟩
abbrev cX6_leave : ByteArray := prog_1_method_4_code
def yX6_leave : MethodName := ⟨RX6, "leave", "(I)I"⟩
abbrev cX6_know : ByteArray := prog_1_method_5_code
def yX6_know : MethodName := ⟨RX6, "know", "(IIZ)I"⟩
abbrev cX6_claim : ByteArray := prog_1_method_6_code
def yX6_claim : MethodName := ⟨RX6, "claim", "(II)I"⟩
abbrev cX6_say : ByteArray := prog_1_method_7_code
def yX6_say : MethodName := ⟨RX6, "say", "(I)I"⟩
abbrev cX6_wipe : ByteArray := prog_1_method_8_code
def yX6_wipe : MethodName := ⟨RX6, "wipe", "()I"⟩
abbrev cX6_fault : ByteArray := prog_1_method_9_code
def yX6_fault : MethodName := ⟨RX6, "fault", "()I"⟩
abbrev cX6_judge : ByteArray := prog_1_method_10_code
def yX6_judge : MethodName := ⟨RX6, "judge", "(I)I"⟩
abbrev cX6_behind : ByteArray := prog_1_method_11_code
def yX6_behind : MethodName := ⟨RX6, "behind", "(II)I"⟩
abbrev cX6_heard : ByteArray := prog_1_method_12_code
def yX6_heard : MethodName := ⟨RX6, "heard", "(I)I"⟩
abbrev cX6_whose : ByteArray := prog_1_method_13_code
def yX6_whose : MethodName := ⟨RX6, "whose", "(I)I"⟩
abbrev cX6_nothing : ByteArray := prog_1_method_14_code
def yX6_nothing : MethodName := ⟨RX6, "nothing", "(I)I"⟩
abbrev cX6_done : ByteArray := prog_1_method_15_code
def yX6_done : MethodName := ⟨RX6, "done", "()I"⟩
abbrev cX6_loudest : ByteArray := prog_1_method_16_code
def yX6_loudest : MethodName := ⟨RX6, "loudest", "(I)I"⟩
abbrev cX6_playWeeks : ByteArray := prog_1_method_17_code
def yX6_playWeeks : MethodName := ⟨RX6, "playWeeks", "()I"⟩
abbrev cX6_sleep : ByteArray := prog_1_method_18_code
def yX6_sleep : MethodName := ⟨RX6, "sleep", "(III)I"⟩
abbrev cX6_hide : ByteArray := prog_1_method_19_code
def yX6_hide : MethodName := ⟨RX6, "hide", "(III)I"⟩
abbrev cX6_tale : ByteArray := prog_1_method_20_code
def yX6_tale : MethodName := ⟨RX6, "tale", "(IIZ)I"⟩
abbrev cX6_hush : ByteArray := prog_1_method_21_code
def yX6_hush : MethodName := ⟨RX6, "hush", "()I"⟩
abbrev cX6_liars : ByteArray := prog_1_method_22_code
def yX6_liars : MethodName := ⟨RX6, "liars", "(I)I"⟩
abbrev cX6_leaves : ByteArray := prog_1_method_23_code
def yX6_leaves : MethodName := ⟨RX6, "leaves", "(I)I"⟩
abbrev cX6_refusalOfSteps : ByteArray := prog_1_method_24_code
def yX6_refusalOfSteps : MethodName := ⟨RX6, "refusalOfSteps", "(III)I"⟩
abbrev cX6_quietest : ByteArray := prog_1_method_25_code
def yX6_quietest : MethodName := ⟨RX6, "quietest", "(IIIZ)I"⟩
abbrev cX6_readDigits : ByteArray := prog_1_method_26_code
def yX6_readDigits : MethodName := ⟨RX6, "readDigits", "(I)V"⟩
abbrev cX6_digitAt : ByteArray := prog_1_method_27_code
def yX6_digitAt : MethodName := ⟨RX6, "digitAt", "(I)I"⟩
abbrev cX6_digitsAreTwos : ByteArray := prog_1_method_28_code
def yX6_digitsAreTwos : MethodName := ⟨RX6, "digitsAreTwos", "()Z"⟩
abbrev cX6_wouldRatherShare : ByteArray := prog_1_method_29_code
def yX6_wouldRatherShare : MethodName := ⟨RX6, "wouldRatherShare", "(II)Z"⟩
abbrev cX6_seen : ByteArray := prog_1_method_30_code
def yX6_seen : MethodName := ⟨RX6, "seen", "(IZ)I"⟩
abbrev cX6_forget : ByteArray := prog_1_method_31_code
def yX6_forget : MethodName := ⟨RX6, "forget", "()I"⟩
abbrev cX6_lodes : ByteArray := prog_1_method_32_code
def yX6_lodes : MethodName := ⟨RX6, "lodes", "(I)I"⟩
abbrev cX6_odds : ByteArray := prog_1_method_33_code
def yX6_odds : MethodName := ⟨RX6, "odds", "(II)J"⟩
abbrev cX6_next : ByteArray := prog_1_method_34_code
def yX6_next : MethodName := ⟨RX6, "next", "(I)I"⟩
abbrev cX6_turns : ByteArray := prog_1_method_35_code
def yX6_turns : MethodName := ⟨RX6, "turns", "(II)I"⟩
abbrev cX6_colds : ByteArray := prog_1_method_36_code
def yX6_colds : MethodName := ⟨RX6, "colds", "(IIII)J"⟩
abbrev cX6_year : ByteArray := prog_1_method_37_code
def yX6_year : MethodName := ⟨RX6, "year", "(III)I"⟩
abbrev cX6_image : ByteArray := prog_1_method_38_code
def yX6_image : MethodName := ⟨RX6, "image", "(I)I"⟩
abbrev cX6_restore : ByteArray := prog_1_method_39_code
def yX6_restore : MethodName := ⟨RX6, "restore", "(I)I"⟩
abbrev cX6_told : ByteArray := prog_1_method_40_code
def yX6_told : MethodName := ⟨RX6, "told", "(I)I"⟩
abbrev cX6_toldOfMan : ByteArray := prog_1_method_41_code
def yX6_toldOfMan : MethodName := ⟨RX6, "toldOfMan", "(II)I"⟩
abbrev cX6_toldOfCell : ByteArray := prog_1_method_42_code
def yX6_toldOfCell : MethodName := ⟨RX6, "toldOfCell", "(I)I"⟩
abbrev cX6_toldOfKnown : ByteArray := prog_1_method_43_code
def yX6_toldOfKnown : MethodName := ⟨RX6, "toldOfKnown", "(II)I"⟩
abbrev cX6_imageOf : ByteArray := prog_1_method_44_code
def yX6_imageOf : MethodName := ⟨RX6, "imageOf", "(I)LSnoresGold$Memory;"⟩
abbrev cX6_leadAt : ByteArray := prog_1_method_45_code
def yX6_leadAt : MethodName := ⟨RX6, "leadAt", "(I)I"⟩
abbrev cX6_findLeads : ByteArray := prog_1_method_46_code
def yX6_findLeads : MethodName := ⟨RX6, "findLeads", "(I)V"⟩
abbrev cX6_hearWithAndWithoutCold : ByteArray := prog_1_method_47_code
def yX6_hearWithAndWithoutCold : MethodName := ⟨RX6, "hearWithAndWithoutCold", "(I)V"⟩
abbrev cX6_heardIfSick : ByteArray := prog_1_method_48_code
def yX6_heardIfSick : MethodName := ⟨RX6, "heardIfSick", "(II)I"⟩
abbrev cX6_weightOf : ByteArray := prog_1_method_49_code
def yX6_weightOf : MethodName := ⟨RX6, "weightOf", "(III)J"⟩
abbrev cX6_power : ByteArray := prog_1_method_50_code
def yX6_power : MethodName := ⟨RX6, "power", "(II)J"⟩
abbrev cX6_partOfFraction : ByteArray := prog_1_method_51_code
def yX6_partOfFraction : MethodName := ⟨RX6, "partOfFraction", "(JJI)J"⟩
abbrev cX6_greatestDivisor : ByteArray := prog_1_method_52_code
def yX6_greatestDivisor : MethodName := ⟨RX6, "greatestDivisor", "(JJ)J"⟩
abbrev cX6_isWithin : ByteArray := prog_1_method_53_code
def yX6_isWithin : MethodName := ⟨RX6, "isWithin", "(III)Z"⟩
abbrev cX6_isZeroOrOne : ByteArray := prog_1_method_54_code
def yX6_isZeroOrOne : MethodName := ⟨RX6, "isZeroOrOne", "(I)Z"⟩
abbrev cX6_isCell : ByteArray := prog_1_method_55_code
def yX6_isCell : MethodName := ⟨RX6, "isCell", "(I)Z"⟩
abbrev cX6_isManNumber : ByteArray := prog_1_method_56_code
def yX6_isManNumber : MethodName := ⟨RX6, "isManNumber", "(I)Z"⟩
abbrev cX6_hasBit : ByteArray := prog_1_method_57_code
def yX6_hasBit : MethodName := ⟨RX6, "hasBit", "(II)Z"⟩
abbrev cX6_columnOf : ByteArray := prog_1_method_58_code
def yX6_columnOf : MethodName := ⟨RX6, "columnOf", "(I)I"⟩
abbrev cX6_rowOf : ByteArray := prog_1_method_59_code
def yX6_rowOf : MethodName := ⟨RX6, "rowOf", "(I)I"⟩
abbrev cX6_distance : ByteArray := prog_1_method_60_code
def yX6_distance : MethodName := ⟨RX6, "distance", "(II)I"⟩
def RX7 : String := "SnoresGoldModel"
def TX7 : u_T := fun k => match k with
  | 0 => ("SnoresGoldModel", "ore", "[I", true)
  | 1 => ("SnoresGoldModel", "owner", "[I", true)
  | 2 => ("SnoresGoldModel", "men", "I", false)
  | 3 => ("SnoresGoldModel", "tent", "[I", true)
  | 4 => ("SnoresGoldModel", "knows", "[J", true)
  | 5 => ("SnoresGoldModel", "cold", "[I", true)
  | 6 => ("SnoresGoldModel", "whistles", "[I", true)
  | 7 => ("SnoresGoldModel", "salt", "[I", true)
  | 8 => ("SnoresGoldModel", "taleMan", "[I", true)
  | 9 => ("SnoresGoldModel", "taleCell", "[I", true)
  | 10 => ("SnoresGoldModel", "taleGold", "[I", true)
  | 11 => ("SnoresGoldModel", "tales", "I", false)
  | 12 => ("SnoresGoldModel", "sightCell", "[I", true)
  | 13 => ("SnoresGoldModel", "sightIs", "[I", true)
  | 14 => ("SnoresGoldModel", "sights", "I", false)
  | 15 => ("SnoresGoldModel", "pad", "[I", true)
  | 16 => ("SnoresGoldModel", "padMany", "I", false)
  | 17 => ("SnoresGoldModel", "act", "[I", true)
  | 18 => ("SnoresGoldModel", "who", "[I", true)
  | 19 => ("SnoresGoldModel", "way", "[I", true)
  | 20 => ("SnoresGoldModel", "acts", "I", false)
  | 21 => ("SnoresGoldModel", "womans", "I", false)
  | 22 => ("SnoresGoldModel", "firstNothing", "I", false)
  | 23 => ("SnoresGoldModel", "nothingMany", "I", false)
  | 24 => ("SnoresGoldModel", "actNow", "I", false)
  | 25 => ("SnoresGoldModel", "had", "[I", true)
  | 26 => ("SnoresGoldModel", "hadKnown", "[J", true)
  | 27 => ("SnoresGoldModel", "badAct", "I", false)
  | 28 => ("SnoresGoldModel", "badWhy", "I", false)
  | 29 => ("SnoresGoldModel", "with", "[I", true)
  | 30 => ("SnoresGoldModel", "digit", "[I", true)
  | 31 => ("SnoresGoldModel", "more", "[I", true)
  | 32 => ("SnoresGoldModel", "kept", "[I", true)
  | 33 => ("SnoresGoldModel", "keptKnown", "[J", true)
  | 34 => ("SnoresGoldModel", "isKept", "[Z", true)
  | 35 => ("SnoresGoldModel", "keptAt", "I", false)
  | _ => ("SnoresGoldModel", "isWriting", "Z", false)
def tyX7 : Nat → FieldType := fun k => match k with
  | 0 => .array .int
  | 1 => .array .int
  | 2 => .int
  | 3 => .array .int
  | 4 => .array .long
  | 5 => .array .int
  | 6 => .array .int
  | 7 => .array .int
  | 8 => .array .int
  | 9 => .array .int
  | 10 => .array .int
  | 11 => .int
  | 12 => .array .int
  | 13 => .array .int
  | 14 => .int
  | 15 => .array .int
  | 16 => .int
  | 17 => .array .int
  | 18 => .array .int
  | 19 => .array .int
  | 20 => .int
  | 21 => .int
  | 22 => .int
  | 23 => .int
  | 24 => .int
  | 25 => .array .int
  | 26 => .array .long
  | 27 => .int
  | 28 => .int
  | 29 => .array .int
  | 30 => .array .int
  | 31 => .array .int
  | 32 => .array .int
  | 33 => .array .long
  | 34 => .array .boolean
  | 35 => .int
  | _ => .boolean
theorem nmX7 : ∀ a, a < 37 → ∀ b, b < 37 → a ≠ b → (TX7 a).2.1 ≠ (TX7 b).2.1 := by decide +kernel
theorem tyX7_ok : ∀ k, k < 37 → parseFieldDescriptor (TX7 k).2.2.1 = some (tyX7 k) := by decide +kernel
abbrev cX7_init : ByteArray := prog_9_method_1_code
def yX7_init : MethodName := ⟨RX7, "<init>", "()V"⟩
abbrev cX7_in : ByteArray := prog_9_method_3_code
def yX7_in : MethodName := ⟨RX7, "in", "(JJJ)Z"⟩
abbrev cX7_ones : ByteArray := prog_9_method_4_code
def yX7_ones : MethodName := ⟨RX7, "ones", "(I)I"⟩
abbrev cX7_over : ByteArray := prog_9_method_5_code
def yX7_over : MethodName := ⟨RX7, "over", "(I)I"⟩
abbrev cX7_isCell : ByteArray := prog_9_method_6_code
def yX7_isCell : MethodName := ⟨RX7, "isCell", "(I)Z"⟩
abbrev cX7_apart : ByteArray := prog_9_method_7_code
def yX7_apart : MethodName := ⟨RX7, "apart", "(II)I"⟩
abbrev cX7_isMan : ByteArray := prog_9_method_8_code
def yX7_isMan : MethodName := ⟨RX7, "isMan", "(I)Z"⟩
abbrev cX7_isKnown : ByteArray := prog_9_method_9_code
def yX7_isKnown : MethodName := ⟨RX7, "isKnown", "(II)Z"⟩
abbrev cX7_gold : ByteArray := prog_9_method_10_code
def yX7_gold : MethodName := ⟨RX7, "gold", "(II)I"⟩
abbrev cX7_man : ByteArray := prog_9_method_11_code
def yX7_man : MethodName := ⟨RX7, "man", "(II)I"⟩
abbrev cX7_leave : ByteArray := prog_9_method_12_code
def yX7_leave : MethodName := ⟨RX7, "leave", "(I)I"⟩
abbrev cX7_know : ByteArray := prog_9_method_13_code
def yX7_know : MethodName := ⟨RX7, "know", "(IIZ)I"⟩
abbrev cX7_knownBy : ByteArray := prog_9_method_14_code
def yX7_knownBy : MethodName := ⟨RX7, "knownBy", "(I)I"⟩
abbrev cX7_claimedBy : ByteArray := prog_9_method_15_code
def yX7_claimedBy : MethodName := ⟨RX7, "claimedBy", "(I)I"⟩
abbrev cX7_claimedCells : ByteArray := prog_9_method_16_code
def yX7_claimedCells : MethodName := ⟨RX7, "claimedCells", "()I"⟩
abbrev cX7_claim : ByteArray := prog_9_method_17_code
def yX7_claim : MethodName := ⟨RX7, "claim", "(II)I"⟩
abbrev cX7_say : ByteArray := prog_9_method_18_code
def yX7_say : MethodName := ⟨RX7, "say", "(I)I"⟩
abbrev cX7_wipe : ByteArray := prog_9_method_19_code
def yX7_wipe : MethodName := ⟨RX7, "wipe", "()I"⟩
abbrev cX7_close : ByteArray := prog_9_method_20_code
def yX7_close : MethodName := ⟨RX7, "close", "(II)I"⟩
abbrev cX7_deed : ByteArray := prog_9_method_21_code
def yX7_deed : MethodName := ⟨RX7, "deed", "(I)I"⟩
abbrev cX7_readOn : ByteArray := prog_9_method_22_code
def yX7_readOn : MethodName := ⟨RX7, "readOn", "(II)I"⟩
abbrev cX7_fault : ByteArray := prog_9_method_23_code
def yX7_fault : MethodName := ⟨RX7, "fault", "()I"⟩
abbrev cX7_eastBy : ByteArray := prog_9_method_24_code
def yX7_eastBy : MethodName := ⟨RX7, "eastBy", "(I)I"⟩
abbrev cX7_northBy : ByteArray := prog_9_method_25_code
def yX7_northBy : MethodName := ⟨RX7, "northBy", "(I)I"⟩
abbrev cX7_canGo : ByteArray := prog_9_method_26_code
def yX7_canGo : MethodName := ⟨RX7, "canGo", "(II)Z"⟩
abbrev cX7_whyNot : ByteArray := prog_9_method_27_code
def yX7_whyNot : MethodName := ⟨RX7, "whyNot", "(III)I"⟩
abbrev cX7_claimHere : ByteArray := prog_9_method_28_code
def yX7_claimHere : MethodName := ⟨RX7, "claimHere", "(I)V"⟩
abbrev cX7_passNight : ByteArray := prog_9_method_29_code
def yX7_passNight : MethodName := ⟨RX7, "passNight", "()V"⟩
abbrev cX7_happen : ByteArray := prog_9_method_30_code
def yX7_happen : MethodName := ⟨RX7, "happen", "(III)V"⟩
abbrev cX7_keepNow : ByteArray := prog_9_method_31_code
def yX7_keepNow : MethodName := ⟨RX7, "keepNow", "()V"⟩
abbrev cX7_back : ByteArray := prog_9_method_32_code
def yX7_back : MethodName := ⟨RX7, "back", "(I)I"⟩
abbrev cX7_goWeeks : ByteArray := prog_9_method_33_code
def yX7_goWeeks : MethodName := ⟨RX7, "goWeeks", "()V"⟩
abbrev cX7_refusal : ByteArray := prog_9_method_34_code
def yX7_refusal : MethodName := ⟨RX7, "refusal", "()I"⟩
abbrev cX7_judge : ByteArray := prog_9_method_35_code
def yX7_judge : MethodName := ⟨RX7, "judge", "(I)I"⟩
abbrev cX7_snoreBy : ByteArray := prog_9_method_36_code
def yX7_snoreBy : MethodName := ⟨RX7, "snoreBy", "(II)I"⟩
abbrev cX7_snore : ByteArray := prog_9_method_37_code
def yX7_snore : MethodName := ⟨RX7, "snore", "(I)I"⟩
abbrev cX7_heardAt : ByteArray := prog_9_method_38_code
def yX7_heardAt : MethodName := ⟨RX7, "heardAt", "(II)I"⟩
abbrev cX7_ofMan : ByteArray := prog_9_method_39_code
def yX7_ofMan : MethodName := ⟨RX7, "ofMan", "(II)I"⟩
abbrev cX7_behind : ByteArray := prog_9_method_40_code
def yX7_behind : MethodName := ⟨RX7, "behind", "(II)I"⟩
abbrev cX7_heard : ByteArray := prog_9_method_41_code
def yX7_heard : MethodName := ⟨RX7, "heard", "(I)I"⟩
abbrev cX7_whose : ByteArray := prog_9_method_42_code
def yX7_whose : MethodName := ⟨RX7, "whose", "(I)I"⟩
abbrev cX7_nothing : ByteArray := prog_9_method_43_code
def yX7_nothing : MethodName := ⟨RX7, "nothing", "(I)I"⟩
abbrev cX7_done : ByteArray := prog_9_method_44_code
def yX7_done : MethodName := ⟨RX7, "done", "()I"⟩
abbrev cX7_loudest : ByteArray := prog_9_method_45_code
def yX7_loudest : MethodName := ⟨RX7, "loudest", "(I)I"⟩
abbrev cX7_givenAway : ByteArray := prog_9_method_46_code
def yX7_givenAway : MethodName := ⟨RX7, "givenAway", "(II)I"⟩
abbrev cX7_quietAt : ByteArray := prog_9_method_47_code
def yX7_quietAt : MethodName := ⟨RX7, "quietAt", "(IIZ)I"⟩
abbrev cX7_quietest : ByteArray := prog_9_method_48_code
def yX7_quietest : MethodName := ⟨RX7, "quietest", "(IIIZ)I"⟩
abbrev cX7_sleep : ByteArray := prog_9_method_49_code
def yX7_sleep : MethodName := ⟨RX7, "sleep", "(III)I"⟩
abbrev cX7_hide : ByteArray := prog_9_method_50_code
def yX7_hide : MethodName := ⟨RX7, "hide", "(III)I"⟩
abbrev cX7_tale : ByteArray := prog_9_method_51_code
def yX7_tale : MethodName := ⟨RX7, "tale", "(IIZ)I"⟩
abbrev cX7_hush : ByteArray := prog_9_method_52_code
def yX7_hush : MethodName := ⟨RX7, "hush", "()I"⟩
abbrev cX7_meant : ByteArray := prog_9_method_53_code
def yX7_meant : MethodName := ⟨RX7, "meant", "(II)I"⟩
abbrev cX7_canBe : ByteArray := prog_9_method_54_code
def yX7_canBe : MethodName := ⟨RX7, "canBe", "(I)Z"⟩
abbrev cX7_liars : ByteArray := prog_9_method_55_code
def yX7_liars : MethodName := ⟨RX7, "liars", "(I)I"⟩
abbrev cX7_goldOf : ByteArray := prog_9_method_56_code
def yX7_goldOf : MethodName := ⟨RX7, "goldOf", "(J)I"⟩
abbrev cX7_areTwos : ByteArray := prog_9_method_57_code
def yX7_areTwos : MethodName := ⟨RX7, "areTwos", "(I)Z"⟩
abbrev cX7_halves : ByteArray := prog_9_method_58_code
def yX7_halves : MethodName := ⟨RX7, "halves", "(II)I"⟩
abbrev cX7_wouldLeave : ByteArray := prog_9_method_59_code
def yX7_wouldLeave : MethodName := ⟨RX7, "wouldLeave", "(II)Z"⟩
abbrev cX7_leaves : ByteArray := prog_9_method_60_code
def yX7_leaves : MethodName := ⟨RX7, "leaves", "(I)I"⟩
abbrev cX7_isOn : ByteArray := prog_9_method_61_code
def yX7_isOn : MethodName := ⟨RX7, "isOn", "(II)Z"⟩
abbrev cX7_seen : ByteArray := prog_9_method_62_code
def yX7_seen : MethodName := ⟨RX7, "seen", "(IZ)I"⟩
abbrev cX7_forget : ByteArray := prog_9_method_63_code
def yX7_forget : MethodName := ⟨RX7, "forget", "()I"⟩
abbrev cX7_fits : ByteArray := prog_9_method_64_code
def yX7_fits : MethodName := ⟨RX7, "fits", "(I)Z"⟩
abbrev cX7_lodes : ByteArray := prog_9_method_65_code
def yX7_lodes : MethodName := ⟨RX7, "lodes", "(I)I"⟩
abbrev cX7_lowest : ByteArray := prog_9_method_66_code
def yX7_lowest : MethodName := ⟨RX7, "lowest", "(JJI)J"⟩
abbrev cX7_linesOn : ByteArray := prog_9_method_67_code
def yX7_linesOn : MethodName := ⟨RX7, "linesOn", "(I)I"⟩
abbrev cX7_odds : ByteArray := prog_9_method_68_code
def yX7_odds : MethodName := ⟨RX7, "odds", "(II)J"⟩
abbrev cX7_next : ByteArray := prog_9_method_69_code
def yX7_next : MethodName := ⟨RX7, "next", "(I)I"⟩
abbrev cX7_leftEnd : ByteArray := prog_9_method_70_code
def yX7_leftEnd : MethodName := ⟨RX7, "leftEnd", "(II)I"⟩
abbrev cX7_rightEnd : ByteArray := prog_9_method_71_code
def yX7_rightEnd : MethodName := ⟨RX7, "rightEnd", "(II)I"⟩
abbrev cX7_turns : ByteArray := prog_9_method_72_code
def yX7_turns : MethodName := ⟨RX7, "turns", "(II)I"⟩
abbrev cX7_heardBy : ByteArray := prog_9_method_73_code
def yX7_heardBy : MethodName := ⟨RX7, "heardBy", "(II)I"⟩
abbrev cX7_colds : ByteArray := prog_9_method_74_code
def yX7_colds : MethodName := ⟨RX7, "colds", "(IIII)J"⟩
abbrev cX7_year : ByteArray := prog_9_method_75_code
def yX7_year : MethodName := ⟨RX7, "year", "(III)I"⟩
abbrev cX7_pass : ByteArray := prog_9_method_76_code
def yX7_pass : MethodName := ⟨RX7, "pass", "(I)I"⟩
abbrev cX7_passRow : ByteArray := prog_9_method_77_code
def yX7_passRow : MethodName := ⟨RX7, "passRow", "([II)V"⟩
abbrev cX7_passAll : ByteArray := prog_9_method_78_code
def yX7_passAll : MethodName := ⟨RX7, "passAll", "(I)V"⟩
abbrev cX7_image : ByteArray := prog_9_method_79_code
def yX7_image : MethodName := ⟨RX7, "image", "(I)I"⟩
abbrev cX7_restore : ByteArray := prog_9_method_80_code
def yX7_restore : MethodName := ⟨RX7, "restore", "(I)I"⟩
abbrev cX7_toldOf : ByteArray := prog_9_method_81_code
def yX7_toldOf : MethodName := ⟨RX7, "toldOf", "(II)I"⟩
abbrev cX7_told : ByteArray := prog_9_method_82_code
def yX7_told : MethodName := ⟨RX7, "told", "(I)I"⟩
def RJ6 : String := "java/lang/Integer"
abbrev cJ6_bitCount_0f7a4 : ByteArray := prog_10_method_49_code
def yJ6_bitCount_0f7a4 : MethodName := ⟨RJ6, "bitCount", "(I)I"⟩
def RJ13 : String := "java/lang/Long"
abbrev cJ13_bitCount_95d88 : ByteArray := prog_11_method_50_code
def yJ13_bitCount_95d88 : MethodName := ⟨RJ13, "bitCount", "(J)I"⟩
def RJ9 : String := "java/lang/Math"
abbrev cJ9_abs_0f7a4 : ByteArray := prog_12_method_59_code
def yJ9_abs_0f7a4 : MethodName := ⟨RJ9, "abs", "(I)I"⟩
abbrev cJ9_max_7cf53 : ByteArray := prog_12_method_65_code
def yJ9_max_7cf53 : MethodName := ⟨RJ9, "max", "(II)I"⟩
abbrev cJ9_min_7cf53 : ByteArray := prog_12_method_69_code
def yJ9_min_7cf53 : MethodName := ⟨RJ9, "min", "(II)I"⟩
def RJ10 : String := "java/lang/System"
def RL : String := "SnoresGoldLaw"
abbrev cL_law : ByteArray := code
def yL_law : MethodName := ⟨RL, "law", "([I)Z"⟩
abbrev vwCl : List vw_C := [(RX0, TX0, 10), (RX1, TX1, 4), (RX2, TX2, 2), (RX3, TX3, 2), (RX4, TX4, 4), (RX5, TX5, 5), (RX6, TX6, 10), (RX7, TX7, 37)]
end
section
/-! THE WORDS: those of the tables that are kept through calls -/
def gt : List Cond := lw_tbl.filter goodWord
theorem gt_good {w : Cond} (h : w ∈ gt) : goodWord w = true := (List.mem_filter.mp h).2
theorem gt_tbl {w : Cond} (h : w ∈ gt) : w ∈ lw_tbl := (List.mem_filter.mp h).1
theorem gt_in {w : Cond} (h : w ∈ tables_1) (g : goodWord w = true) : w ∈ gt := List.mem_filter.mpr ⟨List.mem_append_right _ h, g⟩
theorem gt1 {w : Cond} {i : Nat} (h : tables_1_1[i]? = some w) (g : goodWord w = true) : w ∈ gt := gt_in (List.mem_append_left _ (List.mem_of_getElem? h)) g
theorem gt2 {w : Cond} {i : Nat} (h : tables_1_2[i]? = some w) (g : goodWord w = true) : w ∈ gt := gt_in (List.mem_append_right _ (List.mem_append_left _ (List.mem_of_getElem? h))) g
theorem gt3 {w : Cond} {i : Nat} (h : tables_1_3[i]? = some w) (g : goodWord w = true) : w ∈ gt := gt_in (List.mem_append_right _ (List.mem_append_right _ (List.mem_append_left _ (List.mem_of_getElem? h)))) g
theorem gt4 {w : Cond} {i : Nat} (h : tables_1_4[i]? = some w) (g : goodWord w = true) : w ∈ gt := gt_in (List.mem_append_right _ (List.mem_append_right _ (List.mem_append_right _ (List.mem_append_left _ (List.mem_of_getElem? h))))) g
theorem gt5 {w : Cond} {i : Nat} (h : tables_1_5[i]? = some w) (g : goodWord w = true) : w ∈ gt := gt_in (List.mem_append_right _ (List.mem_append_right _ (List.mem_append_right _ (List.mem_append_right _ (List.mem_append_left _ (List.mem_of_getElem? h)))))) g
theorem gt6 {w : Cond} {i : Nat} (h : tables_1_6[i]? = some w) (g : goodWord w = true) : w ∈ gt := gt_in (List.mem_append_right _ (List.mem_append_right _ (List.mem_append_right _ (List.mem_append_right _ (List.mem_append_right _ (List.mem_of_getElem? h)))))) g
theorem gtp {w : Cond} {i : Nat} (h : (k2_sels lw_privs)[i]? = some w) (g : goodWord w = true) : w ∈ gt := List.mem_filter.mpr ⟨List.mem_append_left _ (List.mem_of_getElem? h), g⟩
/-! THE CORE: a small machine over a fixed world of 76 cells, named by their places; Ct: a method's contract over it; WW: the walk of a body over it -/
abbrev Wd : Type := Nat → va_E
def vv (ad : Nat → Nat) : Value → Value
  | .ref k => .ref (ad k)
  | .int x => .int x
  | .long x => .long x
  | .float x => .float x
  | .double x => .double x
  | .null => .null
  | .retAddr x => .retAddr x
theorem vv_cat (ad : Nat → Nat) (v : Value) : (vv ad v).category = v.category := by cases v <;> rfl
theorem vv_null {ad : Nat → Nat} {v : Value} (h : v ≠ .null) : vv ad v ≠ .null := by cases v <;> simp_all [vv]
def ce (ad : Nat → Nat) (ck : Nat → ClassId) : va_E → va_E
  | .inl (k, x) => .inl (ck k, x)
  | .inr (c, fs) => .inr (c, fs.map (vv ad))
def mkw (ad : Nat → Nat) (ck : Nat → ClassId) (h : Wd) : va_W := (List.range 76).map (fun k => (ad k, ce ad ck (h k)))
theorem mkw_get {ad : Nat → Nat} {ck : Nat → ClassId} {h : Wd} {k : Nat} (hk : k < 76) : (mkw ad ck h)[k]? = some (ad k, ce ad ck (h k)) := by
  simp [mkw, hk]
theorem mkw_of {ad : Nat → Nat} {ck : Nat → ClassId} {h : Wd} {k : Nat} {q : Nat × va_E} (hq : (mkw ad ck h)[k]? = some q) : k < 76 ∧ q = (ad k, ce ad ck (h k)) := by
  by_cases hk : k < 76
  · rw [mkw_get hk] at hq
    exact ⟨hk, (Option.some.inj hq).symm⟩
  · exfalso
    have hl : (mkw ad ck h).length = 76 := by simp [mkw]
    have := (List.getElem?_eq_some_iff.mp hq).1
    omega
theorem mkw_set {ad : Nat → Nat} {ck : Nat → ClassId} {h : Wd} {k : Nat} (e : va_E) (hk : k < 76) : (mkw ad ck h).set k (ad k, ce ad ck e) = mkw ad ck (va_up h k e) := by
  apply List.ext_getElem?
  intro j
  by_cases hj : j = k
  · subst hj
    rw [mkw_get hk, List.getElem?_set_self (by simp [mkw, hk]), va_up_self]
  · rw [List.getElem?_set_ne (Ne.symm hj)]
    by_cases h2 : j < 76
    · rw [mkw_get h2, mkw_get h2, va_up_ne _ _ hj]
    · rw [List.getElem?_eq_none (by simp [mkw]; omega), List.getElem?_eq_none (by simp [mkw]; omega)]
def Aof (ad : Nat → Nat) : Nat → Prop := fun q => ∃ k, k < 76 ∧ q = ad k
def Inj (ad : Nat → Nat) : Prop := ∀ i j, i < 76 → j < 76 → ad i = ad j → i = j
theorem mkw_D {ad : Nat → Nat} {ck : Nat → ClassId} {h : Wd} (hi : Inj ad) : va_D (Aof ad) (mkw ad ck h) := by
  refine ⟨fun i j x y hx hy hxy => ?_, fun k q hq => ?_⟩
  · obtain ⟨h1, e1⟩ := mkw_of hx
    obtain ⟨h2, e2⟩ := mkw_of hy
    subst e1; subst e2
    exact hi i j h1 h2 hxy
  · obtain ⟨h1, e1⟩ := mkw_of hq
    subst e1
    exact ⟨k, h1, rfl⟩
abbrev tysOf (ck : Nat → ClassId) : List (ClassId × FieldType) := [(ck 0, .int), (ck 1, .long), (ck 2, .boolean)]
/-- the private members of nest mates that are linked -/
def nestF : List (String × Nat × String × String × String × String) := [(RX6, 64, "SnoresGold$Memory", "camp", "LSnoresGold$Camp;", "SnoresGold"), (RX6, 185, "SnoresGold$Memory", "tales", "LSnoresGold$Tales;", "SnoresGold"), (RX6, 231, "SnoresGold$Memory", "sights", "LSnoresGold$Sights;", "SnoresGold"), (RX2, 36, "SnoresGold", "DEED_SIGNS", "[C", "SnoresGold")]
def nestM : List (String × Nat × MethodName × String) := [(RX6, 31, yX5_init, "SnoresGold"), (RX0, 50, yX6_isCell, "SnoresGold"), (RX0, 76, yX6_isManNumber, "SnoresGold"), (RX0, 72, yX6_hasBit, "SnoresGold"), (RX2, 33, yX6_isManNumber, "SnoresGold"), (RX0, 145, yX6_rowOf, "SnoresGold"), (RX0, 148, yX6_columnOf, "SnoresGold"), (RX0, 116, yX6_distance, "SnoresGold"), (RX4, 45, yX6_hasBit, "SnoresGold"), (RX3, 33, yX6_columnOf, "SnoresGold"), (RX3, 37, yX6_rowOf, "SnoresGold")]
def NST (s : State) : Prop := (∀ q ∈ nestF, va_Nw (.fieldLinkNest q.1 q.2.1 q.2.2.1 q.2.2.2.1 q.2.2.2.2.1 q.2.2.2.2.2) s) ∧ (∀ q ∈ nestM, va_Nw (.methodLinkNest q.1 q.2.1 q.2.2.1 q.2.2.2) s)
theorem NST.warm {s U : State} (hW : s.WarmedH U.vm) (h : NST s) : NST U := ⟨fun q hq => va_Nw.warmF hW (h.1 q hq), fun q hq => va_Nw.warmM hW (h.2 q hq)⟩
theorem NST.same {s U : State} (e : s.vm = U.vm) (h : NST s) : NST U := ⟨fun q hq => va_Nw.same rfl e (h.1 q hq), fun q hq => va_Nw.same rfl e (h.2 q hq)⟩
/-- the static row of the deeds' signs; its place is 99 -/
def dsg (j : Nat) : Int32 := match j with
  | 0 => 110
  | 1 => 101
  | 2 => 115
  | 3 => 119
  | 4 => 100
  | 5 => 99
  | 6 => 46
  | 7 => 42
  | _ => 126
def ZST (ad : Nat → Nat) (s : State) (H : Heap) : Prop := va_Z "SnoresGold" "DEED_SIGNS" "[C" (.ref (ad 99)) (Aof ad) s H ∧ va_T .char (ad 99) 9 (fun j => .int (dsg j)) (Aof ad) s H
def IV (D : va_G) (ad : Nat → Nat) (ck : Nat → ClassId) (h : Wd) (U : State) : Prop := va_P D vwCl (mkw ad ck h) U.heap ∧ va_K D vwCl (tysOf ck) U ∧ NST U ∧ ZST ad U U.heap
/-- a method: name, bytes, locals, return type, parameters, room -/
abbrev MI : Type := MethodName × ByteArray × Nat × Option FieldType × Nat × Nat × Nat
abbrev my (q : MI) : MethodName := q.1
abbrev mb (q : MI) : ByteArray := q.2.1
abbrev mn (q : MI) : Nat := q.2.2.1
abbrev mr (q : MI) : Option FieldType := q.2.2.2.1
abbrev mp (q : MI) : Nat := q.2.2.2.2.1
abbrev mf (q : MI) : Nat := q.2.2.2.2.2.1
abbrev mo (q : MI) : Nat := q.2.2.2.2.2.2
abbrev rmM (q : MI) : Room := { frames := mf q, cells := 0, slots := 0, locals := mo q }
abbrev wsM (q : MI) : List Cond := .code (my q) (mb q) (mn q) (mr q) :: gt
def Qc (D : va_G) (ad : Nat → Nat) (ck : Nat → ClassId) (r : Option Value) (h' : Wd) : Array Value → State → Outcome → State → Prop := fun _ st oc t => (oc = .returned (r.map (vv ad)) ∧ IV D ad ck h' t) ∧ va_F (Aof ad) st t
/-- a method's contract over the world of places -/
def Ct (q : MI) (as : List Value) (h : Wd) (r : Option Value) (h' : Wd) : Prop := ∀ (l : Launch) (D : va_G) (ad : Nat → Nat) (ck : Nat → ClassId), Inj ad → Met l (my q) (wsM q) (rmM q) (va_Pc (as.map (vv ad)) (IV D ad ck h)) (Qc D ad ck r h') 0 0 (Aof ad)
def asc : Nat → List Value → List (Nat × Value)
  | _, [] => []
  | i, v :: t => if v = .null then asc (i + 1) t else (i, v) :: asc (i + 1) t
theorem asc_mem {w : Value} {j : Nat} : ∀ {L : List Value} {i : Nat}, (j, w) ∈ asc i L ↔ w ≠ .null ∧ ∃ k, L[k]? = some w ∧ j = i + k := by
  intro L
  induction L with
  | nil => intro i; simp [asc]
  | cons v t ih =>
    intro i
    have key : (∃ k, (v :: t)[k]? = some w ∧ j = i + k) ↔ (w = v ∧ j = i) ∨ ∃ k, t[k]? = some w ∧ j = i + 1 + k := by
      constructor
      · rintro ⟨k, h1, h2⟩
        cases k with
        | zero => exact Or.inl ⟨(Option.some.inj h1).symm, by omega⟩
        | succ k => exact Or.inr ⟨k, by simpa using h1, by omega⟩
      · rintro (⟨h1, h2⟩ | ⟨k, h1, h2⟩)
        · exact ⟨0, by simp [h1], by omega⟩
        · exact ⟨k + 1, by simpa using h1, by omega⟩
    rw [key]
    by_cases hv : v = .null
    · rw [asc, if_pos hv, ih]
      constructor
      · rintro ⟨a, b⟩; exact ⟨a, Or.inr b⟩
      · rintro ⟨a, ⟨b, -⟩ | b⟩
        · exact absurd (b.trans hv) a
        · exact ⟨a, b⟩
    · rw [asc, if_neg hv, List.mem_cons, ih]
      constructor
      · rintro (a | ⟨a, b⟩)
        · have h1 := congrArg Prod.fst a
          have h2 := congrArg Prod.snd a
          dsimp only at h1 h2
          exact ⟨by rw [h2]; exact hv, Or.inl ⟨h2, h1⟩⟩
        · exact ⟨a, Or.inr b⟩
      · rintro ⟨a, ⟨b, c⟩ | b⟩
        · exact Or.inl (by rw [b, c])
        · exact Or.inr ⟨a, b⟩
/-- the locals: null stands for a slot that nothing is said of -/
def Has (ad : Nat → Nat) (ls : Array Slot) (n : Nat) (L : List Value) : Prop := lv_has ls n (asc 0 (L.map (vv ad)))
theorem Has.at {ad : Nat → Nat} {ls : Array Slot} {n i : Nat} {L : List Value} {v : Value} (A : Has ad ls n L) (h : L[i]? = some v) (hv : v ≠ .null) : ls[i]? = some (.val (vv ad v)) :=
  A.2.2 (i, vv ad v) (asc_mem.mpr ⟨vv_null hv, i, by rw [List.getElem?_map, h]; rfl, by omega⟩)
theorem Has.mid {ad : Nat → Nat} {ls : Array Slot} {n i : Nat} {X t : List Value} {v : Value} (A : Has ad ls n (X ++ v :: t)) (hX : X.length = i) (hv : v ≠ .null) : ls[i]? = some (.val (vv ad v)) :=
  A.at (by rw [← hX, List.getElem?_append_right (Nat.le_refl _), Nat.sub_self]; rfl) hv
theorem asc_of {w : Value} {j : Nat} {L : List Value} (h : (j, w) ∈ asc 0 L) : w ≠ .null ∧ L[j]? = some w := by
  obtain ⟨a, k, b, c⟩ := asc_mem.mp h
  exact ⟨a, by rw [c, Nat.zero_add]; exact b⟩
/-- behind a store of one slot -/
theorem Has.set1 {ad : Nat → Nat} {ls' : Array Slot} {n i : Nat} {X t : List Value} {a v : Value} (hX : X.length = i) (hc : ∀ w, X.getLast? = some w → w.category = 1)
    (A' : lv_has ls' n ((i, vv ad v) :: (asc 0 ((X ++ a :: t).map (vv ad))).filter (fun q => !(q.1 == i) && !(q.1 + 1 == i && q.2.category == 2)))) : Has ad ls' n (X ++ v :: t) := by
  refine ⟨A'.1, A'.2.1, fun q hq => ?_⟩
  obtain ⟨j, w⟩ := q
  obtain ⟨h1, h2⟩ := asc_of hq
  refine A'.2.2 (j, w) ?_
  rw [List.getElem?_map] at h2
  subst hX
  by_cases hj : j = X.length
  · subst hj
    rw [List.getElem?_append_right (Nat.le_refl _), Nat.sub_self] at h2
    have e : vv ad v = w := by simpa using h2
    rw [e]
    exact List.mem_cons_self
  · refine List.mem_cons_of_mem _ (List.mem_filter.mpr ⟨asc_mem.mpr ⟨h1, j, ?_, by omega⟩, ?_⟩)
    · rw [List.getElem?_map]
      rcases Nat.lt_or_ge j X.length with hl | hl
      · rw [List.getElem?_append_left hl] at h2 ⊢
        exact h2
      · rw [List.getElem?_append_right hl] at h2 ⊢
        obtain ⟨d, hd⟩ : ∃ d, j - X.length = d + 1 := ⟨j - X.length - 1, by omega⟩
        rw [hd] at h2 ⊢
        exact h2
    · simp only [Bool.and_eq_true, Bool.not_eq_true', beq_eq_false_iff_ne, ne_eq, Bool.and_eq_false_iff]
      refine ⟨hj, ?_⟩
      by_cases h3 : j + 1 = X.length
      · refine Or.inr ?_
        rw [List.getElem?_append_left (by omega)] at h2
        cases hx : X[j]? with
        | none => rw [hx] at h2; cases h2
        | some z =>
          rw [hx] at h2
          have e : vv ad z = w := Option.some.inj h2
          have hz := hc z (by rw [List.getLast?_eq_getElem?, ← hx]; congr 1; omega)
          rw [← e, vv_cat, hz]
          decide
      · exact Or.inl h3
theorem Has.set2 {ad : Nat → Nat} {ls' : Array Slot} {n i : Nat} {X t : List Value} {a b v : Value} (hX : X.length = i) (hc : ∀ w, X.getLast? = some w → w.category = 1)
    (A' : lv_has ls' n ((i, vv ad v) :: (asc 0 ((X ++ a :: b :: t).map (vv ad))).filter (fun q => !(q.1 == i) && (!(q.1 == i + 1) && !(q.1 + 1 == i && q.2.category == 2))))) : Has ad ls' n (X ++ v :: .null :: t) := by
  refine ⟨A'.1, A'.2.1, fun q hq => ?_⟩
  obtain ⟨j, w⟩ := q
  obtain ⟨h1, h2⟩ := asc_of hq
  refine A'.2.2 (j, w) ?_
  rw [List.getElem?_map] at h2
  subst hX
  by_cases hj : j = X.length
  · subst hj
    rw [List.getElem?_append_right (Nat.le_refl _), Nat.sub_self] at h2
    have e : vv ad v = w := by simpa using h2
    rw [e]
    exact List.mem_cons_self
  · have hj2 : j ≠ X.length + 1 := by
      intro e
      rw [e, List.getElem?_append_right (by omega), show X.length + 1 - X.length = 1 by omega] at h2
      have : vv ad .null = w := by simpa using h2
      exact h1 (by rw [← this]; rfl)
    refine List.mem_cons_of_mem _ (List.mem_filter.mpr ⟨asc_mem.mpr ⟨h1, j, ?_, by omega⟩, ?_⟩)
    · rw [List.getElem?_map]
      rcases Nat.lt_or_ge j X.length with hl | hl
      · rw [List.getElem?_append_left hl] at h2 ⊢
        exact h2
      · rw [List.getElem?_append_right hl] at h2 ⊢
        obtain ⟨d, hd⟩ : ∃ d, j - X.length = d + 2 := ⟨j - X.length - 2, by omega⟩
        rw [hd] at h2 ⊢
        exact h2
    · simp only [Bool.and_eq_true, Bool.not_eq_true', beq_eq_false_iff_ne, ne_eq, Bool.and_eq_false_iff]
      refine ⟨hj, hj2, ?_⟩
      by_cases h3 : j + 1 = X.length
      · refine Or.inr ?_
        rw [List.getElem?_append_left (by omega)] at h2
        cases hx : X[j]? with
        | none => rw [hx] at h2; cases h2
        | some z =>
          rw [hx] at h2
          have e : vv ad z = w := Option.some.inj h2
          have hz := hc z (by rw [List.getLast?_eq_getElem?, ← hx]; congr 1; omega)
          rw [← e, vv_cat, hz]
          decide
      · exact Or.inl h3
/-- a method's arguments as locals -/
def lpos : List Value → List Value
  | [] => []
  | v :: t => if v.category = 2 then v :: .null :: lpos t else v :: lpos t
theorem lpos_args {ad : Nat → Nat} : ∀ (vs : List Value) (i j : Nat) (w : Value), ((lpos vs).map (vv ad))[j]? = some w → w ≠ .null → (i + j, w) ∈ lv_args i (vs.map (vv ad)) := by
  intro vs
  induction vs with
  | nil => intro i j w h; simp [lpos] at h
  | cons v t ih =>
    intro i j w h hw
    rw [List.map_cons, lv_args, vv_cat]
    by_cases hc : v.category = 2
    · rw [lpos, if_pos hc] at h
      rw [if_pos hc]
      rcases j with _ | _ | j
      · have e : vv ad v = w := by simpa using h
        rw [← e]
        exact List.mem_cons_self
      · have e : vv ad .null = w := by simpa using h
        exact absurd (by rw [← e]; rfl) hw
      · have := ih (i + 2) j w (by simpa using h) hw
        exact List.mem_cons_of_mem _ (by rw [show i + (j + 1 + 1) = i + 2 + j by omega]; exact this)
    · rw [lpos, if_neg hc] at h
      rw [if_neg hc]
      rcases j with _ | j
      · have e : vv ad v = w := by simpa using h
        rw [← e]
        exact List.mem_cons_self
      · have := ih (i + 1) j w (by simpa using h) hw
        exact List.mem_cons_of_mem _ (by rw [show i + (j + 1) = i + 1 + j by omega]; exact this)
theorem has_entry {ad : Nat → Nat} {as : List Value} {n : Nat} {Z : List Value} (hlen : (lg_sl (as.map (vv ad))).length ≤ n) (hZ : ∀ z ∈ Z, z = .null) : Has ad ((lg_sl (as.map (vv ad)) ++ List.replicate (n - (lg_sl (as.map (vv ad))).length) Slot.unset).toArray) n (lpos as ++ Z) := by
  have e := lv_entry (as.map (vv ad)) (n := n) hlen
  refine ⟨e.1, e.2.1, fun q hq => ?_⟩
  obtain ⟨j, w⟩ := q
  obtain ⟨h1, h2⟩ := asc_of hq
  refine e.2.2 (j, w) ?_
  rw [List.map_append] at h2
  rcases Nat.lt_or_ge j ((lpos as).map (vv ad)).length with hl | hl
  · rw [List.getElem?_append_left hl] at h2
    have := lpos_args as 0 j w h2 h1
    rwa [Nat.zero_add] at this
  · rw [List.getElem?_append_right hl] at h2
    have hm := List.mem_of_getElem? h2
    obtain ⟨z, hz, ez⟩ := List.mem_map.mp hm
    rw [hZ z hz] at ez
    exact absurd ez.symm h1
theorem sl_len (ad : Nat → Nat) : ∀ vs : List Value, (lg_sl (vs.map (vv ad))).length = (lg_sl vs).length := by
  intro vs
  induction vs with
  | nil => rfl
  | cons v t ih =>
    simp only [lg_sl, List.map_cons, List.flatMap_cons, List.length_append, vv_cat] at ih ⊢
    rw [ih]
    congr 1
    by_cases hc : v.category = 2 <;> simp [hc]
/-- what stands at every place of a method's walk -/
def CX (q : MI) (p : Program) (s : State) (m : MethodId) (args : Array Value) (meth : Method) (c : Code) (D : va_G) (ad : Nat → Nat) (ck : Nat → ClassId) : Prop :=
  p.tables.exec = Jvm.exec ∧ c.code = mb q ∧ c.maxLocals = mn q ∧ s.vm.findClass (my q).cls = some m.cls ∧ (∀ w ∈ gt, w.before args s = true) ∧ meth.sig.returnType = mr q ∧ meth.locks = false ∧ va_K D vwCl (tysOf ck) s ∧ NST s ∧ ZST ad s s.heap ∧ Inj ad
def WW (q : MI) (pc : Nat) (L st : List Value) (h : Wd) (r : Option Value) (h' : Wd) : Prop :=
  ∀ (p : Program) (l : Launch) (e : Env) (s : State) (m : MethodId) (args : Array Value) (below : List Frame) (meth : Method) (c : Code) (D : va_G) (ad : Nat → Nat) (ck : Nat → ClassId) (H : Heap) (locs : List Loc) (ls : Array Slot),
    CX q p s m args meth c D ad ck → va_P D vwCl (mkw ad ck h) H → va_S (Aof ad) s.heap H locs → Has ad ls (mn q) L →
    W p l e (rmM q) s m args below meth c H locs 0 0 (MQ below (Qc D ad ck r h') args s 0 0 (Aof ad)) (F0 m pc ls (st.map (vv ad)))
theorem ZST.to {ad : Nat → Nat} {s U : State} {H : Heap} {locs : List Loc} (h : ZST ad s s.heap) (hW : s.vm.Alike U.vm) (S : va_S (Aof ad) s.heap H locs) (hU : U.heap = H) : ZST ad U U.heap := by
  rw [hU]
  exact ⟨(h.1.moved hW).kept S.2.1, (h.2.moved hW).kept S.2.1⟩
theorem CX.iv {q : MI} {p : Program} {s : State} {m : MethodId} {args : Array Value} {meth : Method} {c : Code} {D : va_G} {ad : Nat → Nat} {ck : Nat → ClassId} {h : Wd} {H : Heap} {locs : List Loc} {U : State} (C : CX q p s m args meth c D ad ck) (P : va_P D vwCl (mkw ad ck h) H) (S : va_S (Aof ad) s.heap H locs) (hU : U.heap = H) (hW : s.WarmedH U.vm) : IV D ad ck h U := by
  obtain ⟨-, -, -, -, -, -, -, hK, hN, hZ, -⟩ := C
  exact ⟨by rw [hU]; exact P, va_K.moved hW.alike hK, hN.warm hW, hZ.to hW.alike S hU⟩
theorem Ct.of {q : MI} {as : List Value} {Z : List Value} {h h' : Wd} {r : Option Value} (hy : plainName (my q).cls = true) (hlen : (lg_sl as).length ≤ mn q) (hZ : ∀ z ∈ Z, z = .null) (k : WW q 0 (lpos as ++ Z) [] h r h') : Ct q as h r h' := by
  intro l D ad ck hi
  refine Met.ofW (cc := mb q) (maxL := mn q) (ret := mr q) hy rfl ?_
  intro p e s m args below meth c s₁ B hml hv
  obtain ⟨rfl, hIV⟩ := hv
  have hts := atoms_spec (ws := wsM q) B.pre
  have C : CX q p s m _ meth c D ad ck := ⟨B.exec, B.bytes, hml, findClass_of_methodNamed B.named, fun w hw => hts w (List.mem_cons_of_mem _ hw), B.returns, B.notSynchronized, hIV.2.1, hIV.2.2.1, hIV.2.2.2, hi⟩
  rw [lg_entry_eq]
  exact k p l e s m _ below meth c D ad ck s.heap [] _ C hIV.1 va_S.rf (has_entry (by rw [sl_len]; exact hlen) hZ)
/-- what a callee asks of the tables -/
def CO (q : MI) : Prop := Cond.code (my q) (mb q) (mn q) (mr q) ∈ gt ∧ Cond.initialized (my q).cls ∈ gt ∧ ((my q).cls ≠ "java/lang/invoke/MethodHandle" ∧ (my q).cls ≠ "java/lang/invoke/VarHandle" ∧ (parseMethodDescriptor (my q).desc).map (fun d => d.parameters.length) = some (mp q))
def CV (q : MI) : Prop := CO q ∧ Cond.instanceMethod (my q) ∈ gt ∧ Cond.selects (my q).cls (my q) (my q) ∈ gt
def CS (q : MI) : Prop := CO q ∧ Cond.static (my q) ∈ gt
def RM (q q2 : MI) : Prop := mf q2 + 1 ≤ mf q ∧ 8 + (mn q2 + 11) + mo q2 ≤ mo q
theorem co_good {q2 : MI} (h : CO q2) : GoodIn gt (wsM q2) := by
  intro w hw
  rcases List.mem_cons.mp hw with rfl | hw
  · exact ⟨h.1, good_of_word (gt_good h.1)⟩
  · exact ⟨hw, good_of_word (gt_good hw)⟩
theorem fb_IV {D : va_G} {ad : Nat → Nat} {ck : Nat → ClassId} {h : Wd} {as : List Value} : FrameBlind (va_Pc as (IV D ad ck h)) := by
  intro a U g mk hq
  obtain ⟨q0, q1, q2, q3, q4⟩ := hq
  exact ⟨q0, q1, va_K.moved (u := U) (U := U.calling g mk a) (Vm.Alike.refl U.vm) q2, q3.same rfl, q4.1.moved (u := U) (U := U.calling g mk a) (Vm.Alike.refl U.vm), q4.2.moved (u := U) (U := U.calling g mk a) (Vm.Alike.refl U.vm)⟩
theorem ww_call {p : Program} {l : Launch} {e : Env} {R : Room} {s : State} {m : MethodId} {args : Array Value} {below : List Frame} {meth : Method} {c : Code} {H : Heap} {locs : List Loc} {Q : State → Prop} {D : va_G} {ad : Nat → Nat} {ck : Nat → ClassId} {pc : Nat} {ls : Array Slot} {st0 rest : List Value} {a : Array Value} {r : Option Value} {h1 : Wd}
    (hr : va_Run p l e R s m args below meth c H locs 0 0 0 0 (F0 m pc ls st0) rest (Qc D ad ck r h1 a) (Aof ad)) (S : va_S (Aof ad) s.heap H locs)
    (kk : ∀ (H1 : Heap) (locs1 : List Loc), va_P D vwCl (mkw ad ck h1) H1 → va_S (Aof ad) s.heap H1 locs1 → W p l e R s m args below meth c H1 locs1 0 0 Q (F0 m (pc + 3) ls ((r.map (vv ad)).toList ++ rest))) : W p l e R s m args below meth c H locs 0 0 Q (F0 m pc ls st0) := by
  intro T hT X
  obtain ⟨v, st₀, t, T', L, h0, X', hL, e1, e2, ⟨⟨hv, hIV⟩, hz, hk⟩, st⟩ := hr T hT X
  cases hv
  rw [h0] at hz hk
  obtain ⟨t2, a1, b1⟩ := kk T'.heap (locs ++ L) (by rw [e1]; exact hIV.1)
    ⟨Nat.le_trans S.1 (by rw [e1]; exact hz), fun q g1 g2 => by rw [e1, hk q (Nat.lt_of_lt_of_le g1 S.1) g2]; exact S.2.1 q g1 g2, fun q hq => by
      rcases List.mem_append.mp hq with h | h
      · exact S.2.2 q h
      · exact hL q h⟩ T' rfl X'
  exact ⟨t2, st t2 a1, b1⟩
theorem cat_sum {ad : Nat → Nat} (st : List Value) : ((st.map (vv ad)).map fun v => v.category).sum = (st.map fun v => v.category).sum := by
  rw [List.map_map]
  congr 1
  apply List.map_congr_left
  intro v _
  exact vv_cat ad v
def osum (st : List Value) : Nat := (st.map fun v => v.category).sum
theorem callB_mk {q q2 : MI} {p : Program} {s : State} {m : MethodId} {args : Array Value} {meth : Method} {c : Code} {D : va_G} {ad : Nat → Nat} {ck : Nat → ClassId} {idx : Nat} (C : CX q p s m args meth c D ad ck) (ho : CO q2) (hR : RM q q2) (hl : Cond.methodLink (my q).cls idx (my q2) ∈ gt) : CallB (rmM q) s args (my q).cls idx (my q2) (mb q2) (mn q2) (mr q2) (wsM q2) (rmM q2) 0 0 (mp q2) := by
  obtain ⟨-, -, -, -, hts, -⟩ := C
  exact callB_of (mp q2) hts (co_good ho) rfl rfl rfl (hts _ ho.2.1) (hts _ hl) ho.2.2 hR
theorem r_callV {q q2 : MI} {pc idx ci n b : Nat} {L st as st0 : List Value} {h h1 h' : Wd} {r1 r : Option Value} {fs : List Value} {T : u_T} (hc : Ct q2 (.ref b :: as) h r1 h1) (hv : CV q2) (hR : RM q q2) (hl : Cond.methodLink (my q).cls idx (my q2) ∈ gt) (hd : decode (mb q) pc = .ok (.invokevirtual idx, 3)) (hb : b < 76) (hh : h b = .inr (ci, fs)) (hcl : vwCl[ci]? = some ((my q2).cls, T, n)) (hn : as.length = mp q2) (hs : st0 = as.reverse ++ .ref b :: st) (hw : osum st ≤ 8)
    (k : WW q (pc + 3) L (r1.toList ++ st) h1 r h') : WW q pc L st0 h r h' := by
  subst hs
  intro p l e s m args below meth c D ad ck H locs ls C P S A
  have hM := hc l D ad ck C.2.2.2.2.2.2.2.2.2.2
  obtain ⟨hx, hbb, hml, hown, hts, hrt, hlk, hK, hN, hZ, hi⟩ := id C
  have hB := callB_mk (idx := idx) C hv.1 hR hl
  refine ww_call (va_runV (C := (my q2).cls) (b := ad b) (As := as.map (vv ad)) (rest := st.map (vv ad)) ⟨hx, hbb, hml, hown, hts⟩ hM ⟨hB, hts _ hv.2.1, hts _ hv.2.2⟩ ⟨fb_IV, ?_, fun U hU hW => ⟨rfl, C.iv P S hU hW⟩⟩ rfl (by rw [List.length_map]; exact hn) A.1 ?_ ?_ hd ⟨Nat.zero_le _, Nat.zero_le _⟩) S (fun H1 locs1 P1 S1 => ?_)
  · have := va_recv hK P hcl (a := ad b) (q0 := b) (fs := fs.map (vv ad)) (by rw [mkw_get hb, hh]; rfl)
    exact this
  · show List.map (vv ad) _ = _
    rw [List.map_append, List.map_reverse]
    rfl
  · refine lv_room ?_
    rw [cat_sum]
    exact hw
  · have := k p l e s m args below meth c D ad ck H1 locs1 ls C P1 S1 A
    rw [List.map_append] at this
    cases r1 with
    | none => exact this
    | some v => exact this
theorem r_callS {q q2 : MI} {pc idx : Nat} {L st as st0 : List Value} {h h1 h' : Wd} {r1 r : Option Value} (hc : Ct q2 as h r1 h1) (hv : CS q2) (hR : RM q q2) (hl : Cond.methodLink (my q).cls idx (my q2) ∈ gt) (hd : decode (mb q) pc = .ok (.invokestatic idx, 3)) (hn : as.length = mp q2) (hs : st0 = as.reverse ++ st) (hw : osum st ≤ 8)
    (k : WW q (pc + 3) L (r1.toList ++ st) h1 r h') : WW q pc L st0 h r h' := by
  subst hs
  intro p l e s m args below meth c D ad ck H locs ls C P S A
  have hM := hc l D ad ck C.2.2.2.2.2.2.2.2.2.2
  obtain ⟨hx, hbb, hml, hown, hts, hrt, hlk, hK, hN, hZ, hi⟩ := id C
  have hB := callB_mk (idx := idx) C hv.1 hR hl
  refine ww_call (va_runS (As := as.map (vv ad)) (rest := st.map (vv ad)) ⟨hx, hbb, hml, hown, hts⟩ hM ⟨hB, hts _ hv.2⟩ ⟨fb_IV, fun U hU hW => ⟨rfl, C.iv P S hU hW⟩⟩ rfl (by rw [List.length_map]; exact hn) A.1 ?_ ?_ hd ⟨Nat.zero_le _, Nat.zero_le _⟩) S (fun H1 locs1 P1 S1 => ?_)
  · show List.map (vv ad) _ = _
    rw [List.map_append, List.map_reverse]
  · refine lv_room ?_
    rw [cat_sum]
    exact hw
  · have := k p l e s m args below meth c D ad ck H1 locs1 ls C P1 S1 A
    rw [List.map_append] at this
    cases r1 with
    | none => exact this
    | some v => exact this
/-- a call of a nest mate's private static method -/
theorem r_callSN {q q2 : MI} {pc idx : Nat} {host : String} {L st as st0 : List Value} {h h1 h' : Wd} {r1 r : Option Value} (hc : Ct q2 as h r1 h1) (hv : CS q2) (hR : RM q q2) (hl : ((my q).cls, idx, my q2, host) ∈ nestM) (hd : decode (mb q) pc = .ok (.invokestatic idx, 3)) (hn : as.length = mp q2) (hs : st0 = as.reverse ++ st) (hw : osum st ≤ 8)
    (k : WW q (pc + 3) L (r1.toList ++ st) h1 r h') : WW q pc L st0 h r h' := by
  subst hs
  intro p l e s m args below meth c D ad ck H locs ls C P S A
  have hM := hc l D ad ck C.2.2.2.2.2.2.2.2.2.2
  obtain ⟨hx, hbb, hml, hown, hts, hrt, hlk, hK, hN, hZ, hi⟩ := id C
  have hB : va_CN (rmM q) s args (my q).cls idx (my q2) host (mb q2) (mn q2) (mr q2) (wsM q2) (rmM q2) 0 0 (mp q2) := va_cnB (mp q2) hts (co_good hv.1) rfl rfl rfl (hN.2 _ hl) (hts _ hv.1.2.1) hv.1.2.2 hR
  refine ww_call (va_runSN (As := as.map (vv ad)) (rest := st.map (vv ad)) ⟨hx, hbb, hml, hown, hts⟩ hM ⟨hB, hts _ hv.2, trivial⟩ ⟨fb_IV, fun U hU hW => ⟨rfl, C.iv P S hU hW⟩⟩ rfl (by rw [List.length_map]; exact hn) A.1 ?_ ?_ hd ⟨Nat.zero_le _, Nat.zero_le _⟩) S (fun H1 locs1 P1 S1 => ?_)
  · show List.map (vv ad) _ = _
    rw [List.map_append, List.map_reverse]
  · refine lv_room ?_
    rw [cat_sum]
    exact hw
  · have := k p l e s m args below meth c D ad ck H1 locs1 ls C P1 S1 A
    rw [List.map_append] at this
    cases r1 with
    | none => exact this
    | some v => exact this
end
section
abbrev mX6_init : MI := (yX6_init, cX6_init, 1, none, 0, 3, 62)
abbrev mX1_init : MI := (yX1_init, cX1_init, 1, none, 0, 2, 42)
abbrev mX0_init : MI := (yX0_init, cX0_init, 2, none, 0, 1, 21)
abbrev mX4_init : MI := (yX4_init, cX4_init, 1, none, 0, 1, 21)
abbrev mX3_init : MI := (yX3_init, cX3_init, 1, none, 0, 1, 21)
abbrev mX2_init : MI := (yX2_init, cX2_init, 1, none, 0, 1, 21)
abbrev mX5_init : MI := (yX5_init, cX5_init, 1, none, 0, 1, 21)
abbrev mX6_gold : MI := (yX6_gold, cX6_gold, 4, (some .int), 2, 2, 42)
abbrev mX6_isCell : MI := (yX6_isCell, cX6_isCell, 1, (some .boolean), 1, 0, 0)
abbrev mX6_isWithin : MI := (yX6_isWithin, cX6_isWithin, 3, (some .boolean), 3, 0, 0)
abbrev mX0_goldOf : MI := (yX0_goldOf, cX0_goldOf, 2, (some .int), 1, 1, 20)
abbrev mX0_putGold : MI := (yX0_putGold, cX0_putGold, 3, none, 2, 1, 20)
abbrev mX6_man : MI := (yX6_man, cX6_man, 3, (some .int), 2, 3, 63)
abbrev mX6_isManNumber : MI := (yX6_isManNumber, cX6_isManNumber, 1, (some .boolean), 1, 0, 0)
abbrev mX0_welcome : MI := (yX0_welcome, cX0_welcome, 3, none, 2, 2, 41)
abbrev mX0_forgetMan : MI := (yX0_forgetMan, cX0_forgetMan, 2, none, 1, 1, 20)
abbrev mX0_countMen : MI := (yX0_countMen, cX0_countMen, 1, (some .int), 0, 1, 20)
abbrev mJ6_bitCount_0f7a4 : MI := (yJ6_bitCount_0f7a4, cJ6_bitCount_0f7a4, 1, (some .int), 1, 0, 0)
abbrev mX6_leave : MI := (yX6_leave, cX6_leave, 2, (some .int), 1, 3, 63)
abbrev mX0_isThere : MI := (yX0_isThere, cX0_isThere, 2, (some .boolean), 1, 1, 21)
abbrev mX6_hasBit : MI := (yX6_hasBit, cX6_hasBit, 2, (some .boolean), 2, 0, 0)
abbrev mX0_farewell : MI := (yX0_farewell, cX0_farewell, 3, none, 1, 2, 41)
abbrev mX6_know : MI := (yX6_know, cX6_know, 4, (some .int), 3, 2, 45)
abbrev mX0_setKnown : MI := (yX0_setKnown, cX0_setKnown, 6, none, 3, 1, 20)
abbrev mX0_knownTo : MI := (yX0_knownTo, cX0_knownTo, 2, (some .long), 1, 1, 20)
abbrev mJ13_bitCount_95d88 : MI := (yJ13_bitCount_95d88, cJ13_bitCount_95d88, 2, (some .int), 1, 0, 0)
abbrev mX6_claim : MI := (yX6_claim, cX6_claim, 3, (some .int), 2, 3, 65)
abbrev mX0_setClaimer : MI := (yX0_setClaimer, cX0_setClaimer, 3, none, 2, 1, 20)
abbrev mX0_countClaimed : MI := (yX0_countClaimed, cX0_countClaimed, 1, (some .int), 0, 2, 45)
abbrev mX0_countClaimedBy : MI := (yX0_countClaimedBy, cX0_countClaimedBy, 2, (some .int), 1, 1, 24)
abbrev mX0_cellsClaimedBy : MI := (yX0_cellsClaimedBy, cX0_cellsClaimedBy, 5, (some .long), 1, 0, 0)
abbrev mX6_say : MI := (yX6_say, cX6_say, 2, (some .int), 1, 1, 22)
abbrev mX2_add : MI := (yX2_add, cX2_add, 2, (some .boolean), 1, 0, 0)
abbrev mX2_size : MI := (yX2_size, cX2_size, 1, (some .int), 0, 0, 0)
abbrev mX6_wipe : MI := (yX6_wipe, cX6_wipe, 2, (some .int), 0, 1, 20)
abbrev mX2_clear : MI := (yX2_clear, cX2_clear, 1, none, 0, 0, 0)
abbrev mX6_fault : MI := (yX6_fault, cX6_fault, 1, (some .int), 0, 3, 65)
abbrev mX2_firstFault : MI := (yX2_firstFault, cX2_firstFault, 5, (some .int), 0, 2, 41)
abbrev mX2_signAt : MI := (yX2_signAt, cX2_signAt, 2, (some .int), 1, 0, 0)
abbrev mX2_isDeedOfMan : MI := (yX2_isDeedOfMan, cX2_isDeedOfMan, 1, (some .boolean), 1, 1, 21)
abbrev mX2_isNight : MI := (yX2_isNight, cX2_isNight, 1, (some .boolean), 1, 0, 0)
abbrev mX2_deedBy : MI := (yX2_deedBy, cX2_deedBy, 2, (some .int), 1, 0, 0)
abbrev mX2_manBy : MI := (yX2_manBy, cX2_manBy, 1, (some .int), 1, 0, 0)
abbrev mX6_judge : MI := (yX6_judge, cX6_judge, 3, (some .int), 1, 6, 137)
abbrev mX6_playWeeks : MI := (yX6_playWeeks, cX6_playWeeks, 1, (some .int), 0, 5, 117)
abbrev mX0_copyFrom : MI := (yX0_copyFrom, cX0_copyFrom, 2, none, 1, 1, 45)
abbrev mX5_play : MI := (yX5_play, cX5_play, 5, none, 2, 4, 93)
abbrev mX5_act : MI := (yX5_act, cX5_act, 5, none, 3, 3, 69)
abbrev mX0_reasonAgainst : MI := (yX0_reasonAgainst, cX0_reasonAgainst, 4, (some .int), 2, 2, 42)
abbrev mX0_tentOf : MI := (yX0_tentOf, cX0_tentOf, 2, (some .int), 1, 1, 20)
abbrev mX0_stepFrom : MI := (yX0_stepFrom, cX0_stepFrom, 2, (some .int), 2, 1, 20)
abbrev mX6_rowOf : MI := (yX6_rowOf, cX6_rowOf, 1, (some .int), 1, 0, 0)
abbrev mX6_columnOf : MI := (yX6_columnOf, cX6_columnOf, 1, (some .int), 1, 0, 0)
abbrev mX0_isKnownTo : MI := (yX0_isKnownTo, cX0_isKnownTo, 3, (some .boolean), 2, 1, 20)
abbrev mX0_claimerOf : MI := (yX0_claimerOf, cX0_claimerOf, 2, (some .int), 1, 1, 20)
abbrev mX0_perform : MI := (yX0_perform, cX0_perform, 3, none, 2, 2, 47)
abbrev mX0_passNight : MI := (yX0_passNight, cX0_passNight, 4, none, 0, 1, 24)
abbrev mX0_goldIn : MI := (yX0_goldIn, cX0_goldIn, 5, (some .int), 1, 0, 0)
abbrev mJ9_min_7cf53 : MI := (yJ9_min_7cf53, cJ9_min_7cf53, 2, (some .int), 2, 0, 0)
abbrev mX5_badAct : MI := (yX5_badAct, cX5_badAct, 1, (some .int), 0, 0, 0)
abbrev mX5_badReason : MI := (yX5_badReason, cX5_badReason, 1, (some .int), 0, 0, 0)
abbrev mX0_womansShare : MI := (yX0_womansShare, cX0_womansShare, 1, (some .int), 0, 0, 0)
abbrev mX6_behind : MI := (yX6_behind, cX6_behind, 4, (some .int), 2, 6, 137)
abbrev mX0_snoreOf : MI := (yX0_snoreOf, cX0_snoreOf, 2, (some .int), 1, 3, 65)
abbrev mX0_hasCold : MI := (yX0_hasCold, cX0_hasCold, 2, (some .boolean), 1, 1, 21)
abbrev mX0_snoreIf : MI := (yX0_snoreIf, cX0_snoreIf, 4, (some .int), 2, 2, 42)
abbrev mX0_isWhistling : MI := (yX0_isWhistling, cX0_isWhistling, 2, (some .boolean), 1, 1, 21)
abbrev mX0_saltOf : MI := (yX0_saltOf, cX0_saltOf, 2, (some .int), 1, 1, 20)
abbrev mX6_heard : MI := (yX6_heard, cX6_heard, 3, (some .int), 1, 6, 137)
abbrev mX0_listen : MI := (yX0_listen, cX0_listen, 2, none, 0, 4, 86)
abbrev mX0_heardAt : MI := (yX0_heardAt, cX0_heardAt, 2, (some .int), 1, 3, 66)
abbrev mX0_heardWithout : MI := (yX0_heardWithout, cX0_heardWithout, 5, (some .int), 2, 2, 42)
abbrev mX6_distance : MI := (yX6_distance, cX6_distance, 2, (some .int), 2, 1, 21)
abbrev mJ9_abs_0f7a4 : MI := (yJ9_abs_0f7a4, cJ9_abs_0f7a4, 1, (some .int), 1, 0, 0)
abbrev mJ9_max_7cf53 : MI := (yJ9_max_7cf53, cJ9_max_7cf53, 2, (some .int), 2, 0, 0)
abbrev mX6_whose : MI := (yX6_whose, cX6_whose, 4, (some .int), 1, 6, 137)
abbrev mX6_nothing : MI := (yX6_nothing, cX6_nothing, 3, (some .int), 1, 6, 137)
abbrev mX6_isZeroOrOne : MI := (yX6_isZeroOrOne, cX6_isZeroOrOne, 1, (some .boolean), 1, 0, 0)
abbrev mX5_firstEmptyClaim : MI := (yX5_firstEmptyClaim, cX5_firstEmptyClaim, 1, (some .int), 0, 0, 0)
abbrev mX5_countEmptyClaims : MI := (yX5_countEmptyClaims, cX5_countEmptyClaims, 1, (some .int), 0, 0, 0)
abbrev mX6_done : MI := (yX6_done, cX6_done, 2, (some .int), 0, 6, 137)
abbrev mX5_countActs : MI := (yX5_countActs, cX5_countActs, 1, (some .int), 0, 0, 0)
abbrev mX6_loudest : MI := (yX6_loudest, cX6_loudest, 7, (some .int), 1, 5, 107)
abbrev mX6_sleep : MI := (yX6_sleep, cX6_sleep, 5, (some .int), 3, 6, 137)
abbrev mX6_refusalOfSteps : MI := (yX6_refusalOfSteps, cX6_refusalOfSteps, 4, (some .int), 3, 2, 42)
abbrev mX6_quietest : MI := (yX6_quietest, cX6_quietest, 11, (some .int), 4, 5, 107)
abbrev mX0_heardByOthers : MI := (yX0_heardByOthers, cX0_heardByOthers, 6, (some .int), 2, 2, 42)
abbrev mX6_hide : MI := (yX6_hide, cX6_hide, 5, (some .int), 3, 6, 137)
abbrev mX6_tale : MI := (yX6_tale, cX6_tale, 4, (some .int), 3, 2, 42)
abbrev mX4_add : MI := (yX4_add, cX4_add, 4, (some .boolean), 3, 0, 0)
abbrev mX4_size : MI := (yX4_size, cX4_size, 1, (some .int), 0, 0, 0)
abbrev mX6_hush : MI := (yX6_hush, cX6_hush, 2, (some .int), 0, 1, 20)
abbrev mX4_clear : MI := (yX4_clear, cX4_clear, 1, none, 0, 0, 0)
abbrev mX6_liars : MI := (yX6_liars, cX6_liars, 3, (some .int), 1, 4, 91)
abbrev mX4_fewestLiars : MI := (yX4_fewestLiars, cX4_fewestLiars, 4, (some .int), 0, 3, 68)
abbrev mX4_holdTogether : MI := (yX4_holdTogether, cX4_holdTogether, 4, (some .boolean), 1, 2, 45)
abbrev mX4_isGoldBy : MI := (yX4_isGoldBy, cX4_isGoldBy, 5, (some .boolean), 2, 1, 21)
abbrev mX6_leaves : MI := (yX6_leaves, cX6_leaves, 4, (some .int), 1, 4, 88)
abbrev mX6_readDigits : MI := (yX6_readDigits, cX6_readDigits, 4, none, 1, 0, 0)
abbrev mX6_digitsAreTwos : MI := (yX6_digitsAreTwos, cX6_digitsAreTwos, 3, (some .boolean), 0, 2, 42)
abbrev mX6_digitAt : MI := (yX6_digitAt, cX6_digitAt, 2, (some .int), 1, 0, 0)
abbrev mX6_wouldRatherShare : MI := (yX6_wouldRatherShare, cX6_wouldRatherShare, 6, (some .boolean), 2, 3, 63)
abbrev mX0_twiceShare : MI := (yX0_twiceShare, cX0_twiceShare, 3, (some .int), 2, 2, 41)
abbrev mX6_seen : MI := (yX6_seen, cX6_seen, 3, (some .int), 2, 3, 64)
abbrev mX3_add : MI := (yX3_add, cX3_add, 3, (some .boolean), 2, 2, 42)
abbrev mX3_lodesThrough : MI := (yX3_lodesThrough, cX3_lodesThrough, 3, (some .long), 1, 1, 20)
abbrev mX3_size : MI := (yX3_size, cX3_size, 1, (some .int), 0, 0, 0)
abbrev mX6_forget : MI := (yX6_forget, cX6_forget, 2, (some .int), 0, 1, 20)
abbrev mX3_clear : MI := (yX3_clear, cX3_clear, 1, none, 0, 0, 0)
abbrev mX6_lodes : MI := (yX6_lodes, cX6_lodes, 2, (some .int), 1, 2, 41)
abbrev mX3_countFitting : MI := (yX3_countFitting, cX3_countFitting, 1, (some .int), 0, 1, 21)
abbrev mX3_fittingAt : MI := (yX3_fittingAt, cX3_fittingAt, 4, (some .int), 1, 0, 0)
abbrev mX6_odds : MI := (yX6_odds, cX6_odds, 3, (some .long), 2, 3, 63)
abbrev mX3_countThrough : MI := (yX3_countThrough, cX3_countThrough, 2, (some .int), 1, 2, 42)
abbrev mX6_partOfFraction : MI := (yX6_partOfFraction, cX6_partOfFraction, 7, (some .long), 3, 1, 30)
abbrev mX6_greatestDivisor : MI := (yX6_greatestDivisor, cX6_greatestDivisor, 11, (some .long), 2, 0, 0)
abbrev mX6_next : MI := (yX6_next, cX6_next, 8, (some .int), 1, 3, 63)
abbrev mX6_turns : MI := (yX6_turns, cX6_turns, 5, (some .int), 2, 2, 43)
abbrev mX6_findLeads : MI := (yX6_findLeads, cX6_findLeads, 3, none, 1, 1, 21)
abbrev mX6_leadAt : MI := (yX6_leadAt, cX6_leadAt, 2, (some .int), 1, 0, 0)
abbrev mX6_colds : MI := (yX6_colds, cX6_colds, 12, (some .long), 4, 4, 89)
abbrev mX6_hearWithAndWithoutCold : MI := (yX6_hearWithAndWithoutCold, cX6_hearWithAndWithoutCold, 5, none, 1, 3, 65)
abbrev mX0_menBits : MI := (yX0_menBits, cX0_menBits, 1, (some .int), 0, 0, 0)
abbrev mX6_heardIfSick : MI := (yX6_heardIfSick, cX6_heardIfSick, 5, (some .int), 2, 1, 21)
abbrev mX6_weightOf : MI := (yX6_weightOf, cX6_weightOf, 3, (some .long), 3, 1, 24)
abbrev mX6_power : MI := (yX6_power, cX6_power, 5, (some .long), 2, 0, 0)
abbrev mX6_year : MI := (yX6_year, cX6_year, 8, (some .int), 3, 3, 69)
abbrev mX0_allSalt : MI := (yX0_allSalt, cX0_allSalt, 3, (some .int), 0, 0, 0)
abbrev mX6_image : MI := (yX6_image, cX6_image, 3, (some .int), 1, 3, 87)
abbrev mX6_imageOf : MI := (yX6_imageOf, cX6_imageOf, 2, (some (.object "SnoresGold$Memory")), 1, 0, 0)
abbrev mX1_copyFrom : MI := (yX1_copyFrom, cX1_copyFrom, 2, none, 1, 2, 66)
abbrev mX4_copyFrom : MI := (yX4_copyFrom, cX4_copyFrom, 2, none, 1, 1, 45)
abbrev mX3_copyFrom : MI := (yX3_copyFrom, cX3_copyFrom, 2, none, 1, 0, 0)
abbrev mX1_markKept : MI := (yX1_markKept, cX1_markKept, 1, none, 0, 0, 0)
abbrev mX6_restore : MI := (yX6_restore, cX6_restore, 3, (some .int), 1, 3, 87)
abbrev mX1_isKept : MI := (yX1_isKept, cX1_isKept, 1, (some .boolean), 0, 0, 0)
abbrev mX6_told : MI := (yX6_told, cX6_told, 2, (some .int), 1, 5, 109)
abbrev mX6_toldOfMan : MI := (yX6_toldOfMan, cX6_toldOfMan, 4, (some .int), 2, 4, 86)
abbrev mX6_toldOfCell : MI := (yX6_toldOfCell, cX6_toldOfCell, 3, (some .int), 1, 2, 41)
abbrev mX6_toldOfKnown : MI := (yX6_toldOfKnown, cX6_toldOfKnown, 3, (some .int), 2, 2, 42)
abbrev mX7_init : MI := (yX7_init, cX7_init, 2, none, 0, 1, 21)
abbrev mX7_gold : MI := (yX7_gold, cX7_gold, 4, (some .int), 2, 2, 45)
abbrev mX7_isCell : MI := (yX7_isCell, cX7_isCell, 1, (some .boolean), 1, 1, 25)
abbrev mX7_in : MI := (yX7_in, cX7_in, 6, (some .boolean), 3, 0, 0)
abbrev mX7_man : MI := (yX7_man, cX7_man, 3, (some .int), 2, 2, 45)
abbrev mX7_ones : MI := (yX7_ones, cX7_ones, 3, (some .int), 1, 0, 0)
abbrev mX7_leave : MI := (yX7_leave, cX7_leave, 3, (some .int), 1, 2, 46)
abbrev mX7_isMan : MI := (yX7_isMan, cX7_isMan, 2, (some .boolean), 1, 1, 25)
abbrev mX7_know : MI := (yX7_know, cX7_know, 4, (some .int), 3, 2, 46)
abbrev mX7_knownBy : MI := (yX7_knownBy, cX7_knownBy, 4, (some .int), 1, 1, 22)
abbrev mX7_isKnown : MI := (yX7_isKnown, cX7_isKnown, 3, (some .boolean), 2, 0, 0)
abbrev mX7_claim : MI := (yX7_claim, cX7_claim, 3, (some .int), 2, 2, 46)
abbrev mX7_claimedCells : MI := (yX7_claimedCells, cX7_claimedCells, 1, (some .int), 0, 1, 23)
abbrev mX7_claimedBy : MI := (yX7_claimedBy, cX7_claimedBy, 4, (some .int), 1, 0, 0)
abbrev mX7_say : MI := (yX7_say, cX7_say, 2, (some .int), 1, 1, 25)
abbrev mX7_wipe : MI := (yX7_wipe, cX7_wipe, 2, (some .int), 0, 0, 0)
abbrev mX7_fault : MI := (yX7_fault, cX7_fault, 3, (some .int), 0, 3, 66)
abbrev mX7_readOn : MI := (yX7_readOn, cX7_readOn, 4, (some .int), 2, 2, 43)
abbrev mX7_deed : MI := (yX7_deed, cX7_deed, 2, (some .int), 1, 1, 22)
abbrev mX7_close : MI := (yX7_close, cX7_close, 3, (some .int), 2, 0, 0)
abbrev mX7_judge : MI := (yX7_judge, cX7_judge, 3, (some .int), 1, 6, 134)
abbrev mX7_refusal : MI := (yX7_refusal, cX7_refusal, 1, (some .int), 0, 5, 114)
abbrev mX7_keepNow : MI := (yX7_keepNow, cX7_keepNow, 2, none, 0, 0, 0)
abbrev mX7_goWeeks : MI := (yX7_goWeeks, cX7_goWeeks, 3, none, 0, 4, 92)
abbrev mX7_whyNot : MI := (yX7_whyNot, cX7_whyNot, 4, (some .int), 3, 2, 47)
abbrev mX7_canGo : MI := (yX7_canGo, cX7_canGo, 3, (some .boolean), 2, 1, 25)
abbrev mX7_eastBy : MI := (yX7_eastBy, cX7_eastBy, 1, (some .int), 1, 0, 0)
abbrev mX7_northBy : MI := (yX7_northBy, cX7_northBy, 1, (some .int), 1, 0, 0)
abbrev mX7_happen : MI := (yX7_happen, cX7_happen, 4, none, 3, 3, 69)
abbrev mX7_claimHere : MI := (yX7_claimHere, cX7_claimHere, 3, none, 1, 0, 0)
abbrev mX7_passNight : MI := (yX7_passNight, cX7_passNight, 4, none, 0, 2, 46)
abbrev mX7_back : MI := (yX7_back, cX7_back, 3, (some .int), 1, 0, 0)
abbrev mX7_behind : MI := (yX7_behind, cX7_behind, 4, (some .int), 2, 6, 134)
abbrev mX7_ofMan : MI := (yX7_ofMan, cX7_ofMan, 3, (some .int), 2, 3, 67)
abbrev mX7_snore : MI := (yX7_snore, cX7_snore, 2, (some .int), 1, 2, 46)
abbrev mX7_snoreBy : MI := (yX7_snoreBy, cX7_snoreBy, 5, (some .int), 2, 1, 22)
abbrev mX7_heard : MI := (yX7_heard, cX7_heard, 3, (some .int), 1, 6, 134)
abbrev mX7_heardAt : MI := (yX7_heardAt, cX7_heardAt, 5, (some .int), 2, 3, 67)
abbrev mX7_apart : MI := (yX7_apart, cX7_apart, 4, (some .int), 2, 0, 0)
abbrev mX7_over : MI := (yX7_over, cX7_over, 1, (some .int), 1, 0, 0)
abbrev mX7_whose : MI := (yX7_whose, cX7_whose, 3, (some .int), 1, 6, 134)
abbrev mX7_nothing : MI := (yX7_nothing, cX7_nothing, 3, (some .int), 1, 6, 134)
abbrev mX7_done : MI := (yX7_done, cX7_done, 2, (some .int), 0, 6, 134)
abbrev mX7_loudest : MI := (yX7_loudest, cX7_loudest, 4, (some .int), 1, 4, 91)
abbrev mX7_sleep : MI := (yX7_sleep, cX7_sleep, 4, (some .int), 3, 6, 143)
abbrev mX7_quietest : MI := (yX7_quietest, cX7_quietest, 9, (some .int), 4, 5, 115)
abbrev mX7_quietAt : MI := (yX7_quietAt, cX7_quietAt, 4, (some .int), 3, 4, 92)
abbrev mX7_givenAway : MI := (yX7_givenAway, cX7_givenAway, 6, (some .int), 2, 3, 67)
abbrev mX7_hide : MI := (yX7_hide, cX7_hide, 4, (some .int), 3, 6, 143)
abbrev mX7_tale : MI := (yX7_tale, cX7_tale, 4, (some .int), 3, 2, 46)
abbrev mX7_hush : MI := (yX7_hush, cX7_hush, 2, (some .int), 0, 0, 0)
abbrev mX7_liars : MI := (yX7_liars, cX7_liars, 5, (some .int), 1, 2, 46)
abbrev mX7_canBe : MI := (yX7_canBe, cX7_canBe, 5, (some .boolean), 1, 1, 22)
abbrev mX7_meant : MI := (yX7_meant, cX7_meant, 3, (some .int), 2, 0, 0)
abbrev mX7_leaves : MI := (yX7_leaves, cX7_leaves, 4, (some .int), 1, 3, 70)
abbrev mX7_areTwos : MI := (yX7_areTwos, cX7_areTwos, 5, (some .boolean), 1, 2, 46)
abbrev mX7_wouldLeave : MI := (yX7_wouldLeave, cX7_wouldLeave, 5, (some .boolean), 2, 2, 46)
abbrev mX7_halves : MI := (yX7_halves, cX7_halves, 3, (some .int), 2, 1, 24)
abbrev mX7_goldOf : MI := (yX7_goldOf, cX7_goldOf, 5, (some .int), 1, 0, 0)
abbrev mX7_seen : MI := (yX7_seen, cX7_seen, 3, (some .int), 2, 2, 45)
abbrev mX7_forget : MI := (yX7_forget, cX7_forget, 2, (some .int), 0, 0, 0)
abbrev mX7_lodes : MI := (yX7_lodes, cX7_lodes, 4, (some .int), 1, 2, 46)
abbrev mX7_fits : MI := (yX7_fits, cX7_fits, 4, (some .boolean), 1, 1, 23)
abbrev mX7_isOn : MI := (yX7_isOn, cX7_isOn, 4, (some .boolean), 2, 0, 0)
abbrev mX7_odds : MI := (yX7_odds, cX7_odds, 4, (some .long), 2, 3, 69)
abbrev mX7_linesOn : MI := (yX7_linesOn, cX7_linesOn, 4, (some .int), 1, 2, 46)
abbrev mX7_lowest : MI := (yX7_lowest, cX7_lowest, 11, (some .long), 3, 0, 0)
abbrev mX7_next : MI := (yX7_next, cX7_next, 8, (some .int), 1, 3, 69)
abbrev mX7_turns : MI := (yX7_turns, cX7_turns, 8, (some .int), 2, 1, 25)
abbrev mX7_leftEnd : MI := (yX7_leftEnd, cX7_leftEnd, 3, (some .int), 2, 0, 0)
abbrev mX7_rightEnd : MI := (yX7_rightEnd, cX7_rightEnd, 3, (some .int), 2, 0, 0)
abbrev mX7_colds : MI := (yX7_colds, cX7_colds, 13, (some .long), 4, 3, 70)
abbrev mX7_heardBy : MI := (yX7_heardBy, cX7_heardBy, 5, (some .int), 2, 2, 46)
abbrev mX7_year : MI := (yX7_year, cX7_year, 8, (some .int), 3, 4, 92)
abbrev mX7_image : MI := (yX7_image, cX7_image, 2, (some .int), 1, 3, 69)
abbrev mX7_passAll : MI := (yX7_passAll, cX7_passAll, 5, none, 1, 2, 45)
abbrev mX7_pass : MI := (yX7_pass, cX7_pass, 3, (some .int), 1, 0, 0)
abbrev mX7_passRow : MI := (yX7_passRow, cX7_passRow, 4, none, 2, 1, 22)
abbrev mX7_restore : MI := (yX7_restore, cX7_restore, 2, (some .int), 1, 3, 69)
abbrev mX7_told : MI := (yX7_told, cX7_told, 3, (some .int), 1, 4, 89)
abbrev mX7_toldOf : MI := (yX7_toldOf, cX7_toldOf, 3, (some .int), 2, 3, 67)
theorem co_ok {q : MI} (h1 : Cond.code (my q) (mb q) (mn q) (mr q) ∈ gt) (h2 : Cond.initialized (my q).cls ∈ gt) (h3 : ((my q).cls ≠ "java/lang/invoke/MethodHandle" ∧ (my q).cls ≠ "java/lang/invoke/VarHandle" ∧ (parseMethodDescriptor (my q).desc).map (fun d => d.parameters.length) = some (mp q))) : CO q := ⟨h1, h2, h3⟩
theorem ini_RX0 : Cond.initialized RX0 ∈ gt := (gt1 (i := 3) rfl rfl)
theorem ini_RX1 : Cond.initialized RX1 ∈ gt := (gt1 (i := 2) rfl rfl)
theorem ini_RX2 : Cond.initialized RX2 ∈ gt := (gt1 (i := 6) rfl rfl)
theorem ini_RX3 : Cond.initialized RX3 ∈ gt := (gt1 (i := 5) rfl rfl)
theorem ini_RX4 : Cond.initialized RX4 ∈ gt := (gt1 (i := 4) rfl rfl)
theorem ini_RX5 : Cond.initialized RX5 ∈ gt := (gt1 (i := 7) rfl rfl)
theorem ini_RX6 : Cond.initialized RX6 ∈ gt := (gt1 (i := 1) rfl rfl)
theorem ini_RX7 : Cond.initialized RX7 ∈ gt := (gt1 (i := 8) rfl rfl)
theorem ini_RJ6 : Cond.initialized RJ6 ∈ gt := (gt1 (i := 9) rfl rfl)
theorem ini_RJ13 : Cond.initialized RJ13 ∈ gt := (gt1 (i := 10) rfl rfl)
theorem ini_RJ9 : Cond.initialized RJ9 ∈ gt := (gt1 (i := 12) rfl rfl)
theorem ini_RJ10 : Cond.initialized RJ10 ∈ gt := (gt1 (i := 11) rfl rfl)
theorem ini_RL : Cond.initialized RL ∈ gt := (gt1 (i := 0) rfl rfl)
theorem co_X6_init : CO mX6_init := co_ok (gt1 (i := 17) rfl rfl) ini_RX6 (by decide +kernel)
theorem ci_X6_init : Cond.instanceMethod (my mX6_init) ∈ gt := (gt1 (i := 16) rfl rfl)
theorem co_X1_init : CO mX1_init := co_ok (gt1 (i := 25) rfl rfl) ini_RX1 (by decide +kernel)
theorem ci_X1_init : Cond.instanceMethod (my mX1_init) ∈ gt := (gt1 (i := 24) rfl rfl)
theorem co_X0_init : CO mX0_init := co_ok (gt1 (i := 31) rfl rfl) ini_RX0 (by decide +kernel)
theorem ci_X0_init : Cond.instanceMethod (my mX0_init) ∈ gt := (gt1 (i := 30) rfl rfl)
theorem co_X4_init : CO mX4_init := co_ok (gt1 (i := 70) rfl rfl) ini_RX4 (by decide +kernel)
theorem ci_X4_init : Cond.instanceMethod (my mX4_init) ∈ gt := (gt1 (i := 69) rfl rfl)
theorem co_X3_init : CO mX3_init := co_ok (gt1 (i := 89) rfl rfl) ini_RX3 (by decide +kernel)
theorem ci_X3_init : Cond.instanceMethod (my mX3_init) ∈ gt := (gt1 (i := 88) rfl rfl)
theorem co_X2_init : CO mX2_init := co_ok (gt1 (i := 119) rfl rfl) ini_RX2 (by decide +kernel)
theorem ci_X2_init : Cond.instanceMethod (my mX2_init) ∈ gt := (gt1 (i := 118) rfl rfl)
theorem co_X5_init : CO mX5_init := co_ok (gt1 (i := 132) rfl rfl) ini_RX5 (by decide +kernel)
theorem ci_X5_init : Cond.instanceMethod (my mX5_init) ∈ gt := (gt1 (i := 131) rfl rfl)
theorem co_X6_gold : CO mX6_gold := co_ok (gt1 (i := 186) rfl rfl) ini_RX6 (by decide +kernel)
theorem cv_X6_gold : CV mX6_gold := ⟨co_X6_gold, (gt1 (i := 184) rfl rfl), (gt1 (i := 185) rfl rfl)⟩
theorem co_X6_isCell : CO mX6_isCell := co_ok (gt1 (i := 189) rfl rfl) ini_RX6 (by decide +kernel)
theorem cs_X6_isCell : CS mX6_isCell := ⟨co_X6_isCell, (gt1 (i := 188) rfl rfl)⟩
theorem co_X6_isWithin : CO mX6_isWithin := co_ok (gt1 (i := 192) rfl rfl) ini_RX6 (by decide +kernel)
theorem cs_X6_isWithin : CS mX6_isWithin := ⟨co_X6_isWithin, (gt1 (i := 191) rfl rfl)⟩
theorem co_X0_goldOf : CO mX0_goldOf := co_ok (gt1 (i := 196) rfl rfl) ini_RX0 (by decide +kernel)
theorem cv_X0_goldOf : CV mX0_goldOf := ⟨co_X0_goldOf, (gt1 (i := 194) rfl rfl), (gt1 (i := 195) rfl rfl)⟩
theorem co_X0_putGold : CO mX0_putGold := co_ok (gt1 (i := 201) rfl rfl) ini_RX0 (by decide +kernel)
theorem cv_X0_putGold : CV mX0_putGold := ⟨co_X0_putGold, (gt1 (i := 199) rfl rfl), (gt1 (i := 200) rfl rfl)⟩
theorem co_X6_man : CO mX6_man := co_ok (gt1 (i := 205) rfl rfl) ini_RX6 (by decide +kernel)
theorem cv_X6_man : CV mX6_man := ⟨co_X6_man, (gt1 (i := 203) rfl rfl), (gt1 (i := 204) rfl rfl)⟩
theorem co_X6_isManNumber : CO mX6_isManNumber := co_ok (gt1 (i := 208) rfl rfl) ini_RX6 (by decide +kernel)
theorem cs_X6_isManNumber : CS mX6_isManNumber := ⟨co_X6_isManNumber, (gt1 (i := 207) rfl rfl)⟩
theorem co_X0_welcome : CO mX0_welcome := co_ok (gt1 (i := 212) rfl rfl) ini_RX0 (by decide +kernel)
theorem cv_X0_welcome : CV mX0_welcome := ⟨co_X0_welcome, (gt1 (i := 210) rfl rfl), (gt1 (i := 211) rfl rfl)⟩
theorem co_X0_forgetMan : CO mX0_forgetMan := co_ok (gt1 (i := 217) rfl rfl) ini_RX0 (by decide +kernel)
theorem cv_X0_forgetMan : CV mX0_forgetMan := ⟨co_X0_forgetMan, (gt1 (i := 216) rfl rfl), (gtp (i := 0) rfl rfl)⟩
theorem co_X0_countMen : CO mX0_countMen := co_ok (gt1 (i := 221) rfl rfl) ini_RX0 (by decide +kernel)
theorem cv_X0_countMen : CV mX0_countMen := ⟨co_X0_countMen, (gt1 (i := 219) rfl rfl), (gt1 (i := 220) rfl rfl)⟩
theorem co_J6_bitCount_0f7a4 : CO mJ6_bitCount_0f7a4 := co_ok (gt1 (i := 224) rfl rfl) ini_RJ6 (by decide +kernel)
theorem cs_J6_bitCount_0f7a4 : CS mJ6_bitCount_0f7a4 := ⟨co_J6_bitCount_0f7a4, (gt1 (i := 223) rfl rfl)⟩
theorem co_X6_leave : CO mX6_leave := co_ok (gt1 (i := 231) rfl rfl) ini_RX6 (by decide +kernel)
theorem cv_X6_leave : CV mX6_leave := ⟨co_X6_leave, (gt1 (i := 229) rfl rfl), (gt1 (i := 230) rfl rfl)⟩
theorem co_X0_isThere : CO mX0_isThere := co_ok (gt1 (i := 235) rfl rfl) ini_RX0 (by decide +kernel)
theorem cv_X0_isThere : CV mX0_isThere := ⟨co_X0_isThere, (gt1 (i := 233) rfl rfl), (gt1 (i := 234) rfl rfl)⟩
theorem co_X6_hasBit : CO mX6_hasBit := co_ok (gt1 (i := 238) rfl rfl) ini_RX6 (by decide +kernel)
theorem cs_X6_hasBit : CS mX6_hasBit := ⟨co_X6_hasBit, (gt1 (i := 237) rfl rfl)⟩
theorem co_X0_farewell : CO mX0_farewell := co_ok (gt2 (i := 2) rfl rfl) ini_RX0 (by decide +kernel)
theorem cv_X0_farewell : CV mX0_farewell := ⟨co_X0_farewell, (gt2 (i := 0) rfl rfl), (gt2 (i := 1) rfl rfl)⟩
theorem co_X6_know : CO mX6_know := co_ok (gt2 (i := 6) rfl rfl) ini_RX6 (by decide +kernel)
theorem cv_X6_know : CV mX6_know := ⟨co_X6_know, (gt2 (i := 4) rfl rfl), (gt2 (i := 5) rfl rfl)⟩
theorem co_X0_setKnown : CO mX0_setKnown := co_ok (gt2 (i := 10) rfl rfl) ini_RX0 (by decide +kernel)
theorem cv_X0_setKnown : CV mX0_setKnown := ⟨co_X0_setKnown, (gt2 (i := 8) rfl rfl), (gt2 (i := 9) rfl rfl)⟩
theorem co_X0_knownTo : CO mX0_knownTo := co_ok (gt2 (i := 15) rfl rfl) ini_RX0 (by decide +kernel)
theorem cv_X0_knownTo : CV mX0_knownTo := ⟨co_X0_knownTo, (gt2 (i := 13) rfl rfl), (gt2 (i := 14) rfl rfl)⟩
theorem co_J13_bitCount_95d88 : CO mJ13_bitCount_95d88 := co_ok (gt2 (i := 18) rfl rfl) ini_RJ13 (by decide +kernel)
theorem cs_J13_bitCount_95d88 : CS mJ13_bitCount_95d88 := ⟨co_J13_bitCount_95d88, (gt2 (i := 17) rfl rfl)⟩
theorem co_X6_claim : CO mX6_claim := co_ok (gt2 (i := 25) rfl rfl) ini_RX6 (by decide +kernel)
theorem cv_X6_claim : CV mX6_claim := ⟨co_X6_claim, (gt2 (i := 23) rfl rfl), (gt2 (i := 24) rfl rfl)⟩
theorem co_X0_setClaimer : CO mX0_setClaimer := co_ok (gt2 (i := 29) rfl rfl) ini_RX0 (by decide +kernel)
theorem cv_X0_setClaimer : CV mX0_setClaimer := ⟨co_X0_setClaimer, (gt2 (i := 27) rfl rfl), (gt2 (i := 28) rfl rfl)⟩
theorem co_X0_countClaimed : CO mX0_countClaimed := co_ok (gt2 (i := 33) rfl rfl) ini_RX0 (by decide +kernel)
theorem cv_X0_countClaimed : CV mX0_countClaimed := ⟨co_X0_countClaimed, (gt2 (i := 31) rfl rfl), (gt2 (i := 32) rfl rfl)⟩
theorem co_X0_countClaimedBy : CO mX0_countClaimedBy := co_ok (gt2 (i := 37) rfl rfl) ini_RX0 (by decide +kernel)
theorem cv_X0_countClaimedBy : CV mX0_countClaimedBy := ⟨co_X0_countClaimedBy, (gt2 (i := 35) rfl rfl), (gt2 (i := 36) rfl rfl)⟩
theorem co_X0_cellsClaimedBy : CO mX0_cellsClaimedBy := co_ok (gt2 (i := 41) rfl rfl) ini_RX0 (by decide +kernel)
theorem cv_X0_cellsClaimedBy : CV mX0_cellsClaimedBy := ⟨co_X0_cellsClaimedBy, (gt2 (i := 40) rfl rfl), (gtp (i := 1) rfl rfl)⟩
theorem co_X6_say : CO mX6_say := co_ok (gt2 (i := 46) rfl rfl) ini_RX6 (by decide +kernel)
theorem cv_X6_say : CV mX6_say := ⟨co_X6_say, (gt2 (i := 44) rfl rfl), (gt2 (i := 45) rfl rfl)⟩
theorem co_X2_add : CO mX2_add := co_ok (gt2 (i := 50) rfl rfl) ini_RX2 (by decide +kernel)
theorem cv_X2_add : CV mX2_add := ⟨co_X2_add, (gt2 (i := 48) rfl rfl), (gt2 (i := 49) rfl rfl)⟩
theorem co_X2_size : CO mX2_size := co_ok (gt2 (i := 54) rfl rfl) ini_RX2 (by decide +kernel)
theorem cv_X2_size : CV mX2_size := ⟨co_X2_size, (gt2 (i := 52) rfl rfl), (gt2 (i := 53) rfl rfl)⟩
theorem co_X6_wipe : CO mX6_wipe := co_ok (gt2 (i := 58) rfl rfl) ini_RX6 (by decide +kernel)
theorem cv_X6_wipe : CV mX6_wipe := ⟨co_X6_wipe, (gt2 (i := 56) rfl rfl), (gt2 (i := 57) rfl rfl)⟩
theorem co_X2_clear : CO mX2_clear := co_ok (gt2 (i := 62) rfl rfl) ini_RX2 (by decide +kernel)
theorem cv_X2_clear : CV mX2_clear := ⟨co_X2_clear, (gt2 (i := 60) rfl rfl), (gt2 (i := 61) rfl rfl)⟩
theorem co_X6_fault : CO mX6_fault := co_ok (gt2 (i := 66) rfl rfl) ini_RX6 (by decide +kernel)
theorem cv_X6_fault : CV mX6_fault := ⟨co_X6_fault, (gt2 (i := 64) rfl rfl), (gt2 (i := 65) rfl rfl)⟩
theorem co_X2_firstFault : CO mX2_firstFault := co_ok (gt2 (i := 70) rfl rfl) ini_RX2 (by decide +kernel)
theorem cv_X2_firstFault : CV mX2_firstFault := ⟨co_X2_firstFault, (gt2 (i := 68) rfl rfl), (gt2 (i := 69) rfl rfl)⟩
theorem co_X2_signAt : CO mX2_signAt := co_ok (gt2 (i := 74) rfl rfl) ini_RX2 (by decide +kernel)
theorem cv_X2_signAt : CV mX2_signAt := ⟨co_X2_signAt, (gt2 (i := 72) rfl rfl), (gt2 (i := 73) rfl rfl)⟩
theorem co_X2_isDeedOfMan : CO mX2_isDeedOfMan := co_ok (gt2 (i := 77) rfl rfl) ini_RX2 (by decide +kernel)
theorem cs_X2_isDeedOfMan : CS mX2_isDeedOfMan := ⟨co_X2_isDeedOfMan, (gt2 (i := 76) rfl rfl)⟩
theorem co_X2_isNight : CO mX2_isNight := co_ok (gt2 (i := 80) rfl rfl) ini_RX2 (by decide +kernel)
theorem cs_X2_isNight : CS mX2_isNight := ⟨co_X2_isNight, (gt2 (i := 79) rfl rfl)⟩
theorem co_X2_deedBy : CO mX2_deedBy := co_ok (gt2 (i := 83) rfl rfl) ini_RX2 (by decide +kernel)
theorem cs_X2_deedBy : CS mX2_deedBy := ⟨co_X2_deedBy, (gt2 (i := 82) rfl rfl)⟩
theorem co_X2_manBy : CO mX2_manBy := co_ok (gt2 (i := 88) rfl rfl) ini_RX2 (by decide +kernel)
theorem cs_X2_manBy : CS mX2_manBy := ⟨co_X2_manBy, (gt2 (i := 87) rfl rfl)⟩
theorem co_X6_judge : CO mX6_judge := co_ok (gt2 (i := 93) rfl rfl) ini_RX6 (by decide +kernel)
theorem cv_X6_judge : CV mX6_judge := ⟨co_X6_judge, (gt2 (i := 91) rfl rfl), (gt2 (i := 92) rfl rfl)⟩
theorem co_X6_playWeeks : CO mX6_playWeeks := co_ok (gt2 (i := 97) rfl rfl) ini_RX6 (by decide +kernel)
theorem cv_X6_playWeeks : CV mX6_playWeeks := ⟨co_X6_playWeeks, (gt2 (i := 96) rfl rfl), (gtp (i := 2) rfl rfl)⟩
theorem co_X0_copyFrom : CO mX0_copyFrom := co_ok (gt2 (i := 101) rfl rfl) ini_RX0 (by decide +kernel)
theorem cv_X0_copyFrom : CV mX0_copyFrom := ⟨co_X0_copyFrom, (gt2 (i := 99) rfl rfl), (gt2 (i := 100) rfl rfl)⟩
theorem co_X5_play : CO mX5_play := co_ok (gt2 (i := 108) rfl rfl) ini_RX5 (by decide +kernel)
theorem cv_X5_play : CV mX5_play := ⟨co_X5_play, (gt2 (i := 106) rfl rfl), (gt2 (i := 107) rfl rfl)⟩
theorem co_X5_act : CO mX5_act := co_ok (gt2 (i := 115) rfl rfl) ini_RX5 (by decide +kernel)
theorem cv_X5_act : CV mX5_act := ⟨co_X5_act, (gt2 (i := 114) rfl rfl), (gtp (i := 3) rfl rfl)⟩
theorem co_X0_reasonAgainst : CO mX0_reasonAgainst := co_ok (gt2 (i := 119) rfl rfl) ini_RX0 (by decide +kernel)
theorem cv_X0_reasonAgainst : CV mX0_reasonAgainst := ⟨co_X0_reasonAgainst, (gt2 (i := 117) rfl rfl), (gt2 (i := 118) rfl rfl)⟩
theorem co_X0_tentOf : CO mX0_tentOf := co_ok (gt2 (i := 124) rfl rfl) ini_RX0 (by decide +kernel)
theorem cv_X0_tentOf : CV mX0_tentOf := ⟨co_X0_tentOf, (gt2 (i := 122) rfl rfl), (gt2 (i := 123) rfl rfl)⟩
theorem co_X0_stepFrom : CO mX0_stepFrom := co_ok (gt2 (i := 127) rfl rfl) ini_RX0 (by decide +kernel)
theorem cs_X0_stepFrom : CS mX0_stepFrom := ⟨co_X0_stepFrom, (gt2 (i := 126) rfl rfl)⟩
theorem co_X6_rowOf : CO mX6_rowOf := co_ok (gt2 (i := 130) rfl rfl) ini_RX6 (by decide +kernel)
theorem cs_X6_rowOf : CS mX6_rowOf := ⟨co_X6_rowOf, (gt2 (i := 129) rfl rfl)⟩
theorem co_X6_columnOf : CO mX6_columnOf := co_ok (gt2 (i := 133) rfl rfl) ini_RX6 (by decide +kernel)
theorem cs_X6_columnOf : CS mX6_columnOf := ⟨co_X6_columnOf, (gt2 (i := 132) rfl rfl)⟩
theorem co_X0_isKnownTo : CO mX0_isKnownTo := co_ok (gt2 (i := 137) rfl rfl) ini_RX0 (by decide +kernel)
theorem cv_X0_isKnownTo : CV mX0_isKnownTo := ⟨co_X0_isKnownTo, (gt2 (i := 135) rfl rfl), (gt2 (i := 136) rfl rfl)⟩
theorem co_X0_claimerOf : CO mX0_claimerOf := co_ok (gt2 (i := 141) rfl rfl) ini_RX0 (by decide +kernel)
theorem cv_X0_claimerOf : CV mX0_claimerOf := ⟨co_X0_claimerOf, (gt2 (i := 139) rfl rfl), (gt2 (i := 140) rfl rfl)⟩
theorem co_X0_perform : CO mX0_perform := co_ok (gt2 (i := 147) rfl rfl) ini_RX0 (by decide +kernel)
theorem cv_X0_perform : CV mX0_perform := ⟨co_X0_perform, (gt2 (i := 145) rfl rfl), (gt2 (i := 146) rfl rfl)⟩
theorem co_X0_passNight : CO mX0_passNight := co_ok (gt2 (i := 151) rfl rfl) ini_RX0 (by decide +kernel)
theorem cv_X0_passNight : CV mX0_passNight := ⟨co_X0_passNight, (gt2 (i := 150) rfl rfl), (gtp (i := 4) rfl rfl)⟩
theorem co_X0_goldIn : CO mX0_goldIn := co_ok (gt2 (i := 155) rfl rfl) ini_RX0 (by decide +kernel)
theorem cv_X0_goldIn : CV mX0_goldIn := ⟨co_X0_goldIn, (gt2 (i := 153) rfl rfl), (gt2 (i := 154) rfl rfl)⟩
theorem co_J9_min_7cf53 : CO mJ9_min_7cf53 := co_ok (gt2 (i := 158) rfl rfl) ini_RJ9 (by decide +kernel)
theorem cs_J9_min_7cf53 : CS mJ9_min_7cf53 := ⟨co_J9_min_7cf53, (gt2 (i := 157) rfl rfl)⟩
theorem co_X5_badAct : CO mX5_badAct := co_ok (gt2 (i := 166) rfl rfl) ini_RX5 (by decide +kernel)
theorem cv_X5_badAct : CV mX5_badAct := ⟨co_X5_badAct, (gt2 (i := 164) rfl rfl), (gt2 (i := 165) rfl rfl)⟩
theorem co_X5_badReason : CO mX5_badReason := co_ok (gt2 (i := 170) rfl rfl) ini_RX5 (by decide +kernel)
theorem cv_X5_badReason : CV mX5_badReason := ⟨co_X5_badReason, (gt2 (i := 168) rfl rfl), (gt2 (i := 169) rfl rfl)⟩
theorem co_X0_womansShare : CO mX0_womansShare := co_ok (gt2 (i := 174) rfl rfl) ini_RX0 (by decide +kernel)
theorem cv_X0_womansShare : CV mX0_womansShare := ⟨co_X0_womansShare, (gt2 (i := 172) rfl rfl), (gt2 (i := 173) rfl rfl)⟩
theorem co_X6_behind : CO mX6_behind := co_ok (gt2 (i := 178) rfl rfl) ini_RX6 (by decide +kernel)
theorem cv_X6_behind : CV mX6_behind := ⟨co_X6_behind, (gt2 (i := 176) rfl rfl), (gt2 (i := 177) rfl rfl)⟩
theorem co_X0_snoreOf : CO mX0_snoreOf := co_ok (gt2 (i := 183) rfl rfl) ini_RX0 (by decide +kernel)
theorem cv_X0_snoreOf : CV mX0_snoreOf := ⟨co_X0_snoreOf, (gt2 (i := 181) rfl rfl), (gt2 (i := 182) rfl rfl)⟩
theorem co_X0_hasCold : CO mX0_hasCold := co_ok (gt2 (i := 187) rfl rfl) ini_RX0 (by decide +kernel)
theorem cv_X0_hasCold : CV mX0_hasCold := ⟨co_X0_hasCold, (gt2 (i := 185) rfl rfl), (gt2 (i := 186) rfl rfl)⟩
theorem co_X0_snoreIf : CO mX0_snoreIf := co_ok (gt2 (i := 191) rfl rfl) ini_RX0 (by decide +kernel)
theorem cv_X0_snoreIf : CV mX0_snoreIf := ⟨co_X0_snoreIf, (gt2 (i := 189) rfl rfl), (gt2 (i := 190) rfl rfl)⟩
theorem co_X0_isWhistling : CO mX0_isWhistling := co_ok (gt2 (i := 196) rfl rfl) ini_RX0 (by decide +kernel)
theorem cv_X0_isWhistling : CV mX0_isWhistling := ⟨co_X0_isWhistling, (gt2 (i := 194) rfl rfl), (gt2 (i := 195) rfl rfl)⟩
theorem co_X0_saltOf : CO mX0_saltOf := co_ok (gt2 (i := 200) rfl rfl) ini_RX0 (by decide +kernel)
theorem cv_X0_saltOf : CV mX0_saltOf := ⟨co_X0_saltOf, (gt2 (i := 198) rfl rfl), (gt2 (i := 199) rfl rfl)⟩
theorem co_X6_heard : CO mX6_heard := co_ok (gt2 (i := 205) rfl rfl) ini_RX6 (by decide +kernel)
theorem cv_X6_heard : CV mX6_heard := ⟨co_X6_heard, (gt2 (i := 203) rfl rfl), (gt2 (i := 204) rfl rfl)⟩
theorem co_X0_listen : CO mX0_listen := co_ok (gt2 (i := 209) rfl rfl) ini_RX0 (by decide +kernel)
theorem cv_X0_listen : CV mX0_listen := ⟨co_X0_listen, (gt2 (i := 207) rfl rfl), (gt2 (i := 208) rfl rfl)⟩
theorem co_X0_heardAt : CO mX0_heardAt := co_ok (gt2 (i := 214) rfl rfl) ini_RX0 (by decide +kernel)
theorem cv_X0_heardAt : CV mX0_heardAt := ⟨co_X0_heardAt, (gt2 (i := 212) rfl rfl), (gt2 (i := 213) rfl rfl)⟩
theorem co_X0_heardWithout : CO mX0_heardWithout := co_ok (gt2 (i := 218) rfl rfl) ini_RX0 (by decide +kernel)
theorem cv_X0_heardWithout : CV mX0_heardWithout := ⟨co_X0_heardWithout, (gt2 (i := 216) rfl rfl), (gt2 (i := 217) rfl rfl)⟩
theorem co_X6_distance : CO mX6_distance := co_ok (gt2 (i := 221) rfl rfl) ini_RX6 (by decide +kernel)
theorem cs_X6_distance : CS mX6_distance := ⟨co_X6_distance, (gt2 (i := 220) rfl rfl)⟩
theorem co_J9_abs_0f7a4 : CO mJ9_abs_0f7a4 := co_ok (gt2 (i := 225) rfl rfl) ini_RJ9 (by decide +kernel)
theorem cs_J9_abs_0f7a4 : CS mJ9_abs_0f7a4 := ⟨co_J9_abs_0f7a4, (gt2 (i := 224) rfl rfl)⟩
theorem co_J9_max_7cf53 : CO mJ9_max_7cf53 := co_ok (gt2 (i := 229) rfl rfl) ini_RJ9 (by decide +kernel)
theorem cs_J9_max_7cf53 : CS mJ9_max_7cf53 := ⟨co_J9_max_7cf53, (gt2 (i := 228) rfl rfl)⟩
theorem co_X6_whose : CO mX6_whose := co_ok (gt2 (i := 233) rfl rfl) ini_RX6 (by decide +kernel)
theorem cv_X6_whose : CV mX6_whose := ⟨co_X6_whose, (gt2 (i := 231) rfl rfl), (gt2 (i := 232) rfl rfl)⟩
theorem co_X6_nothing : CO mX6_nothing := co_ok (gt2 (i := 238) rfl rfl) ini_RX6 (by decide +kernel)
theorem cv_X6_nothing : CV mX6_nothing := ⟨co_X6_nothing, (gt2 (i := 236) rfl rfl), (gt2 (i := 237) rfl rfl)⟩
theorem co_X6_isZeroOrOne : CO mX6_isZeroOrOne := co_ok (gt3 (i := 1) rfl rfl) ini_RX6 (by decide +kernel)
theorem cs_X6_isZeroOrOne : CS mX6_isZeroOrOne := ⟨co_X6_isZeroOrOne, (gt3 (i := 0) rfl rfl)⟩
theorem co_X5_firstEmptyClaim : CO mX5_firstEmptyClaim := co_ok (gt3 (i := 5) rfl rfl) ini_RX5 (by decide +kernel)
theorem cv_X5_firstEmptyClaim : CV mX5_firstEmptyClaim := ⟨co_X5_firstEmptyClaim, (gt3 (i := 3) rfl rfl), (gt3 (i := 4) rfl rfl)⟩
theorem co_X5_countEmptyClaims : CO mX5_countEmptyClaims := co_ok (gt3 (i := 9) rfl rfl) ini_RX5 (by decide +kernel)
theorem cv_X5_countEmptyClaims : CV mX5_countEmptyClaims := ⟨co_X5_countEmptyClaims, (gt3 (i := 7) rfl rfl), (gt3 (i := 8) rfl rfl)⟩
theorem co_X6_done : CO mX6_done := co_ok (gt3 (i := 13) rfl rfl) ini_RX6 (by decide +kernel)
theorem cv_X6_done : CV mX6_done := ⟨co_X6_done, (gt3 (i := 11) rfl rfl), (gt3 (i := 12) rfl rfl)⟩
theorem co_X5_countActs : CO mX5_countActs := co_ok (gt3 (i := 17) rfl rfl) ini_RX5 (by decide +kernel)
theorem cv_X5_countActs : CV mX5_countActs := ⟨co_X5_countActs, (gt3 (i := 15) rfl rfl), (gt3 (i := 16) rfl rfl)⟩
theorem co_X6_loudest : CO mX6_loudest := co_ok (gt3 (i := 21) rfl rfl) ini_RX6 (by decide +kernel)
theorem cv_X6_loudest : CV mX6_loudest := ⟨co_X6_loudest, (gt3 (i := 19) rfl rfl), (gt3 (i := 20) rfl rfl)⟩
theorem co_X6_sleep : CO mX6_sleep := co_ok (gt3 (i := 25) rfl rfl) ini_RX6 (by decide +kernel)
theorem cv_X6_sleep : CV mX6_sleep := ⟨co_X6_sleep, (gt3 (i := 23) rfl rfl), (gt3 (i := 24) rfl rfl)⟩
theorem co_X6_refusalOfSteps : CO mX6_refusalOfSteps := co_ok (gt3 (i := 29) rfl rfl) ini_RX6 (by decide +kernel)
theorem cv_X6_refusalOfSteps : CV mX6_refusalOfSteps := ⟨co_X6_refusalOfSteps, (gt3 (i := 28) rfl rfl), (gtp (i := 5) rfl rfl)⟩
theorem co_X6_quietest : CO mX6_quietest := co_ok (gt3 (i := 33) rfl rfl) ini_RX6 (by decide +kernel)
theorem cv_X6_quietest : CV mX6_quietest := ⟨co_X6_quietest, (gt3 (i := 32) rfl rfl), (gtp (i := 6) rfl rfl)⟩
theorem co_X0_heardByOthers : CO mX0_heardByOthers := co_ok (gt3 (i := 38) rfl rfl) ini_RX0 (by decide +kernel)
theorem cv_X0_heardByOthers : CV mX0_heardByOthers := ⟨co_X0_heardByOthers, (gt3 (i := 36) rfl rfl), (gt3 (i := 37) rfl rfl)⟩
theorem co_X6_hide : CO mX6_hide := co_ok (gt3 (i := 43) rfl rfl) ini_RX6 (by decide +kernel)
theorem cv_X6_hide : CV mX6_hide := ⟨co_X6_hide, (gt3 (i := 41) rfl rfl), (gt3 (i := 42) rfl rfl)⟩
theorem co_X6_tale : CO mX6_tale := co_ok (gt3 (i := 47) rfl rfl) ini_RX6 (by decide +kernel)
theorem cv_X6_tale : CV mX6_tale := ⟨co_X6_tale, (gt3 (i := 45) rfl rfl), (gt3 (i := 46) rfl rfl)⟩
theorem co_X4_add : CO mX4_add := co_ok (gt3 (i := 51) rfl rfl) ini_RX4 (by decide +kernel)
theorem cv_X4_add : CV mX4_add := ⟨co_X4_add, (gt3 (i := 49) rfl rfl), (gt3 (i := 50) rfl rfl)⟩
theorem co_X4_size : CO mX4_size := co_ok (gt3 (i := 55) rfl rfl) ini_RX4 (by decide +kernel)
theorem cv_X4_size : CV mX4_size := ⟨co_X4_size, (gt3 (i := 53) rfl rfl), (gt3 (i := 54) rfl rfl)⟩
theorem co_X6_hush : CO mX6_hush := co_ok (gt3 (i := 59) rfl rfl) ini_RX6 (by decide +kernel)
theorem cv_X6_hush : CV mX6_hush := ⟨co_X6_hush, (gt3 (i := 57) rfl rfl), (gt3 (i := 58) rfl rfl)⟩
theorem co_X4_clear : CO mX4_clear := co_ok (gt3 (i := 63) rfl rfl) ini_RX4 (by decide +kernel)
theorem cv_X4_clear : CV mX4_clear := ⟨co_X4_clear, (gt3 (i := 61) rfl rfl), (gt3 (i := 62) rfl rfl)⟩
theorem co_X6_liars : CO mX6_liars := co_ok (gt3 (i := 67) rfl rfl) ini_RX6 (by decide +kernel)
theorem cv_X6_liars : CV mX6_liars := ⟨co_X6_liars, (gt3 (i := 65) rfl rfl), (gt3 (i := 66) rfl rfl)⟩
theorem co_X4_fewestLiars : CO mX4_fewestLiars := co_ok (gt3 (i := 71) rfl rfl) ini_RX4 (by decide +kernel)
theorem cv_X4_fewestLiars : CV mX4_fewestLiars := ⟨co_X4_fewestLiars, (gt3 (i := 69) rfl rfl), (gt3 (i := 70) rfl rfl)⟩
theorem co_X4_holdTogether : CO mX4_holdTogether := co_ok (gt3 (i := 76) rfl rfl) ini_RX4 (by decide +kernel)
theorem cv_X4_holdTogether : CV mX4_holdTogether := ⟨co_X4_holdTogether, (gt3 (i := 75) rfl rfl), (gtp (i := 7) rfl rfl)⟩
theorem co_X4_isGoldBy : CO mX4_isGoldBy := co_ok (gt3 (i := 80) rfl rfl) ini_RX4 (by decide +kernel)
theorem cv_X4_isGoldBy : CV mX4_isGoldBy := ⟨co_X4_isGoldBy, (gt3 (i := 79) rfl rfl), (gtp (i := 8) rfl rfl)⟩
theorem co_X6_leaves : CO mX6_leaves := co_ok (gt3 (i := 86) rfl rfl) ini_RX6 (by decide +kernel)
theorem cv_X6_leaves : CV mX6_leaves := ⟨co_X6_leaves, (gt3 (i := 84) rfl rfl), (gt3 (i := 85) rfl rfl)⟩
theorem co_X6_readDigits : CO mX6_readDigits := co_ok (gt3 (i := 91) rfl rfl) ini_RX6 (by decide +kernel)
theorem cv_X6_readDigits : CV mX6_readDigits := ⟨co_X6_readDigits, (gt3 (i := 90) rfl rfl), (gtp (i := 9) rfl rfl)⟩
theorem co_X6_digitsAreTwos : CO mX6_digitsAreTwos := co_ok (gt3 (i := 95) rfl rfl) ini_RX6 (by decide +kernel)
theorem cv_X6_digitsAreTwos : CV mX6_digitsAreTwos := ⟨co_X6_digitsAreTwos, (gt3 (i := 94) rfl rfl), (gtp (i := 10) rfl rfl)⟩
theorem co_X6_digitAt : CO mX6_digitAt := co_ok (gt3 (i := 99) rfl rfl) ini_RX6 (by decide +kernel)
theorem cv_X6_digitAt : CV mX6_digitAt := ⟨co_X6_digitAt, (gt3 (i := 98) rfl rfl), (gtp (i := 11) rfl rfl)⟩
theorem co_X6_wouldRatherShare : CO mX6_wouldRatherShare := co_ok (gt3 (i := 103) rfl rfl) ini_RX6 (by decide +kernel)
theorem cv_X6_wouldRatherShare : CV mX6_wouldRatherShare := ⟨co_X6_wouldRatherShare, (gt3 (i := 102) rfl rfl), (gtp (i := 12) rfl rfl)⟩
theorem co_X0_twiceShare : CO mX0_twiceShare := co_ok (gt3 (i := 107) rfl rfl) ini_RX0 (by decide +kernel)
theorem cv_X0_twiceShare : CV mX0_twiceShare := ⟨co_X0_twiceShare, (gt3 (i := 105) rfl rfl), (gt3 (i := 106) rfl rfl)⟩
theorem co_X6_seen : CO mX6_seen := co_ok (gt3 (i := 111) rfl rfl) ini_RX6 (by decide +kernel)
theorem cv_X6_seen : CV mX6_seen := ⟨co_X6_seen, (gt3 (i := 109) rfl rfl), (gt3 (i := 110) rfl rfl)⟩
theorem co_X3_add : CO mX3_add := co_ok (gt3 (i := 115) rfl rfl) ini_RX3 (by decide +kernel)
theorem cv_X3_add : CV mX3_add := ⟨co_X3_add, (gt3 (i := 113) rfl rfl), (gt3 (i := 114) rfl rfl)⟩
theorem co_X3_lodesThrough : CO mX3_lodesThrough := co_ok (gt3 (i := 118) rfl rfl) ini_RX3 (by decide +kernel)
theorem cs_X3_lodesThrough : CS mX3_lodesThrough := ⟨co_X3_lodesThrough, (gt3 (i := 117) rfl rfl)⟩
theorem co_X3_size : CO mX3_size := co_ok (gt3 (i := 125) rfl rfl) ini_RX3 (by decide +kernel)
theorem cv_X3_size : CV mX3_size := ⟨co_X3_size, (gt3 (i := 123) rfl rfl), (gt3 (i := 124) rfl rfl)⟩
theorem co_X6_forget : CO mX6_forget := co_ok (gt3 (i := 129) rfl rfl) ini_RX6 (by decide +kernel)
theorem cv_X6_forget : CV mX6_forget := ⟨co_X6_forget, (gt3 (i := 127) rfl rfl), (gt3 (i := 128) rfl rfl)⟩
theorem co_X3_clear : CO mX3_clear := co_ok (gt3 (i := 133) rfl rfl) ini_RX3 (by decide +kernel)
theorem cv_X3_clear : CV mX3_clear := ⟨co_X3_clear, (gt3 (i := 131) rfl rfl), (gt3 (i := 132) rfl rfl)⟩
theorem co_X6_lodes : CO mX6_lodes := co_ok (gt3 (i := 137) rfl rfl) ini_RX6 (by decide +kernel)
theorem cv_X6_lodes : CV mX6_lodes := ⟨co_X6_lodes, (gt3 (i := 135) rfl rfl), (gt3 (i := 136) rfl rfl)⟩
theorem co_X3_countFitting : CO mX3_countFitting := co_ok (gt3 (i := 141) rfl rfl) ini_RX3 (by decide +kernel)
theorem cv_X3_countFitting : CV mX3_countFitting := ⟨co_X3_countFitting, (gt3 (i := 139) rfl rfl), (gt3 (i := 140) rfl rfl)⟩
theorem co_X3_fittingAt : CO mX3_fittingAt := co_ok (gt3 (i := 146) rfl rfl) ini_RX3 (by decide +kernel)
theorem cv_X3_fittingAt : CV mX3_fittingAt := ⟨co_X3_fittingAt, (gt3 (i := 144) rfl rfl), (gt3 (i := 145) rfl rfl)⟩
theorem co_X6_odds : CO mX6_odds := co_ok (gt3 (i := 150) rfl rfl) ini_RX6 (by decide +kernel)
theorem cv_X6_odds : CV mX6_odds := ⟨co_X6_odds, (gt3 (i := 148) rfl rfl), (gt3 (i := 149) rfl rfl)⟩
theorem co_X3_countThrough : CO mX3_countThrough := co_ok (gt3 (i := 155) rfl rfl) ini_RX3 (by decide +kernel)
theorem cv_X3_countThrough : CV mX3_countThrough := ⟨co_X3_countThrough, (gt3 (i := 153) rfl rfl), (gt3 (i := 154) rfl rfl)⟩
theorem co_X6_partOfFraction : CO mX6_partOfFraction := co_ok (gt3 (i := 158) rfl rfl) ini_RX6 (by decide +kernel)
theorem cs_X6_partOfFraction : CS mX6_partOfFraction := ⟨co_X6_partOfFraction, (gt3 (i := 157) rfl rfl)⟩
theorem co_X6_greatestDivisor : CO mX6_greatestDivisor := co_ok (gt3 (i := 161) rfl rfl) ini_RX6 (by decide +kernel)
theorem cs_X6_greatestDivisor : CS mX6_greatestDivisor := ⟨co_X6_greatestDivisor, (gt3 (i := 160) rfl rfl)⟩
theorem co_X6_next : CO mX6_next := co_ok (gt3 (i := 165) rfl rfl) ini_RX6 (by decide +kernel)
theorem cv_X6_next : CV mX6_next := ⟨co_X6_next, (gt3 (i := 163) rfl rfl), (gt3 (i := 164) rfl rfl)⟩
theorem co_X6_turns : CO mX6_turns := co_ok (gt3 (i := 170) rfl rfl) ini_RX6 (by decide +kernel)
theorem cv_X6_turns : CV mX6_turns := ⟨co_X6_turns, (gt3 (i := 168) rfl rfl), (gt3 (i := 169) rfl rfl)⟩
theorem co_X6_findLeads : CO mX6_findLeads := co_ok (gt3 (i := 174) rfl rfl) ini_RX6 (by decide +kernel)
theorem cv_X6_findLeads : CV mX6_findLeads := ⟨co_X6_findLeads, (gt3 (i := 173) rfl rfl), (gtp (i := 13) rfl rfl)⟩
theorem co_X6_leadAt : CO mX6_leadAt := co_ok (gt3 (i := 178) rfl rfl) ini_RX6 (by decide +kernel)
theorem cv_X6_leadAt : CV mX6_leadAt := ⟨co_X6_leadAt, (gt3 (i := 177) rfl rfl), (gtp (i := 14) rfl rfl)⟩
theorem co_X6_colds : CO mX6_colds := co_ok (gt3 (i := 182) rfl rfl) ini_RX6 (by decide +kernel)
theorem cv_X6_colds : CV mX6_colds := ⟨co_X6_colds, (gt3 (i := 180) rfl rfl), (gt3 (i := 181) rfl rfl)⟩
theorem co_X6_hearWithAndWithoutCold : CO mX6_hearWithAndWithoutCold := co_ok (gt3 (i := 186) rfl rfl) ini_RX6 (by decide +kernel)
theorem cv_X6_hearWithAndWithoutCold : CV mX6_hearWithAndWithoutCold := ⟨co_X6_hearWithAndWithoutCold, (gt3 (i := 185) rfl rfl), (gtp (i := 15) rfl rfl)⟩
theorem co_X0_menBits : CO mX0_menBits := co_ok (gt3 (i := 191) rfl rfl) ini_RX0 (by decide +kernel)
theorem cv_X0_menBits : CV mX0_menBits := ⟨co_X0_menBits, (gt3 (i := 189) rfl rfl), (gt3 (i := 190) rfl rfl)⟩
theorem co_X6_heardIfSick : CO mX6_heardIfSick := co_ok (gt3 (i := 195) rfl rfl) ini_RX6 (by decide +kernel)
theorem cv_X6_heardIfSick : CV mX6_heardIfSick := ⟨co_X6_heardIfSick, (gt3 (i := 194) rfl rfl), (gtp (i := 16) rfl rfl)⟩
theorem co_X6_weightOf : CO mX6_weightOf := co_ok (gt3 (i := 199) rfl rfl) ini_RX6 (by decide +kernel)
theorem cs_X6_weightOf : CS mX6_weightOf := ⟨co_X6_weightOf, (gt3 (i := 198) rfl rfl)⟩
theorem co_X6_power : CO mX6_power := co_ok (gt3 (i := 202) rfl rfl) ini_RX6 (by decide +kernel)
theorem cs_X6_power : CS mX6_power := ⟨co_X6_power, (gt3 (i := 201) rfl rfl)⟩
theorem co_X6_year : CO mX6_year := co_ok (gt3 (i := 206) rfl rfl) ini_RX6 (by decide +kernel)
theorem cv_X6_year : CV mX6_year := ⟨co_X6_year, (gt3 (i := 204) rfl rfl), (gt3 (i := 205) rfl rfl)⟩
theorem co_X0_allSalt : CO mX0_allSalt := co_ok (gt3 (i := 213) rfl rfl) ini_RX0 (by decide +kernel)
theorem cv_X0_allSalt : CV mX0_allSalt := ⟨co_X0_allSalt, (gt3 (i := 211) rfl rfl), (gt3 (i := 212) rfl rfl)⟩
theorem co_X6_image : CO mX6_image := co_ok (gt3 (i := 217) rfl rfl) ini_RX6 (by decide +kernel)
theorem cv_X6_image : CV mX6_image := ⟨co_X6_image, (gt3 (i := 215) rfl rfl), (gt3 (i := 216) rfl rfl)⟩
theorem co_X6_imageOf : CO mX6_imageOf := co_ok (gt3 (i := 221) rfl rfl) ini_RX6 (by decide +kernel)
theorem cv_X6_imageOf : CV mX6_imageOf := ⟨co_X6_imageOf, (gt3 (i := 220) rfl rfl), (gtp (i := 17) rfl rfl)⟩
theorem co_X1_copyFrom : CO mX1_copyFrom := co_ok (gt3 (i := 225) rfl rfl) ini_RX1 (by decide +kernel)
theorem cv_X1_copyFrom : CV mX1_copyFrom := ⟨co_X1_copyFrom, (gt3 (i := 223) rfl rfl), (gt3 (i := 224) rfl rfl)⟩
theorem co_X4_copyFrom : CO mX4_copyFrom := co_ok (gt3 (i := 230) rfl rfl) ini_RX4 (by decide +kernel)
theorem cv_X4_copyFrom : CV mX4_copyFrom := ⟨co_X4_copyFrom, (gt3 (i := 228) rfl rfl), (gt3 (i := 229) rfl rfl)⟩
theorem co_X3_copyFrom : CO mX3_copyFrom := co_ok (gt3 (i := 235) rfl rfl) ini_RX3 (by decide +kernel)
theorem cv_X3_copyFrom : CV mX3_copyFrom := ⟨co_X3_copyFrom, (gt3 (i := 233) rfl rfl), (gt3 (i := 234) rfl rfl)⟩
theorem co_X1_markKept : CO mX1_markKept := co_ok (gt3 (i := 239) rfl rfl) ini_RX1 (by decide +kernel)
theorem cv_X1_markKept : CV mX1_markKept := ⟨co_X1_markKept, (gt3 (i := 237) rfl rfl), (gt3 (i := 238) rfl rfl)⟩
theorem co_X6_restore : CO mX6_restore := co_ok (gt4 (i := 3) rfl rfl) ini_RX6 (by decide +kernel)
theorem cv_X6_restore : CV mX6_restore := ⟨co_X6_restore, (gt4 (i := 1) rfl rfl), (gt4 (i := 2) rfl rfl)⟩
theorem co_X1_isKept : CO mX1_isKept := co_ok (gt4 (i := 7) rfl rfl) ini_RX1 (by decide +kernel)
theorem cv_X1_isKept : CV mX1_isKept := ⟨co_X1_isKept, (gt4 (i := 5) rfl rfl), (gt4 (i := 6) rfl rfl)⟩
theorem co_X6_told : CO mX6_told := co_ok (gt4 (i := 11) rfl rfl) ini_RX6 (by decide +kernel)
theorem cv_X6_told : CV mX6_told := ⟨co_X6_told, (gt4 (i := 9) rfl rfl), (gt4 (i := 10) rfl rfl)⟩
theorem co_X6_toldOfMan : CO mX6_toldOfMan := co_ok (gt4 (i := 15) rfl rfl) ini_RX6 (by decide +kernel)
theorem cv_X6_toldOfMan : CV mX6_toldOfMan := ⟨co_X6_toldOfMan, (gt4 (i := 14) rfl rfl), (gtp (i := 18) rfl rfl)⟩
theorem co_X6_toldOfCell : CO mX6_toldOfCell := co_ok (gt4 (i := 21) rfl rfl) ini_RX6 (by decide +kernel)
theorem cv_X6_toldOfCell : CV mX6_toldOfCell := ⟨co_X6_toldOfCell, (gt4 (i := 20) rfl rfl), (gtp (i := 19) rfl rfl)⟩
theorem co_X6_toldOfKnown : CO mX6_toldOfKnown := co_ok (gt4 (i := 25) rfl rfl) ini_RX6 (by decide +kernel)
theorem cv_X6_toldOfKnown : CV mX6_toldOfKnown := ⟨co_X6_toldOfKnown, (gt4 (i := 24) rfl rfl), (gtp (i := 20) rfl rfl)⟩
theorem co_X7_init : CO mX7_init := co_ok (gt4 (i := 31) rfl rfl) ini_RX7 (by decide +kernel)
theorem ci_X7_init : Cond.instanceMethod (my mX7_init) ∈ gt := (gt4 (i := 30) rfl rfl)
theorem co_X7_gold : CO mX7_gold := co_ok (gt4 (i := 149) rfl rfl) ini_RX7 (by decide +kernel)
theorem cv_X7_gold : CV mX7_gold := ⟨co_X7_gold, (gt4 (i := 147) rfl rfl), (gt4 (i := 148) rfl rfl)⟩
theorem co_X7_isCell : CO mX7_isCell := co_ok (gt4 (i := 152) rfl rfl) ini_RX7 (by decide +kernel)
theorem cs_X7_isCell : CS mX7_isCell := ⟨co_X7_isCell, (gt4 (i := 151) rfl rfl)⟩
theorem co_X7_in : CO mX7_in := co_ok (gt4 (i := 156) rfl rfl) ini_RX7 (by decide +kernel)
theorem cs_X7_in : CS mX7_in := ⟨co_X7_in, (gt4 (i := 155) rfl rfl)⟩
theorem co_X7_man : CO mX7_man := co_ok (gt4 (i := 161) rfl rfl) ini_RX7 (by decide +kernel)
theorem cv_X7_man : CV mX7_man := ⟨co_X7_man, (gt4 (i := 159) rfl rfl), (gt4 (i := 160) rfl rfl)⟩
theorem co_X7_ones : CO mX7_ones := co_ok (gt4 (i := 165) rfl rfl) ini_RX7 (by decide +kernel)
theorem cs_X7_ones : CS mX7_ones := ⟨co_X7_ones, (gt4 (i := 164) rfl rfl)⟩
theorem co_X7_leave : CO mX7_leave := co_ok (gt4 (i := 169) rfl rfl) ini_RX7 (by decide +kernel)
theorem cv_X7_leave : CV mX7_leave := ⟨co_X7_leave, (gt4 (i := 167) rfl rfl), (gt4 (i := 168) rfl rfl)⟩
theorem co_X7_isMan : CO mX7_isMan := co_ok (gt4 (i := 173) rfl rfl) ini_RX7 (by decide +kernel)
theorem cv_X7_isMan : CV mX7_isMan := ⟨co_X7_isMan, (gt4 (i := 172) rfl rfl), (gtp (i := 21) rfl rfl)⟩
theorem co_X7_know : CO mX7_know := co_ok (gt4 (i := 177) rfl rfl) ini_RX7 (by decide +kernel)
theorem cv_X7_know : CV mX7_know := ⟨co_X7_know, (gt4 (i := 175) rfl rfl), (gt4 (i := 176) rfl rfl)⟩
theorem co_X7_knownBy : CO mX7_knownBy := co_ok (gt4 (i := 182) rfl rfl) ini_RX7 (by decide +kernel)
theorem cv_X7_knownBy : CV mX7_knownBy := ⟨co_X7_knownBy, (gt4 (i := 181) rfl rfl), (gtp (i := 22) rfl rfl)⟩
theorem co_X7_isKnown : CO mX7_isKnown := co_ok (gt4 (i := 186) rfl rfl) ini_RX7 (by decide +kernel)
theorem cv_X7_isKnown : CV mX7_isKnown := ⟨co_X7_isKnown, (gt4 (i := 185) rfl rfl), (gtp (i := 23) rfl rfl)⟩
theorem co_X7_claim : CO mX7_claim := co_ok (gt4 (i := 190) rfl rfl) ini_RX7 (by decide +kernel)
theorem cv_X7_claim : CV mX7_claim := ⟨co_X7_claim, (gt4 (i := 188) rfl rfl), (gt4 (i := 189) rfl rfl)⟩
theorem co_X7_claimedCells : CO mX7_claimedCells := co_ok (gt4 (i := 194) rfl rfl) ini_RX7 (by decide +kernel)
theorem cv_X7_claimedCells : CV mX7_claimedCells := ⟨co_X7_claimedCells, (gt4 (i := 193) rfl rfl), (gtp (i := 24) rfl rfl)⟩
theorem co_X7_claimedBy : CO mX7_claimedBy := co_ok (gt4 (i := 198) rfl rfl) ini_RX7 (by decide +kernel)
theorem cv_X7_claimedBy : CV mX7_claimedBy := ⟨co_X7_claimedBy, (gt4 (i := 197) rfl rfl), (gtp (i := 25) rfl rfl)⟩
theorem co_X7_say : CO mX7_say := co_ok (gt4 (i := 202) rfl rfl) ini_RX7 (by decide +kernel)
theorem cv_X7_say : CV mX7_say := ⟨co_X7_say, (gt4 (i := 200) rfl rfl), (gt4 (i := 201) rfl rfl)⟩
theorem co_X7_wipe : CO mX7_wipe := co_ok (gt4 (i := 208) rfl rfl) ini_RX7 (by decide +kernel)
theorem cv_X7_wipe : CV mX7_wipe := ⟨co_X7_wipe, (gt4 (i := 206) rfl rfl), (gt4 (i := 207) rfl rfl)⟩
theorem co_X7_fault : CO mX7_fault := co_ok (gt4 (i := 212) rfl rfl) ini_RX7 (by decide +kernel)
theorem cv_X7_fault : CV mX7_fault := ⟨co_X7_fault, (gt4 (i := 210) rfl rfl), (gt4 (i := 211) rfl rfl)⟩
theorem co_X7_readOn : CO mX7_readOn := co_ok (gt4 (i := 216) rfl rfl) ini_RX7 (by decide +kernel)
theorem cv_X7_readOn : CV mX7_readOn := ⟨co_X7_readOn, (gt4 (i := 215) rfl rfl), (gtp (i := 26) rfl rfl)⟩
theorem co_X7_deed : CO mX7_deed := co_ok (gt4 (i := 220) rfl rfl) ini_RX7 (by decide +kernel)
theorem cv_X7_deed : CV mX7_deed := ⟨co_X7_deed, (gt4 (i := 219) rfl rfl), (gtp (i := 27) rfl rfl)⟩
theorem co_X7_close : CO mX7_close := co_ok (gt4 (i := 224) rfl rfl) ini_RX7 (by decide +kernel)
theorem cv_X7_close : CV mX7_close := ⟨co_X7_close, (gt4 (i := 223) rfl rfl), (gtp (i := 28) rfl rfl)⟩
theorem co_X7_judge : CO mX7_judge := co_ok (gt4 (i := 230) rfl rfl) ini_RX7 (by decide +kernel)
theorem cv_X7_judge : CV mX7_judge := ⟨co_X7_judge, (gt4 (i := 228) rfl rfl), (gt4 (i := 229) rfl rfl)⟩
theorem co_X7_refusal : CO mX7_refusal := co_ok (gt4 (i := 235) rfl rfl) ini_RX7 (by decide +kernel)
theorem cv_X7_refusal : CV mX7_refusal := ⟨co_X7_refusal, (gt4 (i := 234) rfl rfl), (gtp (i := 29) rfl rfl)⟩
theorem co_X7_keepNow : CO mX7_keepNow := co_ok (gt4 (i := 239) rfl rfl) ini_RX7 (by decide +kernel)
theorem cv_X7_keepNow : CV mX7_keepNow := ⟨co_X7_keepNow, (gt4 (i := 238) rfl rfl), (gtp (i := 30) rfl rfl)⟩
theorem co_X7_goWeeks : CO mX7_goWeeks := co_ok (gt5 (i := 4) rfl rfl) ini_RX7 (by decide +kernel)
theorem cv_X7_goWeeks : CV mX7_goWeeks := ⟨co_X7_goWeeks, (gt5 (i := 3) rfl rfl), (gtp (i := 31) rfl rfl)⟩
theorem co_X7_whyNot : CO mX7_whyNot := co_ok (gt5 (i := 8) rfl rfl) ini_RX7 (by decide +kernel)
theorem cv_X7_whyNot : CV mX7_whyNot := ⟨co_X7_whyNot, (gt5 (i := 7) rfl rfl), (gtp (i := 32) rfl rfl)⟩
theorem co_X7_canGo : CO mX7_canGo := co_ok (gt5 (i := 12) rfl rfl) ini_RX7 (by decide +kernel)
theorem cv_X7_canGo : CV mX7_canGo := ⟨co_X7_canGo, (gt5 (i := 11) rfl rfl), (gtp (i := 33) rfl rfl)⟩
theorem co_X7_eastBy : CO mX7_eastBy := co_ok (gt5 (i := 15) rfl rfl) ini_RX7 (by decide +kernel)
theorem cs_X7_eastBy : CS mX7_eastBy := ⟨co_X7_eastBy, (gt5 (i := 14) rfl rfl)⟩
theorem co_X7_northBy : CO mX7_northBy := co_ok (gt5 (i := 19) rfl rfl) ini_RX7 (by decide +kernel)
theorem cs_X7_northBy : CS mX7_northBy := ⟨co_X7_northBy, (gt5 (i := 18) rfl rfl)⟩
theorem co_X7_happen : CO mX7_happen := co_ok (gt5 (i := 23) rfl rfl) ini_RX7 (by decide +kernel)
theorem cv_X7_happen : CV mX7_happen := ⟨co_X7_happen, (gt5 (i := 22) rfl rfl), (gtp (i := 34) rfl rfl)⟩
theorem co_X7_claimHere : CO mX7_claimHere := co_ok (gt5 (i := 27) rfl rfl) ini_RX7 (by decide +kernel)
theorem cv_X7_claimHere : CV mX7_claimHere := ⟨co_X7_claimHere, (gt5 (i := 26) rfl rfl), (gtp (i := 35) rfl rfl)⟩
theorem co_X7_passNight : CO mX7_passNight := co_ok (gt5 (i := 31) rfl rfl) ini_RX7 (by decide +kernel)
theorem cv_X7_passNight : CV mX7_passNight := ⟨co_X7_passNight, (gt5 (i := 30) rfl rfl), (gtp (i := 36) rfl rfl)⟩
theorem co_X7_back : CO mX7_back := co_ok (gt5 (i := 35) rfl rfl) ini_RX7 (by decide +kernel)
theorem cv_X7_back : CV mX7_back := ⟨co_X7_back, (gt5 (i := 34) rfl rfl), (gtp (i := 37) rfl rfl)⟩
theorem co_X7_behind : CO mX7_behind := co_ok (gt5 (i := 39) rfl rfl) ini_RX7 (by decide +kernel)
theorem cv_X7_behind : CV mX7_behind := ⟨co_X7_behind, (gt5 (i := 37) rfl rfl), (gt5 (i := 38) rfl rfl)⟩
theorem co_X7_ofMan : CO mX7_ofMan := co_ok (gt5 (i := 44) rfl rfl) ini_RX7 (by decide +kernel)
theorem cv_X7_ofMan : CV mX7_ofMan := ⟨co_X7_ofMan, (gt5 (i := 43) rfl rfl), (gtp (i := 38) rfl rfl)⟩
theorem co_X7_snore : CO mX7_snore := co_ok (gt5 (i := 48) rfl rfl) ini_RX7 (by decide +kernel)
theorem cv_X7_snore : CV mX7_snore := ⟨co_X7_snore, (gt5 (i := 47) rfl rfl), (gtp (i := 39) rfl rfl)⟩
theorem co_X7_snoreBy : CO mX7_snoreBy := co_ok (gt5 (i := 52) rfl rfl) ini_RX7 (by decide +kernel)
theorem cv_X7_snoreBy : CV mX7_snoreBy := ⟨co_X7_snoreBy, (gt5 (i := 51) rfl rfl), (gtp (i := 40) rfl rfl)⟩
theorem co_X7_heard : CO mX7_heard := co_ok (gt5 (i := 56) rfl rfl) ini_RX7 (by decide +kernel)
theorem cv_X7_heard : CV mX7_heard := ⟨co_X7_heard, (gt5 (i := 54) rfl rfl), (gt5 (i := 55) rfl rfl)⟩
theorem co_X7_heardAt : CO mX7_heardAt := co_ok (gt5 (i := 60) rfl rfl) ini_RX7 (by decide +kernel)
theorem cv_X7_heardAt : CV mX7_heardAt := ⟨co_X7_heardAt, (gt5 (i := 59) rfl rfl), (gtp (i := 41) rfl rfl)⟩
theorem co_X7_apart : CO mX7_apart := co_ok (gt5 (i := 63) rfl rfl) ini_RX7 (by decide +kernel)
theorem cs_X7_apart : CS mX7_apart := ⟨co_X7_apart, (gt5 (i := 62) rfl rfl)⟩
theorem co_X7_over : CO mX7_over := co_ok (gt5 (i := 66) rfl rfl) ini_RX7 (by decide +kernel)
theorem cs_X7_over : CS mX7_over := ⟨co_X7_over, (gt5 (i := 65) rfl rfl)⟩
theorem co_X7_whose : CO mX7_whose := co_ok (gt5 (i := 70) rfl rfl) ini_RX7 (by decide +kernel)
theorem cv_X7_whose : CV mX7_whose := ⟨co_X7_whose, (gt5 (i := 68) rfl rfl), (gt5 (i := 69) rfl rfl)⟩
theorem co_X7_nothing : CO mX7_nothing := co_ok (gt5 (i := 74) rfl rfl) ini_RX7 (by decide +kernel)
theorem cv_X7_nothing : CV mX7_nothing := ⟨co_X7_nothing, (gt5 (i := 72) rfl rfl), (gt5 (i := 73) rfl rfl)⟩
theorem co_X7_done : CO mX7_done := co_ok (gt5 (i := 78) rfl rfl) ini_RX7 (by decide +kernel)
theorem cv_X7_done : CV mX7_done := ⟨co_X7_done, (gt5 (i := 76) rfl rfl), (gt5 (i := 77) rfl rfl)⟩
theorem co_X7_loudest : CO mX7_loudest := co_ok (gt5 (i := 82) rfl rfl) ini_RX7 (by decide +kernel)
theorem cv_X7_loudest : CV mX7_loudest := ⟨co_X7_loudest, (gt5 (i := 80) rfl rfl), (gt5 (i := 81) rfl rfl)⟩
theorem co_X7_sleep : CO mX7_sleep := co_ok (gt5 (i := 86) rfl rfl) ini_RX7 (by decide +kernel)
theorem cv_X7_sleep : CV mX7_sleep := ⟨co_X7_sleep, (gt5 (i := 84) rfl rfl), (gt5 (i := 85) rfl rfl)⟩
theorem co_X7_quietest : CO mX7_quietest := co_ok (gt5 (i := 91) rfl rfl) ini_RX7 (by decide +kernel)
theorem cv_X7_quietest : CV mX7_quietest := ⟨co_X7_quietest, (gt5 (i := 90) rfl rfl), (gtp (i := 42) rfl rfl)⟩
theorem co_X7_quietAt : CO mX7_quietAt := co_ok (gt5 (i := 95) rfl rfl) ini_RX7 (by decide +kernel)
theorem cv_X7_quietAt : CV mX7_quietAt := ⟨co_X7_quietAt, (gt5 (i := 94) rfl rfl), (gtp (i := 43) rfl rfl)⟩
theorem co_X7_givenAway : CO mX7_givenAway := co_ok (gt5 (i := 99) rfl rfl) ini_RX7 (by decide +kernel)
theorem cv_X7_givenAway : CV mX7_givenAway := ⟨co_X7_givenAway, (gt5 (i := 98) rfl rfl), (gtp (i := 44) rfl rfl)⟩
theorem co_X7_hide : CO mX7_hide := co_ok (gt5 (i := 103) rfl rfl) ini_RX7 (by decide +kernel)
theorem cv_X7_hide : CV mX7_hide := ⟨co_X7_hide, (gt5 (i := 101) rfl rfl), (gt5 (i := 102) rfl rfl)⟩
theorem co_X7_tale : CO mX7_tale := co_ok (gt5 (i := 107) rfl rfl) ini_RX7 (by decide +kernel)
theorem cv_X7_tale : CV mX7_tale := ⟨co_X7_tale, (gt5 (i := 105) rfl rfl), (gt5 (i := 106) rfl rfl)⟩
theorem co_X7_hush : CO mX7_hush := co_ok (gt5 (i := 111) rfl rfl) ini_RX7 (by decide +kernel)
theorem cv_X7_hush : CV mX7_hush := ⟨co_X7_hush, (gt5 (i := 109) rfl rfl), (gt5 (i := 110) rfl rfl)⟩
theorem co_X7_liars : CO mX7_liars := co_ok (gt5 (i := 115) rfl rfl) ini_RX7 (by decide +kernel)
theorem cv_X7_liars : CV mX7_liars := ⟨co_X7_liars, (gt5 (i := 113) rfl rfl), (gt5 (i := 114) rfl rfl)⟩
theorem co_X7_canBe : CO mX7_canBe := co_ok (gt5 (i := 119) rfl rfl) ini_RX7 (by decide +kernel)
theorem cv_X7_canBe : CV mX7_canBe := ⟨co_X7_canBe, (gt5 (i := 118) rfl rfl), (gtp (i := 45) rfl rfl)⟩
theorem co_X7_meant : CO mX7_meant := co_ok (gt5 (i := 123) rfl rfl) ini_RX7 (by decide +kernel)
theorem cv_X7_meant : CV mX7_meant := ⟨co_X7_meant, (gt5 (i := 122) rfl rfl), (gtp (i := 46) rfl rfl)⟩
theorem co_X7_leaves : CO mX7_leaves := co_ok (gt5 (i := 127) rfl rfl) ini_RX7 (by decide +kernel)
theorem cv_X7_leaves : CV mX7_leaves := ⟨co_X7_leaves, (gt5 (i := 125) rfl rfl), (gt5 (i := 126) rfl rfl)⟩
theorem co_X7_areTwos : CO mX7_areTwos := co_ok (gt5 (i := 131) rfl rfl) ini_RX7 (by decide +kernel)
theorem cv_X7_areTwos : CV mX7_areTwos := ⟨co_X7_areTwos, (gt5 (i := 130) rfl rfl), (gtp (i := 47) rfl rfl)⟩
theorem co_X7_wouldLeave : CO mX7_wouldLeave := co_ok (gt5 (i := 136) rfl rfl) ini_RX7 (by decide +kernel)
theorem cv_X7_wouldLeave : CV mX7_wouldLeave := ⟨co_X7_wouldLeave, (gt5 (i := 135) rfl rfl), (gtp (i := 48) rfl rfl)⟩
theorem co_X7_halves : CO mX7_halves := co_ok (gt5 (i := 140) rfl rfl) ini_RX7 (by decide +kernel)
theorem cv_X7_halves : CV mX7_halves := ⟨co_X7_halves, (gt5 (i := 139) rfl rfl), (gtp (i := 49) rfl rfl)⟩
theorem co_X7_goldOf : CO mX7_goldOf := co_ok (gt5 (i := 144) rfl rfl) ini_RX7 (by decide +kernel)
theorem cv_X7_goldOf : CV mX7_goldOf := ⟨co_X7_goldOf, (gt5 (i := 143) rfl rfl), (gtp (i := 50) rfl rfl)⟩
theorem co_X7_seen : CO mX7_seen := co_ok (gt5 (i := 148) rfl rfl) ini_RX7 (by decide +kernel)
theorem cv_X7_seen : CV mX7_seen := ⟨co_X7_seen, (gt5 (i := 146) rfl rfl), (gt5 (i := 147) rfl rfl)⟩
theorem co_X7_forget : CO mX7_forget := co_ok (gt5 (i := 152) rfl rfl) ini_RX7 (by decide +kernel)
theorem cv_X7_forget : CV mX7_forget := ⟨co_X7_forget, (gt5 (i := 150) rfl rfl), (gt5 (i := 151) rfl rfl)⟩
theorem co_X7_lodes : CO mX7_lodes := co_ok (gt5 (i := 156) rfl rfl) ini_RX7 (by decide +kernel)
theorem cv_X7_lodes : CV mX7_lodes := ⟨co_X7_lodes, (gt5 (i := 154) rfl rfl), (gt5 (i := 155) rfl rfl)⟩
theorem co_X7_fits : CO mX7_fits := co_ok (gt5 (i := 160) rfl rfl) ini_RX7 (by decide +kernel)
theorem cv_X7_fits : CV mX7_fits := ⟨co_X7_fits, (gt5 (i := 159) rfl rfl), (gtp (i := 51) rfl rfl)⟩
theorem co_X7_isOn : CO mX7_isOn := co_ok (gt5 (i := 163) rfl rfl) ini_RX7 (by decide +kernel)
theorem cs_X7_isOn : CS mX7_isOn := ⟨co_X7_isOn, (gt5 (i := 162) rfl rfl)⟩
theorem co_X7_odds : CO mX7_odds := co_ok (gt5 (i := 167) rfl rfl) ini_RX7 (by decide +kernel)
theorem cv_X7_odds : CV mX7_odds := ⟨co_X7_odds, (gt5 (i := 165) rfl rfl), (gt5 (i := 166) rfl rfl)⟩
theorem co_X7_linesOn : CO mX7_linesOn := co_ok (gt5 (i := 173) rfl rfl) ini_RX7 (by decide +kernel)
theorem cv_X7_linesOn : CV mX7_linesOn := ⟨co_X7_linesOn, (gt5 (i := 172) rfl rfl), (gtp (i := 52) rfl rfl)⟩
theorem co_X7_lowest : CO mX7_lowest := co_ok (gt5 (i := 176) rfl rfl) ini_RX7 (by decide +kernel)
theorem cs_X7_lowest : CS mX7_lowest := ⟨co_X7_lowest, (gt5 (i := 175) rfl rfl)⟩
theorem co_X7_next : CO mX7_next := co_ok (gt5 (i := 180) rfl rfl) ini_RX7 (by decide +kernel)
theorem cv_X7_next : CV mX7_next := ⟨co_X7_next, (gt5 (i := 178) rfl rfl), (gt5 (i := 179) rfl rfl)⟩
theorem co_X7_turns : CO mX7_turns := co_ok (gt5 (i := 184) rfl rfl) ini_RX7 (by decide +kernel)
theorem cv_X7_turns : CV mX7_turns := ⟨co_X7_turns, (gt5 (i := 182) rfl rfl), (gt5 (i := 183) rfl rfl)⟩
theorem co_X7_leftEnd : CO mX7_leftEnd := co_ok (gt5 (i := 188) rfl rfl) ini_RX7 (by decide +kernel)
theorem cv_X7_leftEnd : CV mX7_leftEnd := ⟨co_X7_leftEnd, (gt5 (i := 187) rfl rfl), (gtp (i := 53) rfl rfl)⟩
theorem co_X7_rightEnd : CO mX7_rightEnd := co_ok (gt5 (i := 192) rfl rfl) ini_RX7 (by decide +kernel)
theorem cv_X7_rightEnd : CV mX7_rightEnd := ⟨co_X7_rightEnd, (gt5 (i := 191) rfl rfl), (gtp (i := 54) rfl rfl)⟩
theorem co_X7_colds : CO mX7_colds := co_ok (gt5 (i := 196) rfl rfl) ini_RX7 (by decide +kernel)
theorem cv_X7_colds : CV mX7_colds := ⟨co_X7_colds, (gt5 (i := 194) rfl rfl), (gt5 (i := 195) rfl rfl)⟩
theorem co_X7_heardBy : CO mX7_heardBy := co_ok (gt5 (i := 202) rfl rfl) ini_RX7 (by decide +kernel)
theorem cv_X7_heardBy : CV mX7_heardBy := ⟨co_X7_heardBy, (gt5 (i := 201) rfl rfl), (gtp (i := 55) rfl rfl)⟩
theorem co_X7_year : CO mX7_year := co_ok (gt5 (i := 206) rfl rfl) ini_RX7 (by decide +kernel)
theorem cv_X7_year : CV mX7_year := ⟨co_X7_year, (gt5 (i := 204) rfl rfl), (gt5 (i := 205) rfl rfl)⟩
theorem co_X7_image : CO mX7_image := co_ok (gt5 (i := 215) rfl rfl) ini_RX7 (by decide +kernel)
theorem cv_X7_image : CV mX7_image := ⟨co_X7_image, (gt5 (i := 213) rfl rfl), (gt5 (i := 214) rfl rfl)⟩
theorem co_X7_passAll : CO mX7_passAll := co_ok (gt5 (i := 219) rfl rfl) ini_RX7 (by decide +kernel)
theorem cv_X7_passAll : CV mX7_passAll := ⟨co_X7_passAll, (gt5 (i := 218) rfl rfl), (gtp (i := 56) rfl rfl)⟩
theorem co_X7_pass : CO mX7_pass := co_ok (gt5 (i := 223) rfl rfl) ini_RX7 (by decide +kernel)
theorem cv_X7_pass : CV mX7_pass := ⟨co_X7_pass, (gt5 (i := 222) rfl rfl), (gtp (i := 57) rfl rfl)⟩
theorem co_X7_passRow : CO mX7_passRow := co_ok (gt5 (i := 227) rfl rfl) ini_RX7 (by decide +kernel)
theorem cv_X7_passRow : CV mX7_passRow := ⟨co_X7_passRow, (gt5 (i := 226) rfl rfl), (gtp (i := 58) rfl rfl)⟩
theorem co_X7_restore : CO mX7_restore := co_ok (gt5 (i := 231) rfl rfl) ini_RX7 (by decide +kernel)
theorem cv_X7_restore : CV mX7_restore := ⟨co_X7_restore, (gt5 (i := 229) rfl rfl), (gt5 (i := 230) rfl rfl)⟩
theorem co_X7_told : CO mX7_told := co_ok (gt5 (i := 235) rfl rfl) ini_RX7 (by decide +kernel)
theorem cv_X7_told : CV mX7_told := ⟨co_X7_told, (gt5 (i := 233) rfl rfl), (gt5 (i := 234) rfl rfl)⟩
theorem co_X7_toldOf : CO mX7_toldOf := co_ok (gt6 (i := 4) rfl rfl) ini_RX7 (by decide +kernel)
theorem cv_X7_toldOf : CV mX7_toldOf := ⟨co_X7_toldOf, (gt6 (i := 3) rfl rfl), (gtp (i := 59) rfl rfl)⟩
theorem ml_L_9 : Cond.methodLink RL 9 yX6_init ∈ gt := (gt1 (i := 15) rfl rfl)
theorem ml_X6_1 : Cond.methodLink RX6 1 objectInit ∈ gt := (gt1 (i := 18) rfl rfl)
theorem ml_X6_9 : Cond.methodLink RX6 9 yX1_init ∈ gt := (gt1 (i := 23) rfl rfl)
theorem ml_X1_1 : Cond.methodLink RX1 1 objectInit ∈ gt := (gt1 (i := 26) rfl rfl)
theorem ml_X1_9 : Cond.methodLink RX1 9 yX0_init ∈ gt := (gt1 (i := 29) rfl rfl)
theorem ml_X0_3 : Cond.methodLink RX0 3 objectInit ∈ gt := (gt1 (i := 32) rfl rfl)
theorem ml_X1_18 : Cond.methodLink RX1 18 yX4_init ∈ gt := (gt1 (i := 68) rfl rfl)
theorem ml_X4_3 : Cond.methodLink RX4 3 objectInit ∈ gt := (gt1 (i := 71) rfl rfl)
theorem ml_X1_25 : Cond.methodLink RX1 25 yX3_init ∈ gt := (gt1 (i := 87) rfl rfl)
theorem ml_X3_5 : Cond.methodLink RX3 5 objectInit ∈ gt := (gt1 (i := 90) rfl rfl)
theorem ml_X6_24 : Cond.methodLink RX6 24 yX2_init ∈ gt := (gt1 (i := 117) rfl rfl)
theorem ml_X2_3 : Cond.methodLink RX2 3 objectInit ∈ gt := (gt1 (i := 120) rfl rfl)
theorem ml_X5_3 : Cond.methodLink RX5 3 objectInit ∈ gt := (gt1 (i := 133) rfl rfl)
theorem ml_X6_38 : Cond.methodLink RX6 38 yX0_init ∈ gt := (gt1 (i := 151) rfl rfl)
theorem ml_L_13 : Cond.methodLink RL 13 yX6_gold ∈ gt := (gt1 (i := 183) rfl rfl)
theorem ml_X6_56 : Cond.methodLink RX6 56 yX6_isCell ∈ gt := (gt1 (i := 187) rfl rfl)
theorem ml_X6_60 : Cond.methodLink RX6 60 yX6_isWithin ∈ gt := (gt1 (i := 190) rfl rfl)
theorem ml_X6_67 : Cond.methodLink RX6 67 yX0_goldOf ∈ gt := (gt1 (i := 193) rfl rfl)
theorem ml_X6_71 : Cond.methodLink RX6 71 yX0_putGold ∈ gt := (gt1 (i := 198) rfl rfl)
theorem ml_L_18 : Cond.methodLink RL 18 yX6_man ∈ gt := (gt1 (i := 202) rfl rfl)
theorem ml_X6_75 : Cond.methodLink RX6 75 yX6_isManNumber ∈ gt := (gt1 (i := 206) rfl rfl)
theorem ml_X6_78 : Cond.methodLink RX6 78 yX0_welcome ∈ gt := (gt1 (i := 209) rfl rfl)
theorem ml_X0_79 : Cond.methodLink RX0 79 yX0_forgetMan ∈ gt := (gt1 (i := 214) rfl rfl)
theorem ml_X6_81 : Cond.methodLink RX6 81 yX0_countMen ∈ gt := (gt1 (i := 218) rfl rfl)
theorem ml_X0_68 : Cond.methodLink RX0 68 yJ6_bitCount_0f7a4 ∈ gt := (gt1 (i := 222) rfl rfl)
theorem ml_L_22 : Cond.methodLink RL 22 yX6_leave ∈ gt := (gt1 (i := 228) rfl rfl)
theorem ml_X6_85 : Cond.methodLink RX6 85 yX0_isThere ∈ gt := (gt1 (i := 232) rfl rfl)
theorem ml_X6_88 : Cond.methodLink RX6 88 yX0_farewell ∈ gt := (gt1 (i := 239) rfl rfl)
theorem ml_L_27 : Cond.methodLink RL 27 yX6_know ∈ gt := (gt2 (i := 3) rfl rfl)
theorem ml_X6_92 : Cond.methodLink RX6 92 yX0_setKnown ∈ gt := (gt2 (i := 7) rfl rfl)
theorem ml_X6_96 : Cond.methodLink RX6 96 yX0_knownTo ∈ gt := (gt2 (i := 12) rfl rfl)
theorem ml_X6_100 : Cond.methodLink RX6 100 yJ13_bitCount_95d88 ∈ gt := (gt2 (i := 16) rfl rfl)
theorem ml_L_32 : Cond.methodLink RL 32 yX6_claim ∈ gt := (gt2 (i := 22) rfl rfl)
theorem ml_X6_106 : Cond.methodLink RX6 106 yX0_setClaimer ∈ gt := (gt2 (i := 26) rfl rfl)
theorem ml_X6_109 : Cond.methodLink RX6 109 yX0_countClaimed ∈ gt := (gt2 (i := 30) rfl rfl)
theorem ml_X0_64 : Cond.methodLink RX0 64 yX0_countClaimedBy ∈ gt := (gt2 (i := 34) rfl rfl)
theorem ml_X0_54 : Cond.methodLink RX0 54 yX0_cellsClaimedBy ∈ gt := (gt2 (i := 38) rfl rfl)
theorem ml_X0_58 : Cond.methodLink RX0 58 yJ13_bitCount_95d88 ∈ gt := (gt2 (i := 42) rfl rfl)
theorem ml_L_36 : Cond.methodLink RL 36 yX6_say ∈ gt := (gt2 (i := 43) rfl rfl)
theorem ml_X6_112 : Cond.methodLink RX6 112 yX2_add ∈ gt := (gt2 (i := 47) rfl rfl)
theorem ml_X6_115 : Cond.methodLink RX6 115 yX2_size ∈ gt := (gt2 (i := 51) rfl rfl)
theorem ml_L_40 : Cond.methodLink RL 40 yX6_wipe ∈ gt := (gt2 (i := 55) rfl rfl)
theorem ml_X6_118 : Cond.methodLink RX6 118 yX2_clear ∈ gt := (gt2 (i := 59) rfl rfl)
theorem ml_L_45 : Cond.methodLink RL 45 yX6_fault ∈ gt := (gt2 (i := 63) rfl rfl)
theorem ml_X6_121 : Cond.methodLink RX6 121 yX2_firstFault ∈ gt := (gt2 (i := 67) rfl rfl)
theorem ml_X2_19 : Cond.methodLink RX2 19 yX2_signAt ∈ gt := (gt2 (i := 71) rfl rfl)
theorem ml_X2_23 : Cond.methodLink RX2 23 yX2_isDeedOfMan ∈ gt := (gt2 (i := 75) rfl rfl)
theorem ml_X2_27 : Cond.methodLink RX2 27 yX2_isNight ∈ gt := (gt2 (i := 78) rfl rfl)
theorem ml_X2_40 : Cond.methodLink RX2 40 yX2_deedBy ∈ gt := (gt2 (i := 81) rfl rfl)
theorem ml_X2_30 : Cond.methodLink RX2 30 yX2_manBy ∈ gt := (gt2 (i := 86) rfl rfl)
theorem ml_L_49 : Cond.methodLink RL 49 yX6_judge ∈ gt := (gt2 (i := 90) rfl rfl)
theorem ml_X6_124 : Cond.methodLink RX6 124 yX6_playWeeks ∈ gt := (gt2 (i := 94) rfl rfl)
theorem ml_X6_166 : Cond.methodLink RX6 166 yX0_copyFrom ∈ gt := (gt2 (i := 98) rfl rfl)
theorem ml_X0_31 : Cond.methodLink RX0 31 arraycopyName ∈ gt := (gt2 (i := 102) rfl rfl)
theorem ml_X6_173 : Cond.methodLink RX6 173 yX5_play ∈ gt := (gt2 (i := 105) rfl rfl)
theorem ml_X5_27 : Cond.methodLink RX5 27 yX2_size ∈ gt := (gt2 (i := 109) rfl rfl)
theorem ml_X5_33 : Cond.methodLink RX5 33 yX2_signAt ∈ gt := (gt2 (i := 110) rfl rfl)
theorem ml_X5_37 : Cond.methodLink RX5 37 yX2_isNight ∈ gt := (gt2 (i := 111) rfl rfl)
theorem ml_X5_41 : Cond.methodLink RX5 41 yX5_act ∈ gt := (gt2 (i := 112) rfl rfl)
theorem ml_X5_51 : Cond.methodLink RX5 51 yX0_reasonAgainst ∈ gt := (gt2 (i := 116) rfl rfl)
theorem ml_X0_113 : Cond.methodLink RX0 113 yX0_isThere ∈ gt := (gt2 (i := 120) rfl rfl)
theorem ml_X0_122 : Cond.methodLink RX0 122 yX0_tentOf ∈ gt := (gt2 (i := 121) rfl rfl)
theorem ml_X0_125 : Cond.methodLink RX0 125 yX0_stepFrom ∈ gt := (gt2 (i := 125) rfl rfl)
theorem ml_X0_128 : Cond.methodLink RX0 128 yX0_isKnownTo ∈ gt := (gt2 (i := 134) rfl rfl)
theorem ml_X0_131 : Cond.methodLink RX0 131 yX0_claimerOf ∈ gt := (gt2 (i := 138) rfl rfl)
theorem ml_X5_57 : Cond.methodLink RX5 57 yX0_tentOf ∈ gt := (gt2 (i := 142) rfl rfl)
theorem ml_X5_60 : Cond.methodLink RX5 60 yX0_goldOf ∈ gt := (gt2 (i := 143) rfl rfl)
theorem ml_X5_63 : Cond.methodLink RX5 63 yX0_perform ∈ gt := (gt2 (i := 144) rfl rfl)
theorem ml_X0_134 : Cond.methodLink RX0 134 yX0_passNight ∈ gt := (gt2 (i := 148) rfl rfl)
theorem ml_X0_95 : Cond.methodLink RX0 95 yX0_goldIn ∈ gt := (gt2 (i := 152) rfl rfl)
theorem ml_X0_101 : Cond.methodLink RX0 101 yJ9_min_7cf53 ∈ gt := (gt2 (i := 156) rfl rfl)
theorem ml_X0_137 : Cond.methodLink RX0 137 yX0_setKnown ∈ gt := (gt2 (i := 159) rfl rfl)
theorem ml_X0_141 : Cond.methodLink RX0 141 yX0_setClaimer ∈ gt := (gt2 (i := 160) rfl rfl)
theorem ml_X5_45 : Cond.methodLink RX5 45 yX2_manBy ∈ gt := (gt2 (i := 161) rfl rfl)
theorem ml_X5_48 : Cond.methodLink RX5 48 yX2_deedBy ∈ gt := (gt2 (i := 162) rfl rfl)
theorem ml_X6_127 : Cond.methodLink RX6 127 yX5_badAct ∈ gt := (gt2 (i := 163) rfl rfl)
theorem ml_X6_130 : Cond.methodLink RX6 130 yX5_badReason ∈ gt := (gt2 (i := 167) rfl rfl)
theorem ml_X6_133 : Cond.methodLink RX6 133 yX0_womansShare ∈ gt := (gt2 (i := 171) rfl rfl)
theorem ml_L_53 : Cond.methodLink RL 53 yX6_behind ∈ gt := (gt2 (i := 175) rfl rfl)
theorem ml_X6_136 : Cond.methodLink RX6 136 yX0_tentOf ∈ gt := (gt2 (i := 179) rfl rfl)
theorem ml_X6_139 : Cond.methodLink RX6 139 yX0_snoreOf ∈ gt := (gt2 (i := 180) rfl rfl)
theorem ml_X0_85 : Cond.methodLink RX0 85 yX0_hasCold ∈ gt := (gt2 (i := 184) rfl rfl)
theorem ml_X0_88 : Cond.methodLink RX0 88 yX0_snoreIf ∈ gt := (gt2 (i := 188) rfl rfl)
theorem ml_X0_92 : Cond.methodLink RX0 92 yX0_knownTo ∈ gt := (gt2 (i := 192) rfl rfl)
theorem ml_X0_98 : Cond.methodLink RX0 98 yX0_isWhistling ∈ gt := (gt2 (i := 193) rfl rfl)
theorem ml_X6_142 : Cond.methodLink RX6 142 yX0_saltOf ∈ gt := (gt2 (i := 197) rfl rfl)
theorem ml_X6_145 : Cond.methodLink RX6 145 yX0_countClaimedBy ∈ gt := (gt2 (i := 201) rfl rfl)
theorem ml_L_57 : Cond.methodLink RL 57 yX6_heard ∈ gt := (gt2 (i := 202) rfl rfl)
theorem ml_X6_148 : Cond.methodLink RX6 148 yX0_listen ∈ gt := (gt2 (i := 206) rfl rfl)
theorem ml_X0_107 : Cond.methodLink RX0 107 yX0_snoreOf ∈ gt := (gt2 (i := 210) rfl rfl)
theorem ml_X6_151 : Cond.methodLink RX6 151 yX0_heardAt ∈ gt := (gt2 (i := 211) rfl rfl)
theorem ml_X0_110 : Cond.methodLink RX0 110 yX0_heardWithout ∈ gt := (gt2 (i := 215) rfl rfl)
theorem ml_X6_337 : Cond.methodLink RX6 337 yX6_columnOf ∈ gt := (gt2 (i := 222) rfl rfl)
theorem ml_X6_340 : Cond.methodLink RX6 340 yJ9_abs_0f7a4 ∈ gt := (gt2 (i := 223) rfl rfl)
theorem ml_X6_343 : Cond.methodLink RX6 343 yX6_rowOf ∈ gt := (gt2 (i := 226) rfl rfl)
theorem ml_X0_119 : Cond.methodLink RX0 119 yJ9_max_7cf53 ∈ gt := (gt2 (i := 227) rfl rfl)
theorem ml_L_61 : Cond.methodLink RL 61 yX6_whose ∈ gt := (gt2 (i := 230) rfl rfl)
theorem ml_X6_154 : Cond.methodLink RX6 154 yX0_claimerOf ∈ gt := (gt2 (i := 234) rfl rfl)
theorem ml_L_65 : Cond.methodLink RL 65 yX6_nothing ∈ gt := (gt2 (i := 235) rfl rfl)
theorem ml_X6_157 : Cond.methodLink RX6 157 yX6_isZeroOrOne ∈ gt := (gt2 (i := 239) rfl rfl)
theorem ml_X6_160 : Cond.methodLink RX6 160 yX5_firstEmptyClaim ∈ gt := (gt3 (i := 2) rfl rfl)
theorem ml_X6_163 : Cond.methodLink RX6 163 yX5_countEmptyClaims ∈ gt := (gt3 (i := 6) rfl rfl)
theorem ml_L_69 : Cond.methodLink RL 69 yX6_done ∈ gt := (gt3 (i := 10) rfl rfl)
theorem ml_X6_170 : Cond.methodLink RX6 170 yX5_countActs ∈ gt := (gt3 (i := 14) rfl rfl)
theorem ml_L_73 : Cond.methodLink RL 73 yX6_loudest ∈ gt := (gt3 (i := 18) rfl rfl)
theorem ml_L_77 : Cond.methodLink RL 77 yX6_sleep ∈ gt := (gt3 (i := 22) rfl rfl)
theorem ml_X6_177 : Cond.methodLink RX6 177 yX6_refusalOfSteps ∈ gt := (gt3 (i := 26) rfl rfl)
theorem ml_X6_181 : Cond.methodLink RX6 181 yX6_quietest ∈ gt := (gt3 (i := 30) rfl rfl)
theorem ml_X6_215 : Cond.methodLink RX6 215 yX6_distance ∈ gt := (gt3 (i := 34) rfl rfl)
theorem ml_X6_219 : Cond.methodLink RX6 219 yX0_heardByOthers ∈ gt := (gt3 (i := 35) rfl rfl)
theorem ml_X6_222 : Cond.methodLink RX6 222 yX0_heardWithout ∈ gt := (gt3 (i := 39) rfl rfl)
theorem ml_L_82 : Cond.methodLink RL 82 yX6_hide ∈ gt := (gt3 (i := 40) rfl rfl)
theorem ml_L_86 : Cond.methodLink RL 86 yX6_tale ∈ gt := (gt3 (i := 44) rfl rfl)
theorem ml_X6_189 : Cond.methodLink RX6 189 yX4_add ∈ gt := (gt3 (i := 48) rfl rfl)
theorem ml_X6_194 : Cond.methodLink RX6 194 yX4_size ∈ gt := (gt3 (i := 52) rfl rfl)
theorem ml_L_90 : Cond.methodLink RL 90 yX6_hush ∈ gt := (gt3 (i := 56) rfl rfl)
theorem ml_X6_195 : Cond.methodLink RX6 195 yX4_clear ∈ gt := (gt3 (i := 60) rfl rfl)
theorem ml_L_94 : Cond.methodLink RL 94 yX6_liars ∈ gt := (gt3 (i := 64) rfl rfl)
theorem ml_X6_196 : Cond.methodLink RX6 196 yX4_fewestLiars ∈ gt := (gt3 (i := 68) rfl rfl)
theorem ml_X4_31 : Cond.methodLink RX4 31 yJ6_bitCount_0f7a4 ∈ gt := (gt3 (i := 72) rfl rfl)
theorem ml_X4_37 : Cond.methodLink RX4 37 yX4_holdTogether ∈ gt := (gt3 (i := 73) rfl rfl)
theorem ml_X4_41 : Cond.methodLink RX4 41 yX4_isGoldBy ∈ gt := (gt3 (i := 77) rfl rfl)
theorem ml_X6_199 : Cond.methodLink RX6 199 yJ6_bitCount_0f7a4 ∈ gt := (gt3 (i := 82) rfl rfl)
theorem ml_L_98 : Cond.methodLink RL 98 yX6_leaves ∈ gt := (gt3 (i := 83) rfl rfl)
theorem ml_X6_204 : Cond.methodLink RX6 204 yX6_readDigits ∈ gt := (gt3 (i := 88) rfl rfl)
theorem ml_X6_207 : Cond.methodLink RX6 207 yX6_digitsAreTwos ∈ gt := (gt3 (i := 92) rfl rfl)
theorem ml_X6_225 : Cond.methodLink RX6 225 yX6_digitAt ∈ gt := (gt3 (i := 96) rfl rfl)
theorem ml_X6_211 : Cond.methodLink RX6 211 yX6_wouldRatherShare ∈ gt := (gt3 (i := 100) rfl rfl)
theorem ml_X6_228 : Cond.methodLink RX6 228 yX0_twiceShare ∈ gt := (gt3 (i := 104) rfl rfl)
theorem ml_L_102 : Cond.methodLink RL 102 yX6_seen ∈ gt := (gt3 (i := 108) rfl rfl)
theorem ml_X6_235 : Cond.methodLink RX6 235 yX3_add ∈ gt := (gt3 (i := 112) rfl rfl)
theorem ml_X3_21 : Cond.methodLink RX3 21 yX3_lodesThrough ∈ gt := (gt3 (i := 116) rfl rfl)
theorem ml_X6_240 : Cond.methodLink RX6 240 yX3_size ∈ gt := (gt3 (i := 122) rfl rfl)
theorem ml_L_107 : Cond.methodLink RL 107 yX6_forget ∈ gt := (gt3 (i := 126) rfl rfl)
theorem ml_X6_241 : Cond.methodLink RX6 241 yX3_clear ∈ gt := (gt3 (i := 130) rfl rfl)
theorem ml_L_111 : Cond.methodLink RL 111 yX6_lodes ∈ gt := (gt3 (i := 134) rfl rfl)
theorem ml_X6_242 : Cond.methodLink RX6 242 yX3_countFitting ∈ gt := (gt3 (i := 138) rfl rfl)
theorem ml_X3_27 : Cond.methodLink RX3 27 yJ13_bitCount_95d88 ∈ gt := (gt3 (i := 142) rfl rfl)
theorem ml_X6_245 : Cond.methodLink RX6 245 yX3_fittingAt ∈ gt := (gt3 (i := 143) rfl rfl)
theorem ml_L_115 : Cond.methodLink RL 115 yX6_odds ∈ gt := (gt3 (i := 147) rfl rfl)
theorem ml_X6_250 : Cond.methodLink RX6 250 yX3_countThrough ∈ gt := (gt3 (i := 152) rfl rfl)
theorem ml_X6_253 : Cond.methodLink RX6 253 yX6_partOfFraction ∈ gt := (gt3 (i := 156) rfl rfl)
theorem ml_X6_333 : Cond.methodLink RX6 333 yX6_greatestDivisor ∈ gt := (gt3 (i := 159) rfl rfl)
theorem ml_L_120 : Cond.methodLink RL 120 yX6_next ∈ gt := (gt3 (i := 162) rfl rfl)
theorem ml_X6_257 : Cond.methodLink RX6 257 yJ9_max_7cf53 ∈ gt := (gt3 (i := 166) rfl rfl)
theorem ml_L_124 : Cond.methodLink RL 124 yX6_turns ∈ gt := (gt3 (i := 167) rfl rfl)
theorem ml_X6_262 : Cond.methodLink RX6 262 yX6_findLeads ∈ gt := (gt3 (i := 171) rfl rfl)
theorem ml_X6_265 : Cond.methodLink RX6 265 yX6_leadAt ∈ gt := (gt3 (i := 175) rfl rfl)
theorem ml_L_128 : Cond.methodLink RL 128 yX6_colds ∈ gt := (gt3 (i := 179) rfl rfl)
theorem ml_X6_268 : Cond.methodLink RX6 268 yX6_hearWithAndWithoutCold ∈ gt := (gt3 (i := 183) rfl rfl)
theorem ml_X6_326 : Cond.methodLink RX6 326 yX0_snoreIf ∈ gt := (gt3 (i := 187) rfl rfl)
theorem ml_X6_271 : Cond.methodLink RX6 271 yX0_menBits ∈ gt := (gt3 (i := 188) rfl rfl)
theorem ml_X6_274 : Cond.methodLink RX6 274 yX6_heardIfSick ∈ gt := (gt3 (i := 192) rfl rfl)
theorem ml_X6_330 : Cond.methodLink RX6 330 yX6_hasBit ∈ gt := (gt3 (i := 196) rfl rfl)
theorem ml_X6_277 : Cond.methodLink RX6 277 yX6_weightOf ∈ gt := (gt3 (i := 197) rfl rfl)
theorem ml_X6_281 : Cond.methodLink RX6 281 yX6_power ∈ gt := (gt3 (i := 200) rfl rfl)
theorem ml_L_133 : Cond.methodLink RL 133 yX6_year ∈ gt := (gt3 (i := 203) rfl rfl)
theorem ml_X6_286 : Cond.methodLink RX6 286 yX0_reasonAgainst ∈ gt := (gt3 (i := 208) rfl rfl)
theorem ml_X6_289 : Cond.methodLink RX6 289 yX0_perform ∈ gt := (gt3 (i := 209) rfl rfl)
theorem ml_X6_292 : Cond.methodLink RX6 292 yX0_allSalt ∈ gt := (gt3 (i := 210) rfl rfl)
theorem ml_L_137 : Cond.methodLink RL 137 yX6_image ∈ gt := (gt3 (i := 214) rfl rfl)
theorem ml_X6_295 : Cond.methodLink RX6 295 yX6_imageOf ∈ gt := (gt3 (i := 218) rfl rfl)
theorem ml_X6_299 : Cond.methodLink RX6 299 yX1_copyFrom ∈ gt := (gt3 (i := 222) rfl rfl)
theorem ml_X1_30 : Cond.methodLink RX1 30 yX0_copyFrom ∈ gt := (gt3 (i := 226) rfl rfl)
theorem ml_X1_34 : Cond.methodLink RX1 34 yX4_copyFrom ∈ gt := (gt3 (i := 227) rfl rfl)
theorem ml_X4_18 : Cond.methodLink RX4 18 arraycopyName ∈ gt := (gt3 (i := 231) rfl rfl)
theorem ml_X1_37 : Cond.methodLink RX1 37 yX3_copyFrom ∈ gt := (gt3 (i := 232) rfl rfl)
theorem ml_X6_302 : Cond.methodLink RX6 302 yX1_markKept ∈ gt := (gt3 (i := 236) rfl rfl)
theorem ml_L_141 : Cond.methodLink RL 141 yX6_restore ∈ gt := (gt4 (i := 0) rfl rfl)
theorem ml_X6_305 : Cond.methodLink RX6 305 yX1_isKept ∈ gt := (gt4 (i := 4) rfl rfl)
theorem ml_L_145 : Cond.methodLink RL 145 yX6_told ∈ gt := (gt4 (i := 8) rfl rfl)
theorem ml_X6_308 : Cond.methodLink RX6 308 yX6_toldOfMan ∈ gt := (gt4 (i := 12) rfl rfl)
theorem ml_X6_317 : Cond.methodLink RX6 317 yX0_hasCold ∈ gt := (gt4 (i := 16) rfl rfl)
theorem ml_X6_320 : Cond.methodLink RX6 320 yX0_isWhistling ∈ gt := (gt4 (i := 17) rfl rfl)
theorem ml_X6_311 : Cond.methodLink RX6 311 yX6_toldOfCell ∈ gt := (gt4 (i := 18) rfl rfl)
theorem ml_X6_314 : Cond.methodLink RX6 314 yX6_toldOfKnown ∈ gt := (gt4 (i := 22) rfl rfl)
theorem ml_X6_323 : Cond.methodLink RX6 323 yX0_isKnownTo ∈ gt := (gt4 (i := 26) rfl rfl)
theorem ml_L_12 : Cond.methodLink RL 12 yX7_init ∈ gt := (gt4 (i := 29) rfl rfl)
theorem ml_X7_1 : Cond.methodLink RX7 1 objectInit ∈ gt := (gt4 (i := 32) rfl rfl)
theorem ml_L_17 : Cond.methodLink RL 17 yX7_gold ∈ gt := (gt4 (i := 146) rfl rfl)
theorem ml_X7_96 : Cond.methodLink RX7 96 yX7_isCell ∈ gt := (gt4 (i := 150) rfl rfl)
theorem ml_X7_86 : Cond.methodLink RX7 86 yX7_in ∈ gt := (gt4 (i := 154) rfl rfl)
theorem ml_L_21 : Cond.methodLink RL 21 yX7_man ∈ gt := (gt4 (i := 158) rfl rfl)
theorem ml_X7_102 : Cond.methodLink RX7 102 yX7_ones ∈ gt := (gt4 (i := 163) rfl rfl)
theorem ml_L_26 : Cond.methodLink RL 26 yX7_leave ∈ gt := (gt4 (i := 166) rfl rfl)
theorem ml_X7_106 : Cond.methodLink RX7 106 yX7_isMan ∈ gt := (gt4 (i := 170) rfl rfl)
theorem ml_L_31 : Cond.methodLink RL 31 yX7_know ∈ gt := (gt4 (i := 174) rfl rfl)
theorem ml_X7_111 : Cond.methodLink RX7 111 yX7_knownBy ∈ gt := (gt4 (i := 179) rfl rfl)
theorem ml_X7_114 : Cond.methodLink RX7 114 yX7_isKnown ∈ gt := (gt4 (i := 183) rfl rfl)
theorem ml_L_35 : Cond.methodLink RL 35 yX7_claim ∈ gt := (gt4 (i := 187) rfl rfl)
theorem ml_X7_121 : Cond.methodLink RX7 121 yX7_claimedCells ∈ gt := (gt4 (i := 191) rfl rfl)
theorem ml_X7_118 : Cond.methodLink RX7 118 yX7_claimedBy ∈ gt := (gt4 (i := 195) rfl rfl)
theorem ml_L_39 : Cond.methodLink RL 39 yX7_say ∈ gt := (gt4 (i := 199) rfl rfl)
theorem ml_L_44 : Cond.methodLink RL 44 yX7_wipe ∈ gt := (gt4 (i := 205) rfl rfl)
theorem ml_L_48 : Cond.methodLink RL 48 yX7_fault ∈ gt := (gt4 (i := 209) rfl rfl)
theorem ml_X7_146 : Cond.methodLink RX7 146 yX7_readOn ∈ gt := (gt4 (i := 213) rfl rfl)
theorem ml_X7_139 : Cond.methodLink RX7 139 yX7_deed ∈ gt := (gt4 (i := 217) rfl rfl)
theorem ml_X7_135 : Cond.methodLink RX7 135 yX7_close ∈ gt := (gt4 (i := 221) rfl rfl)
theorem ml_L_52 : Cond.methodLink RL 52 yX7_judge ∈ gt := (gt4 (i := 227) rfl rfl)
theorem ml_X7_204 : Cond.methodLink RX7 204 yX7_refusal ∈ gt := (gt4 (i := 232) rfl rfl)
theorem ml_X7_193 : Cond.methodLink RX7 193 yX7_keepNow ∈ gt := (gt4 (i := 236) rfl rfl)
theorem ml_X7_196 : Cond.methodLink RX7 196 yX7_fault ∈ gt := (gt5 (i := 0) rfl rfl)
theorem ml_X7_199 : Cond.methodLink RX7 199 yX7_goWeeks ∈ gt := (gt5 (i := 1) rfl rfl)
theorem ml_X7_185 : Cond.methodLink RX7 185 yX7_whyNot ∈ gt := (gt5 (i := 5) rfl rfl)
theorem ml_X7_157 : Cond.methodLink RX7 157 yX7_canGo ∈ gt := (gt5 (i := 9) rfl rfl)
theorem ml_X7_149 : Cond.methodLink RX7 149 yX7_eastBy ∈ gt := (gt5 (i := 13) rfl rfl)
theorem ml_X7_154 : Cond.methodLink RX7 154 yX7_northBy ∈ gt := (gt5 (i := 17) rfl rfl)
theorem ml_X7_189 : Cond.methodLink RX7 189 yX7_happen ∈ gt := (gt5 (i := 20) rfl rfl)
theorem ml_X7_172 : Cond.methodLink RX7 172 yX7_claimHere ∈ gt := (gt5 (i := 24) rfl rfl)
theorem ml_X7_176 : Cond.methodLink RX7 176 yX7_passNight ∈ gt := (gt5 (i := 28) rfl rfl)
theorem ml_X7_207 : Cond.methodLink RX7 207 yX7_back ∈ gt := (gt5 (i := 32) rfl rfl)
theorem ml_L_56 : Cond.methodLink RL 56 yX7_behind ∈ gt := (gt5 (i := 36) rfl rfl)
theorem ml_X7_224 : Cond.methodLink RX7 224 yX7_ofMan ∈ gt := (gt5 (i := 41) rfl rfl)
theorem ml_X7_213 : Cond.methodLink RX7 213 yX7_snore ∈ gt := (gt5 (i := 45) rfl rfl)
theorem ml_X7_210 : Cond.methodLink RX7 210 yX7_snoreBy ∈ gt := (gt5 (i := 49) rfl rfl)
theorem ml_L_60 : Cond.methodLink RL 60 yX7_heard ∈ gt := (gt5 (i := 53) rfl rfl)
theorem ml_X7_227 : Cond.methodLink RX7 227 yX7_heardAt ∈ gt := (gt5 (i := 57) rfl rfl)
theorem ml_X7_216 : Cond.methodLink RX7 216 yX7_apart ∈ gt := (gt5 (i := 61) rfl rfl)
theorem ml_X7_219 : Cond.methodLink RX7 219 yX7_over ∈ gt := (gt5 (i := 64) rfl rfl)
theorem ml_L_64 : Cond.methodLink RL 64 yX7_whose ∈ gt := (gt5 (i := 67) rfl rfl)
theorem ml_L_68 : Cond.methodLink RL 68 yX7_nothing ∈ gt := (gt5 (i := 71) rfl rfl)
theorem ml_L_72 : Cond.methodLink RL 72 yX7_done ∈ gt := (gt5 (i := 75) rfl rfl)
theorem ml_L_76 : Cond.methodLink RL 76 yX7_loudest ∈ gt := (gt5 (i := 79) rfl rfl)
theorem ml_L_81 : Cond.methodLink RL 81 yX7_sleep ∈ gt := (gt5 (i := 83) rfl rfl)
theorem ml_X7_239 : Cond.methodLink RX7 239 yX7_quietest ∈ gt := (gt5 (i := 88) rfl rfl)
theorem ml_X7_233 : Cond.methodLink RX7 233 yX7_quietAt ∈ gt := (gt5 (i := 92) rfl rfl)
theorem ml_X7_230 : Cond.methodLink RX7 230 yX7_givenAway ∈ gt := (gt5 (i := 96) rfl rfl)
theorem ml_L_85 : Cond.methodLink RL 85 yX7_hide ∈ gt := (gt5 (i := 100) rfl rfl)
theorem ml_L_89 : Cond.methodLink RL 89 yX7_tale ∈ gt := (gt5 (i := 104) rfl rfl)
theorem ml_L_93 : Cond.methodLink RL 93 yX7_hush ∈ gt := (gt5 (i := 108) rfl rfl)
theorem ml_L_97 : Cond.methodLink RL 97 yX7_liars ∈ gt := (gt5 (i := 112) rfl rfl)
theorem ml_X7_249 : Cond.methodLink RX7 249 yX7_canBe ∈ gt := (gt5 (i := 116) rfl rfl)
theorem ml_X7_246 : Cond.methodLink RX7 246 yX7_meant ∈ gt := (gt5 (i := 120) rfl rfl)
theorem ml_L_101 : Cond.methodLink RL 101 yX7_leaves ∈ gt := (gt5 (i := 124) rfl rfl)
theorem ml_X7_261 : Cond.methodLink RX7 261 yX7_areTwos ∈ gt := (gt5 (i := 128) rfl rfl)
theorem ml_X7_264 : Cond.methodLink RX7 264 yX7_wouldLeave ∈ gt := (gt5 (i := 133) rfl rfl)
theorem ml_X7_258 : Cond.methodLink RX7 258 yX7_halves ∈ gt := (gt5 (i := 137) rfl rfl)
theorem ml_X7_254 : Cond.methodLink RX7 254 yX7_goldOf ∈ gt := (gt5 (i := 141) rfl rfl)
theorem ml_L_106 : Cond.methodLink RL 106 yX7_seen ∈ gt := (gt5 (i := 145) rfl rfl)
theorem ml_L_110 : Cond.methodLink RL 110 yX7_forget ∈ gt := (gt5 (i := 149) rfl rfl)
theorem ml_L_114 : Cond.methodLink RL 114 yX7_lodes ∈ gt := (gt5 (i := 153) rfl rfl)
theorem ml_X7_273 : Cond.methodLink RX7 273 yX7_fits ∈ gt := (gt5 (i := 157) rfl rfl)
theorem ml_X7_270 : Cond.methodLink RX7 270 yX7_isOn ∈ gt := (gt5 (i := 161) rfl rfl)
theorem ml_L_119 : Cond.methodLink RL 119 yX7_odds ∈ gt := (gt5 (i := 164) rfl rfl)
theorem ml_X7_278 : Cond.methodLink RX7 278 yX7_lodes ∈ gt := (gt5 (i := 169) rfl rfl)
theorem ml_X7_281 : Cond.methodLink RX7 281 yX7_linesOn ∈ gt := (gt5 (i := 170) rfl rfl)
theorem ml_X7_284 : Cond.methodLink RX7 284 yX7_lowest ∈ gt := (gt5 (i := 174) rfl rfl)
theorem ml_L_123 : Cond.methodLink RL 123 yX7_next ∈ gt := (gt5 (i := 177) rfl rfl)
theorem ml_L_127 : Cond.methodLink RL 127 yX7_turns ∈ gt := (gt5 (i := 181) rfl rfl)
theorem ml_X7_288 : Cond.methodLink RX7 288 yX7_leftEnd ∈ gt := (gt5 (i := 185) rfl rfl)
theorem ml_X7_291 : Cond.methodLink RX7 291 yX7_rightEnd ∈ gt := (gt5 (i := 189) rfl rfl)
theorem ml_L_132 : Cond.methodLink RL 132 yX7_colds ∈ gt := (gt5 (i := 193) rfl rfl)
theorem ml_X7_298 : Cond.methodLink RX7 298 yX7_heardBy ∈ gt := (gt5 (i := 199) rfl rfl)
theorem ml_L_136 : Cond.methodLink RL 136 yX7_year ∈ gt := (gt5 (i := 203) rfl rfl)
theorem ml_L_140 : Cond.methodLink RL 140 yX7_image ∈ gt := (gt5 (i := 212) rfl rfl)
theorem ml_X7_325 : Cond.methodLink RX7 325 yX7_passAll ∈ gt := (gt5 (i := 216) rfl rfl)
theorem ml_X7_318 : Cond.methodLink RX7 318 yX7_pass ∈ gt := (gt5 (i := 220) rfl rfl)
theorem ml_X7_321 : Cond.methodLink RX7 321 yX7_passRow ∈ gt := (gt5 (i := 224) rfl rfl)
theorem ml_L_144 : Cond.methodLink RL 144 yX7_restore ∈ gt := (gt5 (i := 228) rfl rfl)
theorem ml_L_148 : Cond.methodLink RL 148 yX7_told ∈ gt := (gt5 (i := 232) rfl rfl)
theorem ml_X7_338 : Cond.methodLink RX7 338 yX7_toldOf ∈ gt := (gt6 (i := 1) rfl rfl)
theorem cl_L_7 : Cond.classLink RL 7 RX6 ∈ gt := (gt1 (i := 13) rfl rfl)
theorem in_X6 : Cond.instantiable RX6 10 ∈ gt := (gt1 (i := 14) rfl rfl)
theorem cl_X6_7 : Cond.classLink RX6 7 RX1 ∈ gt := (gt1 (i := 21) rfl rfl)
theorem in_X1 : Cond.instantiable RX1 4 ∈ gt := (gt1 (i := 22) rfl rfl)
theorem cl_X1_7 : Cond.classLink RX1 7 RX0 ∈ gt := (gt1 (i := 27) rfl rfl)
theorem in_X0 : Cond.instantiable RX0 10 ∈ gt := (gt1 (i := 28) rfl rfl)
theorem fl_X0_9 : Cond.fieldLink RX0 9 "SnoresGold$Camp" "goldOn" "[I" ∈ gt := (gt1 (i := 33) rfl rfl)
theorem fl_X0_15 : Cond.fieldLink RX0 15 "SnoresGold$Camp" "claimers" "[I" ∈ gt := (gt1 (i := 34) rfl rfl)
theorem fl_X0_18 : Cond.fieldLink RX0 18 "SnoresGold$Camp" "tents" "[I" ∈ gt := (gt1 (i := 35) rfl rfl)
theorem fl_X0_21 : Cond.fieldLink RX0 21 "SnoresGold$Camp" "salts" "[I" ∈ gt := (gt1 (i := 36) rfl rfl)
theorem fl_X0_24 : Cond.fieldLink RX0 24 "SnoresGold$Camp" "known" "[J" ∈ gt := (gt1 (i := 37) rfl rfl)
theorem fl_X0_28 : Cond.fieldLink RX0 28 "SnoresGold$Camp" "snores" "[I" ∈ gt := (gt1 (i := 38) rfl rfl)
theorem fl_X0_37 : Cond.fieldLink RX0 37 "SnoresGold$Camp" "men" "I" ∈ gt := (gt1 (i := 39) rfl rfl)
theorem fl_X0_41 : Cond.fieldLink RX0 41 "SnoresGold$Camp" "withCold" "I" ∈ gt := (gt1 (i := 40) rfl rfl)
theorem fl_X0_44 : Cond.fieldLink RX0 44 "SnoresGold$Camp" "whistling" "I" ∈ gt := (gt1 (i := 41) rfl rfl)
theorem fl_X0_47 : Cond.fieldLink RX0 47 "SnoresGold$Camp" "womans" "I" ∈ gt := (gt1 (i := 42) rfl rfl)
theorem ac_int : Cond.arrayClass .int ∈ gt := (gt1 (i := 64) rfl rfl)
theorem ac_long : Cond.arrayClass .long ∈ gt := (gt1 (i := 65) rfl rfl)
theorem cl_X1_16 : Cond.classLink RX1 16 RX4 ∈ gt := (gt1 (i := 66) rfl rfl)
theorem in_X4 : Cond.instantiable RX4 4 ∈ gt := (gt1 (i := 67) rfl rfl)
theorem fl_X4_9 : Cond.fieldLink RX4 9 "SnoresGold$Tales" "tellers" "[I" ∈ gt := (gt1 (i := 72) rfl rfl)
theorem fl_X4_15 : Cond.fieldLink RX4 15 "SnoresGold$Tales" "cells" "[I" ∈ gt := (gt1 (i := 73) rfl rfl)
theorem fl_X4_24 : Cond.fieldLink RX4 24 "SnoresGold$Tales" "toldGolden" "I" ∈ gt := (gt1 (i := 74) rfl rfl)
theorem fl_X4_28 : Cond.fieldLink RX4 28 "SnoresGold$Tales" "count" "I" ∈ gt := (gt1 (i := 75) rfl rfl)
theorem cl_X1_23 : Cond.classLink RX1 23 RX3 ∈ gt := (gt1 (i := 85) rfl rfl)
theorem in_X3 : Cond.instantiable RX3 2 ∈ gt := (gt1 (i := 86) rfl rfl)
theorem kl_X3_11 : Cond.constantLong RX3 11 (70368744177663) ∈ gt := (gt1 (i := 91) rfl rfl)
theorem fl_X3_13 : Cond.fieldLink RX3 13 "SnoresGold$Sights" "fitting" "J" ∈ gt := (gt1 (i := 92) rfl rfl)
theorem fl_X3_17 : Cond.fieldLink RX3 17 "SnoresGold$Sights" "count" "I" ∈ gt := (gt1 (i := 93) rfl rfl)
theorem fl_X1_10 : Cond.fieldLink RX1 10 "SnoresGold$Memory" "camp" "LSnoresGold$Camp;" ∈ gt := (gt1 (i := 99) rfl rfl)
theorem fl_X1_19 : Cond.fieldLink RX1 19 "SnoresGold$Memory" "tales" "LSnoresGold$Tales;" ∈ gt := (gt1 (i := 101) rfl rfl)
theorem fl_X1_26 : Cond.fieldLink RX1 26 "SnoresGold$Memory" "sights" "LSnoresGold$Sights;" ∈ gt := (gt1 (i := 103) rfl rfl)
theorem fl_X1_40 : Cond.fieldLink RX1 40 "SnoresGold$Memory" "kept" "Z" ∈ gt := (gt1 (i := 105) rfl rfl)
theorem cl_X6_22 : Cond.classLink RX6 22 RX2 ∈ gt := (gt1 (i := 115) rfl rfl)
theorem in_X2 : Cond.instantiable RX2 2 ∈ gt := (gt1 (i := 116) rfl rfl)
theorem fl_X2_9 : Cond.fieldLink RX2 9 "SnoresGold$Pad" "signs" "[I" ∈ gt := (gt1 (i := 121) rfl rfl)
theorem fl_X2_15 : Cond.fieldLink RX2 15 "SnoresGold$Pad" "count" "I" ∈ gt := (gt1 (i := 122) rfl rfl)
theorem cl_X6_29 : Cond.classLink RX6 29 RX5 ∈ gt := (gt1 (i := 128) rfl rfl)
theorem in_X5 : Cond.instantiable RX5 5 ∈ gt := (gt1 (i := 129) rfl rfl)
theorem fl_X5_9 : Cond.fieldLink RX5 9 "SnoresGold$Week" "acts" "I" ∈ gt := (gt1 (i := 134) rfl rfl)
theorem fl_X5_15 : Cond.fieldLink RX5 15 "SnoresGold$Week" "bad" "I" ∈ gt := (gt1 (i := 135) rfl rfl)
theorem fl_X5_18 : Cond.fieldLink RX5 18 "SnoresGold$Week" "reason" "I" ∈ gt := (gt1 (i := 136) rfl rfl)
theorem fl_X5_21 : Cond.fieldLink RX5 21 "SnoresGold$Week" "firstEmpty" "I" ∈ gt := (gt1 (i := 137) rfl rfl)
theorem fl_X5_24 : Cond.fieldLink RX5 24 "SnoresGold$Week" "empty" "I" ∈ gt := (gt1 (i := 138) rfl rfl)
theorem cl_X6_36 : Cond.classLink RX6 36 RX0 ∈ gt := (gt1 (i := 150) rfl rfl)
theorem fl_X6_10 : Cond.fieldLink RX6 10 "SnoresGold" "now" "LSnoresGold$Memory;" ∈ gt := (gt1 (i := 152) rfl rfl)
theorem fl_X6_16 : Cond.fieldLink RX6 16 "SnoresGold" "imageZero" "LSnoresGold$Memory;" ∈ gt := (gt1 (i := 153) rfl rfl)
theorem fl_X6_19 : Cond.fieldLink RX6 19 "SnoresGold" "imageOne" "LSnoresGold$Memory;" ∈ gt := (gt1 (i := 154) rfl rfl)
theorem fl_X6_25 : Cond.fieldLink RX6 25 "SnoresGold" "pad" "LSnoresGold$Pad;" ∈ gt := (gt1 (i := 155) rfl rfl)
theorem fl_X6_32 : Cond.fieldLink RX6 32 "SnoresGold" "week" "LSnoresGold$Week;" ∈ gt := (gt1 (i := 156) rfl rfl)
theorem fl_X6_39 : Cond.fieldLink RX6 39 "SnoresGold" "ahead" "LSnoresGold$Camp;" ∈ gt := (gt1 (i := 157) rfl rfl)
theorem fl_X6_43 : Cond.fieldLink RX6 43 "SnoresGold" "digits" "[I" ∈ gt := (gt1 (i := 158) rfl rfl)
theorem fl_X6_47 : Cond.fieldLink RX6 47 "SnoresGold" "leads" "[I" ∈ gt := (gt1 (i := 159) rfl rfl)
theorem fl_X6_50 : Cond.fieldLink RX6 50 "SnoresGold" "heardCalm" "[I" ∈ gt := (gt1 (i := 160) rfl rfl)
theorem fl_X6_53 : Cond.fieldLink RX6 53 "SnoresGold" "heardCold" "[I" ∈ gt := (gt1 (i := 161) rfl rfl)
theorem ki_J6_265 : Cond.constant RJ6 265 (1431655765) ∈ gt := (gt1 (i := 225) rfl rfl)
theorem ki_J6_266 : Cond.constant RJ6 266 (858993459) ∈ gt := (gt1 (i := 226) rfl rfl)
theorem ki_J6_267 : Cond.constant RJ6 267 (252645135) ∈ gt := (gt1 (i := 227) rfl rfl)
theorem kl_X0_83 : Cond.constantLong RX0 83 (-1) ∈ gt := (gt2 (i := 11) rfl rfl)
theorem kl_J13_314 : Cond.constantLong RJ13 314 (6148914691236517205) ∈ gt := (gt2 (i := 19) rfl rfl)
theorem kl_J13_316 : Cond.constantLong RJ13 316 (3689348814741910323) ∈ gt := (gt2 (i := 20) rfl rfl)
theorem kl_J13_318 : Cond.constantLong RJ13 318 (1085102592571150095) ∈ gt := (gt2 (i := 21) rfl rfl)
theorem ki_X6_203 : Cond.constant RX6 203 (999999) ∈ gt := (gt3 (i := 87) rfl rfl)
theorem kl_X3_25 : Cond.constantLong RX3 25 (-1) ∈ gt := (gt3 (i := 121) rfl rfl)
theorem kl_X6_248 : Cond.constantLong RX6 248 (-1000000000000000002) ∈ gt := (gt3 (i := 151) rfl rfl)
theorem ki_X6_285 : Cond.constant RX6 285 (65537) ∈ gt := (gt3 (i := 207) rfl rfl)
theorem cl_L_10 : Cond.classLink RL 10 RX7 ∈ gt := (gt4 (i := 27) rfl rfl)
theorem in_X7 : Cond.instantiable RX7 37 ∈ gt := (gt4 (i := 28) rfl rfl)
theorem fl_X7_7 : Cond.fieldLink RX7 7 "SnoresGoldModel" "ore" "[I" ∈ gt := (gt4 (i := 33) rfl rfl)
theorem fl_X7_13 : Cond.fieldLink RX7 13 "SnoresGoldModel" "owner" "[I" ∈ gt := (gt4 (i := 34) rfl rfl)
theorem fl_X7_92 : Cond.fieldLink RX7 92 "SnoresGoldModel" "men" "I" ∈ gt := (gt4 (i := 35) rfl rfl)
theorem fl_X7_16 : Cond.fieldLink RX7 16 "SnoresGoldModel" "tent" "[I" ∈ gt := (gt4 (i := 36) rfl rfl)
theorem fl_X7_19 : Cond.fieldLink RX7 19 "SnoresGoldModel" "knows" "[J" ∈ gt := (gt4 (i := 37) rfl rfl)
theorem fl_X7_23 : Cond.fieldLink RX7 23 "SnoresGoldModel" "cold" "[I" ∈ gt := (gt4 (i := 38) rfl rfl)
theorem fl_X7_26 : Cond.fieldLink RX7 26 "SnoresGoldModel" "whistles" "[I" ∈ gt := (gt4 (i := 39) rfl rfl)
theorem fl_X7_29 : Cond.fieldLink RX7 29 "SnoresGoldModel" "salt" "[I" ∈ gt := (gt4 (i := 40) rfl rfl)
theorem fl_X7_32 : Cond.fieldLink RX7 32 "SnoresGoldModel" "taleMan" "[I" ∈ gt := (gt4 (i := 41) rfl rfl)
theorem fl_X7_35 : Cond.fieldLink RX7 35 "SnoresGoldModel" "taleCell" "[I" ∈ gt := (gt4 (i := 42) rfl rfl)
theorem fl_X7_38 : Cond.fieldLink RX7 38 "SnoresGoldModel" "taleGold" "[I" ∈ gt := (gt4 (i := 43) rfl rfl)
theorem fl_X7_243 : Cond.fieldLink RX7 243 "SnoresGoldModel" "tales" "I" ∈ gt := (gt4 (i := 44) rfl rfl)
theorem fl_X7_41 : Cond.fieldLink RX7 41 "SnoresGoldModel" "sightCell" "[I" ∈ gt := (gt4 (i := 45) rfl rfl)
theorem fl_X7_44 : Cond.fieldLink RX7 44 "SnoresGoldModel" "sightIs" "[I" ∈ gt := (gt4 (i := 46) rfl rfl)
theorem fl_X7_267 : Cond.fieldLink RX7 267 "SnoresGoldModel" "sights" "I" ∈ gt := (gt4 (i := 47) rfl rfl)
theorem fl_X7_47 : Cond.fieldLink RX7 47 "SnoresGoldModel" "pad" "[I" ∈ gt := (gt4 (i := 48) rfl rfl)
theorem fl_X7_129 : Cond.fieldLink RX7 129 "SnoresGoldModel" "padMany" "I" ∈ gt := (gt4 (i := 49) rfl rfl)
theorem fl_X7_50 : Cond.fieldLink RX7 50 "SnoresGoldModel" "act" "[I" ∈ gt := (gt4 (i := 50) rfl rfl)
theorem fl_X7_53 : Cond.fieldLink RX7 53 "SnoresGoldModel" "who" "[I" ∈ gt := (gt4 (i := 51) rfl rfl)
theorem fl_X7_56 : Cond.fieldLink RX7 56 "SnoresGoldModel" "way" "[I" ∈ gt := (gt4 (i := 52) rfl rfl)
theorem fl_X7_132 : Cond.fieldLink RX7 132 "SnoresGoldModel" "acts" "I" ∈ gt := (gt4 (i := 53) rfl rfl)
theorem fl_X7_169 : Cond.fieldLink RX7 169 "SnoresGoldModel" "womans" "I" ∈ gt := (gt4 (i := 54) rfl rfl)
theorem fl_X7_160 : Cond.fieldLink RX7 160 "SnoresGoldModel" "firstNothing" "I" ∈ gt := (gt4 (i := 55) rfl rfl)
theorem fl_X7_166 : Cond.fieldLink RX7 166 "SnoresGoldModel" "nothingMany" "I" ∈ gt := (gt4 (i := 56) rfl rfl)
theorem fl_X7_163 : Cond.fieldLink RX7 163 "SnoresGoldModel" "actNow" "I" ∈ gt := (gt4 (i := 57) rfl rfl)
theorem fl_X7_59 : Cond.fieldLink RX7 59 "SnoresGoldModel" "had" "[I" ∈ gt := (gt4 (i := 58) rfl rfl)
theorem fl_X7_62 : Cond.fieldLink RX7 62 "SnoresGoldModel" "hadKnown" "[J" ∈ gt := (gt4 (i := 59) rfl rfl)
theorem fl_X7_179 : Cond.fieldLink RX7 179 "SnoresGoldModel" "badAct" "I" ∈ gt := (gt4 (i := 60) rfl rfl)
theorem fl_X7_182 : Cond.fieldLink RX7 182 "SnoresGoldModel" "badWhy" "I" ∈ gt := (gt4 (i := 61) rfl rfl)
theorem fl_X7_65 : Cond.fieldLink RX7 65 "SnoresGoldModel" "with" "[I" ∈ gt := (gt4 (i := 62) rfl rfl)
theorem fl_X7_68 : Cond.fieldLink RX7 68 "SnoresGoldModel" "digit" "[I" ∈ gt := (gt4 (i := 63) rfl rfl)
theorem fl_X7_71 : Cond.fieldLink RX7 71 "SnoresGoldModel" "more" "[I" ∈ gt := (gt4 (i := 64) rfl rfl)
theorem fl_X7_74 : Cond.fieldLink RX7 74 "SnoresGoldModel" "kept" "[I" ∈ gt := (gt4 (i := 65) rfl rfl)
theorem fl_X7_77 : Cond.fieldLink RX7 77 "SnoresGoldModel" "keptKnown" "[J" ∈ gt := (gt4 (i := 66) rfl rfl)
theorem fl_X7_80 : Cond.fieldLink RX7 80 "SnoresGoldModel" "isKept" "[Z" ∈ gt := (gt4 (i := 67) rfl rfl)
theorem fl_X7_315 : Cond.fieldLink RX7 315 "SnoresGoldModel" "keptAt" "I" ∈ gt := (gt4 (i := 68) rfl rfl)
theorem fl_X7_311 : Cond.fieldLink RX7 311 "SnoresGoldModel" "isWriting" "Z" ∈ gt := (gt4 (i := 69) rfl rfl)
theorem ac_boolean : Cond.arrayClass .boolean ∈ gt := (gt4 (i := 145) rfl rfl)
theorem kl_X7_84 : Cond.constantLong RX7 84 (63) ∈ gt := (gt4 (i := 153) rfl rfl)
theorem kl_X7_100 : Cond.constantLong RX7 100 (9) ∈ gt := (gt4 (i := 157) rfl rfl)
theorem kl_X7_90 : Cond.constantLong RX7 90 (5) ∈ gt := (gt4 (i := 162) rfl rfl)
theorem kl_X7_109 : Cond.constantLong RX7 109 (-1) ∈ gt := (gt4 (i := 178) rfl rfl)
theorem kl_X7_125 : Cond.constantLong RX7 125 (33) ∈ gt := (gt4 (i := 203) rfl rfl)
theorem kl_X7_127 : Cond.constantLong RX7 127 (126) ∈ gt := (gt4 (i := 204) rfl rfl)
theorem kl_X7_142 : Cond.constantLong RX7 142 (65) ∈ gt := (gt4 (i := 225) rfl rfl)
theorem kl_X7_144 : Cond.constantLong RX7 144 (70) ∈ gt := (gt4 (i := 226) rfl rfl)
theorem kl_X7_202 : Cond.constantLong RX7 202 (2) ∈ gt := (gt4 (i := 231) rfl rfl)
theorem kl_X7_152 : Cond.constantLong RX7 152 (7) ∈ gt := (gt5 (i := 16) rfl rfl)
theorem kl_X7_222 : Cond.constantLong RX7 222 (3) ∈ gt := (gt5 (i := 40) rfl rfl)
theorem kl_X7_237 : Cond.constantLong RX7 237 (14) ∈ gt := (gt5 (i := 87) rfl rfl)
theorem kl_X7_252 : Cond.constantLong RX7 252 (999999) ∈ gt := (gt5 (i := 132) rfl rfl)
theorem kl_X7_276 : Cond.constantLong RX7 276 (-1000000000000000002) ∈ gt := (gt5 (i := 168) rfl rfl)
theorem kl_X7_294 : Cond.constantLong RX7 294 (10) ∈ gt := (gt5 (i := 197) rfl rfl)
theorem kl_X7_296 : Cond.constantLong RX7 296 (999) ∈ gt := (gt5 (i := 198) rfl rfl)
theorem kl_X7_301 : Cond.constantLong RX7 301 (9999) ∈ gt := (gt5 (i := 207) rfl rfl)
theorem kl_X7_303 : Cond.constantLong RX7 303 (99) ∈ gt := (gt5 (i := 208) rfl rfl)
theorem kl_X7_305 : Cond.constantLong RX7 305 (75) ∈ gt := (gt5 (i := 209) rfl rfl)
theorem kl_X7_307 : Cond.constantLong RX7 307 (74) ∈ gt := (gt5 (i := 210) rfl rfl)
theorem kl_X7_309 : Cond.constantLong RX7 309 (65537) ∈ gt := (gt5 (i := 211) rfl rfl)
theorem kl_X7_328 : Cond.constantLong RX7 328 (200) ∈ gt := (gt5 (i := 236) rfl rfl)
theorem kl_X7_330 : Cond.constantLong RX7 330 (1399) ∈ gt := (gt5 (i := 237) rfl rfl)
theorem kl_X7_332 : Cond.constantLong RX7 332 (100) ∈ gt := (gt5 (i := 238) rfl rfl)
theorem kl_X7_334 : Cond.constantLong RX7 334 (163) ∈ gt := (gt5 (i := 239) rfl rfl)
theorem kl_X7_336 : Cond.constantLong RX7 336 (69) ∈ gt := (gt6 (i := 0) rfl rfl)
theorem ac_char : Cond.arrayClass .char ∈ gt := (gt6 (i := 5) rfl rfl)
theorem nat_ac : Cond.native arraycopyName ∈ gt := (gt2 (i := 104) rfl rfl)
theorem sta_ac : Cond.static arraycopyName ∈ gt := (gt2 (i := 103) rfl rfl)
theorem oi_inst : Cond.instanceMethod objectInit ∈ gt := (gt1 (i := 19) rfl rfl)
theorem oi_code : Cond.code objectInit ⟨#[0xb1]⟩ 1 none ∈ gt := (gt1 (i := 20) rfl rfl)
theorem sta_mmax : Cond.static Lib.Math.max.name ∈ gt := (gt2 (i := 228) rfl rfl)
theorem cod_mmax : Cond.code Lib.Math.max.name Lib.Math.max.code 2 (some .int) ∈ gt := (gt2 (i := 229) rfl rfl)
theorem sta_mmin : Cond.static Lib.Math.min.name ∈ gt := (gt2 (i := 157) rfl rfl)
theorem cod_mmin : Cond.code Lib.Math.min.name Lib.Math.min.code 2 (some .int) ∈ gt := (gt2 (i := 158) rfl rfl)
theorem sta_mabs : Cond.static Lib.Math.abs.name ∈ gt := (gt2 (i := 224) rfl rfl)
theorem cod_mabs : Cond.code Lib.Math.abs.name Lib.Math.abs.code 1 (some .int) ∈ gt := (gt2 (i := 225) rfl rfl)
theorem la_X0 : ∀ w ∈ u_ws RX0 TX0 10, w ∈ gt := by
  intro w hw
  obtain ⟨k, hk, rfl⟩ := List.mem_map.mp hw
  have hk2 : k < 10 := List.mem_range.mp hk
  match k, hk2 with
  | 0, _ => exact (gt1 (i := 43) rfl rfl)
  | 1, _ => exact (gt1 (i := 45) rfl rfl)
  | 2, _ => exact (gt1 (i := 47) rfl rfl)
  | 3, _ => exact (gt1 (i := 49) rfl rfl)
  | 4, _ => exact (gt1 (i := 51) rfl rfl)
  | 5, _ => exact (gt1 (i := 53) rfl rfl)
  | 6, _ => exact (gt1 (i := 55) rfl rfl)
  | 7, _ => exact (gt1 (i := 57) rfl rfl)
  | 8, _ => exact (gt1 (i := 59) rfl rfl)
  | 9, _ => exact (gt1 (i := 61) rfl rfl)
  | k + 10, h => exact absurd h (by omega)
theorem la_X1 : ∀ w ∈ u_ws RX1 TX1 4, w ∈ gt := by
  intro w hw
  obtain ⟨k, hk, rfl⟩ := List.mem_map.mp hw
  have hk2 : k < 4 := List.mem_range.mp hk
  match k, hk2 with
  | 0, _ => exact (gt1 (i := 106) rfl rfl)
  | 1, _ => exact (gt1 (i := 108) rfl rfl)
  | 2, _ => exact (gt1 (i := 110) rfl rfl)
  | 3, _ => exact (gt1 (i := 112) rfl rfl)
  | k + 4, h => exact absurd h (by omega)
theorem la_X2 : ∀ w ∈ u_ws RX2 TX2 2, w ∈ gt := by
  intro w hw
  obtain ⟨k, hk, rfl⟩ := List.mem_map.mp hw
  have hk2 : k < 2 := List.mem_range.mp hk
  match k, hk2 with
  | 0, _ => exact (gt1 (i := 123) rfl rfl)
  | 1, _ => exact (gt1 (i := 125) rfl rfl)
  | k + 2, h => exact absurd h (by omega)
theorem la_X3 : ∀ w ∈ u_ws RX3 TX3 2, w ∈ gt := by
  intro w hw
  obtain ⟨k, hk, rfl⟩ := List.mem_map.mp hw
  have hk2 : k < 2 := List.mem_range.mp hk
  match k, hk2 with
  | 0, _ => exact (gt1 (i := 94) rfl rfl)
  | 1, _ => exact (gt1 (i := 96) rfl rfl)
  | k + 2, h => exact absurd h (by omega)
theorem la_X4 : ∀ w ∈ u_ws RX4 TX4 4, w ∈ gt := by
  intro w hw
  obtain ⟨k, hk, rfl⟩ := List.mem_map.mp hw
  have hk2 : k < 4 := List.mem_range.mp hk
  match k, hk2 with
  | 0, _ => exact (gt1 (i := 76) rfl rfl)
  | 1, _ => exact (gt1 (i := 78) rfl rfl)
  | 2, _ => exact (gt1 (i := 80) rfl rfl)
  | 3, _ => exact (gt1 (i := 82) rfl rfl)
  | k + 4, h => exact absurd h (by omega)
theorem la_X5 : ∀ w ∈ u_ws RX5 TX5 5, w ∈ gt := by
  intro w hw
  obtain ⟨k, hk, rfl⟩ := List.mem_map.mp hw
  have hk2 : k < 5 := List.mem_range.mp hk
  match k, hk2 with
  | 0, _ => exact (gt1 (i := 139) rfl rfl)
  | 1, _ => exact (gt1 (i := 141) rfl rfl)
  | 2, _ => exact (gt1 (i := 143) rfl rfl)
  | 3, _ => exact (gt1 (i := 145) rfl rfl)
  | 4, _ => exact (gt1 (i := 147) rfl rfl)
  | k + 5, h => exact absurd h (by omega)
theorem la_X6 : ∀ w ∈ u_ws RX6 TX6 10, w ∈ gt := by
  intro w hw
  obtain ⟨k, hk, rfl⟩ := List.mem_map.mp hw
  have hk2 : k < 10 := List.mem_range.mp hk
  match k, hk2 with
  | 0, _ => exact (gt1 (i := 162) rfl rfl)
  | 1, _ => exact (gt1 (i := 164) rfl rfl)
  | 2, _ => exact (gt1 (i := 166) rfl rfl)
  | 3, _ => exact (gt1 (i := 168) rfl rfl)
  | 4, _ => exact (gt1 (i := 170) rfl rfl)
  | 5, _ => exact (gt1 (i := 172) rfl rfl)
  | 6, _ => exact (gt1 (i := 174) rfl rfl)
  | 7, _ => exact (gt1 (i := 176) rfl rfl)
  | 8, _ => exact (gt1 (i := 178) rfl rfl)
  | 9, _ => exact (gt1 (i := 180) rfl rfl)
  | k + 10, h => exact absurd h (by omega)
theorem la_X7 : ∀ w ∈ u_ws RX7 TX7 37, w ∈ gt := by
  intro w hw
  obtain ⟨k, hk, rfl⟩ := List.mem_map.mp hw
  have hk2 : k < 37 := List.mem_range.mp hk
  match k, hk2 with
  | 0, _ => exact (gt4 (i := 70) rfl rfl)
  | 1, _ => exact (gt4 (i := 72) rfl rfl)
  | 2, _ => exact (gt4 (i := 74) rfl rfl)
  | 3, _ => exact (gt4 (i := 76) rfl rfl)
  | 4, _ => exact (gt4 (i := 78) rfl rfl)
  | 5, _ => exact (gt4 (i := 80) rfl rfl)
  | 6, _ => exact (gt4 (i := 82) rfl rfl)
  | 7, _ => exact (gt4 (i := 84) rfl rfl)
  | 8, _ => exact (gt4 (i := 86) rfl rfl)
  | 9, _ => exact (gt4 (i := 88) rfl rfl)
  | 10, _ => exact (gt4 (i := 90) rfl rfl)
  | 11, _ => exact (gt4 (i := 92) rfl rfl)
  | 12, _ => exact (gt4 (i := 94) rfl rfl)
  | 13, _ => exact (gt4 (i := 96) rfl rfl)
  | 14, _ => exact (gt4 (i := 98) rfl rfl)
  | 15, _ => exact (gt4 (i := 100) rfl rfl)
  | 16, _ => exact (gt4 (i := 102) rfl rfl)
  | 17, _ => exact (gt4 (i := 104) rfl rfl)
  | 18, _ => exact (gt4 (i := 106) rfl rfl)
  | 19, _ => exact (gt4 (i := 108) rfl rfl)
  | 20, _ => exact (gt4 (i := 110) rfl rfl)
  | 21, _ => exact (gt4 (i := 112) rfl rfl)
  | 22, _ => exact (gt4 (i := 114) rfl rfl)
  | 23, _ => exact (gt4 (i := 116) rfl rfl)
  | 24, _ => exact (gt4 (i := 118) rfl rfl)
  | 25, _ => exact (gt4 (i := 120) rfl rfl)
  | 26, _ => exact (gt4 (i := 122) rfl rfl)
  | 27, _ => exact (gt4 (i := 124) rfl rfl)
  | 28, _ => exact (gt4 (i := 126) rfl rfl)
  | 29, _ => exact (gt4 (i := 128) rfl rfl)
  | 30, _ => exact (gt4 (i := 130) rfl rfl)
  | 31, _ => exact (gt4 (i := 132) rfl rfl)
  | 32, _ => exact (gt4 (i := 134) rfl rfl)
  | 33, _ => exact (gt4 (i := 136) rfl rfl)
  | 34, _ => exact (gt4 (i := 138) rfl rfl)
  | 35, _ => exact (gt4 (i := 140) rfl rfl)
  | 36, _ => exact (gt4 (i := 142) rfl rfl)
  | k + 37, h => exact absurd h (by omega)
end
section
/-! THE RULES: an instruction each, over the world of places -/
theorem r_iconst {q : MI} {pc : Nat} {st : List Value} {h h' : Wd} {r : Option Value} {L : List Value} {n : Int} (v : Int32) (hd : decode (mb q) pc = .ok (.iconst n, 1)) (hv : Int32.ofInt n = v) (k : WW q (pc + 1) L (.int v :: st) h r h') : WW q pc L st h r h' := by
  intro p l e s m args below meth c D ad ck H locs ls C P S A
  exact lv_iconst C.1 C.2.1 hd hv (k p l e s m args below meth c D ad ck H locs ls C P S A)
theorem r_bipush {q : MI} {pc : Nat} {st : List Value} {h h' : Wd} {r : Option Value} {L : List Value} {n : Int} (v : Int32) (hd : decode (mb q) pc = .ok (.bipush n, 2)) (hv : (Int8.ofInt n).toInt32 = v) (k : WW q (pc + 2) L (.int v :: st) h r h') : WW q pc L st h r h' := by
  intro p l e s m args below meth c D ad ck H locs ls C P S A
  exact lv_bipush C.1 C.2.1 hd hv (k p l e s m args below meth c D ad ck H locs ls C P S A)
theorem r_sipush {q : MI} {pc : Nat} {st : List Value} {h h' : Wd} {r : Option Value} {L : List Value} {n : Int} (v : Int32) (hd : decode (mb q) pc = .ok (.sipush n, 3)) (hv : (Int16.ofInt n).toInt32 = v) (k : WW q (pc + 3) L (.int v :: st) h r h') : WW q pc L st h r h' := by
  intro p l e s m args below meth c D ad ck H locs ls C P S A
  exact lv_sipush C.1 C.2.1 hd hv (k p l e s m args below meth c D ad ck H locs ls C P S A)
theorem r_lconst {q : MI} {pc : Nat} {st : List Value} {h h' : Wd} {r : Option Value} {L : List Value} {n : Fin 2} (v : Int64) (hd : decode (mb q) pc = .ok (.lconst n, 1)) (hv : Int64.ofNat (n : Nat) = v) (k : WW q (pc + 1) L (.long v :: st) h r h') : WW q pc L st h r h' := by
  intro p l e s m args below meth c D ad ck H locs ls C P S A
  exact lv_lconst C.1 C.2.1 hd hv (k p l e s m args below meth c D ad ck H locs ls C P S A)
theorem r_ldc {q : MI} {pc : Nat} {st : List Value} {h h' : Wd} {r : Option Value} {L : List Value} {ix : Nat} {v : Int32} (hd : decode (mb q) pc = .ok (.ldc ix, 2)) (hl : Cond.constant (my q).cls ix v ∈ gt) (k : WW q (pc + 2) L (.int v :: st) h r h') : WW q pc L st h r h' := by
  intro p l e s m args below meth c D ad ck H locs ls C P S A
  exact lv_ldc C.1 C.2.1 C.2.2.2.1 (C.2.2.2.2.1 _ hl) hd (k p l e s m args below meth c D ad ck H locs ls C P S A)
theorem r_ldcw {q : MI} {pc : Nat} {st : List Value} {h h' : Wd} {r : Option Value} {L : List Value} {ix : Nat} {v : Int32} (hd : decode (mb q) pc = .ok (.ldc_w ix, 3)) (hl : Cond.constant (my q).cls ix v ∈ gt) (k : WW q (pc + 3) L (.int v :: st) h r h') : WW q pc L st h r h' := by
  intro p l e s m args below meth c D ad ck H locs ls C P S A
  exact lv_ldcw C.1 C.2.1 C.2.2.2.1 (C.2.2.2.2.1 _ hl) hd (k p l e s m args below meth c D ad ck H locs ls C P S A)
theorem r_ldc2 {q : MI} {pc : Nat} {st : List Value} {h h' : Wd} {r : Option Value} {L : List Value} {ix : Nat} {v : Int64} (hd : decode (mb q) pc = .ok (.ldc2_w ix, 3)) (hl : Cond.constantLong (my q).cls ix v ∈ gt) (k : WW q (pc + 3) L (.long v :: st) h r h') : WW q pc L st h r h' := by
  intro p l e s m args below meth c D ad ck H locs ls C P S A
  exact lv_ldc2 C.1 C.2.1 C.2.2.2.1 (C.2.2.2.2.1 _ hl) hd (k p l e s m args below meth c D ad ck H locs ls C P S A)
theorem asc_ix {X t : List Value} {x : Int32} {ad : Nat → Nat} : ∃ kk : Nat, (asc 0 ((X ++ Value.int x :: t).map (vv ad)))[kk]? = some (X.length, Value.int x) := by
  have hne : Value.int x ≠ Value.null := fun z => by cases z
  have h1 : ((X ++ Value.int x :: t).map (vv ad))[X.length]? = some (Value.int x) := by
    rw [List.getElem?_map, List.getElem?_append_right (Nat.le_refl _), Nat.sub_self]
    rfl
  have h2 : (0 + X.length, Value.int x) ∈ asc 0 ((X ++ Value.int x :: t).map (vv ad)) := asc_mem.mpr ⟨hne, X.length, h1, rfl⟩
  rw [Nat.zero_add] at h2
  exact List.getElem?_of_mem h2
theorem r_iload_0 {q : MI} {pc : Nat} {st : List Value} {h h' : Wd} {r : Option Value} {t : List Value} {x : Int32} (hd : decode (mb q) pc = .ok (.iload_n 0, 1))  (k : WW q (pc + 1) (.int x :: t) (.int x :: st) h r h') : WW q pc (.int x :: t) st h r h' := by
  intro p l e s m args below meth c D ad ck H locs ls C P S A
  exact lv_iload_n C.1 C.2.1 (i := 0) hd rfl (A.mid (X := []) rfl (fun z => by cases z)) (k p l e s m args below meth c D ad ck H locs ls C P S A)
theorem r_lload_0 {q : MI} {pc : Nat} {st : List Value} {h h' : Wd} {r : Option Value} {t : List Value} {x : Int64} (hd : decode (mb q) pc = .ok (.lload_n 0, 1))  (k : WW q (pc + 1) (.long x :: t) (.long x :: st) h r h') : WW q pc (.long x :: t) st h r h' := by
  intro p l e s m args below meth c D ad ck H locs ls C P S A
  exact lv_lload_n C.1 C.2.1 (i := 0) hd rfl (A.mid (X := []) rfl (fun z => by cases z)) (k p l e s m args below meth c D ad ck H locs ls C P S A)
theorem r_aload_0 {q : MI} {pc : Nat} {st : List Value} {h h' : Wd} {r : Option Value} {t : List Value} {x : Nat} (hd : decode (mb q) pc = .ok (.aload_n 0, 1))  (k : WW q (pc + 1) (.ref x :: t) (.ref x :: st) h r h') : WW q pc (.ref x :: t) st h r h' := by
  intro p l e s m args below meth c D ad ck H locs ls C P S A
  exact lv_aload_n C.1 C.2.1 (i := 0) hd rfl (A.mid (X := []) rfl (fun z => by cases z)) (k p l e s m args below meth c D ad ck H locs ls C P S A)
theorem r_istore_0 {q : MI} {pc : Nat} {st : List Value} {h h' : Wd} {r : Option Value} {a : Value} {t : List Value} {x : Int32} (hd : decode (mb q) pc = .ok (.istore_n 0, 1)) (hn : 0 < mn q) (k : WW q (pc + 1) (.int x :: t) st h r h') : WW q pc (a :: t) (.int x :: st) h r h' := by
  intro p l e s m args below meth c D ad ck H locs ls C P S A
  exact lv_istore_n C.1 C.2.1 hd rfl A hn rfl (fun ls' A' => k p l e s m args below meth c D ad ck H locs ls' C P S (Has.set1 (X := []) (a := a) (v := .int x) (t := t) rfl (fun w hw => by cases hw) A'))
theorem r_astore_0 {q : MI} {pc : Nat} {st : List Value} {h h' : Wd} {r : Option Value} {a : Value} {t : List Value} {x : Nat} (hd : decode (mb q) pc = .ok (.astore_n 0, 1)) (hn : 0 < mn q) (k : WW q (pc + 1) (.ref x :: t) st h r h') : WW q pc (a :: t) (.ref x :: st) h r h' := by
  intro p l e s m args below meth c D ad ck H locs ls C P S A
  exact lv_astore_n C.1 C.2.1 hd rfl A hn rfl (fun ls' A' => k p l e s m args below meth c D ad ck H locs ls' C P S (Has.set1 (X := []) (a := a) (v := .ref x) (t := t) rfl (fun w hw => by cases hw) A'))
theorem r_lstore_0 {q : MI} {pc : Nat} {st : List Value} {h h' : Wd} {r : Option Value} {a b : Value} {t : List Value} {x : Int64} (hd : decode (mb q) pc = .ok (.lstore_n 0, 1)) (hn : 0 + 1 < mn q) (k : WW q (pc + 1) (.long x :: .null :: t) st h r h') : WW q pc (a :: b :: t) (.long x :: st) h r h' := by
  intro p l e s m args below meth c D ad ck H locs ls C P S A
  exact lv_lstore_n C.1 C.2.1 hd rfl A hn rfl (fun ls' A' => k p l e s m args below meth c D ad ck H locs ls' C P S (Has.set2 (X := []) (a := a) (b := b) (v := .long x) (t := t) rfl (fun w hw => by cases hw) A'))
theorem r_iinc_0 {q : MI} {pc : Nat} {st : List Value} {h h' : Wd} {r : Option Value} {t : List Value} {x : Int32} {n : Int} (v : Int32) (hd : decode (mb q) pc = .ok (.iinc 0 n, 3)) (hv : Int32.ofInt n = v) (hn : 0 < mn q) (k : WW q (pc + 3) (.int (x + v) :: t) st h r h') : WW q pc (.int x :: t) st h r h' := by
  intro p l e s m args below meth c D ad ck H locs ls C P S A
  obtain ⟨kk, hkk2⟩ := asc_ix (X := []) (t := t) (x := x) (ad := ad)
  exact lv_iinc (v := x + v) C.1 C.2.1 hd A hkk2 (by rw [hv]) hn rfl (fun ls' A' => k p l e s m args below meth c D ad ck H locs ls' C P S (Has.set1 (X := []) (a := .int x) (v := .int (x + v)) (t := t) rfl (fun w hw => by cases hw) A'))
theorem r_iload_1 {q : MI} {pc : Nat} {st : List Value} {h h' : Wd} {r : Option Value} {a0 : Value} {t : List Value} {x : Int32} (hd : decode (mb q) pc = .ok (.iload_n 1, 1))  (k : WW q (pc + 1) (a0 :: .int x :: t) (.int x :: st) h r h') : WW q pc (a0 :: .int x :: t) st h r h' := by
  intro p l e s m args below meth c D ad ck H locs ls C P S A
  exact lv_iload_n C.1 C.2.1 (i := 1) hd rfl (A.mid (X := [a0]) rfl (fun z => by cases z)) (k p l e s m args below meth c D ad ck H locs ls C P S A)
theorem r_lload_1 {q : MI} {pc : Nat} {st : List Value} {h h' : Wd} {r : Option Value} {a0 : Value} {t : List Value} {x : Int64} (hd : decode (mb q) pc = .ok (.lload_n 1, 1))  (k : WW q (pc + 1) (a0 :: .long x :: t) (.long x :: st) h r h') : WW q pc (a0 :: .long x :: t) st h r h' := by
  intro p l e s m args below meth c D ad ck H locs ls C P S A
  exact lv_lload_n C.1 C.2.1 (i := 1) hd rfl (A.mid (X := [a0]) rfl (fun z => by cases z)) (k p l e s m args below meth c D ad ck H locs ls C P S A)
theorem r_aload_1 {q : MI} {pc : Nat} {st : List Value} {h h' : Wd} {r : Option Value} {a0 : Value} {t : List Value} {x : Nat} (hd : decode (mb q) pc = .ok (.aload_n 1, 1))  (k : WW q (pc + 1) (a0 :: .ref x :: t) (.ref x :: st) h r h') : WW q pc (a0 :: .ref x :: t) st h r h' := by
  intro p l e s m args below meth c D ad ck H locs ls C P S A
  exact lv_aload_n C.1 C.2.1 (i := 1) hd rfl (A.mid (X := [a0]) rfl (fun z => by cases z)) (k p l e s m args below meth c D ad ck H locs ls C P S A)
theorem r_istore_1 {q : MI} {pc : Nat} {st : List Value} {h h' : Wd} {r : Option Value} {a0 : Value} {a : Value} {t : List Value} {x : Int32} (hd : decode (mb q) pc = .ok (.istore_n 1, 1)) (hc : a0.category = 1) (hn : 1 < mn q) (k : WW q (pc + 1) (a0 :: .int x :: t) st h r h') : WW q pc (a0 :: a :: t) (.int x :: st) h r h' := by
  intro p l e s m args below meth c D ad ck H locs ls C P S A
  exact lv_istore_n C.1 C.2.1 hd rfl A hn rfl (fun ls' A' => k p l e s m args below meth c D ad ck H locs ls' C P S (Has.set1 (X := [a0]) (a := a) (v := .int x) (t := t) rfl (fun w hw => by cases hw; exact hc) A'))
theorem r_astore_1 {q : MI} {pc : Nat} {st : List Value} {h h' : Wd} {r : Option Value} {a0 : Value} {a : Value} {t : List Value} {x : Nat} (hd : decode (mb q) pc = .ok (.astore_n 1, 1)) (hc : a0.category = 1) (hn : 1 < mn q) (k : WW q (pc + 1) (a0 :: .ref x :: t) st h r h') : WW q pc (a0 :: a :: t) (.ref x :: st) h r h' := by
  intro p l e s m args below meth c D ad ck H locs ls C P S A
  exact lv_astore_n C.1 C.2.1 hd rfl A hn rfl (fun ls' A' => k p l e s m args below meth c D ad ck H locs ls' C P S (Has.set1 (X := [a0]) (a := a) (v := .ref x) (t := t) rfl (fun w hw => by cases hw; exact hc) A'))
theorem r_lstore_1 {q : MI} {pc : Nat} {st : List Value} {h h' : Wd} {r : Option Value} {a0 : Value} {a b : Value} {t : List Value} {x : Int64} (hd : decode (mb q) pc = .ok (.lstore_n 1, 1)) (hc : a0.category = 1) (hn : 1 + 1 < mn q) (k : WW q (pc + 1) (a0 :: .long x :: .null :: t) st h r h') : WW q pc (a0 :: a :: b :: t) (.long x :: st) h r h' := by
  intro p l e s m args below meth c D ad ck H locs ls C P S A
  exact lv_lstore_n C.1 C.2.1 hd rfl A hn rfl (fun ls' A' => k p l e s m args below meth c D ad ck H locs ls' C P S (Has.set2 (X := [a0]) (a := a) (b := b) (v := .long x) (t := t) rfl (fun w hw => by cases hw; exact hc) A'))
theorem r_iinc_1 {q : MI} {pc : Nat} {st : List Value} {h h' : Wd} {r : Option Value} {a0 : Value} {t : List Value} {x : Int32} {n : Int} (v : Int32) (hd : decode (mb q) pc = .ok (.iinc 1 n, 3)) (hv : Int32.ofInt n = v) (hc : a0.category = 1) (hn : 1 < mn q) (k : WW q (pc + 3) (a0 :: .int (x + v) :: t) st h r h') : WW q pc (a0 :: .int x :: t) st h r h' := by
  intro p l e s m args below meth c D ad ck H locs ls C P S A
  obtain ⟨kk, hkk2⟩ := asc_ix (X := [a0]) (t := t) (x := x) (ad := ad)
  exact lv_iinc (v := x + v) C.1 C.2.1 hd A hkk2 (by rw [hv]) hn rfl (fun ls' A' => k p l e s m args below meth c D ad ck H locs ls' C P S (Has.set1 (X := [a0]) (a := .int x) (v := .int (x + v)) (t := t) rfl (fun w hw => by cases hw; exact hc) A'))
theorem r_iload_2 {q : MI} {pc : Nat} {st : List Value} {h h' : Wd} {r : Option Value} {a0 a1 : Value} {t : List Value} {x : Int32} (hd : decode (mb q) pc = .ok (.iload_n 2, 1))  (k : WW q (pc + 1) (a0 :: a1 :: .int x :: t) (.int x :: st) h r h') : WW q pc (a0 :: a1 :: .int x :: t) st h r h' := by
  intro p l e s m args below meth c D ad ck H locs ls C P S A
  exact lv_iload_n C.1 C.2.1 (i := 2) hd rfl (A.mid (X := [a0, a1]) rfl (fun z => by cases z)) (k p l e s m args below meth c D ad ck H locs ls C P S A)
theorem r_lload_2 {q : MI} {pc : Nat} {st : List Value} {h h' : Wd} {r : Option Value} {a0 a1 : Value} {t : List Value} {x : Int64} (hd : decode (mb q) pc = .ok (.lload_n 2, 1))  (k : WW q (pc + 1) (a0 :: a1 :: .long x :: t) (.long x :: st) h r h') : WW q pc (a0 :: a1 :: .long x :: t) st h r h' := by
  intro p l e s m args below meth c D ad ck H locs ls C P S A
  exact lv_lload_n C.1 C.2.1 (i := 2) hd rfl (A.mid (X := [a0, a1]) rfl (fun z => by cases z)) (k p l e s m args below meth c D ad ck H locs ls C P S A)
theorem r_aload_2 {q : MI} {pc : Nat} {st : List Value} {h h' : Wd} {r : Option Value} {a0 a1 : Value} {t : List Value} {x : Nat} (hd : decode (mb q) pc = .ok (.aload_n 2, 1))  (k : WW q (pc + 1) (a0 :: a1 :: .ref x :: t) (.ref x :: st) h r h') : WW q pc (a0 :: a1 :: .ref x :: t) st h r h' := by
  intro p l e s m args below meth c D ad ck H locs ls C P S A
  exact lv_aload_n C.1 C.2.1 (i := 2) hd rfl (A.mid (X := [a0, a1]) rfl (fun z => by cases z)) (k p l e s m args below meth c D ad ck H locs ls C P S A)
theorem r_istore_2 {q : MI} {pc : Nat} {st : List Value} {h h' : Wd} {r : Option Value} {a0 a1 : Value} {a : Value} {t : List Value} {x : Int32} (hd : decode (mb q) pc = .ok (.istore_n 2, 1)) (hc : a1.category = 1) (hn : 2 < mn q) (k : WW q (pc + 1) (a0 :: a1 :: .int x :: t) st h r h') : WW q pc (a0 :: a1 :: a :: t) (.int x :: st) h r h' := by
  intro p l e s m args below meth c D ad ck H locs ls C P S A
  exact lv_istore_n C.1 C.2.1 hd rfl A hn rfl (fun ls' A' => k p l e s m args below meth c D ad ck H locs ls' C P S (Has.set1 (X := [a0, a1]) (a := a) (v := .int x) (t := t) rfl (fun w hw => by cases hw; exact hc) A'))
theorem r_astore_2 {q : MI} {pc : Nat} {st : List Value} {h h' : Wd} {r : Option Value} {a0 a1 : Value} {a : Value} {t : List Value} {x : Nat} (hd : decode (mb q) pc = .ok (.astore_n 2, 1)) (hc : a1.category = 1) (hn : 2 < mn q) (k : WW q (pc + 1) (a0 :: a1 :: .ref x :: t) st h r h') : WW q pc (a0 :: a1 :: a :: t) (.ref x :: st) h r h' := by
  intro p l e s m args below meth c D ad ck H locs ls C P S A
  exact lv_astore_n C.1 C.2.1 hd rfl A hn rfl (fun ls' A' => k p l e s m args below meth c D ad ck H locs ls' C P S (Has.set1 (X := [a0, a1]) (a := a) (v := .ref x) (t := t) rfl (fun w hw => by cases hw; exact hc) A'))
theorem r_lstore_2 {q : MI} {pc : Nat} {st : List Value} {h h' : Wd} {r : Option Value} {a0 a1 : Value} {a b : Value} {t : List Value} {x : Int64} (hd : decode (mb q) pc = .ok (.lstore_n 2, 1)) (hc : a1.category = 1) (hn : 2 + 1 < mn q) (k : WW q (pc + 1) (a0 :: a1 :: .long x :: .null :: t) st h r h') : WW q pc (a0 :: a1 :: a :: b :: t) (.long x :: st) h r h' := by
  intro p l e s m args below meth c D ad ck H locs ls C P S A
  exact lv_lstore_n C.1 C.2.1 hd rfl A hn rfl (fun ls' A' => k p l e s m args below meth c D ad ck H locs ls' C P S (Has.set2 (X := [a0, a1]) (a := a) (b := b) (v := .long x) (t := t) rfl (fun w hw => by cases hw; exact hc) A'))
theorem r_iinc_2 {q : MI} {pc : Nat} {st : List Value} {h h' : Wd} {r : Option Value} {a0 a1 : Value} {t : List Value} {x : Int32} {n : Int} (v : Int32) (hd : decode (mb q) pc = .ok (.iinc 2 n, 3)) (hv : Int32.ofInt n = v) (hc : a1.category = 1) (hn : 2 < mn q) (k : WW q (pc + 3) (a0 :: a1 :: .int (x + v) :: t) st h r h') : WW q pc (a0 :: a1 :: .int x :: t) st h r h' := by
  intro p l e s m args below meth c D ad ck H locs ls C P S A
  obtain ⟨kk, hkk2⟩ := asc_ix (X := [a0, a1]) (t := t) (x := x) (ad := ad)
  exact lv_iinc (v := x + v) C.1 C.2.1 hd A hkk2 (by rw [hv]) hn rfl (fun ls' A' => k p l e s m args below meth c D ad ck H locs ls' C P S (Has.set1 (X := [a0, a1]) (a := .int x) (v := .int (x + v)) (t := t) rfl (fun w hw => by cases hw; exact hc) A'))
theorem r_iload_3 {q : MI} {pc : Nat} {st : List Value} {h h' : Wd} {r : Option Value} {a0 a1 a2 : Value} {t : List Value} {x : Int32} (hd : decode (mb q) pc = .ok (.iload_n 3, 1))  (k : WW q (pc + 1) (a0 :: a1 :: a2 :: .int x :: t) (.int x :: st) h r h') : WW q pc (a0 :: a1 :: a2 :: .int x :: t) st h r h' := by
  intro p l e s m args below meth c D ad ck H locs ls C P S A
  exact lv_iload_n C.1 C.2.1 (i := 3) hd rfl (A.mid (X := [a0, a1, a2]) rfl (fun z => by cases z)) (k p l e s m args below meth c D ad ck H locs ls C P S A)
theorem r_lload_3 {q : MI} {pc : Nat} {st : List Value} {h h' : Wd} {r : Option Value} {a0 a1 a2 : Value} {t : List Value} {x : Int64} (hd : decode (mb q) pc = .ok (.lload_n 3, 1))  (k : WW q (pc + 1) (a0 :: a1 :: a2 :: .long x :: t) (.long x :: st) h r h') : WW q pc (a0 :: a1 :: a2 :: .long x :: t) st h r h' := by
  intro p l e s m args below meth c D ad ck H locs ls C P S A
  exact lv_lload_n C.1 C.2.1 (i := 3) hd rfl (A.mid (X := [a0, a1, a2]) rfl (fun z => by cases z)) (k p l e s m args below meth c D ad ck H locs ls C P S A)
theorem r_aload_3 {q : MI} {pc : Nat} {st : List Value} {h h' : Wd} {r : Option Value} {a0 a1 a2 : Value} {t : List Value} {x : Nat} (hd : decode (mb q) pc = .ok (.aload_n 3, 1))  (k : WW q (pc + 1) (a0 :: a1 :: a2 :: .ref x :: t) (.ref x :: st) h r h') : WW q pc (a0 :: a1 :: a2 :: .ref x :: t) st h r h' := by
  intro p l e s m args below meth c D ad ck H locs ls C P S A
  exact lv_aload_n C.1 C.2.1 (i := 3) hd rfl (A.mid (X := [a0, a1, a2]) rfl (fun z => by cases z)) (k p l e s m args below meth c D ad ck H locs ls C P S A)
theorem r_istore_3 {q : MI} {pc : Nat} {st : List Value} {h h' : Wd} {r : Option Value} {a0 a1 a2 : Value} {a : Value} {t : List Value} {x : Int32} (hd : decode (mb q) pc = .ok (.istore_n 3, 1)) (hc : a2.category = 1) (hn : 3 < mn q) (k : WW q (pc + 1) (a0 :: a1 :: a2 :: .int x :: t) st h r h') : WW q pc (a0 :: a1 :: a2 :: a :: t) (.int x :: st) h r h' := by
  intro p l e s m args below meth c D ad ck H locs ls C P S A
  exact lv_istore_n C.1 C.2.1 hd rfl A hn rfl (fun ls' A' => k p l e s m args below meth c D ad ck H locs ls' C P S (Has.set1 (X := [a0, a1, a2]) (a := a) (v := .int x) (t := t) rfl (fun w hw => by cases hw; exact hc) A'))
theorem r_astore_3 {q : MI} {pc : Nat} {st : List Value} {h h' : Wd} {r : Option Value} {a0 a1 a2 : Value} {a : Value} {t : List Value} {x : Nat} (hd : decode (mb q) pc = .ok (.astore_n 3, 1)) (hc : a2.category = 1) (hn : 3 < mn q) (k : WW q (pc + 1) (a0 :: a1 :: a2 :: .ref x :: t) st h r h') : WW q pc (a0 :: a1 :: a2 :: a :: t) (.ref x :: st) h r h' := by
  intro p l e s m args below meth c D ad ck H locs ls C P S A
  exact lv_astore_n C.1 C.2.1 hd rfl A hn rfl (fun ls' A' => k p l e s m args below meth c D ad ck H locs ls' C P S (Has.set1 (X := [a0, a1, a2]) (a := a) (v := .ref x) (t := t) rfl (fun w hw => by cases hw; exact hc) A'))
theorem r_lstore_3 {q : MI} {pc : Nat} {st : List Value} {h h' : Wd} {r : Option Value} {a0 a1 a2 : Value} {a b : Value} {t : List Value} {x : Int64} (hd : decode (mb q) pc = .ok (.lstore_n 3, 1)) (hc : a2.category = 1) (hn : 3 + 1 < mn q) (k : WW q (pc + 1) (a0 :: a1 :: a2 :: .long x :: .null :: t) st h r h') : WW q pc (a0 :: a1 :: a2 :: a :: b :: t) (.long x :: st) h r h' := by
  intro p l e s m args below meth c D ad ck H locs ls C P S A
  exact lv_lstore_n C.1 C.2.1 hd rfl A hn rfl (fun ls' A' => k p l e s m args below meth c D ad ck H locs ls' C P S (Has.set2 (X := [a0, a1, a2]) (a := a) (b := b) (v := .long x) (t := t) rfl (fun w hw => by cases hw; exact hc) A'))
theorem r_iinc_3 {q : MI} {pc : Nat} {st : List Value} {h h' : Wd} {r : Option Value} {a0 a1 a2 : Value} {t : List Value} {x : Int32} {n : Int} (v : Int32) (hd : decode (mb q) pc = .ok (.iinc 3 n, 3)) (hv : Int32.ofInt n = v) (hc : a2.category = 1) (hn : 3 < mn q) (k : WW q (pc + 3) (a0 :: a1 :: a2 :: .int (x + v) :: t) st h r h') : WW q pc (a0 :: a1 :: a2 :: .int x :: t) st h r h' := by
  intro p l e s m args below meth c D ad ck H locs ls C P S A
  obtain ⟨kk, hkk2⟩ := asc_ix (X := [a0, a1, a2]) (t := t) (x := x) (ad := ad)
  exact lv_iinc (v := x + v) C.1 C.2.1 hd A hkk2 (by rw [hv]) hn rfl (fun ls' A' => k p l e s m args below meth c D ad ck H locs ls' C P S (Has.set1 (X := [a0, a1, a2]) (a := .int x) (v := .int (x + v)) (t := t) rfl (fun w hw => by cases hw; exact hc) A'))
theorem r_iload_4 {q : MI} {pc : Nat} {st : List Value} {h h' : Wd} {r : Option Value} {a0 a1 a2 a3 : Value} {t : List Value} {x : Int32} (hd : decode (mb q) pc = .ok (.iload 4, 2))  (k : WW q (pc + 2) (a0 :: a1 :: a2 :: a3 :: .int x :: t) (.int x :: st) h r h') : WW q pc (a0 :: a1 :: a2 :: a3 :: .int x :: t) st h r h' := by
  intro p l e s m args below meth c D ad ck H locs ls C P S A
  exact lv_iload C.1 C.2.1 hd (A.mid (X := [a0, a1, a2, a3]) rfl (fun z => by cases z)) (k p l e s m args below meth c D ad ck H locs ls C P S A)
theorem r_lload_4 {q : MI} {pc : Nat} {st : List Value} {h h' : Wd} {r : Option Value} {a0 a1 a2 a3 : Value} {t : List Value} {x : Int64} (hd : decode (mb q) pc = .ok (.lload 4, 2))  (k : WW q (pc + 2) (a0 :: a1 :: a2 :: a3 :: .long x :: t) (.long x :: st) h r h') : WW q pc (a0 :: a1 :: a2 :: a3 :: .long x :: t) st h r h' := by
  intro p l e s m args below meth c D ad ck H locs ls C P S A
  exact lv_lload C.1 C.2.1 hd (A.mid (X := [a0, a1, a2, a3]) rfl (fun z => by cases z)) (k p l e s m args below meth c D ad ck H locs ls C P S A)
theorem r_aload_4 {q : MI} {pc : Nat} {st : List Value} {h h' : Wd} {r : Option Value} {a0 a1 a2 a3 : Value} {t : List Value} {x : Nat} (hd : decode (mb q) pc = .ok (.aload 4, 2))  (k : WW q (pc + 2) (a0 :: a1 :: a2 :: a3 :: .ref x :: t) (.ref x :: st) h r h') : WW q pc (a0 :: a1 :: a2 :: a3 :: .ref x :: t) st h r h' := by
  intro p l e s m args below meth c D ad ck H locs ls C P S A
  exact lv_aload C.1 C.2.1 hd (A.mid (X := [a0, a1, a2, a3]) rfl (fun z => by cases z)) (k p l e s m args below meth c D ad ck H locs ls C P S A)
theorem r_istore_4 {q : MI} {pc : Nat} {st : List Value} {h h' : Wd} {r : Option Value} {a0 a1 a2 a3 : Value} {a : Value} {t : List Value} {x : Int32} (hd : decode (mb q) pc = .ok (.istore 4, 2)) (hc : a3.category = 1) (hn : 4 < mn q) (k : WW q (pc + 2) (a0 :: a1 :: a2 :: a3 :: .int x :: t) st h r h') : WW q pc (a0 :: a1 :: a2 :: a3 :: a :: t) (.int x :: st) h r h' := by
  intro p l e s m args below meth c D ad ck H locs ls C P S A
  exact lv_istore C.1 C.2.1 hd A hn rfl (fun ls' A' => k p l e s m args below meth c D ad ck H locs ls' C P S (Has.set1 (X := [a0, a1, a2, a3]) (a := a) (v := .int x) (t := t) rfl (fun w hw => by cases hw; exact hc) A'))
theorem r_astore_4 {q : MI} {pc : Nat} {st : List Value} {h h' : Wd} {r : Option Value} {a0 a1 a2 a3 : Value} {a : Value} {t : List Value} {x : Nat} (hd : decode (mb q) pc = .ok (.astore 4, 2)) (hc : a3.category = 1) (hn : 4 < mn q) (k : WW q (pc + 2) (a0 :: a1 :: a2 :: a3 :: .ref x :: t) st h r h') : WW q pc (a0 :: a1 :: a2 :: a3 :: a :: t) (.ref x :: st) h r h' := by
  intro p l e s m args below meth c D ad ck H locs ls C P S A
  exact lv_astore C.1 C.2.1 hd A hn rfl (fun ls' A' => k p l e s m args below meth c D ad ck H locs ls' C P S (Has.set1 (X := [a0, a1, a2, a3]) (a := a) (v := .ref x) (t := t) rfl (fun w hw => by cases hw; exact hc) A'))
theorem r_lstore_4 {q : MI} {pc : Nat} {st : List Value} {h h' : Wd} {r : Option Value} {a0 a1 a2 a3 : Value} {a b : Value} {t : List Value} {x : Int64} (hd : decode (mb q) pc = .ok (.lstore 4, 2)) (hc : a3.category = 1) (hn : 4 + 1 < mn q) (k : WW q (pc + 2) (a0 :: a1 :: a2 :: a3 :: .long x :: .null :: t) st h r h') : WW q pc (a0 :: a1 :: a2 :: a3 :: a :: b :: t) (.long x :: st) h r h' := by
  intro p l e s m args below meth c D ad ck H locs ls C P S A
  exact lv_lstore C.1 C.2.1 hd A hn rfl (fun ls' A' => k p l e s m args below meth c D ad ck H locs ls' C P S (Has.set2 (X := [a0, a1, a2, a3]) (a := a) (b := b) (v := .long x) (t := t) rfl (fun w hw => by cases hw; exact hc) A'))
theorem r_iinc_4 {q : MI} {pc : Nat} {st : List Value} {h h' : Wd} {r : Option Value} {a0 a1 a2 a3 : Value} {t : List Value} {x : Int32} {n : Int} (v : Int32) (hd : decode (mb q) pc = .ok (.iinc 4 n, 3)) (hv : Int32.ofInt n = v) (hc : a3.category = 1) (hn : 4 < mn q) (k : WW q (pc + 3) (a0 :: a1 :: a2 :: a3 :: .int (x + v) :: t) st h r h') : WW q pc (a0 :: a1 :: a2 :: a3 :: .int x :: t) st h r h' := by
  intro p l e s m args below meth c D ad ck H locs ls C P S A
  obtain ⟨kk, hkk2⟩ := asc_ix (X := [a0, a1, a2, a3]) (t := t) (x := x) (ad := ad)
  exact lv_iinc (v := x + v) C.1 C.2.1 hd A hkk2 (by rw [hv]) hn rfl (fun ls' A' => k p l e s m args below meth c D ad ck H locs ls' C P S (Has.set1 (X := [a0, a1, a2, a3]) (a := .int x) (v := .int (x + v)) (t := t) rfl (fun w hw => by cases hw; exact hc) A'))
theorem r_iload_5 {q : MI} {pc : Nat} {st : List Value} {h h' : Wd} {r : Option Value} {a0 a1 a2 a3 a4 : Value} {t : List Value} {x : Int32} (hd : decode (mb q) pc = .ok (.iload 5, 2))  (k : WW q (pc + 2) (a0 :: a1 :: a2 :: a3 :: a4 :: .int x :: t) (.int x :: st) h r h') : WW q pc (a0 :: a1 :: a2 :: a3 :: a4 :: .int x :: t) st h r h' := by
  intro p l e s m args below meth c D ad ck H locs ls C P S A
  exact lv_iload C.1 C.2.1 hd (A.mid (X := [a0, a1, a2, a3, a4]) rfl (fun z => by cases z)) (k p l e s m args below meth c D ad ck H locs ls C P S A)
theorem r_lload_5 {q : MI} {pc : Nat} {st : List Value} {h h' : Wd} {r : Option Value} {a0 a1 a2 a3 a4 : Value} {t : List Value} {x : Int64} (hd : decode (mb q) pc = .ok (.lload 5, 2))  (k : WW q (pc + 2) (a0 :: a1 :: a2 :: a3 :: a4 :: .long x :: t) (.long x :: st) h r h') : WW q pc (a0 :: a1 :: a2 :: a3 :: a4 :: .long x :: t) st h r h' := by
  intro p l e s m args below meth c D ad ck H locs ls C P S A
  exact lv_lload C.1 C.2.1 hd (A.mid (X := [a0, a1, a2, a3, a4]) rfl (fun z => by cases z)) (k p l e s m args below meth c D ad ck H locs ls C P S A)
theorem r_aload_5 {q : MI} {pc : Nat} {st : List Value} {h h' : Wd} {r : Option Value} {a0 a1 a2 a3 a4 : Value} {t : List Value} {x : Nat} (hd : decode (mb q) pc = .ok (.aload 5, 2))  (k : WW q (pc + 2) (a0 :: a1 :: a2 :: a3 :: a4 :: .ref x :: t) (.ref x :: st) h r h') : WW q pc (a0 :: a1 :: a2 :: a3 :: a4 :: .ref x :: t) st h r h' := by
  intro p l e s m args below meth c D ad ck H locs ls C P S A
  exact lv_aload C.1 C.2.1 hd (A.mid (X := [a0, a1, a2, a3, a4]) rfl (fun z => by cases z)) (k p l e s m args below meth c D ad ck H locs ls C P S A)
theorem r_istore_5 {q : MI} {pc : Nat} {st : List Value} {h h' : Wd} {r : Option Value} {a0 a1 a2 a3 a4 : Value} {a : Value} {t : List Value} {x : Int32} (hd : decode (mb q) pc = .ok (.istore 5, 2)) (hc : a4.category = 1) (hn : 5 < mn q) (k : WW q (pc + 2) (a0 :: a1 :: a2 :: a3 :: a4 :: .int x :: t) st h r h') : WW q pc (a0 :: a1 :: a2 :: a3 :: a4 :: a :: t) (.int x :: st) h r h' := by
  intro p l e s m args below meth c D ad ck H locs ls C P S A
  exact lv_istore C.1 C.2.1 hd A hn rfl (fun ls' A' => k p l e s m args below meth c D ad ck H locs ls' C P S (Has.set1 (X := [a0, a1, a2, a3, a4]) (a := a) (v := .int x) (t := t) rfl (fun w hw => by cases hw; exact hc) A'))
theorem r_astore_5 {q : MI} {pc : Nat} {st : List Value} {h h' : Wd} {r : Option Value} {a0 a1 a2 a3 a4 : Value} {a : Value} {t : List Value} {x : Nat} (hd : decode (mb q) pc = .ok (.astore 5, 2)) (hc : a4.category = 1) (hn : 5 < mn q) (k : WW q (pc + 2) (a0 :: a1 :: a2 :: a3 :: a4 :: .ref x :: t) st h r h') : WW q pc (a0 :: a1 :: a2 :: a3 :: a4 :: a :: t) (.ref x :: st) h r h' := by
  intro p l e s m args below meth c D ad ck H locs ls C P S A
  exact lv_astore C.1 C.2.1 hd A hn rfl (fun ls' A' => k p l e s m args below meth c D ad ck H locs ls' C P S (Has.set1 (X := [a0, a1, a2, a3, a4]) (a := a) (v := .ref x) (t := t) rfl (fun w hw => by cases hw; exact hc) A'))
theorem r_lstore_5 {q : MI} {pc : Nat} {st : List Value} {h h' : Wd} {r : Option Value} {a0 a1 a2 a3 a4 : Value} {a b : Value} {t : List Value} {x : Int64} (hd : decode (mb q) pc = .ok (.lstore 5, 2)) (hc : a4.category = 1) (hn : 5 + 1 < mn q) (k : WW q (pc + 2) (a0 :: a1 :: a2 :: a3 :: a4 :: .long x :: .null :: t) st h r h') : WW q pc (a0 :: a1 :: a2 :: a3 :: a4 :: a :: b :: t) (.long x :: st) h r h' := by
  intro p l e s m args below meth c D ad ck H locs ls C P S A
  exact lv_lstore C.1 C.2.1 hd A hn rfl (fun ls' A' => k p l e s m args below meth c D ad ck H locs ls' C P S (Has.set2 (X := [a0, a1, a2, a3, a4]) (a := a) (b := b) (v := .long x) (t := t) rfl (fun w hw => by cases hw; exact hc) A'))
theorem r_iinc_5 {q : MI} {pc : Nat} {st : List Value} {h h' : Wd} {r : Option Value} {a0 a1 a2 a3 a4 : Value} {t : List Value} {x : Int32} {n : Int} (v : Int32) (hd : decode (mb q) pc = .ok (.iinc 5 n, 3)) (hv : Int32.ofInt n = v) (hc : a4.category = 1) (hn : 5 < mn q) (k : WW q (pc + 3) (a0 :: a1 :: a2 :: a3 :: a4 :: .int (x + v) :: t) st h r h') : WW q pc (a0 :: a1 :: a2 :: a3 :: a4 :: .int x :: t) st h r h' := by
  intro p l e s m args below meth c D ad ck H locs ls C P S A
  obtain ⟨kk, hkk2⟩ := asc_ix (X := [a0, a1, a2, a3, a4]) (t := t) (x := x) (ad := ad)
  exact lv_iinc (v := x + v) C.1 C.2.1 hd A hkk2 (by rw [hv]) hn rfl (fun ls' A' => k p l e s m args below meth c D ad ck H locs ls' C P S (Has.set1 (X := [a0, a1, a2, a3, a4]) (a := .int x) (v := .int (x + v)) (t := t) rfl (fun w hw => by cases hw; exact hc) A'))
theorem r_iload_6 {q : MI} {pc : Nat} {st : List Value} {h h' : Wd} {r : Option Value} {a0 a1 a2 a3 a4 a5 : Value} {t : List Value} {x : Int32} (hd : decode (mb q) pc = .ok (.iload 6, 2))  (k : WW q (pc + 2) (a0 :: a1 :: a2 :: a3 :: a4 :: a5 :: .int x :: t) (.int x :: st) h r h') : WW q pc (a0 :: a1 :: a2 :: a3 :: a4 :: a5 :: .int x :: t) st h r h' := by
  intro p l e s m args below meth c D ad ck H locs ls C P S A
  exact lv_iload C.1 C.2.1 hd (A.mid (X := [a0, a1, a2, a3, a4, a5]) rfl (fun z => by cases z)) (k p l e s m args below meth c D ad ck H locs ls C P S A)
theorem r_lload_6 {q : MI} {pc : Nat} {st : List Value} {h h' : Wd} {r : Option Value} {a0 a1 a2 a3 a4 a5 : Value} {t : List Value} {x : Int64} (hd : decode (mb q) pc = .ok (.lload 6, 2))  (k : WW q (pc + 2) (a0 :: a1 :: a2 :: a3 :: a4 :: a5 :: .long x :: t) (.long x :: st) h r h') : WW q pc (a0 :: a1 :: a2 :: a3 :: a4 :: a5 :: .long x :: t) st h r h' := by
  intro p l e s m args below meth c D ad ck H locs ls C P S A
  exact lv_lload C.1 C.2.1 hd (A.mid (X := [a0, a1, a2, a3, a4, a5]) rfl (fun z => by cases z)) (k p l e s m args below meth c D ad ck H locs ls C P S A)
theorem r_aload_6 {q : MI} {pc : Nat} {st : List Value} {h h' : Wd} {r : Option Value} {a0 a1 a2 a3 a4 a5 : Value} {t : List Value} {x : Nat} (hd : decode (mb q) pc = .ok (.aload 6, 2))  (k : WW q (pc + 2) (a0 :: a1 :: a2 :: a3 :: a4 :: a5 :: .ref x :: t) (.ref x :: st) h r h') : WW q pc (a0 :: a1 :: a2 :: a3 :: a4 :: a5 :: .ref x :: t) st h r h' := by
  intro p l e s m args below meth c D ad ck H locs ls C P S A
  exact lv_aload C.1 C.2.1 hd (A.mid (X := [a0, a1, a2, a3, a4, a5]) rfl (fun z => by cases z)) (k p l e s m args below meth c D ad ck H locs ls C P S A)
theorem r_istore_6 {q : MI} {pc : Nat} {st : List Value} {h h' : Wd} {r : Option Value} {a0 a1 a2 a3 a4 a5 : Value} {a : Value} {t : List Value} {x : Int32} (hd : decode (mb q) pc = .ok (.istore 6, 2)) (hc : a5.category = 1) (hn : 6 < mn q) (k : WW q (pc + 2) (a0 :: a1 :: a2 :: a3 :: a4 :: a5 :: .int x :: t) st h r h') : WW q pc (a0 :: a1 :: a2 :: a3 :: a4 :: a5 :: a :: t) (.int x :: st) h r h' := by
  intro p l e s m args below meth c D ad ck H locs ls C P S A
  exact lv_istore C.1 C.2.1 hd A hn rfl (fun ls' A' => k p l e s m args below meth c D ad ck H locs ls' C P S (Has.set1 (X := [a0, a1, a2, a3, a4, a5]) (a := a) (v := .int x) (t := t) rfl (fun w hw => by cases hw; exact hc) A'))
theorem r_astore_6 {q : MI} {pc : Nat} {st : List Value} {h h' : Wd} {r : Option Value} {a0 a1 a2 a3 a4 a5 : Value} {a : Value} {t : List Value} {x : Nat} (hd : decode (mb q) pc = .ok (.astore 6, 2)) (hc : a5.category = 1) (hn : 6 < mn q) (k : WW q (pc + 2) (a0 :: a1 :: a2 :: a3 :: a4 :: a5 :: .ref x :: t) st h r h') : WW q pc (a0 :: a1 :: a2 :: a3 :: a4 :: a5 :: a :: t) (.ref x :: st) h r h' := by
  intro p l e s m args below meth c D ad ck H locs ls C P S A
  exact lv_astore C.1 C.2.1 hd A hn rfl (fun ls' A' => k p l e s m args below meth c D ad ck H locs ls' C P S (Has.set1 (X := [a0, a1, a2, a3, a4, a5]) (a := a) (v := .ref x) (t := t) rfl (fun w hw => by cases hw; exact hc) A'))
theorem r_lstore_6 {q : MI} {pc : Nat} {st : List Value} {h h' : Wd} {r : Option Value} {a0 a1 a2 a3 a4 a5 : Value} {a b : Value} {t : List Value} {x : Int64} (hd : decode (mb q) pc = .ok (.lstore 6, 2)) (hc : a5.category = 1) (hn : 6 + 1 < mn q) (k : WW q (pc + 2) (a0 :: a1 :: a2 :: a3 :: a4 :: a5 :: .long x :: .null :: t) st h r h') : WW q pc (a0 :: a1 :: a2 :: a3 :: a4 :: a5 :: a :: b :: t) (.long x :: st) h r h' := by
  intro p l e s m args below meth c D ad ck H locs ls C P S A
  exact lv_lstore C.1 C.2.1 hd A hn rfl (fun ls' A' => k p l e s m args below meth c D ad ck H locs ls' C P S (Has.set2 (X := [a0, a1, a2, a3, a4, a5]) (a := a) (b := b) (v := .long x) (t := t) rfl (fun w hw => by cases hw; exact hc) A'))
theorem r_iinc_6 {q : MI} {pc : Nat} {st : List Value} {h h' : Wd} {r : Option Value} {a0 a1 a2 a3 a4 a5 : Value} {t : List Value} {x : Int32} {n : Int} (v : Int32) (hd : decode (mb q) pc = .ok (.iinc 6 n, 3)) (hv : Int32.ofInt n = v) (hc : a5.category = 1) (hn : 6 < mn q) (k : WW q (pc + 3) (a0 :: a1 :: a2 :: a3 :: a4 :: a5 :: .int (x + v) :: t) st h r h') : WW q pc (a0 :: a1 :: a2 :: a3 :: a4 :: a5 :: .int x :: t) st h r h' := by
  intro p l e s m args below meth c D ad ck H locs ls C P S A
  obtain ⟨kk, hkk2⟩ := asc_ix (X := [a0, a1, a2, a3, a4, a5]) (t := t) (x := x) (ad := ad)
  exact lv_iinc (v := x + v) C.1 C.2.1 hd A hkk2 (by rw [hv]) hn rfl (fun ls' A' => k p l e s m args below meth c D ad ck H locs ls' C P S (Has.set1 (X := [a0, a1, a2, a3, a4, a5]) (a := .int x) (v := .int (x + v)) (t := t) rfl (fun w hw => by cases hw; exact hc) A'))
theorem r_iload_7 {q : MI} {pc : Nat} {st : List Value} {h h' : Wd} {r : Option Value} {a0 a1 a2 a3 a4 a5 a6 : Value} {t : List Value} {x : Int32} (hd : decode (mb q) pc = .ok (.iload 7, 2))  (k : WW q (pc + 2) (a0 :: a1 :: a2 :: a3 :: a4 :: a5 :: a6 :: .int x :: t) (.int x :: st) h r h') : WW q pc (a0 :: a1 :: a2 :: a3 :: a4 :: a5 :: a6 :: .int x :: t) st h r h' := by
  intro p l e s m args below meth c D ad ck H locs ls C P S A
  exact lv_iload C.1 C.2.1 hd (A.mid (X := [a0, a1, a2, a3, a4, a5, a6]) rfl (fun z => by cases z)) (k p l e s m args below meth c D ad ck H locs ls C P S A)
theorem r_lload_7 {q : MI} {pc : Nat} {st : List Value} {h h' : Wd} {r : Option Value} {a0 a1 a2 a3 a4 a5 a6 : Value} {t : List Value} {x : Int64} (hd : decode (mb q) pc = .ok (.lload 7, 2))  (k : WW q (pc + 2) (a0 :: a1 :: a2 :: a3 :: a4 :: a5 :: a6 :: .long x :: t) (.long x :: st) h r h') : WW q pc (a0 :: a1 :: a2 :: a3 :: a4 :: a5 :: a6 :: .long x :: t) st h r h' := by
  intro p l e s m args below meth c D ad ck H locs ls C P S A
  exact lv_lload C.1 C.2.1 hd (A.mid (X := [a0, a1, a2, a3, a4, a5, a6]) rfl (fun z => by cases z)) (k p l e s m args below meth c D ad ck H locs ls C P S A)
theorem r_aload_7 {q : MI} {pc : Nat} {st : List Value} {h h' : Wd} {r : Option Value} {a0 a1 a2 a3 a4 a5 a6 : Value} {t : List Value} {x : Nat} (hd : decode (mb q) pc = .ok (.aload 7, 2))  (k : WW q (pc + 2) (a0 :: a1 :: a2 :: a3 :: a4 :: a5 :: a6 :: .ref x :: t) (.ref x :: st) h r h') : WW q pc (a0 :: a1 :: a2 :: a3 :: a4 :: a5 :: a6 :: .ref x :: t) st h r h' := by
  intro p l e s m args below meth c D ad ck H locs ls C P S A
  exact lv_aload C.1 C.2.1 hd (A.mid (X := [a0, a1, a2, a3, a4, a5, a6]) rfl (fun z => by cases z)) (k p l e s m args below meth c D ad ck H locs ls C P S A)
theorem r_istore_7 {q : MI} {pc : Nat} {st : List Value} {h h' : Wd} {r : Option Value} {a0 a1 a2 a3 a4 a5 a6 : Value} {a : Value} {t : List Value} {x : Int32} (hd : decode (mb q) pc = .ok (.istore 7, 2)) (hc : a6.category = 1) (hn : 7 < mn q) (k : WW q (pc + 2) (a0 :: a1 :: a2 :: a3 :: a4 :: a5 :: a6 :: .int x :: t) st h r h') : WW q pc (a0 :: a1 :: a2 :: a3 :: a4 :: a5 :: a6 :: a :: t) (.int x :: st) h r h' := by
  intro p l e s m args below meth c D ad ck H locs ls C P S A
  exact lv_istore C.1 C.2.1 hd A hn rfl (fun ls' A' => k p l e s m args below meth c D ad ck H locs ls' C P S (Has.set1 (X := [a0, a1, a2, a3, a4, a5, a6]) (a := a) (v := .int x) (t := t) rfl (fun w hw => by cases hw; exact hc) A'))
theorem r_astore_7 {q : MI} {pc : Nat} {st : List Value} {h h' : Wd} {r : Option Value} {a0 a1 a2 a3 a4 a5 a6 : Value} {a : Value} {t : List Value} {x : Nat} (hd : decode (mb q) pc = .ok (.astore 7, 2)) (hc : a6.category = 1) (hn : 7 < mn q) (k : WW q (pc + 2) (a0 :: a1 :: a2 :: a3 :: a4 :: a5 :: a6 :: .ref x :: t) st h r h') : WW q pc (a0 :: a1 :: a2 :: a3 :: a4 :: a5 :: a6 :: a :: t) (.ref x :: st) h r h' := by
  intro p l e s m args below meth c D ad ck H locs ls C P S A
  exact lv_astore C.1 C.2.1 hd A hn rfl (fun ls' A' => k p l e s m args below meth c D ad ck H locs ls' C P S (Has.set1 (X := [a0, a1, a2, a3, a4, a5, a6]) (a := a) (v := .ref x) (t := t) rfl (fun w hw => by cases hw; exact hc) A'))
theorem r_lstore_7 {q : MI} {pc : Nat} {st : List Value} {h h' : Wd} {r : Option Value} {a0 a1 a2 a3 a4 a5 a6 : Value} {a b : Value} {t : List Value} {x : Int64} (hd : decode (mb q) pc = .ok (.lstore 7, 2)) (hc : a6.category = 1) (hn : 7 + 1 < mn q) (k : WW q (pc + 2) (a0 :: a1 :: a2 :: a3 :: a4 :: a5 :: a6 :: .long x :: .null :: t) st h r h') : WW q pc (a0 :: a1 :: a2 :: a3 :: a4 :: a5 :: a6 :: a :: b :: t) (.long x :: st) h r h' := by
  intro p l e s m args below meth c D ad ck H locs ls C P S A
  exact lv_lstore C.1 C.2.1 hd A hn rfl (fun ls' A' => k p l e s m args below meth c D ad ck H locs ls' C P S (Has.set2 (X := [a0, a1, a2, a3, a4, a5, a6]) (a := a) (b := b) (v := .long x) (t := t) rfl (fun w hw => by cases hw; exact hc) A'))
theorem r_iinc_7 {q : MI} {pc : Nat} {st : List Value} {h h' : Wd} {r : Option Value} {a0 a1 a2 a3 a4 a5 a6 : Value} {t : List Value} {x : Int32} {n : Int} (v : Int32) (hd : decode (mb q) pc = .ok (.iinc 7 n, 3)) (hv : Int32.ofInt n = v) (hc : a6.category = 1) (hn : 7 < mn q) (k : WW q (pc + 3) (a0 :: a1 :: a2 :: a3 :: a4 :: a5 :: a6 :: .int (x + v) :: t) st h r h') : WW q pc (a0 :: a1 :: a2 :: a3 :: a4 :: a5 :: a6 :: .int x :: t) st h r h' := by
  intro p l e s m args below meth c D ad ck H locs ls C P S A
  obtain ⟨kk, hkk2⟩ := asc_ix (X := [a0, a1, a2, a3, a4, a5, a6]) (t := t) (x := x) (ad := ad)
  exact lv_iinc (v := x + v) C.1 C.2.1 hd A hkk2 (by rw [hv]) hn rfl (fun ls' A' => k p l e s m args below meth c D ad ck H locs ls' C P S (Has.set1 (X := [a0, a1, a2, a3, a4, a5, a6]) (a := .int x) (v := .int (x + v)) (t := t) rfl (fun w hw => by cases hw; exact hc) A'))
theorem r_iload_8 {q : MI} {pc : Nat} {st : List Value} {h h' : Wd} {r : Option Value} {a0 a1 a2 a3 a4 a5 a6 a7 : Value} {t : List Value} {x : Int32} (hd : decode (mb q) pc = .ok (.iload 8, 2))  (k : WW q (pc + 2) (a0 :: a1 :: a2 :: a3 :: a4 :: a5 :: a6 :: a7 :: .int x :: t) (.int x :: st) h r h') : WW q pc (a0 :: a1 :: a2 :: a3 :: a4 :: a5 :: a6 :: a7 :: .int x :: t) st h r h' := by
  intro p l e s m args below meth c D ad ck H locs ls C P S A
  exact lv_iload C.1 C.2.1 hd (A.mid (X := [a0, a1, a2, a3, a4, a5, a6, a7]) rfl (fun z => by cases z)) (k p l e s m args below meth c D ad ck H locs ls C P S A)
theorem r_lload_8 {q : MI} {pc : Nat} {st : List Value} {h h' : Wd} {r : Option Value} {a0 a1 a2 a3 a4 a5 a6 a7 : Value} {t : List Value} {x : Int64} (hd : decode (mb q) pc = .ok (.lload 8, 2))  (k : WW q (pc + 2) (a0 :: a1 :: a2 :: a3 :: a4 :: a5 :: a6 :: a7 :: .long x :: t) (.long x :: st) h r h') : WW q pc (a0 :: a1 :: a2 :: a3 :: a4 :: a5 :: a6 :: a7 :: .long x :: t) st h r h' := by
  intro p l e s m args below meth c D ad ck H locs ls C P S A
  exact lv_lload C.1 C.2.1 hd (A.mid (X := [a0, a1, a2, a3, a4, a5, a6, a7]) rfl (fun z => by cases z)) (k p l e s m args below meth c D ad ck H locs ls C P S A)
theorem r_aload_8 {q : MI} {pc : Nat} {st : List Value} {h h' : Wd} {r : Option Value} {a0 a1 a2 a3 a4 a5 a6 a7 : Value} {t : List Value} {x : Nat} (hd : decode (mb q) pc = .ok (.aload 8, 2))  (k : WW q (pc + 2) (a0 :: a1 :: a2 :: a3 :: a4 :: a5 :: a6 :: a7 :: .ref x :: t) (.ref x :: st) h r h') : WW q pc (a0 :: a1 :: a2 :: a3 :: a4 :: a5 :: a6 :: a7 :: .ref x :: t) st h r h' := by
  intro p l e s m args below meth c D ad ck H locs ls C P S A
  exact lv_aload C.1 C.2.1 hd (A.mid (X := [a0, a1, a2, a3, a4, a5, a6, a7]) rfl (fun z => by cases z)) (k p l e s m args below meth c D ad ck H locs ls C P S A)
theorem r_istore_8 {q : MI} {pc : Nat} {st : List Value} {h h' : Wd} {r : Option Value} {a0 a1 a2 a3 a4 a5 a6 a7 : Value} {a : Value} {t : List Value} {x : Int32} (hd : decode (mb q) pc = .ok (.istore 8, 2)) (hc : a7.category = 1) (hn : 8 < mn q) (k : WW q (pc + 2) (a0 :: a1 :: a2 :: a3 :: a4 :: a5 :: a6 :: a7 :: .int x :: t) st h r h') : WW q pc (a0 :: a1 :: a2 :: a3 :: a4 :: a5 :: a6 :: a7 :: a :: t) (.int x :: st) h r h' := by
  intro p l e s m args below meth c D ad ck H locs ls C P S A
  exact lv_istore C.1 C.2.1 hd A hn rfl (fun ls' A' => k p l e s m args below meth c D ad ck H locs ls' C P S (Has.set1 (X := [a0, a1, a2, a3, a4, a5, a6, a7]) (a := a) (v := .int x) (t := t) rfl (fun w hw => by cases hw; exact hc) A'))
theorem r_astore_8 {q : MI} {pc : Nat} {st : List Value} {h h' : Wd} {r : Option Value} {a0 a1 a2 a3 a4 a5 a6 a7 : Value} {a : Value} {t : List Value} {x : Nat} (hd : decode (mb q) pc = .ok (.astore 8, 2)) (hc : a7.category = 1) (hn : 8 < mn q) (k : WW q (pc + 2) (a0 :: a1 :: a2 :: a3 :: a4 :: a5 :: a6 :: a7 :: .ref x :: t) st h r h') : WW q pc (a0 :: a1 :: a2 :: a3 :: a4 :: a5 :: a6 :: a7 :: a :: t) (.ref x :: st) h r h' := by
  intro p l e s m args below meth c D ad ck H locs ls C P S A
  exact lv_astore C.1 C.2.1 hd A hn rfl (fun ls' A' => k p l e s m args below meth c D ad ck H locs ls' C P S (Has.set1 (X := [a0, a1, a2, a3, a4, a5, a6, a7]) (a := a) (v := .ref x) (t := t) rfl (fun w hw => by cases hw; exact hc) A'))
theorem r_lstore_8 {q : MI} {pc : Nat} {st : List Value} {h h' : Wd} {r : Option Value} {a0 a1 a2 a3 a4 a5 a6 a7 : Value} {a b : Value} {t : List Value} {x : Int64} (hd : decode (mb q) pc = .ok (.lstore 8, 2)) (hc : a7.category = 1) (hn : 8 + 1 < mn q) (k : WW q (pc + 2) (a0 :: a1 :: a2 :: a3 :: a4 :: a5 :: a6 :: a7 :: .long x :: .null :: t) st h r h') : WW q pc (a0 :: a1 :: a2 :: a3 :: a4 :: a5 :: a6 :: a7 :: a :: b :: t) (.long x :: st) h r h' := by
  intro p l e s m args below meth c D ad ck H locs ls C P S A
  exact lv_lstore C.1 C.2.1 hd A hn rfl (fun ls' A' => k p l e s m args below meth c D ad ck H locs ls' C P S (Has.set2 (X := [a0, a1, a2, a3, a4, a5, a6, a7]) (a := a) (b := b) (v := .long x) (t := t) rfl (fun w hw => by cases hw; exact hc) A'))
theorem r_iinc_8 {q : MI} {pc : Nat} {st : List Value} {h h' : Wd} {r : Option Value} {a0 a1 a2 a3 a4 a5 a6 a7 : Value} {t : List Value} {x : Int32} {n : Int} (v : Int32) (hd : decode (mb q) pc = .ok (.iinc 8 n, 3)) (hv : Int32.ofInt n = v) (hc : a7.category = 1) (hn : 8 < mn q) (k : WW q (pc + 3) (a0 :: a1 :: a2 :: a3 :: a4 :: a5 :: a6 :: a7 :: .int (x + v) :: t) st h r h') : WW q pc (a0 :: a1 :: a2 :: a3 :: a4 :: a5 :: a6 :: a7 :: .int x :: t) st h r h' := by
  intro p l e s m args below meth c D ad ck H locs ls C P S A
  obtain ⟨kk, hkk2⟩ := asc_ix (X := [a0, a1, a2, a3, a4, a5, a6, a7]) (t := t) (x := x) (ad := ad)
  exact lv_iinc (v := x + v) C.1 C.2.1 hd A hkk2 (by rw [hv]) hn rfl (fun ls' A' => k p l e s m args below meth c D ad ck H locs ls' C P S (Has.set1 (X := [a0, a1, a2, a3, a4, a5, a6, a7]) (a := .int x) (v := .int (x + v)) (t := t) rfl (fun w hw => by cases hw; exact hc) A'))
theorem r_iload_9 {q : MI} {pc : Nat} {st : List Value} {h h' : Wd} {r : Option Value} {a0 a1 a2 a3 a4 a5 a6 a7 a8 : Value} {t : List Value} {x : Int32} (hd : decode (mb q) pc = .ok (.iload 9, 2))  (k : WW q (pc + 2) (a0 :: a1 :: a2 :: a3 :: a4 :: a5 :: a6 :: a7 :: a8 :: .int x :: t) (.int x :: st) h r h') : WW q pc (a0 :: a1 :: a2 :: a3 :: a4 :: a5 :: a6 :: a7 :: a8 :: .int x :: t) st h r h' := by
  intro p l e s m args below meth c D ad ck H locs ls C P S A
  exact lv_iload C.1 C.2.1 hd (A.mid (X := [a0, a1, a2, a3, a4, a5, a6, a7, a8]) rfl (fun z => by cases z)) (k p l e s m args below meth c D ad ck H locs ls C P S A)
theorem r_lload_9 {q : MI} {pc : Nat} {st : List Value} {h h' : Wd} {r : Option Value} {a0 a1 a2 a3 a4 a5 a6 a7 a8 : Value} {t : List Value} {x : Int64} (hd : decode (mb q) pc = .ok (.lload 9, 2))  (k : WW q (pc + 2) (a0 :: a1 :: a2 :: a3 :: a4 :: a5 :: a6 :: a7 :: a8 :: .long x :: t) (.long x :: st) h r h') : WW q pc (a0 :: a1 :: a2 :: a3 :: a4 :: a5 :: a6 :: a7 :: a8 :: .long x :: t) st h r h' := by
  intro p l e s m args below meth c D ad ck H locs ls C P S A
  exact lv_lload C.1 C.2.1 hd (A.mid (X := [a0, a1, a2, a3, a4, a5, a6, a7, a8]) rfl (fun z => by cases z)) (k p l e s m args below meth c D ad ck H locs ls C P S A)
theorem r_aload_9 {q : MI} {pc : Nat} {st : List Value} {h h' : Wd} {r : Option Value} {a0 a1 a2 a3 a4 a5 a6 a7 a8 : Value} {t : List Value} {x : Nat} (hd : decode (mb q) pc = .ok (.aload 9, 2))  (k : WW q (pc + 2) (a0 :: a1 :: a2 :: a3 :: a4 :: a5 :: a6 :: a7 :: a8 :: .ref x :: t) (.ref x :: st) h r h') : WW q pc (a0 :: a1 :: a2 :: a3 :: a4 :: a5 :: a6 :: a7 :: a8 :: .ref x :: t) st h r h' := by
  intro p l e s m args below meth c D ad ck H locs ls C P S A
  exact lv_aload C.1 C.2.1 hd (A.mid (X := [a0, a1, a2, a3, a4, a5, a6, a7, a8]) rfl (fun z => by cases z)) (k p l e s m args below meth c D ad ck H locs ls C P S A)
theorem r_istore_9 {q : MI} {pc : Nat} {st : List Value} {h h' : Wd} {r : Option Value} {a0 a1 a2 a3 a4 a5 a6 a7 a8 : Value} {a : Value} {t : List Value} {x : Int32} (hd : decode (mb q) pc = .ok (.istore 9, 2)) (hc : a8.category = 1) (hn : 9 < mn q) (k : WW q (pc + 2) (a0 :: a1 :: a2 :: a3 :: a4 :: a5 :: a6 :: a7 :: a8 :: .int x :: t) st h r h') : WW q pc (a0 :: a1 :: a2 :: a3 :: a4 :: a5 :: a6 :: a7 :: a8 :: a :: t) (.int x :: st) h r h' := by
  intro p l e s m args below meth c D ad ck H locs ls C P S A
  exact lv_istore C.1 C.2.1 hd A hn rfl (fun ls' A' => k p l e s m args below meth c D ad ck H locs ls' C P S (Has.set1 (X := [a0, a1, a2, a3, a4, a5, a6, a7, a8]) (a := a) (v := .int x) (t := t) rfl (fun w hw => by cases hw; exact hc) A'))
theorem r_astore_9 {q : MI} {pc : Nat} {st : List Value} {h h' : Wd} {r : Option Value} {a0 a1 a2 a3 a4 a5 a6 a7 a8 : Value} {a : Value} {t : List Value} {x : Nat} (hd : decode (mb q) pc = .ok (.astore 9, 2)) (hc : a8.category = 1) (hn : 9 < mn q) (k : WW q (pc + 2) (a0 :: a1 :: a2 :: a3 :: a4 :: a5 :: a6 :: a7 :: a8 :: .ref x :: t) st h r h') : WW q pc (a0 :: a1 :: a2 :: a3 :: a4 :: a5 :: a6 :: a7 :: a8 :: a :: t) (.ref x :: st) h r h' := by
  intro p l e s m args below meth c D ad ck H locs ls C P S A
  exact lv_astore C.1 C.2.1 hd A hn rfl (fun ls' A' => k p l e s m args below meth c D ad ck H locs ls' C P S (Has.set1 (X := [a0, a1, a2, a3, a4, a5, a6, a7, a8]) (a := a) (v := .ref x) (t := t) rfl (fun w hw => by cases hw; exact hc) A'))
theorem r_lstore_9 {q : MI} {pc : Nat} {st : List Value} {h h' : Wd} {r : Option Value} {a0 a1 a2 a3 a4 a5 a6 a7 a8 : Value} {a b : Value} {t : List Value} {x : Int64} (hd : decode (mb q) pc = .ok (.lstore 9, 2)) (hc : a8.category = 1) (hn : 9 + 1 < mn q) (k : WW q (pc + 2) (a0 :: a1 :: a2 :: a3 :: a4 :: a5 :: a6 :: a7 :: a8 :: .long x :: .null :: t) st h r h') : WW q pc (a0 :: a1 :: a2 :: a3 :: a4 :: a5 :: a6 :: a7 :: a8 :: a :: b :: t) (.long x :: st) h r h' := by
  intro p l e s m args below meth c D ad ck H locs ls C P S A
  exact lv_lstore C.1 C.2.1 hd A hn rfl (fun ls' A' => k p l e s m args below meth c D ad ck H locs ls' C P S (Has.set2 (X := [a0, a1, a2, a3, a4, a5, a6, a7, a8]) (a := a) (b := b) (v := .long x) (t := t) rfl (fun w hw => by cases hw; exact hc) A'))
theorem r_iinc_9 {q : MI} {pc : Nat} {st : List Value} {h h' : Wd} {r : Option Value} {a0 a1 a2 a3 a4 a5 a6 a7 a8 : Value} {t : List Value} {x : Int32} {n : Int} (v : Int32) (hd : decode (mb q) pc = .ok (.iinc 9 n, 3)) (hv : Int32.ofInt n = v) (hc : a8.category = 1) (hn : 9 < mn q) (k : WW q (pc + 3) (a0 :: a1 :: a2 :: a3 :: a4 :: a5 :: a6 :: a7 :: a8 :: .int (x + v) :: t) st h r h') : WW q pc (a0 :: a1 :: a2 :: a3 :: a4 :: a5 :: a6 :: a7 :: a8 :: .int x :: t) st h r h' := by
  intro p l e s m args below meth c D ad ck H locs ls C P S A
  obtain ⟨kk, hkk2⟩ := asc_ix (X := [a0, a1, a2, a3, a4, a5, a6, a7, a8]) (t := t) (x := x) (ad := ad)
  exact lv_iinc (v := x + v) C.1 C.2.1 hd A hkk2 (by rw [hv]) hn rfl (fun ls' A' => k p l e s m args below meth c D ad ck H locs ls' C P S (Has.set1 (X := [a0, a1, a2, a3, a4, a5, a6, a7, a8]) (a := .int x) (v := .int (x + v)) (t := t) rfl (fun w hw => by cases hw; exact hc) A'))
theorem r_iload_10 {q : MI} {pc : Nat} {st : List Value} {h h' : Wd} {r : Option Value} {a0 a1 a2 a3 a4 a5 a6 a7 a8 a9 : Value} {t : List Value} {x : Int32} (hd : decode (mb q) pc = .ok (.iload 10, 2))  (k : WW q (pc + 2) (a0 :: a1 :: a2 :: a3 :: a4 :: a5 :: a6 :: a7 :: a8 :: a9 :: .int x :: t) (.int x :: st) h r h') : WW q pc (a0 :: a1 :: a2 :: a3 :: a4 :: a5 :: a6 :: a7 :: a8 :: a9 :: .int x :: t) st h r h' := by
  intro p l e s m args below meth c D ad ck H locs ls C P S A
  exact lv_iload C.1 C.2.1 hd (A.mid (X := [a0, a1, a2, a3, a4, a5, a6, a7, a8, a9]) rfl (fun z => by cases z)) (k p l e s m args below meth c D ad ck H locs ls C P S A)
theorem r_lload_10 {q : MI} {pc : Nat} {st : List Value} {h h' : Wd} {r : Option Value} {a0 a1 a2 a3 a4 a5 a6 a7 a8 a9 : Value} {t : List Value} {x : Int64} (hd : decode (mb q) pc = .ok (.lload 10, 2))  (k : WW q (pc + 2) (a0 :: a1 :: a2 :: a3 :: a4 :: a5 :: a6 :: a7 :: a8 :: a9 :: .long x :: t) (.long x :: st) h r h') : WW q pc (a0 :: a1 :: a2 :: a3 :: a4 :: a5 :: a6 :: a7 :: a8 :: a9 :: .long x :: t) st h r h' := by
  intro p l e s m args below meth c D ad ck H locs ls C P S A
  exact lv_lload C.1 C.2.1 hd (A.mid (X := [a0, a1, a2, a3, a4, a5, a6, a7, a8, a9]) rfl (fun z => by cases z)) (k p l e s m args below meth c D ad ck H locs ls C P S A)
theorem r_aload_10 {q : MI} {pc : Nat} {st : List Value} {h h' : Wd} {r : Option Value} {a0 a1 a2 a3 a4 a5 a6 a7 a8 a9 : Value} {t : List Value} {x : Nat} (hd : decode (mb q) pc = .ok (.aload 10, 2))  (k : WW q (pc + 2) (a0 :: a1 :: a2 :: a3 :: a4 :: a5 :: a6 :: a7 :: a8 :: a9 :: .ref x :: t) (.ref x :: st) h r h') : WW q pc (a0 :: a1 :: a2 :: a3 :: a4 :: a5 :: a6 :: a7 :: a8 :: a9 :: .ref x :: t) st h r h' := by
  intro p l e s m args below meth c D ad ck H locs ls C P S A
  exact lv_aload C.1 C.2.1 hd (A.mid (X := [a0, a1, a2, a3, a4, a5, a6, a7, a8, a9]) rfl (fun z => by cases z)) (k p l e s m args below meth c D ad ck H locs ls C P S A)
theorem r_istore_10 {q : MI} {pc : Nat} {st : List Value} {h h' : Wd} {r : Option Value} {a0 a1 a2 a3 a4 a5 a6 a7 a8 a9 : Value} {a : Value} {t : List Value} {x : Int32} (hd : decode (mb q) pc = .ok (.istore 10, 2)) (hc : a9.category = 1) (hn : 10 < mn q) (k : WW q (pc + 2) (a0 :: a1 :: a2 :: a3 :: a4 :: a5 :: a6 :: a7 :: a8 :: a9 :: .int x :: t) st h r h') : WW q pc (a0 :: a1 :: a2 :: a3 :: a4 :: a5 :: a6 :: a7 :: a8 :: a9 :: a :: t) (.int x :: st) h r h' := by
  intro p l e s m args below meth c D ad ck H locs ls C P S A
  exact lv_istore C.1 C.2.1 hd A hn rfl (fun ls' A' => k p l e s m args below meth c D ad ck H locs ls' C P S (Has.set1 (X := [a0, a1, a2, a3, a4, a5, a6, a7, a8, a9]) (a := a) (v := .int x) (t := t) rfl (fun w hw => by cases hw; exact hc) A'))
theorem r_astore_10 {q : MI} {pc : Nat} {st : List Value} {h h' : Wd} {r : Option Value} {a0 a1 a2 a3 a4 a5 a6 a7 a8 a9 : Value} {a : Value} {t : List Value} {x : Nat} (hd : decode (mb q) pc = .ok (.astore 10, 2)) (hc : a9.category = 1) (hn : 10 < mn q) (k : WW q (pc + 2) (a0 :: a1 :: a2 :: a3 :: a4 :: a5 :: a6 :: a7 :: a8 :: a9 :: .ref x :: t) st h r h') : WW q pc (a0 :: a1 :: a2 :: a3 :: a4 :: a5 :: a6 :: a7 :: a8 :: a9 :: a :: t) (.ref x :: st) h r h' := by
  intro p l e s m args below meth c D ad ck H locs ls C P S A
  exact lv_astore C.1 C.2.1 hd A hn rfl (fun ls' A' => k p l e s m args below meth c D ad ck H locs ls' C P S (Has.set1 (X := [a0, a1, a2, a3, a4, a5, a6, a7, a8, a9]) (a := a) (v := .ref x) (t := t) rfl (fun w hw => by cases hw; exact hc) A'))
theorem r_lstore_10 {q : MI} {pc : Nat} {st : List Value} {h h' : Wd} {r : Option Value} {a0 a1 a2 a3 a4 a5 a6 a7 a8 a9 : Value} {a b : Value} {t : List Value} {x : Int64} (hd : decode (mb q) pc = .ok (.lstore 10, 2)) (hc : a9.category = 1) (hn : 10 + 1 < mn q) (k : WW q (pc + 2) (a0 :: a1 :: a2 :: a3 :: a4 :: a5 :: a6 :: a7 :: a8 :: a9 :: .long x :: .null :: t) st h r h') : WW q pc (a0 :: a1 :: a2 :: a3 :: a4 :: a5 :: a6 :: a7 :: a8 :: a9 :: a :: b :: t) (.long x :: st) h r h' := by
  intro p l e s m args below meth c D ad ck H locs ls C P S A
  exact lv_lstore C.1 C.2.1 hd A hn rfl (fun ls' A' => k p l e s m args below meth c D ad ck H locs ls' C P S (Has.set2 (X := [a0, a1, a2, a3, a4, a5, a6, a7, a8, a9]) (a := a) (b := b) (v := .long x) (t := t) rfl (fun w hw => by cases hw; exact hc) A'))
theorem r_iinc_10 {q : MI} {pc : Nat} {st : List Value} {h h' : Wd} {r : Option Value} {a0 a1 a2 a3 a4 a5 a6 a7 a8 a9 : Value} {t : List Value} {x : Int32} {n : Int} (v : Int32) (hd : decode (mb q) pc = .ok (.iinc 10 n, 3)) (hv : Int32.ofInt n = v) (hc : a9.category = 1) (hn : 10 < mn q) (k : WW q (pc + 3) (a0 :: a1 :: a2 :: a3 :: a4 :: a5 :: a6 :: a7 :: a8 :: a9 :: .int (x + v) :: t) st h r h') : WW q pc (a0 :: a1 :: a2 :: a3 :: a4 :: a5 :: a6 :: a7 :: a8 :: a9 :: .int x :: t) st h r h' := by
  intro p l e s m args below meth c D ad ck H locs ls C P S A
  obtain ⟨kk, hkk2⟩ := asc_ix (X := [a0, a1, a2, a3, a4, a5, a6, a7, a8, a9]) (t := t) (x := x) (ad := ad)
  exact lv_iinc (v := x + v) C.1 C.2.1 hd A hkk2 (by rw [hv]) hn rfl (fun ls' A' => k p l e s m args below meth c D ad ck H locs ls' C P S (Has.set1 (X := [a0, a1, a2, a3, a4, a5, a6, a7, a8, a9]) (a := .int x) (v := .int (x + v)) (t := t) rfl (fun w hw => by cases hw; exact hc) A'))
theorem r_iload_11 {q : MI} {pc : Nat} {st : List Value} {h h' : Wd} {r : Option Value} {a0 a1 a2 a3 a4 a5 a6 a7 a8 a9 a10 : Value} {t : List Value} {x : Int32} (hd : decode (mb q) pc = .ok (.iload 11, 2))  (k : WW q (pc + 2) (a0 :: a1 :: a2 :: a3 :: a4 :: a5 :: a6 :: a7 :: a8 :: a9 :: a10 :: .int x :: t) (.int x :: st) h r h') : WW q pc (a0 :: a1 :: a2 :: a3 :: a4 :: a5 :: a6 :: a7 :: a8 :: a9 :: a10 :: .int x :: t) st h r h' := by
  intro p l e s m args below meth c D ad ck H locs ls C P S A
  exact lv_iload C.1 C.2.1 hd (A.mid (X := [a0, a1, a2, a3, a4, a5, a6, a7, a8, a9, a10]) rfl (fun z => by cases z)) (k p l e s m args below meth c D ad ck H locs ls C P S A)
theorem r_lload_11 {q : MI} {pc : Nat} {st : List Value} {h h' : Wd} {r : Option Value} {a0 a1 a2 a3 a4 a5 a6 a7 a8 a9 a10 : Value} {t : List Value} {x : Int64} (hd : decode (mb q) pc = .ok (.lload 11, 2))  (k : WW q (pc + 2) (a0 :: a1 :: a2 :: a3 :: a4 :: a5 :: a6 :: a7 :: a8 :: a9 :: a10 :: .long x :: t) (.long x :: st) h r h') : WW q pc (a0 :: a1 :: a2 :: a3 :: a4 :: a5 :: a6 :: a7 :: a8 :: a9 :: a10 :: .long x :: t) st h r h' := by
  intro p l e s m args below meth c D ad ck H locs ls C P S A
  exact lv_lload C.1 C.2.1 hd (A.mid (X := [a0, a1, a2, a3, a4, a5, a6, a7, a8, a9, a10]) rfl (fun z => by cases z)) (k p l e s m args below meth c D ad ck H locs ls C P S A)
theorem r_aload_11 {q : MI} {pc : Nat} {st : List Value} {h h' : Wd} {r : Option Value} {a0 a1 a2 a3 a4 a5 a6 a7 a8 a9 a10 : Value} {t : List Value} {x : Nat} (hd : decode (mb q) pc = .ok (.aload 11, 2))  (k : WW q (pc + 2) (a0 :: a1 :: a2 :: a3 :: a4 :: a5 :: a6 :: a7 :: a8 :: a9 :: a10 :: .ref x :: t) (.ref x :: st) h r h') : WW q pc (a0 :: a1 :: a2 :: a3 :: a4 :: a5 :: a6 :: a7 :: a8 :: a9 :: a10 :: .ref x :: t) st h r h' := by
  intro p l e s m args below meth c D ad ck H locs ls C P S A
  exact lv_aload C.1 C.2.1 hd (A.mid (X := [a0, a1, a2, a3, a4, a5, a6, a7, a8, a9, a10]) rfl (fun z => by cases z)) (k p l e s m args below meth c D ad ck H locs ls C P S A)
theorem r_istore_11 {q : MI} {pc : Nat} {st : List Value} {h h' : Wd} {r : Option Value} {a0 a1 a2 a3 a4 a5 a6 a7 a8 a9 a10 : Value} {a : Value} {t : List Value} {x : Int32} (hd : decode (mb q) pc = .ok (.istore 11, 2)) (hc : a10.category = 1) (hn : 11 < mn q) (k : WW q (pc + 2) (a0 :: a1 :: a2 :: a3 :: a4 :: a5 :: a6 :: a7 :: a8 :: a9 :: a10 :: .int x :: t) st h r h') : WW q pc (a0 :: a1 :: a2 :: a3 :: a4 :: a5 :: a6 :: a7 :: a8 :: a9 :: a10 :: a :: t) (.int x :: st) h r h' := by
  intro p l e s m args below meth c D ad ck H locs ls C P S A
  exact lv_istore C.1 C.2.1 hd A hn rfl (fun ls' A' => k p l e s m args below meth c D ad ck H locs ls' C P S (Has.set1 (X := [a0, a1, a2, a3, a4, a5, a6, a7, a8, a9, a10]) (a := a) (v := .int x) (t := t) rfl (fun w hw => by cases hw; exact hc) A'))
theorem r_astore_11 {q : MI} {pc : Nat} {st : List Value} {h h' : Wd} {r : Option Value} {a0 a1 a2 a3 a4 a5 a6 a7 a8 a9 a10 : Value} {a : Value} {t : List Value} {x : Nat} (hd : decode (mb q) pc = .ok (.astore 11, 2)) (hc : a10.category = 1) (hn : 11 < mn q) (k : WW q (pc + 2) (a0 :: a1 :: a2 :: a3 :: a4 :: a5 :: a6 :: a7 :: a8 :: a9 :: a10 :: .ref x :: t) st h r h') : WW q pc (a0 :: a1 :: a2 :: a3 :: a4 :: a5 :: a6 :: a7 :: a8 :: a9 :: a10 :: a :: t) (.ref x :: st) h r h' := by
  intro p l e s m args below meth c D ad ck H locs ls C P S A
  exact lv_astore C.1 C.2.1 hd A hn rfl (fun ls' A' => k p l e s m args below meth c D ad ck H locs ls' C P S (Has.set1 (X := [a0, a1, a2, a3, a4, a5, a6, a7, a8, a9, a10]) (a := a) (v := .ref x) (t := t) rfl (fun w hw => by cases hw; exact hc) A'))
theorem r_lstore_11 {q : MI} {pc : Nat} {st : List Value} {h h' : Wd} {r : Option Value} {a0 a1 a2 a3 a4 a5 a6 a7 a8 a9 a10 : Value} {a b : Value} {t : List Value} {x : Int64} (hd : decode (mb q) pc = .ok (.lstore 11, 2)) (hc : a10.category = 1) (hn : 11 + 1 < mn q) (k : WW q (pc + 2) (a0 :: a1 :: a2 :: a3 :: a4 :: a5 :: a6 :: a7 :: a8 :: a9 :: a10 :: .long x :: .null :: t) st h r h') : WW q pc (a0 :: a1 :: a2 :: a3 :: a4 :: a5 :: a6 :: a7 :: a8 :: a9 :: a10 :: a :: b :: t) (.long x :: st) h r h' := by
  intro p l e s m args below meth c D ad ck H locs ls C P S A
  exact lv_lstore C.1 C.2.1 hd A hn rfl (fun ls' A' => k p l e s m args below meth c D ad ck H locs ls' C P S (Has.set2 (X := [a0, a1, a2, a3, a4, a5, a6, a7, a8, a9, a10]) (a := a) (b := b) (v := .long x) (t := t) rfl (fun w hw => by cases hw; exact hc) A'))
theorem r_iinc_11 {q : MI} {pc : Nat} {st : List Value} {h h' : Wd} {r : Option Value} {a0 a1 a2 a3 a4 a5 a6 a7 a8 a9 a10 : Value} {t : List Value} {x : Int32} {n : Int} (v : Int32) (hd : decode (mb q) pc = .ok (.iinc 11 n, 3)) (hv : Int32.ofInt n = v) (hc : a10.category = 1) (hn : 11 < mn q) (k : WW q (pc + 3) (a0 :: a1 :: a2 :: a3 :: a4 :: a5 :: a6 :: a7 :: a8 :: a9 :: a10 :: .int (x + v) :: t) st h r h') : WW q pc (a0 :: a1 :: a2 :: a3 :: a4 :: a5 :: a6 :: a7 :: a8 :: a9 :: a10 :: .int x :: t) st h r h' := by
  intro p l e s m args below meth c D ad ck H locs ls C P S A
  obtain ⟨kk, hkk2⟩ := asc_ix (X := [a0, a1, a2, a3, a4, a5, a6, a7, a8, a9, a10]) (t := t) (x := x) (ad := ad)
  exact lv_iinc (v := x + v) C.1 C.2.1 hd A hkk2 (by rw [hv]) hn rfl (fun ls' A' => k p l e s m args below meth c D ad ck H locs ls' C P S (Has.set1 (X := [a0, a1, a2, a3, a4, a5, a6, a7, a8, a9, a10]) (a := .int x) (v := .int (x + v)) (t := t) rfl (fun w hw => by cases hw; exact hc) A'))
theorem r_iload_12 {q : MI} {pc : Nat} {st : List Value} {h h' : Wd} {r : Option Value} {a0 a1 a2 a3 a4 a5 a6 a7 a8 a9 a10 a11 : Value} {t : List Value} {x : Int32} (hd : decode (mb q) pc = .ok (.iload 12, 2))  (k : WW q (pc + 2) (a0 :: a1 :: a2 :: a3 :: a4 :: a5 :: a6 :: a7 :: a8 :: a9 :: a10 :: a11 :: .int x :: t) (.int x :: st) h r h') : WW q pc (a0 :: a1 :: a2 :: a3 :: a4 :: a5 :: a6 :: a7 :: a8 :: a9 :: a10 :: a11 :: .int x :: t) st h r h' := by
  intro p l e s m args below meth c D ad ck H locs ls C P S A
  exact lv_iload C.1 C.2.1 hd (A.mid (X := [a0, a1, a2, a3, a4, a5, a6, a7, a8, a9, a10, a11]) rfl (fun z => by cases z)) (k p l e s m args below meth c D ad ck H locs ls C P S A)
theorem r_lload_12 {q : MI} {pc : Nat} {st : List Value} {h h' : Wd} {r : Option Value} {a0 a1 a2 a3 a4 a5 a6 a7 a8 a9 a10 a11 : Value} {t : List Value} {x : Int64} (hd : decode (mb q) pc = .ok (.lload 12, 2))  (k : WW q (pc + 2) (a0 :: a1 :: a2 :: a3 :: a4 :: a5 :: a6 :: a7 :: a8 :: a9 :: a10 :: a11 :: .long x :: t) (.long x :: st) h r h') : WW q pc (a0 :: a1 :: a2 :: a3 :: a4 :: a5 :: a6 :: a7 :: a8 :: a9 :: a10 :: a11 :: .long x :: t) st h r h' := by
  intro p l e s m args below meth c D ad ck H locs ls C P S A
  exact lv_lload C.1 C.2.1 hd (A.mid (X := [a0, a1, a2, a3, a4, a5, a6, a7, a8, a9, a10, a11]) rfl (fun z => by cases z)) (k p l e s m args below meth c D ad ck H locs ls C P S A)
theorem r_aload_12 {q : MI} {pc : Nat} {st : List Value} {h h' : Wd} {r : Option Value} {a0 a1 a2 a3 a4 a5 a6 a7 a8 a9 a10 a11 : Value} {t : List Value} {x : Nat} (hd : decode (mb q) pc = .ok (.aload 12, 2))  (k : WW q (pc + 2) (a0 :: a1 :: a2 :: a3 :: a4 :: a5 :: a6 :: a7 :: a8 :: a9 :: a10 :: a11 :: .ref x :: t) (.ref x :: st) h r h') : WW q pc (a0 :: a1 :: a2 :: a3 :: a4 :: a5 :: a6 :: a7 :: a8 :: a9 :: a10 :: a11 :: .ref x :: t) st h r h' := by
  intro p l e s m args below meth c D ad ck H locs ls C P S A
  exact lv_aload C.1 C.2.1 hd (A.mid (X := [a0, a1, a2, a3, a4, a5, a6, a7, a8, a9, a10, a11]) rfl (fun z => by cases z)) (k p l e s m args below meth c D ad ck H locs ls C P S A)
theorem r_istore_12 {q : MI} {pc : Nat} {st : List Value} {h h' : Wd} {r : Option Value} {a0 a1 a2 a3 a4 a5 a6 a7 a8 a9 a10 a11 : Value} {a : Value} {t : List Value} {x : Int32} (hd : decode (mb q) pc = .ok (.istore 12, 2)) (hc : a11.category = 1) (hn : 12 < mn q) (k : WW q (pc + 2) (a0 :: a1 :: a2 :: a3 :: a4 :: a5 :: a6 :: a7 :: a8 :: a9 :: a10 :: a11 :: .int x :: t) st h r h') : WW q pc (a0 :: a1 :: a2 :: a3 :: a4 :: a5 :: a6 :: a7 :: a8 :: a9 :: a10 :: a11 :: a :: t) (.int x :: st) h r h' := by
  intro p l e s m args below meth c D ad ck H locs ls C P S A
  exact lv_istore C.1 C.2.1 hd A hn rfl (fun ls' A' => k p l e s m args below meth c D ad ck H locs ls' C P S (Has.set1 (X := [a0, a1, a2, a3, a4, a5, a6, a7, a8, a9, a10, a11]) (a := a) (v := .int x) (t := t) rfl (fun w hw => by cases hw; exact hc) A'))
theorem r_astore_12 {q : MI} {pc : Nat} {st : List Value} {h h' : Wd} {r : Option Value} {a0 a1 a2 a3 a4 a5 a6 a7 a8 a9 a10 a11 : Value} {a : Value} {t : List Value} {x : Nat} (hd : decode (mb q) pc = .ok (.astore 12, 2)) (hc : a11.category = 1) (hn : 12 < mn q) (k : WW q (pc + 2) (a0 :: a1 :: a2 :: a3 :: a4 :: a5 :: a6 :: a7 :: a8 :: a9 :: a10 :: a11 :: .ref x :: t) st h r h') : WW q pc (a0 :: a1 :: a2 :: a3 :: a4 :: a5 :: a6 :: a7 :: a8 :: a9 :: a10 :: a11 :: a :: t) (.ref x :: st) h r h' := by
  intro p l e s m args below meth c D ad ck H locs ls C P S A
  exact lv_astore C.1 C.2.1 hd A hn rfl (fun ls' A' => k p l e s m args below meth c D ad ck H locs ls' C P S (Has.set1 (X := [a0, a1, a2, a3, a4, a5, a6, a7, a8, a9, a10, a11]) (a := a) (v := .ref x) (t := t) rfl (fun w hw => by cases hw; exact hc) A'))
theorem r_lstore_12 {q : MI} {pc : Nat} {st : List Value} {h h' : Wd} {r : Option Value} {a0 a1 a2 a3 a4 a5 a6 a7 a8 a9 a10 a11 : Value} {a b : Value} {t : List Value} {x : Int64} (hd : decode (mb q) pc = .ok (.lstore 12, 2)) (hc : a11.category = 1) (hn : 12 + 1 < mn q) (k : WW q (pc + 2) (a0 :: a1 :: a2 :: a3 :: a4 :: a5 :: a6 :: a7 :: a8 :: a9 :: a10 :: a11 :: .long x :: .null :: t) st h r h') : WW q pc (a0 :: a1 :: a2 :: a3 :: a4 :: a5 :: a6 :: a7 :: a8 :: a9 :: a10 :: a11 :: a :: b :: t) (.long x :: st) h r h' := by
  intro p l e s m args below meth c D ad ck H locs ls C P S A
  exact lv_lstore C.1 C.2.1 hd A hn rfl (fun ls' A' => k p l e s m args below meth c D ad ck H locs ls' C P S (Has.set2 (X := [a0, a1, a2, a3, a4, a5, a6, a7, a8, a9, a10, a11]) (a := a) (b := b) (v := .long x) (t := t) rfl (fun w hw => by cases hw; exact hc) A'))
theorem r_iinc_12 {q : MI} {pc : Nat} {st : List Value} {h h' : Wd} {r : Option Value} {a0 a1 a2 a3 a4 a5 a6 a7 a8 a9 a10 a11 : Value} {t : List Value} {x : Int32} {n : Int} (v : Int32) (hd : decode (mb q) pc = .ok (.iinc 12 n, 3)) (hv : Int32.ofInt n = v) (hc : a11.category = 1) (hn : 12 < mn q) (k : WW q (pc + 3) (a0 :: a1 :: a2 :: a3 :: a4 :: a5 :: a6 :: a7 :: a8 :: a9 :: a10 :: a11 :: .int (x + v) :: t) st h r h') : WW q pc (a0 :: a1 :: a2 :: a3 :: a4 :: a5 :: a6 :: a7 :: a8 :: a9 :: a10 :: a11 :: .int x :: t) st h r h' := by
  intro p l e s m args below meth c D ad ck H locs ls C P S A
  obtain ⟨kk, hkk2⟩ := asc_ix (X := [a0, a1, a2, a3, a4, a5, a6, a7, a8, a9, a10, a11]) (t := t) (x := x) (ad := ad)
  exact lv_iinc (v := x + v) C.1 C.2.1 hd A hkk2 (by rw [hv]) hn rfl (fun ls' A' => k p l e s m args below meth c D ad ck H locs ls' C P S (Has.set1 (X := [a0, a1, a2, a3, a4, a5, a6, a7, a8, a9, a10, a11]) (a := .int x) (v := .int (x + v)) (t := t) rfl (fun w hw => by cases hw; exact hc) A'))
theorem r_iload_13 {q : MI} {pc : Nat} {st : List Value} {h h' : Wd} {r : Option Value} {a0 a1 a2 a3 a4 a5 a6 a7 a8 a9 a10 a11 a12 : Value} {t : List Value} {x : Int32} (hd : decode (mb q) pc = .ok (.iload 13, 2))  (k : WW q (pc + 2) (a0 :: a1 :: a2 :: a3 :: a4 :: a5 :: a6 :: a7 :: a8 :: a9 :: a10 :: a11 :: a12 :: .int x :: t) (.int x :: st) h r h') : WW q pc (a0 :: a1 :: a2 :: a3 :: a4 :: a5 :: a6 :: a7 :: a8 :: a9 :: a10 :: a11 :: a12 :: .int x :: t) st h r h' := by
  intro p l e s m args below meth c D ad ck H locs ls C P S A
  exact lv_iload C.1 C.2.1 hd (A.mid (X := [a0, a1, a2, a3, a4, a5, a6, a7, a8, a9, a10, a11, a12]) rfl (fun z => by cases z)) (k p l e s m args below meth c D ad ck H locs ls C P S A)
theorem r_lload_13 {q : MI} {pc : Nat} {st : List Value} {h h' : Wd} {r : Option Value} {a0 a1 a2 a3 a4 a5 a6 a7 a8 a9 a10 a11 a12 : Value} {t : List Value} {x : Int64} (hd : decode (mb q) pc = .ok (.lload 13, 2))  (k : WW q (pc + 2) (a0 :: a1 :: a2 :: a3 :: a4 :: a5 :: a6 :: a7 :: a8 :: a9 :: a10 :: a11 :: a12 :: .long x :: t) (.long x :: st) h r h') : WW q pc (a0 :: a1 :: a2 :: a3 :: a4 :: a5 :: a6 :: a7 :: a8 :: a9 :: a10 :: a11 :: a12 :: .long x :: t) st h r h' := by
  intro p l e s m args below meth c D ad ck H locs ls C P S A
  exact lv_lload C.1 C.2.1 hd (A.mid (X := [a0, a1, a2, a3, a4, a5, a6, a7, a8, a9, a10, a11, a12]) rfl (fun z => by cases z)) (k p l e s m args below meth c D ad ck H locs ls C P S A)
theorem r_aload_13 {q : MI} {pc : Nat} {st : List Value} {h h' : Wd} {r : Option Value} {a0 a1 a2 a3 a4 a5 a6 a7 a8 a9 a10 a11 a12 : Value} {t : List Value} {x : Nat} (hd : decode (mb q) pc = .ok (.aload 13, 2))  (k : WW q (pc + 2) (a0 :: a1 :: a2 :: a3 :: a4 :: a5 :: a6 :: a7 :: a8 :: a9 :: a10 :: a11 :: a12 :: .ref x :: t) (.ref x :: st) h r h') : WW q pc (a0 :: a1 :: a2 :: a3 :: a4 :: a5 :: a6 :: a7 :: a8 :: a9 :: a10 :: a11 :: a12 :: .ref x :: t) st h r h' := by
  intro p l e s m args below meth c D ad ck H locs ls C P S A
  exact lv_aload C.1 C.2.1 hd (A.mid (X := [a0, a1, a2, a3, a4, a5, a6, a7, a8, a9, a10, a11, a12]) rfl (fun z => by cases z)) (k p l e s m args below meth c D ad ck H locs ls C P S A)
theorem r_istore_13 {q : MI} {pc : Nat} {st : List Value} {h h' : Wd} {r : Option Value} {a0 a1 a2 a3 a4 a5 a6 a7 a8 a9 a10 a11 a12 : Value} {a : Value} {t : List Value} {x : Int32} (hd : decode (mb q) pc = .ok (.istore 13, 2)) (hc : a12.category = 1) (hn : 13 < mn q) (k : WW q (pc + 2) (a0 :: a1 :: a2 :: a3 :: a4 :: a5 :: a6 :: a7 :: a8 :: a9 :: a10 :: a11 :: a12 :: .int x :: t) st h r h') : WW q pc (a0 :: a1 :: a2 :: a3 :: a4 :: a5 :: a6 :: a7 :: a8 :: a9 :: a10 :: a11 :: a12 :: a :: t) (.int x :: st) h r h' := by
  intro p l e s m args below meth c D ad ck H locs ls C P S A
  exact lv_istore C.1 C.2.1 hd A hn rfl (fun ls' A' => k p l e s m args below meth c D ad ck H locs ls' C P S (Has.set1 (X := [a0, a1, a2, a3, a4, a5, a6, a7, a8, a9, a10, a11, a12]) (a := a) (v := .int x) (t := t) rfl (fun w hw => by cases hw; exact hc) A'))
theorem r_astore_13 {q : MI} {pc : Nat} {st : List Value} {h h' : Wd} {r : Option Value} {a0 a1 a2 a3 a4 a5 a6 a7 a8 a9 a10 a11 a12 : Value} {a : Value} {t : List Value} {x : Nat} (hd : decode (mb q) pc = .ok (.astore 13, 2)) (hc : a12.category = 1) (hn : 13 < mn q) (k : WW q (pc + 2) (a0 :: a1 :: a2 :: a3 :: a4 :: a5 :: a6 :: a7 :: a8 :: a9 :: a10 :: a11 :: a12 :: .ref x :: t) st h r h') : WW q pc (a0 :: a1 :: a2 :: a3 :: a4 :: a5 :: a6 :: a7 :: a8 :: a9 :: a10 :: a11 :: a12 :: a :: t) (.ref x :: st) h r h' := by
  intro p l e s m args below meth c D ad ck H locs ls C P S A
  exact lv_astore C.1 C.2.1 hd A hn rfl (fun ls' A' => k p l e s m args below meth c D ad ck H locs ls' C P S (Has.set1 (X := [a0, a1, a2, a3, a4, a5, a6, a7, a8, a9, a10, a11, a12]) (a := a) (v := .ref x) (t := t) rfl (fun w hw => by cases hw; exact hc) A'))
theorem r_lstore_13 {q : MI} {pc : Nat} {st : List Value} {h h' : Wd} {r : Option Value} {a0 a1 a2 a3 a4 a5 a6 a7 a8 a9 a10 a11 a12 : Value} {a b : Value} {t : List Value} {x : Int64} (hd : decode (mb q) pc = .ok (.lstore 13, 2)) (hc : a12.category = 1) (hn : 13 + 1 < mn q) (k : WW q (pc + 2) (a0 :: a1 :: a2 :: a3 :: a4 :: a5 :: a6 :: a7 :: a8 :: a9 :: a10 :: a11 :: a12 :: .long x :: .null :: t) st h r h') : WW q pc (a0 :: a1 :: a2 :: a3 :: a4 :: a5 :: a6 :: a7 :: a8 :: a9 :: a10 :: a11 :: a12 :: a :: b :: t) (.long x :: st) h r h' := by
  intro p l e s m args below meth c D ad ck H locs ls C P S A
  exact lv_lstore C.1 C.2.1 hd A hn rfl (fun ls' A' => k p l e s m args below meth c D ad ck H locs ls' C P S (Has.set2 (X := [a0, a1, a2, a3, a4, a5, a6, a7, a8, a9, a10, a11, a12]) (a := a) (b := b) (v := .long x) (t := t) rfl (fun w hw => by cases hw; exact hc) A'))
theorem r_iinc_13 {q : MI} {pc : Nat} {st : List Value} {h h' : Wd} {r : Option Value} {a0 a1 a2 a3 a4 a5 a6 a7 a8 a9 a10 a11 a12 : Value} {t : List Value} {x : Int32} {n : Int} (v : Int32) (hd : decode (mb q) pc = .ok (.iinc 13 n, 3)) (hv : Int32.ofInt n = v) (hc : a12.category = 1) (hn : 13 < mn q) (k : WW q (pc + 3) (a0 :: a1 :: a2 :: a3 :: a4 :: a5 :: a6 :: a7 :: a8 :: a9 :: a10 :: a11 :: a12 :: .int (x + v) :: t) st h r h') : WW q pc (a0 :: a1 :: a2 :: a3 :: a4 :: a5 :: a6 :: a7 :: a8 :: a9 :: a10 :: a11 :: a12 :: .int x :: t) st h r h' := by
  intro p l e s m args below meth c D ad ck H locs ls C P S A
  obtain ⟨kk, hkk2⟩ := asc_ix (X := [a0, a1, a2, a3, a4, a5, a6, a7, a8, a9, a10, a11, a12]) (t := t) (x := x) (ad := ad)
  exact lv_iinc (v := x + v) C.1 C.2.1 hd A hkk2 (by rw [hv]) hn rfl (fun ls' A' => k p l e s m args below meth c D ad ck H locs ls' C P S (Has.set1 (X := [a0, a1, a2, a3, a4, a5, a6, a7, a8, a9, a10, a11, a12]) (a := .int x) (v := .int (x + v)) (t := t) rfl (fun w hw => by cases hw; exact hc) A'))
theorem r_iadd {q : MI} {pc : Nat} {st : List Value} {h h' : Wd} {r : Option Value} {L : List Value} {x y : Int32} (hd : decode (mb q) pc = .ok (.iadd, 1))  (k : WW q (pc + 1) L (.int (x + y) :: st) h r h') : WW q pc L (.int y :: .int x :: st) h r h' := by
  intro p l e s m args below meth c D ad ck H locs ls C P S A
  exact lv_iadd C.1 C.2.1 hd (k p l e s m args below meth c D ad ck H locs ls C P S A)
theorem r_isub {q : MI} {pc : Nat} {st : List Value} {h h' : Wd} {r : Option Value} {L : List Value} {x y : Int32} (hd : decode (mb q) pc = .ok (.isub, 1))  (k : WW q (pc + 1) L (.int (x - y) :: st) h r h') : WW q pc L (.int y :: .int x :: st) h r h' := by
  intro p l e s m args below meth c D ad ck H locs ls C P S A
  exact lv_isub C.1 C.2.1 hd (k p l e s m args below meth c D ad ck H locs ls C P S A)
theorem r_imul {q : MI} {pc : Nat} {st : List Value} {h h' : Wd} {r : Option Value} {L : List Value} {x y : Int32} (hd : decode (mb q) pc = .ok (.imul, 1))  (k : WW q (pc + 1) L (.int (x * y) :: st) h r h') : WW q pc L (.int y :: .int x :: st) h r h' := by
  intro p l e s m args below meth c D ad ck H locs ls C P S A
  exact lv_imul C.1 C.2.1 hd (k p l e s m args below meth c D ad ck H locs ls C P S A)
theorem r_iand {q : MI} {pc : Nat} {st : List Value} {h h' : Wd} {r : Option Value} {L : List Value} {x y : Int32} (hd : decode (mb q) pc = .ok (.iand, 1))  (k : WW q (pc + 1) L (.int (x &&& y) :: st) h r h') : WW q pc L (.int y :: .int x :: st) h r h' := by
  intro p l e s m args below meth c D ad ck H locs ls C P S A
  exact lv_iand C.1 C.2.1 hd (k p l e s m args below meth c D ad ck H locs ls C P S A)
theorem r_ior {q : MI} {pc : Nat} {st : List Value} {h h' : Wd} {r : Option Value} {L : List Value} {x y : Int32} (hd : decode (mb q) pc = .ok (.ior, 1))  (k : WW q (pc + 1) L (.int (x ||| y) :: st) h r h') : WW q pc L (.int y :: .int x :: st) h r h' := by
  intro p l e s m args below meth c D ad ck H locs ls C P S A
  exact lv_ior C.1 C.2.1 hd (k p l e s m args below meth c D ad ck H locs ls C P S A)
theorem r_ixor {q : MI} {pc : Nat} {st : List Value} {h h' : Wd} {r : Option Value} {L : List Value} {x y : Int32} (hd : decode (mb q) pc = .ok (.ixor, 1))  (k : WW q (pc + 1) L (.int (x ^^^ y) :: st) h r h') : WW q pc L (.int y :: .int x :: st) h r h' := by
  intro p l e s m args below meth c D ad ck H locs ls C P S A
  exact lv_ixor C.1 C.2.1 hd (k p l e s m args below meth c D ad ck H locs ls C P S A)
theorem r_ladd {q : MI} {pc : Nat} {st : List Value} {h h' : Wd} {r : Option Value} {L : List Value} {x y : Int64} (hd : decode (mb q) pc = .ok (.ladd, 1))  (k : WW q (pc + 1) L (.long (x + y) :: st) h r h') : WW q pc L (.long y :: .long x :: st) h r h' := by
  intro p l e s m args below meth c D ad ck H locs ls C P S A
  exact lv_ladd C.1 C.2.1 hd (k p l e s m args below meth c D ad ck H locs ls C P S A)
theorem r_lsub {q : MI} {pc : Nat} {st : List Value} {h h' : Wd} {r : Option Value} {L : List Value} {x y : Int64} (hd : decode (mb q) pc = .ok (.lsub, 1))  (k : WW q (pc + 1) L (.long (x - y) :: st) h r h') : WW q pc L (.long y :: .long x :: st) h r h' := by
  intro p l e s m args below meth c D ad ck H locs ls C P S A
  exact lv_lsub C.1 C.2.1 hd (k p l e s m args below meth c D ad ck H locs ls C P S A)
theorem r_lmul {q : MI} {pc : Nat} {st : List Value} {h h' : Wd} {r : Option Value} {L : List Value} {x y : Int64} (hd : decode (mb q) pc = .ok (.lmul, 1))  (k : WW q (pc + 1) L (.long (x * y) :: st) h r h') : WW q pc L (.long y :: .long x :: st) h r h' := by
  intro p l e s m args below meth c D ad ck H locs ls C P S A
  exact lv_lmul C.1 C.2.1 hd (k p l e s m args below meth c D ad ck H locs ls C P S A)
theorem r_land {q : MI} {pc : Nat} {st : List Value} {h h' : Wd} {r : Option Value} {L : List Value} {x y : Int64} (hd : decode (mb q) pc = .ok (.land, 1))  (k : WW q (pc + 1) L (.long (x &&& y) :: st) h r h') : WW q pc L (.long y :: .long x :: st) h r h' := by
  intro p l e s m args below meth c D ad ck H locs ls C P S A
  exact lv_land C.1 C.2.1 hd (k p l e s m args below meth c D ad ck H locs ls C P S A)
theorem r_lor {q : MI} {pc : Nat} {st : List Value} {h h' : Wd} {r : Option Value} {L : List Value} {x y : Int64} (hd : decode (mb q) pc = .ok (.lor, 1))  (k : WW q (pc + 1) L (.long (x ||| y) :: st) h r h') : WW q pc L (.long y :: .long x :: st) h r h' := by
  intro p l e s m args below meth c D ad ck H locs ls C P S A
  exact lv_lor C.1 C.2.1 hd (k p l e s m args below meth c D ad ck H locs ls C P S A)
theorem r_lxor {q : MI} {pc : Nat} {st : List Value} {h h' : Wd} {r : Option Value} {L : List Value} {x y : Int64} (hd : decode (mb q) pc = .ok (.lxor, 1))  (k : WW q (pc + 1) L (.long (x ^^^ y) :: st) h r h') : WW q pc L (.long y :: .long x :: st) h r h' := by
  intro p l e s m args below meth c D ad ck H locs ls C P S A
  exact lv_lxor C.1 C.2.1 hd (k p l e s m args below meth c D ad ck H locs ls C P S A)
theorem r_ishl {q : MI} {pc : Nat} {st : List Value} {h h' : Wd} {r : Option Value} {L : List Value} {x y : Int32} (hd : decode (mb q) pc = .ok (.ishl, 1))  (k : WW q (pc + 1) L (.int (x <<< (y &&& 31)) :: st) h r h') : WW q pc L (.int y :: .int x :: st) h r h' := by
  intro p l e s m args below meth c D ad ck H locs ls C P S A
  exact lv_ishl C.1 C.2.1 hd (k p l e s m args below meth c D ad ck H locs ls C P S A)
theorem r_ishr {q : MI} {pc : Nat} {st : List Value} {h h' : Wd} {r : Option Value} {L : List Value} {x y : Int32} (hd : decode (mb q) pc = .ok (.ishr, 1))  (k : WW q (pc + 1) L (.int (x >>> (y &&& 31)) :: st) h r h') : WW q pc L (.int y :: .int x :: st) h r h' := by
  intro p l e s m args below meth c D ad ck H locs ls C P S A
  exact lv_ishr C.1 C.2.1 hd (k p l e s m args below meth c D ad ck H locs ls C P S A)
theorem r_idiv {q : MI} {pc : Nat} {st : List Value} {h h' : Wd} {r : Option Value} {L : List Value} {x y : Int32} (hd : decode (mb q) pc = .ok (.idiv, 1)) (hne : ¬ y = 0) (k : WW q (pc + 1) L (.int (x / y) :: st) h r h') : WW q pc L (.int y :: .int x :: st) h r h' := by
  intro p l e s m args below meth c D ad ck H locs ls C P S A
  exact lv_idiv C.1 C.2.1 hd hne (k p l e s m args below meth c D ad ck H locs ls C P S A)
theorem r_irem {q : MI} {pc : Nat} {st : List Value} {h h' : Wd} {r : Option Value} {L : List Value} {x y : Int32} (hd : decode (mb q) pc = .ok (.irem, 1)) (hne : ¬ y = 0) (k : WW q (pc + 1) L (.int (x - x / y * y) :: st) h r h') : WW q pc L (.int y :: .int x :: st) h r h' := by
  intro p l e s m args below meth c D ad ck H locs ls C P S A
  exact lv_irem C.1 C.2.1 hd hne (k p l e s m args below meth c D ad ck H locs ls C P S A)
theorem r_ldiv {q : MI} {pc : Nat} {st : List Value} {h h' : Wd} {r : Option Value} {L : List Value} {x y : Int64} (hd : decode (mb q) pc = .ok (.ldiv, 1)) (hne : ¬ y = 0) (k : WW q (pc + 1) L (.long (x / y) :: st) h r h') : WW q pc L (.long y :: .long x :: st) h r h' := by
  intro p l e s m args below meth c D ad ck H locs ls C P S A
  exact lv_ldiv C.1 C.2.1 hd hne (k p l e s m args below meth c D ad ck H locs ls C P S A)
theorem r_lrem {q : MI} {pc : Nat} {st : List Value} {h h' : Wd} {r : Option Value} {L : List Value} {x y : Int64} (hd : decode (mb q) pc = .ok (.lrem, 1)) (hne : ¬ y = 0) (k : WW q (pc + 1) L (.long (x - x / y * y) :: st) h r h') : WW q pc L (.long y :: .long x :: st) h r h' := by
  intro p l e s m args below meth c D ad ck H locs ls C P S A
  exact lv_lrem C.1 C.2.1 hd hne (k p l e s m args below meth c D ad ck H locs ls C P S A)
theorem r_ineg {q : MI} {pc : Nat} {st : List Value} {h h' : Wd} {r : Option Value} {L : List Value} {x : Int32} (hd : decode (mb q) pc = .ok (.ineg, 1))  (k : WW q (pc + 1) L (.int (-x) :: st) h r h') : WW q pc L (.int x :: st) h r h' := by
  intro p l e s m args below meth c D ad ck H locs ls C P S A
  exact lv_ineg C.1 C.2.1 hd (k p l e s m args below meth c D ad ck H locs ls C P S A)
theorem r_i2l {q : MI} {pc : Nat} {st : List Value} {h h' : Wd} {r : Option Value} {L : List Value} {x : Int32} (hd : decode (mb q) pc = .ok (.i2l, 1))  (k : WW q (pc + 1) L (.long x.toInt64 :: st) h r h') : WW q pc L (.int x :: st) h r h' := by
  intro p l e s m args below meth c D ad ck H locs ls C P S A
  exact lv_i2l C.1 C.2.1 hd rfl (k p l e s m args below meth c D ad ck H locs ls C P S A)
theorem r_l2i {q : MI} {pc : Nat} {st : List Value} {h h' : Wd} {r : Option Value} {L : List Value} {x : Int64} (hd : decode (mb q) pc = .ok (.l2i, 1))  (k : WW q (pc + 1) L (.int x.toInt32 :: st) h r h') : WW q pc L (.long x :: st) h r h' := by
  intro p l e s m args below meth c D ad ck H locs ls C P S A
  exact lv_l2i C.1 C.2.1 hd rfl (k p l e s m args below meth c D ad ck H locs ls C P S A)
theorem r_iushr {q : MI} {pc : Nat} {st : List Value} {h h' : Wd} {r : Option Value} {L : List Value} {x y : Int32} (hd : decode (mb q) pc = .ok (.iushr, 1))  (k : WW q (pc + 1) L (.int (x.toUInt32 >>> (y.toUInt32 &&& Int32.toUInt32 31)).toInt32 :: st) h r h') : WW q pc L (.int y :: .int x :: st) h r h' := by
  intro p l e s m args below meth c D ad ck H locs ls C P S A
  exact lv_iushr C.1 C.2.1 hd rfl (k p l e s m args below meth c D ad ck H locs ls C P S A)
theorem r_lushr {q : MI} {pc : Nat} {st : List Value} {h h' : Wd} {r : Option Value} {L : List Value} {x : Int64} {y : Int32} (hd : decode (mb q) pc = .ok (.lushr, 1))  (k : WW q (pc + 1) L (.long (x.toUInt64 >>> (y.toInt64.toUInt64 &&& Int64.toUInt64 63)).toInt64 :: st) h r h') : WW q pc L (.int y :: .long x :: st) h r h' := by
  intro p l e s m args below meth c D ad ck H locs ls C P S A
  exact lv_lushr C.1 C.2.1 hd rfl (k p l e s m args below meth c D ad ck H locs ls C P S A)
theorem r_lshl {q : MI} {pc : Nat} {st : List Value} {h h' : Wd} {r : Option Value} {L : List Value} {x : Int64} {y : Int32} (hd : decode (mb q) pc = .ok (.lshl, 1))  (k : WW q (pc + 1) L (.long (x <<< (y.toInt64 &&& 63)) :: st) h r h') : WW q pc L (.int y :: .long x :: st) h r h' := by
  intro p l e s m args below meth c D ad ck H locs ls C P S A
  exact lv_lshl C.1 C.2.1 hd rfl (k p l e s m args below meth c D ad ck H locs ls C P S A)
theorem r_lshr {q : MI} {pc : Nat} {st : List Value} {h h' : Wd} {r : Option Value} {L : List Value} {x : Int64} {y : Int32} (hd : decode (mb q) pc = .ok (.lshr, 1))  (k : WW q (pc + 1) L (.long (x >>> (y.toInt64 &&& 63)) :: st) h r h') : WW q pc L (.int y :: .long x :: st) h r h' := by
  intro p l e s m args below meth c D ad ck H locs ls C P S A
  exact lv_lshr C.1 C.2.1 hd rfl (k p l e s m args below meth c D ad ck H locs ls C P S A)
theorem r_dup {q : MI} {pc : Nat} {st : List Value} {h h' : Wd} {r : Option Value} {L : List Value} {v : Value} (hd : decode (mb q) pc = .ok (.dup, 1)) (hc : v.category = 1) (k : WW q (pc + 1) L (v :: v :: st) h r h') : WW q pc L (v :: st) h r h' := by
  intro p l e s m args below meth c D ad ck H locs ls C P S A
  exact lv_dup C.1 C.2.1 hd (by rw [vv_cat]; exact hc) (k p l e s m args below meth c D ad ck H locs ls C P S A)
theorem r_dup2 {q : MI} {pc : Nat} {st : List Value} {h h' : Wd} {r : Option Value} {L : List Value} {v w : Value} (hd : decode (mb q) pc = .ok (.dup2, 1)) (hc : v.category = 1) (hc2 : w.category = 1) (k : WW q (pc + 1) L (v :: w :: v :: w :: st) h r h') : WW q pc L (v :: w :: st) h r h' := by
  intro p l e s m args below meth c D ad ck H locs ls C P S A
  exact lv_dup2_11 C.1 C.2.1 hd (by rw [vv_cat]; exact hc) (by rw [vv_cat]; exact hc2) (k p l e s m args below meth c D ad ck H locs ls C P S A)
theorem r_if_eq {q : MI} {pc : Nat} {st : List Value} {h h' : Wd} {r : Option Value} {L : List Value} {x : Int32} {off : Int} (tgt : Nat) (hd : decode (mb q) pc = .ok (.ifCond .eq off, 3)) (ht : (pc : Int) + off = (tgt : Int)) (kt : x = 0 → WW q tgt L st h r h') (kf : ¬ (x = 0) → WW q (pc + 3) L st h r h') : WW q pc L (.int x :: st) h r h' := by
  intro p l e s m args below meth c D ad ck H locs ls C P S A
  exact lv_if_eq C.1 C.2.1 hd ht (fun c1 => kt c1 p l e s m args below meth c D ad ck H locs ls C P S A) (fun c1 => kf c1 p l e s m args below meth c D ad ck H locs ls C P S A)
theorem r_if_ne {q : MI} {pc : Nat} {st : List Value} {h h' : Wd} {r : Option Value} {L : List Value} {x : Int32} {off : Int} (tgt : Nat) (hd : decode (mb q) pc = .ok (.ifCond .ne off, 3)) (ht : (pc : Int) + off = (tgt : Int)) (kt : ¬ x = 0 → WW q tgt L st h r h') (kf : x = 0 → WW q (pc + 3) L st h r h') : WW q pc L (.int x :: st) h r h' := by
  intro p l e s m args below meth c D ad ck H locs ls C P S A
  exact lv_if_ne C.1 C.2.1 hd ht (fun c1 => kt c1 p l e s m args below meth c D ad ck H locs ls C P S A) (fun c1 => kf c1 p l e s m args below meth c D ad ck H locs ls C P S A)
theorem r_if_lt {q : MI} {pc : Nat} {st : List Value} {h h' : Wd} {r : Option Value} {L : List Value} {x : Int32} {off : Int} (tgt : Nat) (hd : decode (mb q) pc = .ok (.ifCond .lt off, 3)) (ht : (pc : Int) + off = (tgt : Int)) (kt : x < 0 → WW q tgt L st h r h') (kf : ¬ (x < 0) → WW q (pc + 3) L st h r h') : WW q pc L (.int x :: st) h r h' := by
  intro p l e s m args below meth c D ad ck H locs ls C P S A
  exact lv_if_lt C.1 C.2.1 hd ht (fun c1 => kt c1 p l e s m args below meth c D ad ck H locs ls C P S A) (fun c1 => kf c1 p l e s m args below meth c D ad ck H locs ls C P S A)
theorem r_if_ge {q : MI} {pc : Nat} {st : List Value} {h h' : Wd} {r : Option Value} {L : List Value} {x : Int32} {off : Int} (tgt : Nat) (hd : decode (mb q) pc = .ok (.ifCond .ge off, 3)) (ht : (pc : Int) + off = (tgt : Int)) (kt : 0 ≤ x → WW q tgt L st h r h') (kf : ¬ (0 ≤ x) → WW q (pc + 3) L st h r h') : WW q pc L (.int x :: st) h r h' := by
  intro p l e s m args below meth c D ad ck H locs ls C P S A
  exact lv_if_ge C.1 C.2.1 hd ht (fun c1 => kt c1 p l e s m args below meth c D ad ck H locs ls C P S A) (fun c1 => kf c1 p l e s m args below meth c D ad ck H locs ls C P S A)
theorem r_if_gt {q : MI} {pc : Nat} {st : List Value} {h h' : Wd} {r : Option Value} {L : List Value} {x : Int32} {off : Int} (tgt : Nat) (hd : decode (mb q) pc = .ok (.ifCond .gt off, 3)) (ht : (pc : Int) + off = (tgt : Int)) (kt : 0 < x → WW q tgt L st h r h') (kf : ¬ (0 < x) → WW q (pc + 3) L st h r h') : WW q pc L (.int x :: st) h r h' := by
  intro p l e s m args below meth c D ad ck H locs ls C P S A
  exact lv_if_gt C.1 C.2.1 hd ht (fun c1 => kt c1 p l e s m args below meth c D ad ck H locs ls C P S A) (fun c1 => kf c1 p l e s m args below meth c D ad ck H locs ls C P S A)
theorem r_if_le {q : MI} {pc : Nat} {st : List Value} {h h' : Wd} {r : Option Value} {L : List Value} {x : Int32} {off : Int} (tgt : Nat) (hd : decode (mb q) pc = .ok (.ifCond .le off, 3)) (ht : (pc : Int) + off = (tgt : Int)) (kt : x ≤ 0 → WW q tgt L st h r h') (kf : ¬ (x ≤ 0) → WW q (pc + 3) L st h r h') : WW q pc L (.int x :: st) h r h' := by
  intro p l e s m args below meth c D ad ck H locs ls C P S A
  exact lv_if_le C.1 C.2.1 hd ht (fun c1 => kt c1 p l e s m args below meth c D ad ck H locs ls C P S A) (fun c1 => kf c1 p l e s m args below meth c D ad ck H locs ls C P S A)
theorem r_icmp_eq {q : MI} {pc : Nat} {st : List Value} {h h' : Wd} {r : Option Value} {L : List Value} {x y : Int32} {off : Int} (tgt : Nat) (hd : decode (mb q) pc = .ok (.if_icmp .eq off, 3)) (ht : (pc : Int) + off = (tgt : Int)) (kt : x = y → WW q tgt L st h r h') (kf : ¬ (x = y) → WW q (pc + 3) L st h r h') : WW q pc L (.int y :: .int x :: st) h r h' := by
  intro p l e s m args below meth c D ad ck H locs ls C P S A
  exact lv_icmp_eq C.1 C.2.1 hd ht (fun c1 => kt c1 p l e s m args below meth c D ad ck H locs ls C P S A) (fun c1 => kf c1 p l e s m args below meth c D ad ck H locs ls C P S A)
theorem r_icmp_ne {q : MI} {pc : Nat} {st : List Value} {h h' : Wd} {r : Option Value} {L : List Value} {x y : Int32} {off : Int} (tgt : Nat) (hd : decode (mb q) pc = .ok (.if_icmp .ne off, 3)) (ht : (pc : Int) + off = (tgt : Int)) (kt : ¬ x = y → WW q tgt L st h r h') (kf : x = y → WW q (pc + 3) L st h r h') : WW q pc L (.int y :: .int x :: st) h r h' := by
  intro p l e s m args below meth c D ad ck H locs ls C P S A
  exact lv_icmp_ne C.1 C.2.1 hd ht (fun c1 => kt c1 p l e s m args below meth c D ad ck H locs ls C P S A) (fun c1 => kf c1 p l e s m args below meth c D ad ck H locs ls C P S A)
theorem r_icmp_lt {q : MI} {pc : Nat} {st : List Value} {h h' : Wd} {r : Option Value} {L : List Value} {x y : Int32} {off : Int} (tgt : Nat) (hd : decode (mb q) pc = .ok (.if_icmp .lt off, 3)) (ht : (pc : Int) + off = (tgt : Int)) (kt : x < y → WW q tgt L st h r h') (kf : ¬ (x < y) → WW q (pc + 3) L st h r h') : WW q pc L (.int y :: .int x :: st) h r h' := by
  intro p l e s m args below meth c D ad ck H locs ls C P S A
  exact lv_icmp_lt C.1 C.2.1 hd ht (fun c1 => kt c1 p l e s m args below meth c D ad ck H locs ls C P S A) (fun c1 => kf c1 p l e s m args below meth c D ad ck H locs ls C P S A)
theorem r_icmp_ge {q : MI} {pc : Nat} {st : List Value} {h h' : Wd} {r : Option Value} {L : List Value} {x y : Int32} {off : Int} (tgt : Nat) (hd : decode (mb q) pc = .ok (.if_icmp .ge off, 3)) (ht : (pc : Int) + off = (tgt : Int)) (kt : y ≤ x → WW q tgt L st h r h') (kf : ¬ (y ≤ x) → WW q (pc + 3) L st h r h') : WW q pc L (.int y :: .int x :: st) h r h' := by
  intro p l e s m args below meth c D ad ck H locs ls C P S A
  exact lv_icmp_ge C.1 C.2.1 hd ht (fun c1 => kt c1 p l e s m args below meth c D ad ck H locs ls C P S A) (fun c1 => kf c1 p l e s m args below meth c D ad ck H locs ls C P S A)
theorem r_icmp_gt {q : MI} {pc : Nat} {st : List Value} {h h' : Wd} {r : Option Value} {L : List Value} {x y : Int32} {off : Int} (tgt : Nat) (hd : decode (mb q) pc = .ok (.if_icmp .gt off, 3)) (ht : (pc : Int) + off = (tgt : Int)) (kt : y < x → WW q tgt L st h r h') (kf : ¬ (y < x) → WW q (pc + 3) L st h r h') : WW q pc L (.int y :: .int x :: st) h r h' := by
  intro p l e s m args below meth c D ad ck H locs ls C P S A
  exact lv_icmp_gt C.1 C.2.1 hd ht (fun c1 => kt c1 p l e s m args below meth c D ad ck H locs ls C P S A) (fun c1 => kf c1 p l e s m args below meth c D ad ck H locs ls C P S A)
theorem r_icmp_le {q : MI} {pc : Nat} {st : List Value} {h h' : Wd} {r : Option Value} {L : List Value} {x y : Int32} {off : Int} (tgt : Nat) (hd : decode (mb q) pc = .ok (.if_icmp .le off, 3)) (ht : (pc : Int) + off = (tgt : Int)) (kt : x ≤ y → WW q tgt L st h r h') (kf : ¬ (x ≤ y) → WW q (pc + 3) L st h r h') : WW q pc L (.int y :: .int x :: st) h r h' := by
  intro p l e s m args below meth c D ad ck H locs ls C P S A
  exact lv_icmp_le C.1 C.2.1 hd ht (fun c1 => kt c1 p l e s m args below meth c D ad ck H locs ls C P S A) (fun c1 => kf c1 p l e s m args below meth c D ad ck H locs ls C P S A)
theorem lgc_eq (x y : Int64) : lg_cmp x y = 0 ↔ x = y := by
  unfold lg_cmp
  simp only [gt_iff_lt, Int64.lt_iff_toInt_lt, ← Int64.toInt_inj]
  split
  · rename_i h; constructor
    · intro z; cases z
    · intro z; omega
  · split <;> simp_all
theorem lgc_lt (x y : Int64) : lg_cmp x y < 0 ↔ x < y := by
  unfold lg_cmp
  simp only [gt_iff_lt, Int64.lt_iff_toInt_lt, ← Int64.toInt_inj]
  split
  · rename_i h; constructor
    · intro z; exact absurd z (by decide)
    · intro z; omega
  · split
    · rename_i h1 h2; constructor
      · intro z; exact absurd z (by decide)
      · intro z; omega
    · constructor
      · intro _; omega
      · intro _; decide
theorem lgc_gt (x y : Int64) : 0 < lg_cmp x y ↔ y < x := by
  unfold lg_cmp
  simp only [gt_iff_lt, Int64.lt_iff_toInt_lt, ← Int64.toInt_inj]
  split
  · rename_i h; constructor
    · intro z; exact h
    · intro z; decide
  · split
    · rename_i h1 h2; constructor
      · intro z; exact absurd z (by decide)
      · intro z; omega
    · rename_i h1 h2; constructor
      · intro z; exact absurd z (by decide)
      · intro z; omega
theorem lgc_le (x y : Int64) : lg_cmp x y ≤ 0 ↔ x ≤ y := by
  rw [← Int32.not_lt, lgc_gt, Int64.not_lt]
theorem r_lcmp_eq {q : MI} {pc : Nat} {st : List Value} {h h' : Wd} {r : Option Value} {L : List Value} {x y : Int64} {off : Int} (tgt : Nat) (hd0 : decode (mb q) pc = .ok (.lcmp, 1)) (hd : decode (mb q) (pc + 1) = .ok (.ifCond .eq off, 3)) (ht : ((pc + 1 : Nat) : Int) + off = (tgt : Int)) (kt : x = y → WW q tgt L st h r h') (kf : ¬ (x = y) → WW q (pc + 1 + 3) L st h r h') : WW q pc L (.long y :: .long x :: st) h r h' := by
  intro p l e s m args below meth c D ad ck H locs ls C P S A
  exact W.lcmp C.1 C.2.1 hd0 (lv_if_eq C.1 C.2.1 hd ht (fun c1 => kt ((lgc_eq x y).mp c1) p l e s m args below meth c D ad ck H locs ls C P S A) (fun c1 => kf (fun z => c1 ((lgc_eq x y).mpr z)) p l e s m args below meth c D ad ck H locs ls C P S A))
theorem r_lcmp_ne {q : MI} {pc : Nat} {st : List Value} {h h' : Wd} {r : Option Value} {L : List Value} {x y : Int64} {off : Int} (tgt : Nat) (hd0 : decode (mb q) pc = .ok (.lcmp, 1)) (hd : decode (mb q) (pc + 1) = .ok (.ifCond .ne off, 3)) (ht : ((pc + 1 : Nat) : Int) + off = (tgt : Int)) (kt : ¬ x = y → WW q tgt L st h r h') (kf : x = y → WW q (pc + 1 + 3) L st h r h') : WW q pc L (.long y :: .long x :: st) h r h' := by
  intro p l e s m args below meth c D ad ck H locs ls C P S A
  exact W.lcmp C.1 C.2.1 hd0 (lv_if_ne C.1 C.2.1 hd ht (fun c1 => kt (fun z => c1 ((lgc_eq x y).mpr z)) p l e s m args below meth c D ad ck H locs ls C P S A) (fun c1 => kf ((lgc_eq x y).mp c1) p l e s m args below meth c D ad ck H locs ls C P S A))
theorem r_lcmp_lt {q : MI} {pc : Nat} {st : List Value} {h h' : Wd} {r : Option Value} {L : List Value} {x y : Int64} {off : Int} (tgt : Nat) (hd0 : decode (mb q) pc = .ok (.lcmp, 1)) (hd : decode (mb q) (pc + 1) = .ok (.ifCond .lt off, 3)) (ht : ((pc + 1 : Nat) : Int) + off = (tgt : Int)) (kt : x < y → WW q tgt L st h r h') (kf : ¬ (x < y) → WW q (pc + 1 + 3) L st h r h') : WW q pc L (.long y :: .long x :: st) h r h' := by
  intro p l e s m args below meth c D ad ck H locs ls C P S A
  exact W.lcmp C.1 C.2.1 hd0 (lv_if_lt C.1 C.2.1 hd ht (fun c1 => kt ((lgc_lt x y).mp c1) p l e s m args below meth c D ad ck H locs ls C P S A) (fun c1 => kf (fun z => c1 ((lgc_lt x y).mpr z)) p l e s m args below meth c D ad ck H locs ls C P S A))
theorem r_lcmp_gt {q : MI} {pc : Nat} {st : List Value} {h h' : Wd} {r : Option Value} {L : List Value} {x y : Int64} {off : Int} (tgt : Nat) (hd0 : decode (mb q) pc = .ok (.lcmp, 1)) (hd : decode (mb q) (pc + 1) = .ok (.ifCond .gt off, 3)) (ht : ((pc + 1 : Nat) : Int) + off = (tgt : Int)) (kt : y < x → WW q tgt L st h r h') (kf : ¬ (y < x) → WW q (pc + 1 + 3) L st h r h') : WW q pc L (.long y :: .long x :: st) h r h' := by
  intro p l e s m args below meth c D ad ck H locs ls C P S A
  exact W.lcmp C.1 C.2.1 hd0 (lv_if_gt C.1 C.2.1 hd ht (fun c1 => kt ((lgc_gt x y).mp c1) p l e s m args below meth c D ad ck H locs ls C P S A) (fun c1 => kf (fun z => c1 ((lgc_gt x y).mpr z)) p l e s m args below meth c D ad ck H locs ls C P S A))
theorem r_lcmp_le {q : MI} {pc : Nat} {st : List Value} {h h' : Wd} {r : Option Value} {L : List Value} {x y : Int64} {off : Int} (tgt : Nat) (hd0 : decode (mb q) pc = .ok (.lcmp, 1)) (hd : decode (mb q) (pc + 1) = .ok (.ifCond .le off, 3)) (ht : ((pc + 1 : Nat) : Int) + off = (tgt : Int)) (kt : x ≤ y → WW q tgt L st h r h') (kf : ¬ (x ≤ y) → WW q (pc + 1 + 3) L st h r h') : WW q pc L (.long y :: .long x :: st) h r h' := by
  intro p l e s m args below meth c D ad ck H locs ls C P S A
  exact W.lcmp C.1 C.2.1 hd0 (lv_if_le C.1 C.2.1 hd ht (fun c1 => kt ((lgc_le x y).mp c1) p l e s m args below meth c D ad ck H locs ls C P S A) (fun c1 => kf (fun z => c1 ((lgc_le x y).mpr z)) p l e s m args below meth c D ad ck H locs ls C P S A))
theorem r_lcmp_ge {q : MI} {pc : Nat} {st : List Value} {h h' : Wd} {r : Option Value} {L : List Value} {x y : Int64} {off : Int} (tgt : Nat) (hd0 : decode (mb q) pc = .ok (.lcmp, 1)) (hd : decode (mb q) (pc + 1) = .ok (.ifCond .ge off, 3)) (ht : ((pc + 1 : Nat) : Int) + off = (tgt : Int)) (kt : y ≤ x → WW q tgt L st h r h') (kf : ¬ (y ≤ x) → WW q (pc + 1 + 3) L st h r h') : WW q pc L (.long y :: .long x :: st) h r h' := by
  intro p l e s m args below meth c D ad ck H locs ls C P S A
  exact W.lcmp C.1 C.2.1 hd0 (lv_if_ge C.1 C.2.1 hd ht (fun c1 => kt ((lg_cmp_ge x y).mp c1) p l e s m args below meth c D ad ck H locs ls C P S A) (fun c1 => kf (fun z => c1 ((lg_cmp_ge x y).mpr z)) p l e s m args below meth c D ad ck H locs ls C P S A))
theorem r_goto {q : MI} {pc : Nat} {L st : List Value} {h h' : Wd} {r : Option Value} {off : Int} (tgt : Nat) (hd : decode (mb q) pc = .ok (.goto off, 3)) (ht : (pc : Int) + off = (tgt : Int)) (k : WW q tgt L st h r h') : WW q pc L st h r h' := by
  intro p l e s m args below meth c D ad ck H locs ls C P S A
  exact lv_goto C.1 C.2.1 hd ht (k p l e s m args below meth c D ad ck H locs ls C P S A)
theorem r_tabOut {q : MI} {pc : Nat} {L st : List Value} {h h' : Wd} {r : Option Value} {dflt lo hi : Int} {offs : Array Int} {len : Nat} {x : Int32} (tgt : Nat) (hd : decode (mb q) pc = .ok (.tableswitch dflt lo hi offs, len)) (hx : x.toInt < lo ∨ hi < x.toInt) (ht : (pc : Int) + dflt = (tgt : Int)) (k : WW q tgt L st h r h') : WW q pc L (.int x :: st) h r h' := by
  intro p l e s m args below meth c D ad ck H locs ls C P S A
  exact lv_tableOut C.1 C.2.1 hd hx ht (k p l e s m args below meth c D ad ck H locs ls C P S A)
theorem r_tabIn {q : MI} {pc : Nat} {L st : List Value} {h h' : Wd} {r : Option Value} {dflt lo hi : Int} {offs : Array Int} {len : Nat} {x : Int32} {off : Int} (v : Int) (tgt : Nat) (hd : decode (mb q) pc = .ok (.tableswitch dflt lo hi offs, len)) (hx : x.toInt = v) (h1 : ¬ v < lo) (h2 : ¬ hi < v) (ho : offs[(v - lo).toNat]? = some off) (ht : (pc : Int) + off = (tgt : Int)) (k : WW q tgt L st h r h') : WW q pc L (.int x :: st) h r h' := by
  intro p l e s m args below meth c D ad ck H locs ls C P S A
  subst hx
  exact lv_tableIn C.1 C.2.1 hd h1 h2 ho ht (k p l e s m args below meth c D ad ck H locs ls C P S A)
theorem r_look {q : MI} {pc : Nat} {L st : List Value} {h h' : Wd} {r : Option Value} {dflt : Int} {ps : Array (Int × Int)} {len : Nat} {x : Int32} {off : Int} (tgt : Nat) (hd : decode (mb q) pc = .ok (.lookupswitch dflt ps, len)) (hp : (ps.toList.zip (ps.toList.drop 1)).all (fun (a, next) => a.1 < next.1) = true) (ho : Op.lookupswitch.offset ps.toList dflt x.toInt = off) (ht : (pc : Int) + off = (tgt : Int)) (k : WW q tgt L st h r h') : WW q pc L (.int x :: st) h r h' := by
  intro p l e s m args below meth c D ad ck H locs ls C P S A
  exact lv_lookup C.1 C.2.1 hd hp ho ht (k p l e s m args below meth c D ad ck H locs ls C P S A)
theorem r_iret {q : MI} {pc : Nat} {L : List Value} {h h' : Wd} {r : Option Value} {v : Int32} (hd : decode (mb q) pc = .ok (.ireturn, 1)) (hr : mr q = some .int) (hv : some (.int v) = r) (hh : h = h') : WW q pc L [.int v] h r h' := by
  intro p l e s m args below meth c D ad ck H locs ls C P S A
  subst hv; subst hh
  exact W.iret C.1 C.2.1 (C.2.2.2.2.2.1.trans hr) (fun t ht hW => ⟨⟨rfl, C.iv P S ht hW⟩, S.F ht⟩) S.2.2 hd C.2.2.2.2.2.2.1
theorem r_zret {q : MI} {pc : Nat} {L : List Value} {h h' : Wd} {r : Option Value} {v : Int32} (hd : decode (mb q) pc = .ok (.ireturn, 1)) (hr : mr q = some .boolean) (hn : narrow .boolean (.int v) = .int v) (hv : some (.int v) = r) (hh : h = h') : WW q pc L [.int v] h r h' := by
  intro p l e s m args below meth c D ad ck H locs ls C P S A
  subst hv; subst hh
  exact W.zret C.1 C.2.1 (C.2.2.2.2.2.1.trans hr) hn (fun t ht hW => ⟨⟨rfl, C.iv P S ht hW⟩, S.F ht⟩) S.2.2 hd C.2.2.2.2.2.2.1
theorem r_lret {q : MI} {pc : Nat} {L : List Value} {h h' : Wd} {r : Option Value} {v : Int64} (hd : decode (mb q) pc = .ok (.lreturn, 1)) (hr : mr q = some .long) (hv : some (.long v) = r) (hh : h = h') : WW q pc L [.long v] h r h' := by
  intro p l e s m args below meth c D ad ck H locs ls C P S A
  subst hv; subst hh
  exact W.lret C.1 C.2.1 (C.2.2.2.2.2.1.trans hr) (fun t ht hW => ⟨⟨rfl, C.iv P S ht hW⟩, S.F ht⟩) S.2.2 hd C.2.2.2.2.2.2.1
theorem r_vret {q : MI} {pc : Nat} {L : List Value} {h h' : Wd} {r : Option Value} (hd : decode (mb q) pc = .ok (.return_, 1)) (hr : mr q = none) (hv : none = r) (hh : h = h') : WW q pc L [] h r h' := by
  intro p l e s m args below meth c D ad ck H locs ls C P S A
  subst hv; subst hh
  exact W.vret C.1 C.2.1 (C.2.2.2.2.2.1.trans hr) (fun t ht hW => ⟨⟨rfl, C.iv P S ht hW⟩, S.F ht⟩) S.2.2 hd C.2.2.2.2.2.2.1
theorem r_aret {q : MI} {pc : Nat} {L : List Value} {h h' : Wd} {r : Option Value} {a : Nat} {n : String} (hd : decode (mb q) pc = .ok (.areturn, 1)) (hr : mr q = some (.object n)) (hv : some (.ref a) = r) (hh : h = h') : WW q pc L [.ref a] h r h' := by
  intro p l e s m args below meth c D ad ck H locs ls C P S A
  subst hv; subst hh
  exact W.aret (v := .ref (ad a)) C.1 C.2.1 (C.2.2.2.2.2.1.trans hr) (Or.inl ⟨n, rfl⟩) (Or.inr ⟨_, rfl⟩) (fun t ht hW => ⟨⟨rfl, C.iv P S ht hW⟩, S.F ht⟩) S.2.2 hd C.2.2.2.2.2.2.1
theorem r_get {q : MI} {pc idx ci n a k : Nat} {L st fs : List Value} {h h' : Wd} {r : Option Value} {v : Value} {C0 : String} {T : u_T} (hd : decode (mb q) pc = .ok (.getfield idx, 3)) (hcl : vwCl[ci]? = some (C0, T, n)) (hin : ∀ w ∈ u_ws C0 T n, w ∈ gt) (hl : Cond.fieldLink (my q).cls idx (T k).1 (T k).2.1 (T k).2.2.1 ∈ gt) (hk : k < n) (ha : a < 76) (hh : h a = .inr (ci, fs)) (hv : fs[k]? = some v) (kk : WW q (pc + 3) L (v :: st) h r h') : WW q pc L (.ref a :: st) h r h' := by
  intro p l e s m args below meth c D ad ck H locs ls C P S A
  have hts : ∀ w ∈ gt, w.before args s = true := C.2.2.2.2.1
  exact va_get (D := D) (Ts := gt) C.1 C.2.1 hts hin C.2.2.2.1 C.2.2.2.2.2.2.2.1 P a (by rw [mkw_get ha, hh]; rfl) hcl k hk (hts _ hl) (fun _ z => z) (v := vv ad v) (by rw [List.getElem?_map, hv]; rfl) hd (kk p l e s m args below meth c D ad ck H locs ls C P S A)
theorem r_getN {q : MI} {pc idx ci n a k : Nat} {host : String} {L st fs : List Value} {h h' : Wd} {r : Option Value} {v : Value} {C0 : String} {T : u_T} (hd : decode (mb q) pc = .ok (.getfield idx, 3)) (hcl : vwCl[ci]? = some (C0, T, n)) (hin : ∀ w ∈ u_ws C0 T n, w ∈ gt) (hl : ((my q).cls, idx, (T k).1, (T k).2.1, (T k).2.2.1, host) ∈ nestF) (hk : k < n) (ha : a < 76) (hh : h a = .inr (ci, fs)) (hv : fs[k]? = some v) (kk : WW q (pc + 3) L (v :: st) h r h') : WW q pc L (.ref a :: st) h r h' := by
  intro p l e s m args below meth c D ad ck H locs ls C P S A
  have hts : ∀ w ∈ gt, w.before args s = true := C.2.2.2.2.1
  exact va_getN (D := D) (Ts := gt) (host := host) C.1 C.2.1 hts hin C.2.2.2.1 C.2.2.2.2.2.2.2.1 P a (by rw [mkw_get ha, hh]; rfl) hcl k hk (va_Nw.use rfl (C.2.2.2.2.2.2.2.2.1.1 _ hl)) (fun _ z => z) (v := vv ad v) (by rw [List.getElem?_map, hv]; rfl) hd (kk p l e s m args below meth c D ad ck H locs ls C P S A)
theorem nar_vv {ad : Nat → Nat} {ty : FieldType} {v : Value} (h : narrow ty v = v) : narrow ty (vv ad v) = vv ad v := by
  cases v <;> first | exact h | (cases ty <;> rfl)
theorem fit_vv {ad : Nat → Nat} {ty : FieldType} {v : Value} (h : fits ty v = true) : fits ty (vv ad v) = true := by
  cases v <;> first | exact h | (cases ty <;> exact h)
theorem set_vv {ad : Nat → Nat} {fs : List Value} {k : Nat} {v : Value} : (fs.map (vv ad)).set k (vv ad v) = (fs.set k v).map (vv ad) := by
  rw [List.map_set]
theorem r_put {q : MI} {pc idx ci n a k : Nat} {L st fs : List Value} {h h' : Wd} {r : Option Value} {v : Value} {ty : FieldType} {C0 : String} {T : u_T} {ty0 : Nat → FieldType} (hd : decode (mb q) pc = .ok (.putfield idx, 3)) (hcl : vwCl[ci]? = some (C0, T, n)) (hin : ∀ w ∈ u_ws C0 T n, w ∈ gt) (hty : ∀ k, k < n → parseFieldDescriptor (T k).2.2.1 = some (ty0 k)) (hnm : ∀ a, a < n → ∀ b, b < n → a ≠ b → (T a).2.1 ≠ (T b).2.1) (hl : Cond.fieldLink (my q).cls idx (T k).1 (T k).2.1 (T k).2.2.1 ∈ gt) (hk : k < n) (hf : (T k).2.2.2 = false) (hdn : parseFieldDescriptor (T k).2.2.1 = some ty) (hn : narrow ty v = v) (hfit : fits ty v = true) (ha : a < 76) (hh : h a = .inr (ci, fs)) (hlt : k < fs.length) (kk : WW q (pc + 3) L st (va_up h a (.inr (ci, fs.set k v))) r h') : WW q pc L (v :: .ref a :: st) h r h' := by
  intro p l e s m args below meth c D ad ck H locs ls C P S A
  have hts : ∀ w ∈ gt, w.before args s = true := C.2.2.2.2.1
  refine va_put (D := D) (Ts := gt) C.1 C.2.1 hts hin ty0 hty hnm C.2.2.2.1 C.2.2.2.2.2.2.2.1 P (mkw_D C.2.2.2.2.2.2.2.2.2.2) S a (by rw [mkw_get ha, hh]; rfl) hcl k hk (hts _ hl) (fun _ z => z) hf hdn (nar_vv hn) (fit_vv hfit) (by rw [List.length_map]; exact hlt) hd (fun H1 locs1 P1 _ S1 => ?_)
  rw [set_vv, show (Sum.inr (ci, (fs.set k v).map (vv ad)) : va_E) = ce ad ck (.inr (ci, fs.set k v)) from rfl, mkw_set _ ha] at P1
  exact kk p l e s m args below meth c D ad ck H1 locs1 ls C P1 S1 A
theorem r_iald {q : MI} {pc n a : Nat} {L st : List Value} {h h' : Wd} {r : Option Value} {f : Nat → Int32} {i : Int32} (hd : decode (mb q) pc = .ok (.iaload, 1)) (ha : a < 76) (hh : h a = .inl (0, n, .inl f)) (hi : vp_in i n) (k : WW q (pc + 1) L (.int (f i.toNatClampNeg) :: st) h r h') : WW q pc L (.int i :: .ref a :: st) h r h' := by
  intro p l e s m args below meth c D ad ck H locs ls C P S A
  exact va_iald (D := D) C.1 C.2.1 C.2.2.2.2.2.2.2.1 P a 0 (cA := ck 0) (n := n) (f := f) (by rw [mkw_get ha, hh]; rfl) rfl hi hd (k p l e s m args below meth c D ad ck H locs ls C P S A)
theorem r_lald {q : MI} {pc n a : Nat} {L st : List Value} {h h' : Wd} {r : Option Value} {f : Nat → Int64} {i : Int32} (hd : decode (mb q) pc = .ok (.laload, 1)) (ha : a < 76) (hh : h a = .inl (1, n, .inr (.inl f))) (hi : vp_in i n) (k : WW q (pc + 1) L (.long (f i.toNatClampNeg) :: st) h r h') : WW q pc L (.int i :: .ref a :: st) h r h' := by
  intro p l e s m args below meth c D ad ck H locs ls C P S A
  exact va_lald (D := D) C.1 C.2.1 C.2.2.2.2.2.2.2.1 P a 1 (cA := ck 1) (n := n) (f := f) (by rw [mkw_get ha, hh]; rfl) rfl hi hd (k p l e s m args below meth c D ad ck H locs ls C P S A)
theorem r_zald {q : MI} {pc n a : Nat} {L st : List Value} {h h' : Wd} {r : Option Value} {f : Nat → Int32} {i : Int32} (hd : decode (mb q) pc = .ok (.baload, 1)) (ha : a < 76) (hh : h a = .inl (2, n, .inl f)) (hi : vp_in i n) (k : WW q (pc + 1) L (.int (f i.toNatClampNeg) :: st) h r h') : WW q pc L (.int i :: .ref a :: st) h r h' := by
  intro p l e s m args below meth c D ad ck H locs ls C P S A
  exact va_zald (D := D) C.1 C.2.1 C.2.2.2.2.2.2.2.1 P a 2 (cA := ck 2) (n := n) (f := f) (by rw [mkw_get ha, hh]; rfl) rfl hi hd (k p l e s m args below meth c D ad ck H locs ls C P S A)
theorem r_iast {q : MI} {pc n a : Nat} {L st : List Value} {h h' : Wd} {r : Option Value} {f : Nat → Int32} {i x : Int32} (hd : decode (mb q) pc = .ok (.iastore, 1)) (ha : a < 76) (hh : h a = .inl (0, n, .inl f)) (hi : vp_in i n) (k : WW q (pc + 1) L st (va_up h a (.inl (0, n, .inl (upd f i.toNatClampNeg x)))) r h') : WW q pc L (.int x :: .int i :: .ref a :: st) h r h' := by
  intro p l e s m args below meth c D ad ck H locs ls C P S A
  refine va_iast (D := D) C.1 C.2.1 C.2.2.2.2.2.2.2.1 P (mkw_D C.2.2.2.2.2.2.2.2.2.2) S a 0 (cA := ck 0) (n := n) (f := f) (by rw [mkw_get ha, hh]; rfl) rfl hi hd (fun H1 locs1 P1 _ S1 => ?_)
  rw [show (Sum.inl (ck 0, n, Sum.inl (upd f i.toNatClampNeg x)) : va_E) = ce ad ck (.inl (0, n, .inl (upd f i.toNatClampNeg x))) from rfl, mkw_set _ ha] at P1
  exact k p l e s m args below meth c D ad ck H1 locs1 ls C P1 S1 A
theorem r_last {q : MI} {pc n a : Nat} {L st : List Value} {h h' : Wd} {r : Option Value} {f : Nat → Int64} {i : Int32} {x : Int64} (hd : decode (mb q) pc = .ok (.lastore, 1)) (ha : a < 76) (hh : h a = .inl (1, n, .inr (.inl f))) (hi : vp_in i n) (k : WW q (pc + 1) L st (va_up h a (.inl (1, n, .inr (.inl (vp_updL f i.toNatClampNeg x))))) r h') : WW q pc L (.long x :: .int i :: .ref a :: st) h r h' := by
  intro p l e s m args below meth c D ad ck H locs ls C P S A
  refine va_last (D := D) C.1 C.2.1 C.2.2.2.2.2.2.2.1 P (mkw_D C.2.2.2.2.2.2.2.2.2.2) S a 1 (cA := ck 1) (n := n) (f := f) (by rw [mkw_get ha, hh]; rfl) rfl hi hd (fun H1 locs1 P1 _ S1 => ?_)
  rw [show (Sum.inl (ck 1, n, Sum.inr (Sum.inl (vp_updL f i.toNatClampNeg x))) : va_E) = ce ad ck (.inl (1, n, .inr (.inl (vp_updL f i.toNatClampNeg x)))) from rfl, mkw_set _ ha] at P1
  exact k p l e s m args below meth c D ad ck H1 locs1 ls C P1 S1 A
theorem r_zast {q : MI} {pc n a : Nat} {L st : List Value} {h h' : Wd} {r : Option Value} {f : Nat → Int32} {i x : Int32} (hd : decode (mb q) pc = .ok (.bastore, 1)) (ha : a < 76) (hh : h a = .inl (2, n, .inl f)) (hi : vp_in i n) (k : WW q (pc + 1) L st (va_up h a (.inl (2, n, .inl (upd f i.toNatClampNeg (vp_nar .boolean x))))) r h') : WW q pc L (.int x :: .int i :: .ref a :: st) h r h' := by
  intro p l e s m args below meth c D ad ck H locs ls C P S A
  refine va_zast (D := D) C.1 C.2.1 C.2.2.2.2.2.2.2.1 P (mkw_D C.2.2.2.2.2.2.2.2.2.2) S a 2 (cA := ck 2) (n := n) (f := f) (by rw [mkw_get ha, hh]; rfl) rfl hi hd (fun H1 locs1 P1 _ S1 => ?_)
  rw [show (Sum.inl (ck 2, n, Sum.inl (upd f i.toNatClampNeg (vp_nar .boolean x))) : va_E) = ce ad ck (.inl (2, n, .inl (upd f i.toNatClampNeg (vp_nar .boolean x)))) from rfl, mkw_set _ ha] at P1
  exact k p l e s m args below meth c D ad ck H1 locs1 ls C P1 S1 A
theorem r_ialen {q : MI} {pc n a : Nat} {L st : List Value} {h h' : Wd} {r : Option Value} {f : Nat → Int32} (hd : decode (mb q) pc = .ok (.arraylength, 1)) (ha : a < 76) (hh : h a = .inl (0, n, .inl f)) (k : WW q (pc + 1) L (.int (Int32.ofNat n) :: st) h r h') : WW q pc L (.ref a :: st) h r h' := by
  intro p l e s m args below meth c D ad ck H locs ls C P S A
  exact va_alen (D := D) C.1 C.2.1 C.2.2.2.2.2.2.2.1 P a 0 (cA := ck 0) (x := (n, .inl f)) (by rw [mkw_get ha, hh]; rfl) (ty := .int) rfl rfl hd (k p l e s m args below meth c D ad ck H locs ls C P S A)
/-- the static row of signs -/
theorem r_gets {q : MI} {pc idx : Nat} {host : String} {L st : List Value} {h h' : Wd} {r : Option Value} (hd : decode (mb q) pc = .ok (.getstatic idx, 3)) (hl : ((my q).cls, idx, "SnoresGold", "DEED_SIGNS", "[C", host) ∈ nestF) (k : WW q (pc + 3) L (.ref 99 :: st) h r h') : WW q pc L st h r h' := by
  intro p l e s m args below meth c D ad ck H locs ls C P S A
  exact va_getsN (host := host) C.1 C.2.1 C.2.2.2.2.2.2.2.2.2.1.1 S C.2.2.2.1 (va_Nw.use rfl (C.2.2.2.2.2.2.2.2.1.1 _ hl)) (fun _ z => z) hd (k p l e s m args below meth c D ad ck H locs ls C P S A)
theorem r_slen {q : MI} {pc : Nat} {L st : List Value} {h h' : Wd} {r : Option Value} (hd : decode (mb q) pc = .ok (.arraylength, 1)) (k : WW q (pc + 1) L (.int 9 :: st) h r h') : WW q pc L (.ref 99 :: st) h r h' := by
  intro p l e s m args below meth c D ad ck H locs ls C P S A
  exact va_tlen C.1 C.2.1 C.2.2.2.2.2.2.2.2.2.1.2 S rfl hd (k p l e s m args below meth c D ad ck H locs ls C P S A)
theorem r_scald {q : MI} {pc : Nat} {L st : List Value} {h h' : Wd} {r : Option Value} {i : Int32} (hd : decode (mb q) pc = .ok (.caload, 1)) (hi : vp_in i 9) (k : WW q (pc + 1) L (.int (dsg i.toNatClampNeg) :: st) h r h') : WW q pc L (.int i :: .ref 99 :: st) h r h' := by
  intro p l e s m args below meth c D ad ck H locs ls C P S A
  exact va_tc C.1 C.2.1 C.2.2.2.2.2.2.2.2.2.1.2 S hi rfl hd (k p l e s m args below meth c D ad ck H locs ls C P S A)
theorem r_max {q : MI} {pc idx : Nat} {L st : List Value} {h h' : Wd} {r : Option Value} {x y : Int32} (hd : decode (mb q) pc = .ok (.invokestatic idx, 3)) (hl : Cond.methodLink (my q).cls idx Lib.Math.max.name ∈ gt) (hf : 1 ≤ mf q) (hlo : osum st + 13 ≤ mo q) (k : WW q (pc + 3) L (.int (if x < y then y else x) :: st) h r h') : WW q pc L (.int y :: .int x :: st) h r h' := by
  intro p l e s m args below meth c D ad ck H locs ls C P S A
  have hts : ∀ w ∈ gt, w.before args s = true := C.2.2.2.2.1
  exact va_mmax C.1 C.2.1 (C.2.2.1.trans A.1.symm) C.2.2.2.1 (hts _ hl) (hts _ sta_mmax) (hts _ ini_RJ9) (hts _ cod_mmax) hf (by rw [cat_sum]; exact hlo) (Nat.zero_le _) (Nat.zero_le _) hd (k p l e s m args below meth c D ad ck H locs ls C P S A)
theorem r_min {q : MI} {pc idx : Nat} {L st : List Value} {h h' : Wd} {r : Option Value} {x y : Int32} (hd : decode (mb q) pc = .ok (.invokestatic idx, 3)) (hl : Cond.methodLink (my q).cls idx Lib.Math.min.name ∈ gt) (hf : 1 ≤ mf q) (hlo : osum st + 13 ≤ mo q) (k : WW q (pc + 3) L (.int (if y < x then y else x) :: st) h r h') : WW q pc L (.int y :: .int x :: st) h r h' := by
  intro p l e s m args below meth c D ad ck H locs ls C P S A
  have hts : ∀ w ∈ gt, w.before args s = true := C.2.2.2.2.1
  exact va_mmin C.1 C.2.1 (C.2.2.1.trans A.1.symm) C.2.2.2.1 (hts _ hl) (hts _ sta_mmin) (hts _ ini_RJ9) (hts _ cod_mmin) hf (by rw [cat_sum]; exact hlo) (Nat.zero_le _) (Nat.zero_le _) hd (k p l e s m args below meth c D ad ck H locs ls C P S A)
theorem r_abs {q : MI} {pc idx : Nat} {L st : List Value} {h h' : Wd} {r : Option Value} {x : Int32} (hd : decode (mb q) pc = .ok (.invokestatic idx, 3)) (hl : Cond.methodLink (my q).cls idx Lib.Math.abs.name ∈ gt) (hf : 1 ≤ mf q) (hlo : osum st + 13 ≤ mo q) (k : WW q (pc + 3) L (.int (if 0 ≤ x then x else 0 - x) :: st) h r h') : WW q pc L (.int x :: st) h r h' := by
  intro p l e s m args below meth c D ad ck H locs ls C P S A
  have hts : ∀ w ∈ gt, w.before args s = true := C.2.2.2.2.1
  exact va_mabs C.1 C.2.1 (C.2.2.1.trans A.1.symm) C.2.2.2.1 (hts _ hl) (hts _ sta_mabs) (hts _ ini_RJ9) (hts _ cod_mabs) hf (by rw [cat_sum]; exact hlo) (Nat.zero_le _) (Nat.zero_le _) hd (k p l e s m args below meth c D ad ck H locs ls C P S A)
end
