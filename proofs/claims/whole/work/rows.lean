section
-- ===== PART A: goes FIRST, ahead of the names: the tables' words, and 'selects' of the private methods out of them =====
/-- a private method of a class that the tables say can be made, by its rows of tables_1 -/
def lw_okq (q : MethodName × Nat) : Prop := (q.1.cls ≠ "java/lang/invoke/MethodHandle" ∧ q.1.cls ≠ "java/lang/invoke/VarHandle") ∧ Cond.instantiable q.1.cls q.2 ∈ tables_1 ∧ Cond.privateMethod q.1 ∈ tables_1 ∧ Cond.instanceMethod q.1 ∈ tables_1
theorem lw_p0 : lw_okq (⟨"SnoresGold$Camp", "forgetMan", "(I)V"⟩, 10) := ⟨⟨by decide +kernel, by decide +kernel⟩, List.mem_of_getElem? (i := 28) (by decide +kernel), List.mem_of_getElem? (i := 215) (by decide +kernel), List.mem_of_getElem? (i := 216) (by decide +kernel)⟩
theorem lw_p1 : lw_okq (⟨"SnoresGold$Camp", "cellsClaimedBy", "(I)J"⟩, 10) := ⟨⟨by decide +kernel, by decide +kernel⟩, List.mem_of_getElem? (i := 28) (by decide +kernel), List.mem_of_getElem? (i := 279) (by decide +kernel), List.mem_of_getElem? (i := 280) (by decide +kernel)⟩
theorem lw_p2 : lw_okq (⟨"SnoresGold", "playWeeks", "()I"⟩, 10) := ⟨⟨by decide +kernel, by decide +kernel⟩, List.mem_of_getElem? (i := 14) (by decide +kernel), List.mem_of_getElem? (i := 335) (by decide +kernel), List.mem_of_getElem? (i := 336) (by decide +kernel)⟩
theorem lw_p3 : lw_okq (⟨"SnoresGold$Week", "act", "(LSnoresGold$Camp;II)V"⟩, 5) := ⟨⟨by decide +kernel, by decide +kernel⟩, List.mem_of_getElem? (i := 129) (by decide +kernel), List.mem_of_getElem? (i := 353) (by decide +kernel), List.mem_of_getElem? (i := 354) (by decide +kernel)⟩
theorem lw_p4 : lw_okq (⟨"SnoresGold$Camp", "passNight", "()V"⟩, 10) := ⟨⟨by decide +kernel, by decide +kernel⟩, List.mem_of_getElem? (i := 28) (by decide +kernel), List.mem_of_getElem? (i := 389) (by decide +kernel), List.mem_of_getElem? (i := 390) (by decide +kernel)⟩
theorem lw_p5 : lw_okq (⟨"SnoresGold", "refusalOfSteps", "(III)I"⟩, 10) := ⟨⟨by decide +kernel, by decide +kernel⟩, List.mem_of_getElem? (i := 14) (by decide +kernel), List.mem_of_getElem? (i := 507) (by decide +kernel), List.mem_of_getElem? (i := 508) (by decide +kernel)⟩
theorem lw_p6 : lw_okq (⟨"SnoresGold", "quietest", "(IIIZ)I"⟩, 10) := ⟨⟨by decide +kernel, by decide +kernel⟩, List.mem_of_getElem? (i := 14) (by decide +kernel), List.mem_of_getElem? (i := 511) (by decide +kernel), List.mem_of_getElem? (i := 512) (by decide +kernel)⟩
theorem lw_p7 : lw_okq (⟨"SnoresGold$Tales", "holdTogether", "(I)Z"⟩, 4) := ⟨⟨by decide +kernel, by decide +kernel⟩, List.mem_of_getElem? (i := 67) (by decide +kernel), List.mem_of_getElem? (i := 554) (by decide +kernel), List.mem_of_getElem? (i := 555) (by decide +kernel)⟩
theorem lw_p8 : lw_okq (⟨"SnoresGold$Tales", "isGoldBy", "(II)Z"⟩, 4) := ⟨⟨by decide +kernel, by decide +kernel⟩, List.mem_of_getElem? (i := 67) (by decide +kernel), List.mem_of_getElem? (i := 558) (by decide +kernel), List.mem_of_getElem? (i := 559) (by decide +kernel)⟩
theorem lw_p9 : lw_okq (⟨"SnoresGold", "readDigits", "(I)V"⟩, 10) := ⟨⟨by decide +kernel, by decide +kernel⟩, List.mem_of_getElem? (i := 14) (by decide +kernel), List.mem_of_getElem? (i := 569) (by decide +kernel), List.mem_of_getElem? (i := 570) (by decide +kernel)⟩
theorem lw_p10 : lw_okq (⟨"SnoresGold", "digitsAreTwos", "()Z"⟩, 10) := ⟨⟨by decide +kernel, by decide +kernel⟩, List.mem_of_getElem? (i := 14) (by decide +kernel), List.mem_of_getElem? (i := 573) (by decide +kernel), List.mem_of_getElem? (i := 574) (by decide +kernel)⟩
theorem lw_p11 : lw_okq (⟨"SnoresGold", "digitAt", "(I)I"⟩, 10) := ⟨⟨by decide +kernel, by decide +kernel⟩, List.mem_of_getElem? (i := 14) (by decide +kernel), List.mem_of_getElem? (i := 577) (by decide +kernel), List.mem_of_getElem? (i := 578) (by decide +kernel)⟩
theorem lw_p12 : lw_okq (⟨"SnoresGold", "wouldRatherShare", "(II)Z"⟩, 10) := ⟨⟨by decide +kernel, by decide +kernel⟩, List.mem_of_getElem? (i := 14) (by decide +kernel), List.mem_of_getElem? (i := 581) (by decide +kernel), List.mem_of_getElem? (i := 582) (by decide +kernel)⟩
theorem lw_p13 : lw_okq (⟨"SnoresGold", "findLeads", "(I)V"⟩, 10) := ⟨⟨by decide +kernel, by decide +kernel⟩, List.mem_of_getElem? (i := 14) (by decide +kernel), List.mem_of_getElem? (i := 652) (by decide +kernel), List.mem_of_getElem? (i := 653) (by decide +kernel)⟩
theorem lw_p14 : lw_okq (⟨"SnoresGold", "leadAt", "(I)I"⟩, 10) := ⟨⟨by decide +kernel, by decide +kernel⟩, List.mem_of_getElem? (i := 14) (by decide +kernel), List.mem_of_getElem? (i := 656) (by decide +kernel), List.mem_of_getElem? (i := 657) (by decide +kernel)⟩
theorem lw_p15 : lw_okq (⟨"SnoresGold", "hearWithAndWithoutCold", "(I)V"⟩, 10) := ⟨⟨by decide +kernel, by decide +kernel⟩, List.mem_of_getElem? (i := 14) (by decide +kernel), List.mem_of_getElem? (i := 664) (by decide +kernel), List.mem_of_getElem? (i := 665) (by decide +kernel)⟩
def lw_privs_1 : List (MethodName × Nat) := [(⟨"SnoresGold$Camp", "forgetMan", "(I)V"⟩, 10), (⟨"SnoresGold$Camp", "cellsClaimedBy", "(I)J"⟩, 10), (⟨"SnoresGold", "playWeeks", "()I"⟩, 10), (⟨"SnoresGold$Week", "act", "(LSnoresGold$Camp;II)V"⟩, 5), (⟨"SnoresGold$Camp", "passNight", "()V"⟩, 10), (⟨"SnoresGold", "refusalOfSteps", "(III)I"⟩, 10), (⟨"SnoresGold", "quietest", "(IIIZ)I"⟩, 10), (⟨"SnoresGold$Tales", "holdTogether", "(I)Z"⟩, 4), (⟨"SnoresGold$Tales", "isGoldBy", "(II)Z"⟩, 4), (⟨"SnoresGold", "readDigits", "(I)V"⟩, 10), (⟨"SnoresGold", "digitsAreTwos", "()Z"⟩, 10), (⟨"SnoresGold", "digitAt", "(I)I"⟩, 10), (⟨"SnoresGold", "wouldRatherShare", "(II)Z"⟩, 10), (⟨"SnoresGold", "findLeads", "(I)V"⟩, 10), (⟨"SnoresGold", "leadAt", "(I)I"⟩, 10), (⟨"SnoresGold", "hearWithAndWithoutCold", "(I)V"⟩, 10)]
theorem lw_r1 : ∀ q ∈ lw_privs_1, lw_okq q := List.forall_mem_cons.mpr ⟨lw_p0, List.forall_mem_cons.mpr ⟨lw_p1, List.forall_mem_cons.mpr ⟨lw_p2, List.forall_mem_cons.mpr ⟨lw_p3, List.forall_mem_cons.mpr ⟨lw_p4, List.forall_mem_cons.mpr ⟨lw_p5, List.forall_mem_cons.mpr ⟨lw_p6, List.forall_mem_cons.mpr ⟨lw_p7, List.forall_mem_cons.mpr ⟨lw_p8, List.forall_mem_cons.mpr ⟨lw_p9, List.forall_mem_cons.mpr ⟨lw_p10, List.forall_mem_cons.mpr ⟨lw_p11, List.forall_mem_cons.mpr ⟨lw_p12, List.forall_mem_cons.mpr ⟨lw_p13, List.forall_mem_cons.mpr ⟨lw_p14, List.forall_mem_cons.mpr ⟨lw_p15, fun _ h => absurd h List.not_mem_nil⟩⟩⟩⟩⟩⟩⟩⟩⟩⟩⟩⟩⟩⟩⟩⟩
theorem lw_p16 : lw_okq (⟨"SnoresGold", "heardIfSick", "(II)I"⟩, 10) := ⟨⟨by decide +kernel, by decide +kernel⟩, List.mem_of_getElem? (i := 14) (by decide +kernel), List.mem_of_getElem? (i := 673) (by decide +kernel), List.mem_of_getElem? (i := 674) (by decide +kernel)⟩
theorem lw_p17 : lw_okq (⟨"SnoresGold", "imageOf", "(I)LSnoresGold$Memory;"⟩, 10) := ⟨⟨by decide +kernel, by decide +kernel⟩, List.mem_of_getElem? (i := 14) (by decide +kernel), List.mem_of_getElem? (i := 699) (by decide +kernel), List.mem_of_getElem? (i := 700) (by decide +kernel)⟩
theorem lw_p18 : lw_okq (⟨"SnoresGold", "toldOfMan", "(II)I"⟩, 10) := ⟨⟨by decide +kernel, by decide +kernel⟩, List.mem_of_getElem? (i := 14) (by decide +kernel), List.mem_of_getElem? (i := 733) (by decide +kernel), List.mem_of_getElem? (i := 734) (by decide +kernel)⟩
theorem lw_p19 : lw_okq (⟨"SnoresGold", "toldOfCell", "(I)I"⟩, 10) := ⟨⟨by decide +kernel, by decide +kernel⟩, List.mem_of_getElem? (i := 14) (by decide +kernel), List.mem_of_getElem? (i := 739) (by decide +kernel), List.mem_of_getElem? (i := 740) (by decide +kernel)⟩
theorem lw_p20 : lw_okq (⟨"SnoresGold", "toldOfKnown", "(II)I"⟩, 10) := ⟨⟨by decide +kernel, by decide +kernel⟩, List.mem_of_getElem? (i := 14) (by decide +kernel), List.mem_of_getElem? (i := 743) (by decide +kernel), List.mem_of_getElem? (i := 744) (by decide +kernel)⟩
theorem lw_p21 : lw_okq (⟨"SnoresGoldModel", "isMan", "(I)Z"⟩, 37) := ⟨⟨by decide +kernel, by decide +kernel⟩, List.mem_of_getElem? (i := 748) (by decide +kernel), List.mem_of_getElem? (i := 891) (by decide +kernel), List.mem_of_getElem? (i := 892) (by decide +kernel)⟩
theorem lw_p22 : lw_okq (⟨"SnoresGoldModel", "knownBy", "(I)I"⟩, 37) := ⟨⟨by decide +kernel, by decide +kernel⟩, List.mem_of_getElem? (i := 748) (by decide +kernel), List.mem_of_getElem? (i := 900) (by decide +kernel), List.mem_of_getElem? (i := 901) (by decide +kernel)⟩
theorem lw_p23 : lw_okq (⟨"SnoresGoldModel", "isKnown", "(II)Z"⟩, 37) := ⟨⟨by decide +kernel, by decide +kernel⟩, List.mem_of_getElem? (i := 748) (by decide +kernel), List.mem_of_getElem? (i := 904) (by decide +kernel), List.mem_of_getElem? (i := 905) (by decide +kernel)⟩
theorem lw_p24 : lw_okq (⟨"SnoresGoldModel", "claimedCells", "()I"⟩, 37) := ⟨⟨by decide +kernel, by decide +kernel⟩, List.mem_of_getElem? (i := 748) (by decide +kernel), List.mem_of_getElem? (i := 912) (by decide +kernel), List.mem_of_getElem? (i := 913) (by decide +kernel)⟩
theorem lw_p25 : lw_okq (⟨"SnoresGoldModel", "claimedBy", "(I)I"⟩, 37) := ⟨⟨by decide +kernel, by decide +kernel⟩, List.mem_of_getElem? (i := 748) (by decide +kernel), List.mem_of_getElem? (i := 916) (by decide +kernel), List.mem_of_getElem? (i := 917) (by decide +kernel)⟩
theorem lw_p26 : lw_okq (⟨"SnoresGoldModel", "readOn", "(II)I"⟩, 37) := ⟨⟨by decide +kernel, by decide +kernel⟩, List.mem_of_getElem? (i := 748) (by decide +kernel), List.mem_of_getElem? (i := 934) (by decide +kernel), List.mem_of_getElem? (i := 935) (by decide +kernel)⟩
theorem lw_p27 : lw_okq (⟨"SnoresGoldModel", "deed", "(I)I"⟩, 37) := ⟨⟨by decide +kernel, by decide +kernel⟩, List.mem_of_getElem? (i := 748) (by decide +kernel), List.mem_of_getElem? (i := 938) (by decide +kernel), List.mem_of_getElem? (i := 939) (by decide +kernel)⟩
theorem lw_p28 : lw_okq (⟨"SnoresGoldModel", "close", "(II)I"⟩, 37) := ⟨⟨by decide +kernel, by decide +kernel⟩, List.mem_of_getElem? (i := 748) (by decide +kernel), List.mem_of_getElem? (i := 942) (by decide +kernel), List.mem_of_getElem? (i := 943) (by decide +kernel)⟩
theorem lw_p29 : lw_okq (⟨"SnoresGoldModel", "refusal", "()I"⟩, 37) := ⟨⟨by decide +kernel, by decide +kernel⟩, List.mem_of_getElem? (i := 748) (by decide +kernel), List.mem_of_getElem? (i := 953) (by decide +kernel), List.mem_of_getElem? (i := 954) (by decide +kernel)⟩
theorem lw_p30 : lw_okq (⟨"SnoresGoldModel", "keepNow", "()V"⟩, 37) := ⟨⟨by decide +kernel, by decide +kernel⟩, List.mem_of_getElem? (i := 748) (by decide +kernel), List.mem_of_getElem? (i := 957) (by decide +kernel), List.mem_of_getElem? (i := 958) (by decide +kernel)⟩
theorem lw_p31 : lw_okq (⟨"SnoresGoldModel", "goWeeks", "()V"⟩, 37) := ⟨⟨by decide +kernel, by decide +kernel⟩, List.mem_of_getElem? (i := 748) (by decide +kernel), List.mem_of_getElem? (i := 962) (by decide +kernel), List.mem_of_getElem? (i := 963) (by decide +kernel)⟩
def lw_privs_2 : List (MethodName × Nat) := [(⟨"SnoresGold", "heardIfSick", "(II)I"⟩, 10), (⟨"SnoresGold", "imageOf", "(I)LSnoresGold$Memory;"⟩, 10), (⟨"SnoresGold", "toldOfMan", "(II)I"⟩, 10), (⟨"SnoresGold", "toldOfCell", "(I)I"⟩, 10), (⟨"SnoresGold", "toldOfKnown", "(II)I"⟩, 10), (⟨"SnoresGoldModel", "isMan", "(I)Z"⟩, 37), (⟨"SnoresGoldModel", "knownBy", "(I)I"⟩, 37), (⟨"SnoresGoldModel", "isKnown", "(II)Z"⟩, 37), (⟨"SnoresGoldModel", "claimedCells", "()I"⟩, 37), (⟨"SnoresGoldModel", "claimedBy", "(I)I"⟩, 37), (⟨"SnoresGoldModel", "readOn", "(II)I"⟩, 37), (⟨"SnoresGoldModel", "deed", "(I)I"⟩, 37), (⟨"SnoresGoldModel", "close", "(II)I"⟩, 37), (⟨"SnoresGoldModel", "refusal", "()I"⟩, 37), (⟨"SnoresGoldModel", "keepNow", "()V"⟩, 37), (⟨"SnoresGoldModel", "goWeeks", "()V"⟩, 37)]
theorem lw_r2 : ∀ q ∈ lw_privs_2, lw_okq q := List.forall_mem_cons.mpr ⟨lw_p16, List.forall_mem_cons.mpr ⟨lw_p17, List.forall_mem_cons.mpr ⟨lw_p18, List.forall_mem_cons.mpr ⟨lw_p19, List.forall_mem_cons.mpr ⟨lw_p20, List.forall_mem_cons.mpr ⟨lw_p21, List.forall_mem_cons.mpr ⟨lw_p22, List.forall_mem_cons.mpr ⟨lw_p23, List.forall_mem_cons.mpr ⟨lw_p24, List.forall_mem_cons.mpr ⟨lw_p25, List.forall_mem_cons.mpr ⟨lw_p26, List.forall_mem_cons.mpr ⟨lw_p27, List.forall_mem_cons.mpr ⟨lw_p28, List.forall_mem_cons.mpr ⟨lw_p29, List.forall_mem_cons.mpr ⟨lw_p30, List.forall_mem_cons.mpr ⟨lw_p31, fun _ h => absurd h List.not_mem_nil⟩⟩⟩⟩⟩⟩⟩⟩⟩⟩⟩⟩⟩⟩⟩⟩
theorem lw_p32 : lw_okq (⟨"SnoresGoldModel", "whyNot", "(III)I"⟩, 37) := ⟨⟨by decide +kernel, by decide +kernel⟩, List.mem_of_getElem? (i := 748) (by decide +kernel), List.mem_of_getElem? (i := 966) (by decide +kernel), List.mem_of_getElem? (i := 967) (by decide +kernel)⟩
theorem lw_p33 : lw_okq (⟨"SnoresGoldModel", "canGo", "(II)Z"⟩, 37) := ⟨⟨by decide +kernel, by decide +kernel⟩, List.mem_of_getElem? (i := 748) (by decide +kernel), List.mem_of_getElem? (i := 970) (by decide +kernel), List.mem_of_getElem? (i := 971) (by decide +kernel)⟩
theorem lw_p34 : lw_okq (⟨"SnoresGoldModel", "happen", "(III)V"⟩, 37) := ⟨⟨by decide +kernel, by decide +kernel⟩, List.mem_of_getElem? (i := 748) (by decide +kernel), List.mem_of_getElem? (i := 981) (by decide +kernel), List.mem_of_getElem? (i := 982) (by decide +kernel)⟩
theorem lw_p35 : lw_okq (⟨"SnoresGoldModel", "claimHere", "(I)V"⟩, 37) := ⟨⟨by decide +kernel, by decide +kernel⟩, List.mem_of_getElem? (i := 748) (by decide +kernel), List.mem_of_getElem? (i := 985) (by decide +kernel), List.mem_of_getElem? (i := 986) (by decide +kernel)⟩
theorem lw_p36 : lw_okq (⟨"SnoresGoldModel", "passNight", "()V"⟩, 37) := ⟨⟨by decide +kernel, by decide +kernel⟩, List.mem_of_getElem? (i := 748) (by decide +kernel), List.mem_of_getElem? (i := 989) (by decide +kernel), List.mem_of_getElem? (i := 990) (by decide +kernel)⟩
theorem lw_p37 : lw_okq (⟨"SnoresGoldModel", "back", "(I)I"⟩, 37) := ⟨⟨by decide +kernel, by decide +kernel⟩, List.mem_of_getElem? (i := 748) (by decide +kernel), List.mem_of_getElem? (i := 993) (by decide +kernel), List.mem_of_getElem? (i := 994) (by decide +kernel)⟩
theorem lw_p38 : lw_okq (⟨"SnoresGoldModel", "ofMan", "(II)I"⟩, 37) := ⟨⟨by decide +kernel, by decide +kernel⟩, List.mem_of_getElem? (i := 748) (by decide +kernel), List.mem_of_getElem? (i := 1002) (by decide +kernel), List.mem_of_getElem? (i := 1003) (by decide +kernel)⟩
theorem lw_p39 : lw_okq (⟨"SnoresGoldModel", "snore", "(I)I"⟩, 37) := ⟨⟨by decide +kernel, by decide +kernel⟩, List.mem_of_getElem? (i := 748) (by decide +kernel), List.mem_of_getElem? (i := 1006) (by decide +kernel), List.mem_of_getElem? (i := 1007) (by decide +kernel)⟩
theorem lw_p40 : lw_okq (⟨"SnoresGoldModel", "snoreBy", "(II)I"⟩, 37) := ⟨⟨by decide +kernel, by decide +kernel⟩, List.mem_of_getElem? (i := 748) (by decide +kernel), List.mem_of_getElem? (i := 1010) (by decide +kernel), List.mem_of_getElem? (i := 1011) (by decide +kernel)⟩
theorem lw_p41 : lw_okq (⟨"SnoresGoldModel", "heardAt", "(II)I"⟩, 37) := ⟨⟨by decide +kernel, by decide +kernel⟩, List.mem_of_getElem? (i := 748) (by decide +kernel), List.mem_of_getElem? (i := 1018) (by decide +kernel), List.mem_of_getElem? (i := 1019) (by decide +kernel)⟩
theorem lw_p42 : lw_okq (⟨"SnoresGoldModel", "quietest", "(IIIZ)I"⟩, 37) := ⟨⟨by decide +kernel, by decide +kernel⟩, List.mem_of_getElem? (i := 748) (by decide +kernel), List.mem_of_getElem? (i := 1049) (by decide +kernel), List.mem_of_getElem? (i := 1050) (by decide +kernel)⟩
theorem lw_p43 : lw_okq (⟨"SnoresGoldModel", "quietAt", "(IIZ)I"⟩, 37) := ⟨⟨by decide +kernel, by decide +kernel⟩, List.mem_of_getElem? (i := 748) (by decide +kernel), List.mem_of_getElem? (i := 1053) (by decide +kernel), List.mem_of_getElem? (i := 1054) (by decide +kernel)⟩
theorem lw_p44 : lw_okq (⟨"SnoresGoldModel", "givenAway", "(II)I"⟩, 37) := ⟨⟨by decide +kernel, by decide +kernel⟩, List.mem_of_getElem? (i := 748) (by decide +kernel), List.mem_of_getElem? (i := 1057) (by decide +kernel), List.mem_of_getElem? (i := 1058) (by decide +kernel)⟩
theorem lw_p45 : lw_okq (⟨"SnoresGoldModel", "canBe", "(I)Z"⟩, 37) := ⟨⟨by decide +kernel, by decide +kernel⟩, List.mem_of_getElem? (i := 748) (by decide +kernel), List.mem_of_getElem? (i := 1077) (by decide +kernel), List.mem_of_getElem? (i := 1078) (by decide +kernel)⟩
theorem lw_p46 : lw_okq (⟨"SnoresGoldModel", "meant", "(II)I"⟩, 37) := ⟨⟨by decide +kernel, by decide +kernel⟩, List.mem_of_getElem? (i := 748) (by decide +kernel), List.mem_of_getElem? (i := 1081) (by decide +kernel), List.mem_of_getElem? (i := 1082) (by decide +kernel)⟩
theorem lw_p47 : lw_okq (⟨"SnoresGoldModel", "areTwos", "(I)Z"⟩, 37) := ⟨⟨by decide +kernel, by decide +kernel⟩, List.mem_of_getElem? (i := 748) (by decide +kernel), List.mem_of_getElem? (i := 1089) (by decide +kernel), List.mem_of_getElem? (i := 1090) (by decide +kernel)⟩
def lw_privs_3 : List (MethodName × Nat) := [(⟨"SnoresGoldModel", "whyNot", "(III)I"⟩, 37), (⟨"SnoresGoldModel", "canGo", "(II)Z"⟩, 37), (⟨"SnoresGoldModel", "happen", "(III)V"⟩, 37), (⟨"SnoresGoldModel", "claimHere", "(I)V"⟩, 37), (⟨"SnoresGoldModel", "passNight", "()V"⟩, 37), (⟨"SnoresGoldModel", "back", "(I)I"⟩, 37), (⟨"SnoresGoldModel", "ofMan", "(II)I"⟩, 37), (⟨"SnoresGoldModel", "snore", "(I)I"⟩, 37), (⟨"SnoresGoldModel", "snoreBy", "(II)I"⟩, 37), (⟨"SnoresGoldModel", "heardAt", "(II)I"⟩, 37), (⟨"SnoresGoldModel", "quietest", "(IIIZ)I"⟩, 37), (⟨"SnoresGoldModel", "quietAt", "(IIZ)I"⟩, 37), (⟨"SnoresGoldModel", "givenAway", "(II)I"⟩, 37), (⟨"SnoresGoldModel", "canBe", "(I)Z"⟩, 37), (⟨"SnoresGoldModel", "meant", "(II)I"⟩, 37), (⟨"SnoresGoldModel", "areTwos", "(I)Z"⟩, 37)]
theorem lw_r3 : ∀ q ∈ lw_privs_3, lw_okq q := List.forall_mem_cons.mpr ⟨lw_p32, List.forall_mem_cons.mpr ⟨lw_p33, List.forall_mem_cons.mpr ⟨lw_p34, List.forall_mem_cons.mpr ⟨lw_p35, List.forall_mem_cons.mpr ⟨lw_p36, List.forall_mem_cons.mpr ⟨lw_p37, List.forall_mem_cons.mpr ⟨lw_p38, List.forall_mem_cons.mpr ⟨lw_p39, List.forall_mem_cons.mpr ⟨lw_p40, List.forall_mem_cons.mpr ⟨lw_p41, List.forall_mem_cons.mpr ⟨lw_p42, List.forall_mem_cons.mpr ⟨lw_p43, List.forall_mem_cons.mpr ⟨lw_p44, List.forall_mem_cons.mpr ⟨lw_p45, List.forall_mem_cons.mpr ⟨lw_p46, List.forall_mem_cons.mpr ⟨lw_p47, fun _ h => absurd h List.not_mem_nil⟩⟩⟩⟩⟩⟩⟩⟩⟩⟩⟩⟩⟩⟩⟩⟩
theorem lw_p48 : lw_okq (⟨"SnoresGoldModel", "wouldLeave", "(II)Z"⟩, 37) := ⟨⟨by decide +kernel, by decide +kernel⟩, List.mem_of_getElem? (i := 748) (by decide +kernel), List.mem_of_getElem? (i := 1094) (by decide +kernel), List.mem_of_getElem? (i := 1095) (by decide +kernel)⟩
theorem lw_p49 : lw_okq (⟨"SnoresGoldModel", "halves", "(II)I"⟩, 37) := ⟨⟨by decide +kernel, by decide +kernel⟩, List.mem_of_getElem? (i := 748) (by decide +kernel), List.mem_of_getElem? (i := 1098) (by decide +kernel), List.mem_of_getElem? (i := 1099) (by decide +kernel)⟩
theorem lw_p50 : lw_okq (⟨"SnoresGoldModel", "goldOf", "(J)I"⟩, 37) := ⟨⟨by decide +kernel, by decide +kernel⟩, List.mem_of_getElem? (i := 748) (by decide +kernel), List.mem_of_getElem? (i := 1102) (by decide +kernel), List.mem_of_getElem? (i := 1103) (by decide +kernel)⟩
theorem lw_p51 : lw_okq (⟨"SnoresGoldModel", "fits", "(I)Z"⟩, 37) := ⟨⟨by decide +kernel, by decide +kernel⟩, List.mem_of_getElem? (i := 748) (by decide +kernel), List.mem_of_getElem? (i := 1118) (by decide +kernel), List.mem_of_getElem? (i := 1119) (by decide +kernel)⟩
theorem lw_p52 : lw_okq (⟨"SnoresGoldModel", "linesOn", "(I)I"⟩, 37) := ⟨⟨by decide +kernel, by decide +kernel⟩, List.mem_of_getElem? (i := 748) (by decide +kernel), List.mem_of_getElem? (i := 1131) (by decide +kernel), List.mem_of_getElem? (i := 1132) (by decide +kernel)⟩
theorem lw_p53 : lw_okq (⟨"SnoresGoldModel", "leftEnd", "(II)I"⟩, 37) := ⟨⟨by decide +kernel, by decide +kernel⟩, List.mem_of_getElem? (i := 748) (by decide +kernel), List.mem_of_getElem? (i := 1146) (by decide +kernel), List.mem_of_getElem? (i := 1147) (by decide +kernel)⟩
theorem lw_p54 : lw_okq (⟨"SnoresGoldModel", "rightEnd", "(II)I"⟩, 37) := ⟨⟨by decide +kernel, by decide +kernel⟩, List.mem_of_getElem? (i := 748) (by decide +kernel), List.mem_of_getElem? (i := 1150) (by decide +kernel), List.mem_of_getElem? (i := 1151) (by decide +kernel)⟩
theorem lw_p55 : lw_okq (⟨"SnoresGoldModel", "heardBy", "(II)I"⟩, 37) := ⟨⟨by decide +kernel, by decide +kernel⟩, List.mem_of_getElem? (i := 748) (by decide +kernel), List.mem_of_getElem? (i := 1160) (by decide +kernel), List.mem_of_getElem? (i := 1161) (by decide +kernel)⟩
theorem lw_p56 : lw_okq (⟨"SnoresGoldModel", "passAll", "(I)V"⟩, 37) := ⟨⟨by decide +kernel, by decide +kernel⟩, List.mem_of_getElem? (i := 748) (by decide +kernel), List.mem_of_getElem? (i := 1177) (by decide +kernel), List.mem_of_getElem? (i := 1178) (by decide +kernel)⟩
theorem lw_p57 : lw_okq (⟨"SnoresGoldModel", "pass", "(I)I"⟩, 37) := ⟨⟨by decide +kernel, by decide +kernel⟩, List.mem_of_getElem? (i := 748) (by decide +kernel), List.mem_of_getElem? (i := 1181) (by decide +kernel), List.mem_of_getElem? (i := 1182) (by decide +kernel)⟩
theorem lw_p58 : lw_okq (⟨"SnoresGoldModel", "passRow", "([II)V"⟩, 37) := ⟨⟨by decide +kernel, by decide +kernel⟩, List.mem_of_getElem? (i := 748) (by decide +kernel), List.mem_of_getElem? (i := 1185) (by decide +kernel), List.mem_of_getElem? (i := 1186) (by decide +kernel)⟩
theorem lw_p59 : lw_okq (⟨"SnoresGoldModel", "toldOf", "(II)I"⟩, 37) := ⟨⟨by decide +kernel, by decide +kernel⟩, List.mem_of_getElem? (i := 748) (by decide +kernel), List.mem_of_getElem? (i := 1202) (by decide +kernel), List.mem_of_getElem? (i := 1203) (by decide +kernel)⟩
def lw_privs_4 : List (MethodName × Nat) := [(⟨"SnoresGoldModel", "wouldLeave", "(II)Z"⟩, 37), (⟨"SnoresGoldModel", "halves", "(II)I"⟩, 37), (⟨"SnoresGoldModel", "goldOf", "(J)I"⟩, 37), (⟨"SnoresGoldModel", "fits", "(I)Z"⟩, 37), (⟨"SnoresGoldModel", "linesOn", "(I)I"⟩, 37), (⟨"SnoresGoldModel", "leftEnd", "(II)I"⟩, 37), (⟨"SnoresGoldModel", "rightEnd", "(II)I"⟩, 37), (⟨"SnoresGoldModel", "heardBy", "(II)I"⟩, 37), (⟨"SnoresGoldModel", "passAll", "(I)V"⟩, 37), (⟨"SnoresGoldModel", "pass", "(I)I"⟩, 37), (⟨"SnoresGoldModel", "passRow", "([II)V"⟩, 37), (⟨"SnoresGoldModel", "toldOf", "(II)I"⟩, 37)]
theorem lw_r4 : ∀ q ∈ lw_privs_4, lw_okq q := List.forall_mem_cons.mpr ⟨lw_p48, List.forall_mem_cons.mpr ⟨lw_p49, List.forall_mem_cons.mpr ⟨lw_p50, List.forall_mem_cons.mpr ⟨lw_p51, List.forall_mem_cons.mpr ⟨lw_p52, List.forall_mem_cons.mpr ⟨lw_p53, List.forall_mem_cons.mpr ⟨lw_p54, List.forall_mem_cons.mpr ⟨lw_p55, List.forall_mem_cons.mpr ⟨lw_p56, List.forall_mem_cons.mpr ⟨lw_p57, List.forall_mem_cons.mpr ⟨lw_p58, List.forall_mem_cons.mpr ⟨lw_p59, fun _ h => absurd h List.not_mem_nil⟩⟩⟩⟩⟩⟩⟩⟩⟩⟩⟩⟩
def lw_privs : List (MethodName × Nat) := lw_privs_1 ++ (lw_privs_2 ++ (lw_privs_3 ++ (lw_privs_4)))
def lw_tbl : List Cond := k2_sels lw_privs ++ tables_1
theorem lw_privs_ok : ∀ q ∈ lw_privs, lw_okq q := by
  show ∀ q ∈ lw_privs_1 ++ (lw_privs_2 ++ (lw_privs_3 ++ (lw_privs_4))), lw_okq q
  exact List.forall_mem_append.mpr ⟨lw_r1, List.forall_mem_append.mpr ⟨lw_r2, List.forall_mem_append.mpr ⟨lw_r3, lw_r4⟩⟩⟩
-- ===== end of PART A; then your names; then what follows =====
def RX0 : String := "SnoresGold$Camp"
def TX0 : u_T := fun k => match k with
  | 0 => ("SnoresGold$Camp", "goldOn", "[I", true)
  | 1 => ("SnoresGold$Camp", "claimers", "[I", true)
  | 2 => ("SnoresGold$Camp", "tents", "[I", true)
  | 3 => ("SnoresGold$Camp", "salts", "[I", true)
  | 4 => ("SnoresGold$Camp", "known", "[J", true)
  | 5 => ("SnoresGold$Camp", "snores", "[I", true)
  | 6 => ("SnoresGold$Camp", "men", "I", false)
  | 7 => ("SnoresGold$Camp", "withCold", "I", false)
  | 8 => ("SnoresGold$Camp", "whistling", "I", false)
  | _ => ("SnoresGold$Camp", "womans", "I", false)
def tyX0 : Nat → FieldType := fun k => match k with
  | 0 => .array .int
  | 1 => .array .int
  | 2 => .array .int
  | 3 => .array .int
  | 4 => .array .long
  | 5 => .array .int
  | 6 => .int
  | 7 => .int
  | 8 => .int
  | _ => .int
theorem nmX0 : ∀ a, a < 10 → ∀ b, b < 10 → a ≠ b → (TX0 a).2.1 ≠ (TX0 b).2.1 := by decide +kernel
theorem tyX0_ok : ∀ k, k < 10 → parseFieldDescriptor (TX0 k).2.2.1 = some (tyX0 k) := by decide +kernel
abbrev cX0_init : ByteArray := prog_2_method_1_code
def yX0_init : MethodName := ⟨RX0, "<init>", "()V"⟩
abbrev cX0_copyFrom : ByteArray := prog_2_method_2_code
def yX0_copyFrom : MethodName := ⟨RX0, "copyFrom", "(LSnoresGold$Camp;)V"⟩
abbrev cX0_goldOf : ByteArray := prog_2_method_3_code
def yX0_goldOf : MethodName := ⟨RX0, "goldOf", "(I)I"⟩
abbrev cX0_putGold : ByteArray := prog_2_method_4_code
def yX0_putGold : MethodName := ⟨RX0, "putGold", "(II)V"⟩
abbrev cX0_goldIn : ByteArray := prog_2_method_5_code
def yX0_goldIn : MethodName := ⟨RX0, "goldIn", "(J)I"⟩
abbrev cX0_claimerOf : ByteArray := prog_2_method_6_code
def yX0_claimerOf : MethodName := ⟨RX0, "claimerOf", "(I)I"⟩
abbrev cX0_setClaimer : ByteArray := prog_2_method_7_code
def yX0_setClaimer : MethodName := ⟨RX0, "setClaimer", "(II)V"⟩
abbrev cX0_countClaimedBy : ByteArray := prog_2_method_8_code
def yX0_countClaimedBy : MethodName := ⟨RX0, "countClaimedBy", "(I)I"⟩
abbrev cX0_countClaimed : ByteArray := prog_2_method_9_code
def yX0_countClaimed : MethodName := ⟨RX0, "countClaimed", "()I"⟩
abbrev cX0_cellsClaimedBy : ByteArray := prog_2_method_10_code
def yX0_cellsClaimedBy : MethodName := ⟨RX0, "cellsClaimedBy", "(I)J"⟩
abbrev cX0_menBits : ByteArray := prog_2_method_11_code
def yX0_menBits : MethodName := ⟨RX0, "menBits", "()I"⟩
abbrev cX0_countMen : ByteArray := prog_2_method_12_code
def yX0_countMen : MethodName := ⟨RX0, "countMen", "()I"⟩
abbrev cX0_isThere : ByteArray := prog_2_method_13_code
def yX0_isThere : MethodName := ⟨RX0, "isThere", "(I)Z"⟩
abbrev cX0_welcome : ByteArray := prog_2_method_14_code
def yX0_welcome : MethodName := ⟨RX0, "welcome", "(II)V"⟩
abbrev cX0_farewell : ByteArray := prog_2_method_15_code
def yX0_farewell : MethodName := ⟨RX0, "farewell", "(I)V"⟩
abbrev cX0_forgetMan : ByteArray := prog_2_method_16_code
def yX0_forgetMan : MethodName := ⟨RX0, "forgetMan", "(I)V"⟩
abbrev cX0_tentOf : ByteArray := prog_2_method_17_code
def yX0_tentOf : MethodName := ⟨RX0, "tentOf", "(I)I"⟩
abbrev cX0_saltOf : ByteArray := prog_2_method_18_code
def yX0_saltOf : MethodName := ⟨RX0, "saltOf", "(I)I"⟩
abbrev cX0_allSalt : ByteArray := prog_2_method_19_code
def yX0_allSalt : MethodName := ⟨RX0, "allSalt", "()I"⟩
abbrev cX0_womansShare : ByteArray := prog_2_method_20_code
def yX0_womansShare : MethodName := ⟨RX0, "womansShare", "()I"⟩
abbrev cX0_knownTo : ByteArray := prog_2_method_21_code
def yX0_knownTo : MethodName := ⟨RX0, "knownTo", "(I)J"⟩
abbrev cX0_isKnownTo : ByteArray := prog_2_method_22_code
def yX0_isKnownTo : MethodName := ⟨RX0, "isKnownTo", "(II)Z"⟩
abbrev cX0_setKnown : ByteArray := prog_2_method_23_code
def yX0_setKnown : MethodName := ⟨RX0, "setKnown", "(IIZ)V"⟩
abbrev cX0_hasCold : ByteArray := prog_2_method_24_code
def yX0_hasCold : MethodName := ⟨RX0, "hasCold", "(I)Z"⟩
abbrev cX0_isWhistling : ByteArray := prog_2_method_25_code
def yX0_isWhistling : MethodName := ⟨RX0, "isWhistling", "(I)Z"⟩
abbrev cX0_snoreOf : ByteArray := prog_2_method_26_code
def yX0_snoreOf : MethodName := ⟨RX0, "snoreOf", "(I)I"⟩
abbrev cX0_snoreIf : ByteArray := prog_2_method_27_code
def yX0_snoreIf : MethodName := ⟨RX0, "snoreIf", "(IZ)I"⟩
abbrev cX0_listen : ByteArray := prog_2_method_28_code
def yX0_listen : MethodName := ⟨RX0, "listen", "()V"⟩
abbrev cX0_heardAt : ByteArray := prog_2_method_29_code
def yX0_heardAt : MethodName := ⟨RX0, "heardAt", "(I)I"⟩
abbrev cX0_heardWithout : ByteArray := prog_2_method_30_code
def yX0_heardWithout : MethodName := ⟨RX0, "heardWithout", "(II)I"⟩
abbrev cX0_heardByOthers : ByteArray := prog_2_method_31_code
def yX0_heardByOthers : MethodName := ⟨RX0, "heardByOthers", "(II)I"⟩
abbrev cX0_twiceShare : ByteArray := prog_2_method_32_code
def yX0_twiceShare : MethodName := ⟨RX0, "twiceShare", "(II)I"⟩
abbrev cX0_reasonAgainst : ByteArray := prog_2_method_33_code
def yX0_reasonAgainst : MethodName := ⟨RX0, "reasonAgainst", "(II)I"⟩
abbrev cX0_perform : ByteArray := prog_2_method_34_code
def yX0_perform : MethodName := ⟨RX0, "perform", "(II)V"⟩
abbrev cX0_stepFrom : ByteArray := prog_2_method_35_code
def yX0_stepFrom : MethodName := ⟨RX0, "stepFrom", "(II)I"⟩
abbrev cX0_passNight : ByteArray := prog_2_method_36_code
def yX0_passNight : MethodName := ⟨RX0, "passNight", "()V"⟩
def RX1 : String := "SnoresGold$Memory"
def TX1 : u_T := fun k => match k with
  | 0 => ("SnoresGold$Memory", "camp", "LSnoresGold$Camp;", true)
  | 1 => ("SnoresGold$Memory", "tales", "LSnoresGold$Tales;", true)
  | 2 => ("SnoresGold$Memory", "sights", "LSnoresGold$Sights;", true)
  | _ => ("SnoresGold$Memory", "kept", "Z", false)
def tyX1 : Nat → FieldType := fun k => match k with
  | 0 => .object "SnoresGold$Camp"
  | 1 => .object "SnoresGold$Tales"
  | 2 => .object "SnoresGold$Sights"
  | _ => .boolean
theorem nmX1 : ∀ a, a < 4 → ∀ b, b < 4 → a ≠ b → (TX1 a).2.1 ≠ (TX1 b).2.1 := by decide +kernel
theorem tyX1_ok : ∀ k, k < 4 → parseFieldDescriptor (TX1 k).2.2.1 = some (tyX1 k) := by decide +kernel
abbrev cX1_init : ByteArray := prog_3_method_1_code
def yX1_init : MethodName := ⟨RX1, "<init>", "()V"⟩
abbrev cX1_copyFrom : ByteArray := prog_3_method_2_code
def yX1_copyFrom : MethodName := ⟨RX1, "copyFrom", "(LSnoresGold$Memory;)V"⟩
abbrev cX1_markKept : ByteArray := prog_3_method_3_code
def yX1_markKept : MethodName := ⟨RX1, "markKept", "()V"⟩
abbrev cX1_isKept : ByteArray := prog_3_method_4_code
def yX1_isKept : MethodName := ⟨RX1, "isKept", "()Z"⟩
def RX2 : String := "SnoresGold$Pad"
def TX2 : u_T := fun k => match k with
  | 0 => ("SnoresGold$Pad", "signs", "[I", true)
  | _ => ("SnoresGold$Pad", "count", "I", false)
def tyX2 : Nat → FieldType := fun k => match k with
  | 0 => .array .int
  | _ => .int
theorem nmX2 : ∀ a, a < 2 → ∀ b, b < 2 → a ≠ b → (TX2 a).2.1 ≠ (TX2 b).2.1 := by decide +kernel
theorem tyX2_ok : ∀ k, k < 2 → parseFieldDescriptor (TX2 k).2.2.1 = some (tyX2 k) := by decide +kernel
abbrev cX2_init : ByteArray := prog_4_method_1_code
def yX2_init : MethodName := ⟨RX2, "<init>", "()V"⟩
abbrev cX2_size : ByteArray := prog_4_method_2_code
def yX2_size : MethodName := ⟨RX2, "size", "()I"⟩
abbrev cX2_clear : ByteArray := prog_4_method_3_code
def yX2_clear : MethodName := ⟨RX2, "clear", "()V"⟩
abbrev cX2_add : ByteArray := prog_4_method_4_code
def yX2_add : MethodName := ⟨RX2, "add", "(I)Z"⟩
abbrev cX2_signAt : ByteArray := prog_4_method_5_code
def yX2_signAt : MethodName := ⟨RX2, "signAt", "(I)I"⟩
abbrev cX2_firstFault : ByteArray := prog_4_method_6_code
def yX2_firstFault : MethodName := ⟨RX2, "firstFault", "()I"⟩
abbrev cX2_isNight : ByteArray := prog_4_method_7_code
def yX2_isNight : MethodName := ⟨RX2, "isNight", "(I)Z"⟩
abbrev cX2_manBy : ByteArray := prog_4_method_8_code
def yX2_manBy : MethodName := ⟨RX2, "manBy", "(I)I"⟩
abbrev cX2_deedBy : ByteArray := prog_4_method_9_code
def yX2_deedBy : MethodName := ⟨RX2, "deedBy", "(I)I"⟩
abbrev cX2_isDeedOfMan : ByteArray := prog_4_method_10_code
def yX2_isDeedOfMan : MethodName := ⟨RX2, "isDeedOfMan", "(I)Z"⟩
def RX3 : String := "SnoresGold$Sights"
def TX3 : u_T := fun k => match k with
  | 0 => ("SnoresGold$Sights", "fitting", "J", false)
  | _ => ("SnoresGold$Sights", "count", "I", false)
def tyX3 : Nat → FieldType := fun k => match k with
  | 0 => .long
  | _ => .int
theorem nmX3 : ∀ a, a < 2 → ∀ b, b < 2 → a ≠ b → (TX3 a).2.1 ≠ (TX3 b).2.1 := by decide +kernel
theorem tyX3_ok : ∀ k, k < 2 → parseFieldDescriptor (TX3 k).2.2.1 = some (tyX3 k) := by decide +kernel
abbrev cX3_init : ByteArray := prog_5_method_1_code
def yX3_init : MethodName := ⟨RX3, "<init>", "()V"⟩
abbrev cX3_copyFrom : ByteArray := prog_5_method_2_code
def yX3_copyFrom : MethodName := ⟨RX3, "copyFrom", "(LSnoresGold$Sights;)V"⟩
abbrev cX3_size : ByteArray := prog_5_method_3_code
def yX3_size : MethodName := ⟨RX3, "size", "()I"⟩
abbrev cX3_clear : ByteArray := prog_5_method_4_code
def yX3_clear : MethodName := ⟨RX3, "clear", "()V"⟩
abbrev cX3_add : ByteArray := prog_5_method_5_code
def yX3_add : MethodName := ⟨RX3, "add", "(IZ)Z"⟩
abbrev cX3_countFitting : ByteArray := prog_5_method_6_code
def yX3_countFitting : MethodName := ⟨RX3, "countFitting", "()I"⟩
abbrev cX3_countThrough : ByteArray := prog_5_method_7_code
def yX3_countThrough : MethodName := ⟨RX3, "countThrough", "(I)I"⟩
abbrev cX3_fittingAt : ByteArray := prog_5_method_8_code
def yX3_fittingAt : MethodName := ⟨RX3, "fittingAt", "(I)I"⟩
abbrev cX3_lodesThrough : ByteArray := prog_5_method_9_code
def yX3_lodesThrough : MethodName := ⟨RX3, "lodesThrough", "(I)J"⟩
def RX4 : String := "SnoresGold$Tales"
def TX4 : u_T := fun k => match k with
  | 0 => ("SnoresGold$Tales", "tellers", "[I", true)
  | 1 => ("SnoresGold$Tales", "cells", "[I", true)
  | 2 => ("SnoresGold$Tales", "toldGolden", "I", false)
  | _ => ("SnoresGold$Tales", "count", "I", false)
def tyX4 : Nat → FieldType := fun k => match k with
  | 0 => .array .int
  | 1 => .array .int
  | 2 => .int
  | _ => .int
theorem nmX4 : ∀ a, a < 4 → ∀ b, b < 4 → a ≠ b → (TX4 a).2.1 ≠ (TX4 b).2.1 := by decide +kernel
theorem tyX4_ok : ∀ k, k < 4 → parseFieldDescriptor (TX4 k).2.2.1 = some (tyX4 k) := by decide +kernel
abbrev cX4_init : ByteArray := prog_6_method_1_code
def yX4_init : MethodName := ⟨RX4, "<init>", "()V"⟩
abbrev cX4_copyFrom : ByteArray := prog_6_method_2_code
def yX4_copyFrom : MethodName := ⟨RX4, "copyFrom", "(LSnoresGold$Tales;)V"⟩
abbrev cX4_size : ByteArray := prog_6_method_3_code
def yX4_size : MethodName := ⟨RX4, "size", "()I"⟩
abbrev cX4_clear : ByteArray := prog_6_method_4_code
def yX4_clear : MethodName := ⟨RX4, "clear", "()V"⟩
abbrev cX4_add : ByteArray := prog_6_method_5_code
def yX4_add : MethodName := ⟨RX4, "add", "(IIZ)Z"⟩
abbrev cX4_fewestLiars : ByteArray := prog_6_method_6_code
def yX4_fewestLiars : MethodName := ⟨RX4, "fewestLiars", "()I"⟩
abbrev cX4_holdTogether : ByteArray := prog_6_method_7_code
def yX4_holdTogether : MethodName := ⟨RX4, "holdTogether", "(I)Z"⟩
abbrev cX4_isGoldBy : ByteArray := prog_6_method_8_code
def yX4_isGoldBy : MethodName := ⟨RX4, "isGoldBy", "(II)Z"⟩
def RX5 : String := "SnoresGold$Week"
def TX5 : u_T := fun k => match k with
  | 0 => ("SnoresGold$Week", "acts", "I", false)
  | 1 => ("SnoresGold$Week", "bad", "I", false)
  | 2 => ("SnoresGold$Week", "reason", "I", false)
  | 3 => ("SnoresGold$Week", "firstEmpty", "I", false)
  | _ => ("SnoresGold$Week", "empty", "I", false)
def tyX5 : Nat → FieldType := fun k => match k with
  | 0 => .int
  | 1 => .int
  | 2 => .int
  | 3 => .int
  | _ => .int
theorem nmX5 : ∀ a, a < 5 → ∀ b, b < 5 → a ≠ b → (TX5 a).2.1 ≠ (TX5 b).2.1 := by decide +kernel
theorem tyX5_ok : ∀ k, k < 5 → parseFieldDescriptor (TX5 k).2.2.1 = some (tyX5 k) := by decide +kernel
abbrev cX5_init : ByteArray := prog_7_method_1_code
def yX5_init : MethodName := ⟨RX5, "<init>", "()V"⟩
abbrev cX5_play : ByteArray := prog_7_method_2_code
def yX5_play : MethodName := ⟨RX5, "play", "(LSnoresGold$Pad;LSnoresGold$Camp;)V"⟩
abbrev cX5_act : ByteArray := prog_7_method_3_code
def yX5_act : MethodName := ⟨RX5, "act", "(LSnoresGold$Camp;II)V"⟩
abbrev cX5_countActs : ByteArray := prog_7_method_4_code
def yX5_countActs : MethodName := ⟨RX5, "countActs", "()I"⟩
abbrev cX5_badAct : ByteArray := prog_7_method_5_code
def yX5_badAct : MethodName := ⟨RX5, "badAct", "()I"⟩
abbrev cX5_badReason : ByteArray := prog_7_method_6_code
def yX5_badReason : MethodName := ⟨RX5, "badReason", "()I"⟩
abbrev cX5_firstEmptyClaim : ByteArray := prog_7_method_7_code
def yX5_firstEmptyClaim : MethodName := ⟨RX5, "firstEmptyClaim", "()I"⟩
abbrev cX5_countEmptyClaims : ByteArray := prog_7_method_8_code
def yX5_countEmptyClaims : MethodName := ⟨RX5, "countEmptyClaims", "()I"⟩
def RX6 : String := "SnoresGold"
def TX6 : u_T := fun k => match k with
  | 0 => ("SnoresGold", "now", "LSnoresGold$Memory;", true)
  | 1 => ("SnoresGold", "imageZero", "LSnoresGold$Memory;", true)
  | 2 => ("SnoresGold", "imageOne", "LSnoresGold$Memory;", true)
  | 3 => ("SnoresGold", "pad", "LSnoresGold$Pad;", true)
  | 4 => ("SnoresGold", "week", "LSnoresGold$Week;", true)
  | 5 => ("SnoresGold", "ahead", "LSnoresGold$Camp;", true)
  | 6 => ("SnoresGold", "digits", "[I", true)
  | 7 => ("SnoresGold", "leads", "[I", true)
  | 8 => ("SnoresGold", "heardCalm", "[I", true)
  | _ => ("SnoresGold", "heardCold", "[I", true)
def tyX6 : Nat → FieldType := fun k => match k with
  | 0 => .object "SnoresGold$Memory"
  | 1 => .object "SnoresGold$Memory"
  | 2 => .object "SnoresGold$Memory"
  | 3 => .object "SnoresGold$Pad"
  | 4 => .object "SnoresGold$Week"
  | 5 => .object "SnoresGold$Camp"
  | 6 => .array .int
  | 7 => .array .int
  | 8 => .array .int
  | _ => .array .int
theorem nmX6 : ∀ a, a < 10 → ∀ b, b < 10 → a ≠ b → (TX6 a).2.1 ≠ (TX6 b).2.1 := by decide +kernel
theorem tyX6_ok : ∀ k, k < 10 → parseFieldDescriptor (TX6 k).2.2.1 = some (tyX6 k) := by decide +kernel
abbrev cX6_init : ByteArray := prog_1_method_1_code
def yX6_init : MethodName := ⟨RX6, "<init>", "()V"⟩
abbrev cX6_gold : ByteArray := prog_1_method_2_code
def yX6_gold : MethodName := ⟨RX6, "gold", "(II)I"⟩
abbrev cX6_man : ByteArray := prog_1_method_3_code
def yX6_man : MethodName := ⟨RX6, "man", "(II)I"⟩
abbrev cX6_leave : ByteArray := prog_1_method_4_code
def yX6_leave : MethodName := ⟨RX6, "leave", "(I)I"⟩
abbrev cX6_know : ByteArray := prog_1_method_5_code
def yX6_know : MethodName := ⟨RX6, "know", "(IIZ)I"⟩
abbrev cX6_claim : ByteArray := prog_1_method_6_code
def yX6_claim : MethodName := ⟨RX6, "claim", "(II)I"⟩
abbrev cX6_say : ByteArray := prog_1_method_7_code
def yX6_say : MethodName := ⟨RX6, "say", "(I)I"⟩
abbrev cX6_wipe : ByteArray := prog_1_method_8_code
def yX6_wipe : MethodName := ⟨RX6, "wipe", "()I"⟩
abbrev cX6_fault : ByteArray := prog_1_method_9_code
def yX6_fault : MethodName := ⟨RX6, "fault", "()I"⟩
abbrev cX6_judge : ByteArray := prog_1_method_10_code
def yX6_judge : MethodName := ⟨RX6, "judge", "(I)I"⟩
abbrev cX6_behind : ByteArray := prog_1_method_11_code
def yX6_behind : MethodName := ⟨RX6, "behind", "(II)I"⟩
abbrev cX6_heard : ByteArray := prog_1_method_12_code
def yX6_heard : MethodName := ⟨RX6, "heard", "(I)I"⟩
abbrev cX6_whose : ByteArray := prog_1_method_13_code
def yX6_whose : MethodName := ⟨RX6, "whose", "(I)I"⟩
abbrev cX6_nothing : ByteArray := prog_1_method_14_code
def yX6_nothing : MethodName := ⟨RX6, "nothing", "(I)I"⟩
abbrev cX6_done : ByteArray := prog_1_method_15_code
def yX6_done : MethodName := ⟨RX6, "done", "()I"⟩
abbrev cX6_loudest : ByteArray := prog_1_method_16_code
def yX6_loudest : MethodName := ⟨RX6, "loudest", "(I)I"⟩
abbrev cX6_playWeeks : ByteArray := prog_1_method_17_code
def yX6_playWeeks : MethodName := ⟨RX6, "playWeeks", "()I"⟩
abbrev cX6_sleep : ByteArray := prog_1_method_18_code
def yX6_sleep : MethodName := ⟨RX6, "sleep", "(III)I"⟩
abbrev cX6_hide : ByteArray := prog_1_method_19_code
def yX6_hide : MethodName := ⟨RX6, "hide", "(III)I"⟩
abbrev cX6_tale : ByteArray := prog_1_method_20_code
def yX6_tale : MethodName := ⟨RX6, "tale", "(IIZ)I"⟩
abbrev cX6_hush : ByteArray := prog_1_method_21_code
def yX6_hush : MethodName := ⟨RX6, "hush", "()I"⟩
abbrev cX6_liars : ByteArray := prog_1_method_22_code
def yX6_liars : MethodName := ⟨RX6, "liars", "(I)I"⟩
abbrev cX6_leaves : ByteArray := prog_1_method_23_code
def yX6_leaves : MethodName := ⟨RX6, "leaves", "(I)I"⟩
abbrev cX6_refusalOfSteps : ByteArray := prog_1_method_24_code
def yX6_refusalOfSteps : MethodName := ⟨RX6, "refusalOfSteps", "(III)I"⟩
abbrev cX6_quietest : ByteArray := prog_1_method_25_code
def yX6_quietest : MethodName := ⟨RX6, "quietest", "(IIIZ)I"⟩
abbrev cX6_readDigits : ByteArray := prog_1_method_26_code
def yX6_readDigits : MethodName := ⟨RX6, "readDigits", "(I)V"⟩
abbrev cX6_digitAt : ByteArray := prog_1_method_27_code
def yX6_digitAt : MethodName := ⟨RX6, "digitAt", "(I)I"⟩
abbrev cX6_digitsAreTwos : ByteArray := prog_1_method_28_code
def yX6_digitsAreTwos : MethodName := ⟨RX6, "digitsAreTwos", "()Z"⟩
abbrev cX6_wouldRatherShare : ByteArray := prog_1_method_29_code
def yX6_wouldRatherShare : MethodName := ⟨RX6, "wouldRatherShare", "(II)Z"⟩
abbrev cX6_seen : ByteArray := prog_1_method_30_code
def yX6_seen : MethodName := ⟨RX6, "seen", "(IZ)I"⟩
abbrev cX6_forget : ByteArray := prog_1_method_31_code
def yX6_forget : MethodName := ⟨RX6, "forget", "()I"⟩
abbrev cX6_lodes : ByteArray := prog_1_method_32_code
def yX6_lodes : MethodName := ⟨RX6, "lodes", "(I)I"⟩
abbrev cX6_odds : ByteArray := prog_1_method_33_code
def yX6_odds : MethodName := ⟨RX6, "odds", "(II)J"⟩
abbrev cX6_next : ByteArray := prog_1_method_34_code
def yX6_next : MethodName := ⟨RX6, "next", "(I)I"⟩
abbrev cX6_turns : ByteArray := prog_1_method_35_code
def yX6_turns : MethodName := ⟨RX6, "turns", "(II)I"⟩
abbrev cX6_colds : ByteArray := prog_1_method_36_code
def yX6_colds : MethodName := ⟨RX6, "colds", "(IIII)J"⟩
abbrev cX6_year : ByteArray := prog_1_method_37_code
def yX6_year : MethodName := ⟨RX6, "year", "(III)I"⟩
abbrev cX6_image : ByteArray := prog_1_method_38_code
def yX6_image : MethodName := ⟨RX6, "image", "(I)I"⟩
abbrev cX6_restore : ByteArray := prog_1_method_39_code
def yX6_restore : MethodName := ⟨RX6, "restore", "(I)I"⟩
abbrev cX6_told : ByteArray := prog_1_method_40_code
def yX6_told : MethodName := ⟨RX6, "told", "(I)I"⟩
abbrev cX6_toldOfMan : ByteArray := prog_1_method_41_code
def yX6_toldOfMan : MethodName := ⟨RX6, "toldOfMan", "(II)I"⟩
abbrev cX6_toldOfCell : ByteArray := prog_1_method_42_code
def yX6_toldOfCell : MethodName := ⟨RX6, "toldOfCell", "(I)I"⟩
abbrev cX6_toldOfKnown : ByteArray := prog_1_method_43_code
def yX6_toldOfKnown : MethodName := ⟨RX6, "toldOfKnown", "(II)I"⟩
abbrev cX6_imageOf : ByteArray := prog_1_method_44_code
def yX6_imageOf : MethodName := ⟨RX6, "imageOf", "(I)LSnoresGold$Memory;"⟩
abbrev cX6_leadAt : ByteArray := prog_1_method_45_code
def yX6_leadAt : MethodName := ⟨RX6, "leadAt", "(I)I"⟩
abbrev cX6_findLeads : ByteArray := prog_1_method_46_code
def yX6_findLeads : MethodName := ⟨RX6, "findLeads", "(I)V"⟩
abbrev cX6_hearWithAndWithoutCold : ByteArray := prog_1_method_47_code
def yX6_hearWithAndWithoutCold : MethodName := ⟨RX6, "hearWithAndWithoutCold", "(I)V"⟩
abbrev cX6_heardIfSick : ByteArray := prog_1_method_48_code
def yX6_heardIfSick : MethodName := ⟨RX6, "heardIfSick", "(II)I"⟩
abbrev cX6_weightOf : ByteArray := prog_1_method_49_code
def yX6_weightOf : MethodName := ⟨RX6, "weightOf", "(III)J"⟩
abbrev cX6_power : ByteArray := prog_1_method_50_code
def yX6_power : MethodName := ⟨RX6, "power", "(II)J"⟩
abbrev cX6_partOfFraction : ByteArray := prog_1_method_51_code
def yX6_partOfFraction : MethodName := ⟨RX6, "partOfFraction", "(JJI)J"⟩
abbrev cX6_greatestDivisor : ByteArray := prog_1_method_52_code
def yX6_greatestDivisor : MethodName := ⟨RX6, "greatestDivisor", "(JJ)J"⟩
abbrev cX6_isWithin : ByteArray := prog_1_method_53_code
def yX6_isWithin : MethodName := ⟨RX6, "isWithin", "(III)Z"⟩
abbrev cX6_isZeroOrOne : ByteArray := prog_1_method_54_code
def yX6_isZeroOrOne : MethodName := ⟨RX6, "isZeroOrOne", "(I)Z"⟩
abbrev cX6_isCell : ByteArray := prog_1_method_55_code
def yX6_isCell : MethodName := ⟨RX6, "isCell", "(I)Z"⟩
abbrev cX6_isManNumber : ByteArray := prog_1_method_56_code
def yX6_isManNumber : MethodName := ⟨RX6, "isManNumber", "(I)Z"⟩
abbrev cX6_hasBit : ByteArray := prog_1_method_57_code
def yX6_hasBit : MethodName := ⟨RX6, "hasBit", "(II)Z"⟩
abbrev cX6_columnOf : ByteArray := prog_1_method_58_code
def yX6_columnOf : MethodName := ⟨RX6, "columnOf", "(I)I"⟩
abbrev cX6_rowOf : ByteArray := prog_1_method_59_code
def yX6_rowOf : MethodName := ⟨RX6, "rowOf", "(I)I"⟩
abbrev cX6_distance : ByteArray := prog_1_method_60_code
def yX6_distance : MethodName := ⟨RX6, "distance", "(II)I"⟩
def RX7 : String := "SnoresGoldModel"
def TX7 : u_T := fun k => match k with
  | 0 => ("SnoresGoldModel", "ore", "[I", true)
  | 1 => ("SnoresGoldModel", "owner", "[I", true)
  | 2 => ("SnoresGoldModel", "men", "I", false)
  | 3 => ("SnoresGoldModel", "tent", "[I", true)
  | 4 => ("SnoresGoldModel", "knows", "[J", true)
  | 5 => ("SnoresGoldModel", "cold", "[I", true)
  | 6 => ("SnoresGoldModel", "whistles", "[I", true)
  | 7 => ("SnoresGoldModel", "salt", "[I", true)
  | 8 => ("SnoresGoldModel", "taleMan", "[I", true)
  | 9 => ("SnoresGoldModel", "taleCell", "[I", true)
  | 10 => ("SnoresGoldModel", "taleGold", "[I", true)
  | 11 => ("SnoresGoldModel", "tales", "I", false)
  | 12 => ("SnoresGoldModel", "sightCell", "[I", true)
  | 13 => ("SnoresGoldModel", "sightIs", "[I", true)
  | 14 => ("SnoresGoldModel", "sights", "I", false)
  | 15 => ("SnoresGoldModel", "pad", "[I", true)
  | 16 => ("SnoresGoldModel", "padMany", "I", false)
  | 17 => ("SnoresGoldModel", "act", "[I", true)
  | 18 => ("SnoresGoldModel", "who", "[I", true)
  | 19 => ("SnoresGoldModel", "way", "[I", true)
  | 20 => ("SnoresGoldModel", "acts", "I", false)
  | 21 => ("SnoresGoldModel", "womans", "I", false)
  | 22 => ("SnoresGoldModel", "firstNothing", "I", false)
  | 23 => ("SnoresGoldModel", "nothingMany", "I", false)
  | 24 => ("SnoresGoldModel", "actNow", "I", false)
  | 25 => ("SnoresGoldModel", "had", "[I", true)
  | 26 => ("SnoresGoldModel", "hadKnown", "[J", true)
  | 27 => ("SnoresGoldModel", "badAct", "I", false)
  | 28 => ("SnoresGoldModel", "badWhy", "I", false)
  | 29 => ("SnoresGoldModel", "with", "[I", true)
  | 30 => ("SnoresGoldModel", "digit", "[I", true)
  | 31 => ("SnoresGoldModel", "more", "[I", true)
  | 32 => ("SnoresGoldModel", "kept", "[I", true)
  | 33 => ("SnoresGoldModel", "keptKnown", "[J", true)
  | 34 => ("SnoresGoldModel", "isKept", "[Z", true)
  | 35 => ("SnoresGoldModel", "keptAt", "I", false)
  | _ => ("SnoresGoldModel", "isWriting", "Z", false)
def tyX7 : Nat → FieldType := fun k => match k with
  | 0 => .array .int
  | 1 => .array .int
  | 2 => .int
  | 3 => .array .int
  | 4 => .array .long
  | 5 => .array .int
  | 6 => .array .int
  | 7 => .array .int
  | 8 => .array .int
  | 9 => .array .int
  | 10 => .array .int
  | 11 => .int
  | 12 => .array .int
  | 13 => .array .int
  | 14 => .int
  | 15 => .array .int
  | 16 => .int
  | 17 => .array .int
  | 18 => .array .int
  | 19 => .array .int
  | 20 => .int
  | 21 => .int
  | 22 => .int
  | 23 => .int
  | 24 => .int
  | 25 => .array .int
  | 26 => .array .long
  | 27 => .int
  | 28 => .int
  | 29 => .array .int
  | 30 => .array .int
  | 31 => .array .int
  | 32 => .array .int
  | 33 => .array .long
  | 34 => .array .boolean
  | 35 => .int
  | _ => .boolean
theorem nmX7 : ∀ a, a < 37 → ∀ b, b < 37 → a ≠ b → (TX7 a).2.1 ≠ (TX7 b).2.1 := by decide +kernel
theorem tyX7_ok : ∀ k, k < 37 → parseFieldDescriptor (TX7 k).2.2.1 = some (tyX7 k) := by decide +kernel
abbrev cX7_init : ByteArray := prog_9_method_1_code
def yX7_init : MethodName := ⟨RX7, "<init>", "()V"⟩
abbrev cX7_in : ByteArray := prog_9_method_3_code
def yX7_in : MethodName := ⟨RX7, "in", "(JJJ)Z"⟩
abbrev cX7_ones : ByteArray := prog_9_method_4_code
def yX7_ones : MethodName := ⟨RX7, "ones", "(I)I"⟩
abbrev cX7_over : ByteArray := prog_9_method_5_code
def yX7_over : MethodName := ⟨RX7, "over", "(I)I"⟩
abbrev cX7_isCell : ByteArray := prog_9_method_6_code
def yX7_isCell : MethodName := ⟨RX7, "isCell", "(I)Z"⟩
abbrev cX7_apart : ByteArray := prog_9_method_7_code
def yX7_apart : MethodName := ⟨RX7, "apart", "(II)I"⟩
abbrev cX7_isMan : ByteArray := prog_9_method_8_code
def yX7_isMan : MethodName := ⟨RX7, "isMan", "(I)Z"⟩
abbrev cX7_isKnown : ByteArray := prog_9_method_9_code
def yX7_isKnown : MethodName := ⟨RX7, "isKnown", "(II)Z"⟩
abbrev cX7_gold : ByteArray := prog_9_method_10_code
def yX7_gold : MethodName := ⟨RX7, "gold", "(II)I"⟩
abbrev cX7_man : ByteArray := prog_9_method_11_code
def yX7_man : MethodName := ⟨RX7, "man", "(II)I"⟩
abbrev cX7_leave : ByteArray := prog_9_method_12_code
def yX7_leave : MethodName := ⟨RX7, "leave", "(I)I"⟩
abbrev cX7_know : ByteArray := prog_9_method_13_code
def yX7_know : MethodName := ⟨RX7, "know", "(IIZ)I"⟩
abbrev cX7_knownBy : ByteArray := prog_9_method_14_code
def yX7_knownBy : MethodName := ⟨RX7, "knownBy", "(I)I"⟩
abbrev cX7_claimedBy : ByteArray := prog_9_method_15_code
def yX7_claimedBy : MethodName := ⟨RX7, "claimedBy", "(I)I"⟩
abbrev cX7_claimedCells : ByteArray := prog_9_method_16_code
def yX7_claimedCells : MethodName := ⟨RX7, "claimedCells", "()I"⟩
abbrev cX7_claim : ByteArray := prog_9_method_17_code
def yX7_claim : MethodName := ⟨RX7, "claim", "(II)I"⟩
abbrev cX7_say : ByteArray := prog_9_method_18_code
def yX7_say : MethodName := ⟨RX7, "say", "(I)I"⟩
abbrev cX7_wipe : ByteArray := prog_9_method_19_code
def yX7_wipe : MethodName := ⟨RX7, "wipe", "()I"⟩
abbrev cX7_close : ByteArray := prog_9_method_20_code
def yX7_close : MethodName := ⟨RX7, "close", "(II)I"⟩
abbrev cX7_deed : ByteArray := prog_9_method_21_code
def yX7_deed : MethodName := ⟨RX7, "deed", "(I)I"⟩
abbrev cX7_readOn : ByteArray := prog_9_method_22_code
def yX7_readOn : MethodName := ⟨RX7, "readOn", "(II)I"⟩
abbrev cX7_fault : ByteArray := prog_9_method_23_code
def yX7_fault : MethodName := ⟨RX7, "fault", "()I"⟩
abbrev cX7_eastBy : ByteArray := prog_9_method_24_code
def yX7_eastBy : MethodName := ⟨RX7, "eastBy", "(I)I"⟩
abbrev cX7_northBy : ByteArray := prog_9_method_25_code
def yX7_northBy : MethodName := ⟨RX7, "northBy", "(I)I"⟩
abbrev cX7_canGo : ByteArray := prog_9_method_26_code
def yX7_canGo : MethodName := ⟨RX7, "canGo", "(II)Z"⟩
abbrev cX7_whyNot : ByteArray := prog_9_method_27_code
def yX7_whyNot : MethodName := ⟨RX7, "whyNot", "(III)I"⟩
abbrev cX7_claimHere : ByteArray := prog_9_method_28_code
def yX7_claimHere : MethodName := ⟨RX7, "claimHere", "(I)V"⟩
abbrev cX7_passNight : ByteArray := prog_9_method_29_code
def yX7_passNight : MethodName := ⟨RX7, "passNight", "()V"⟩
abbrev cX7_happen : ByteArray := prog_9_method_30_code
def yX7_happen : MethodName := ⟨RX7, "happen", "(III)V"⟩
abbrev cX7_keepNow : ByteArray := prog_9_method_31_code
def yX7_keepNow : MethodName := ⟨RX7, "keepNow", "()V"⟩
abbrev cX7_back : ByteArray := prog_9_method_32_code
def yX7_back : MethodName := ⟨RX7, "back", "(I)I"⟩
abbrev cX7_goWeeks : ByteArray := prog_9_method_33_code
def yX7_goWeeks : MethodName := ⟨RX7, "goWeeks", "()V"⟩
abbrev cX7_refusal : ByteArray := prog_9_method_34_code
def yX7_refusal : MethodName := ⟨RX7, "refusal", "()I"⟩
abbrev cX7_judge : ByteArray := prog_9_method_35_code
def yX7_judge : MethodName := ⟨RX7, "judge", "(I)I"⟩
abbrev cX7_snoreBy : ByteArray := prog_9_method_36_code
def yX7_snoreBy : MethodName := ⟨RX7, "snoreBy", "(II)I"⟩
abbrev cX7_snore : ByteArray := prog_9_method_37_code
def yX7_snore : MethodName := ⟨RX7, "snore", "(I)I"⟩
abbrev cX7_heardAt : ByteArray := prog_9_method_38_code
def yX7_heardAt : MethodName := ⟨RX7, "heardAt", "(II)I"⟩
abbrev cX7_ofMan : ByteArray := prog_9_method_39_code
def yX7_ofMan : MethodName := ⟨RX7, "ofMan", "(II)I"⟩
abbrev cX7_behind : ByteArray := prog_9_method_40_code
def yX7_behind : MethodName := ⟨RX7, "behind", "(II)I"⟩
abbrev cX7_heard : ByteArray := prog_9_method_41_code
def yX7_heard : MethodName := ⟨RX7, "heard", "(I)I"⟩
abbrev cX7_whose : ByteArray := prog_9_method_42_code
def yX7_whose : MethodName := ⟨RX7, "whose", "(I)I"⟩
abbrev cX7_nothing : ByteArray := prog_9_method_43_code
def yX7_nothing : MethodName := ⟨RX7, "nothing", "(I)I"⟩
abbrev cX7_done : ByteArray := prog_9_method_44_code
def yX7_done : MethodName := ⟨RX7, "done", "()I"⟩
abbrev cX7_loudest : ByteArray := prog_9_method_45_code
def yX7_loudest : MethodName := ⟨RX7, "loudest", "(I)I"⟩
abbrev cX7_givenAway : ByteArray := prog_9_method_46_code
def yX7_givenAway : MethodName := ⟨RX7, "givenAway", "(II)I"⟩
abbrev cX7_quietAt : ByteArray := prog_9_method_47_code
def yX7_quietAt : MethodName := ⟨RX7, "quietAt", "(IIZ)I"⟩
abbrev cX7_quietest : ByteArray := prog_9_method_48_code
def yX7_quietest : MethodName := ⟨RX7, "quietest", "(IIIZ)I"⟩
abbrev cX7_sleep : ByteArray := prog_9_method_49_code
def yX7_sleep : MethodName := ⟨RX7, "sleep", "(III)I"⟩
abbrev cX7_hide : ByteArray := prog_9_method_50_code
def yX7_hide : MethodName := ⟨RX7, "hide", "(III)I"⟩
abbrev cX7_tale : ByteArray := prog_9_method_51_code
def yX7_tale : MethodName := ⟨RX7, "tale", "(IIZ)I"⟩
abbrev cX7_hush : ByteArray := prog_9_method_52_code
def yX7_hush : MethodName := ⟨RX7, "hush", "()I"⟩
abbrev cX7_meant : ByteArray := prog_9_method_53_code
def yX7_meant : MethodName := ⟨RX7, "meant", "(II)I"⟩
abbrev cX7_canBe : ByteArray := prog_9_method_54_code
def yX7_canBe : MethodName := ⟨RX7, "canBe", "(I)Z"⟩
abbrev cX7_liars : ByteArray := prog_9_method_55_code
def yX7_liars : MethodName := ⟨RX7, "liars", "(I)I"⟩
abbrev cX7_goldOf : ByteArray := prog_9_method_56_code
def yX7_goldOf : MethodName := ⟨RX7, "goldOf", "(J)I"⟩
abbrev cX7_areTwos : ByteArray := prog_9_method_57_code
def yX7_areTwos : MethodName := ⟨RX7, "areTwos", "(I)Z"⟩
abbrev cX7_halves : ByteArray := prog_9_method_58_code
def yX7_halves : MethodName := ⟨RX7, "halves", "(II)I"⟩
abbrev cX7_wouldLeave : ByteArray := prog_9_method_59_code
def yX7_wouldLeave : MethodName := ⟨RX7, "wouldLeave", "(II)Z"⟩
abbrev cX7_leaves : ByteArray := prog_9_method_60_code
def yX7_leaves : MethodName := ⟨RX7, "leaves", "(I)I"⟩
abbrev cX7_isOn : ByteArray := prog_9_method_61_code
def yX7_isOn : MethodName := ⟨RX7, "isOn", "(II)Z"⟩
abbrev cX7_seen : ByteArray := prog_9_method_62_code
def yX7_seen : MethodName := ⟨RX7, "seen", "(IZ)I"⟩
abbrev cX7_forget : ByteArray := prog_9_method_63_code
def yX7_forget : MethodName := ⟨RX7, "forget", "()I"⟩
abbrev cX7_fits : ByteArray := prog_9_method_64_code
def yX7_fits : MethodName := ⟨RX7, "fits", "(I)Z"⟩
abbrev cX7_lodes : ByteArray := prog_9_method_65_code
def yX7_lodes : MethodName := ⟨RX7, "lodes", "(I)I"⟩
abbrev cX7_lowest : ByteArray := prog_9_method_66_code
def yX7_lowest : MethodName := ⟨RX7, "lowest", "(JJI)J"⟩
abbrev cX7_linesOn : ByteArray := prog_9_method_67_code
def yX7_linesOn : MethodName := ⟨RX7, "linesOn", "(I)I"⟩
abbrev cX7_odds : ByteArray := prog_9_method_68_code
def yX7_odds : MethodName := ⟨RX7, "odds", "(II)J"⟩
abbrev cX7_next : ByteArray := prog_9_method_69_code
def yX7_next : MethodName := ⟨RX7, "next", "(I)I"⟩
abbrev cX7_leftEnd : ByteArray := prog_9_method_70_code
def yX7_leftEnd : MethodName := ⟨RX7, "leftEnd", "(II)I"⟩
abbrev cX7_rightEnd : ByteArray := prog_9_method_71_code
def yX7_rightEnd : MethodName := ⟨RX7, "rightEnd", "(II)I"⟩
abbrev cX7_turns : ByteArray := prog_9_method_72_code
def yX7_turns : MethodName := ⟨RX7, "turns", "(II)I"⟩
abbrev cX7_heardBy : ByteArray := prog_9_method_73_code
def yX7_heardBy : MethodName := ⟨RX7, "heardBy", "(II)I"⟩
abbrev cX7_colds : ByteArray := prog_9_method_74_code
def yX7_colds : MethodName := ⟨RX7, "colds", "(IIII)J"⟩
abbrev cX7_year : ByteArray := prog_9_method_75_code
def yX7_year : MethodName := ⟨RX7, "year", "(III)I"⟩
abbrev cX7_pass : ByteArray := prog_9_method_76_code
def yX7_pass : MethodName := ⟨RX7, "pass", "(I)I"⟩
abbrev cX7_passRow : ByteArray := prog_9_method_77_code
def yX7_passRow : MethodName := ⟨RX7, "passRow", "([II)V"⟩
abbrev cX7_passAll : ByteArray := prog_9_method_78_code
def yX7_passAll : MethodName := ⟨RX7, "passAll", "(I)V"⟩
abbrev cX7_image : ByteArray := prog_9_method_79_code
def yX7_image : MethodName := ⟨RX7, "image", "(I)I"⟩
abbrev cX7_restore : ByteArray := prog_9_method_80_code
def yX7_restore : MethodName := ⟨RX7, "restore", "(I)I"⟩
abbrev cX7_toldOf : ByteArray := prog_9_method_81_code
def yX7_toldOf : MethodName := ⟨RX7, "toldOf", "(II)I"⟩
abbrev cX7_told : ByteArray := prog_9_method_82_code
def yX7_told : MethodName := ⟨RX7, "told", "(I)I"⟩
def RJ6 : String := "java/lang/Integer"
abbrev cJ6_bitCount_0f7a4 : ByteArray := prog_10_method_49_code
def yJ6_bitCount_0f7a4 : MethodName := ⟨RJ6, "bitCount", "(I)I"⟩
def RJ13 : String := "java/lang/Long"
abbrev cJ13_bitCount_95d88 : ByteArray := prog_11_method_50_code
def yJ13_bitCount_95d88 : MethodName := ⟨RJ13, "bitCount", "(J)I"⟩
def RJ9 : String := "java/lang/Math"
abbrev cJ9_abs_0f7a4 : ByteArray := prog_12_method_59_code
def yJ9_abs_0f7a4 : MethodName := ⟨RJ9, "abs", "(I)I"⟩
abbrev cJ9_max_7cf53 : ByteArray := prog_12_method_65_code
def yJ9_max_7cf53 : MethodName := ⟨RJ9, "max", "(II)I"⟩
abbrev cJ9_min_7cf53 : ByteArray := prog_12_method_69_code
def yJ9_min_7cf53 : MethodName := ⟨RJ9, "min", "(II)I"⟩
def RJ10 : String := "java/lang/System"
def RL : String := "SnoresGoldLaw"
abbrev cL_law : ByteArray := code
def yL_law : MethodName := ⟨RL, "law", "([I)Z"⟩
abbrev vwCl : List vw_C := [(RX0, TX0, 10), (RX1, TX1, 4), (RX2, TX2, 2), (RX3, TX3, 2), (RX4, TX4, 4), (RX5, TX5, 5), (RX6, TX6, 10), (RX7, TX7, 37)]
end
section
/-! THE WORDS: those of the tables that are kept through calls -/
def gt : List Cond := lw_tbl.filter goodWord
theorem gt_good {w : Cond} (h : w ∈ gt) : goodWord w = true := (List.mem_filter.mp h).2
theorem gt_tbl {w : Cond} (h : w ∈ gt) : w ∈ lw_tbl := (List.mem_filter.mp h).1
theorem gt_in {w : Cond} (h : w ∈ tables_1) (g : goodWord w = true) : w ∈ gt := List.mem_filter.mpr ⟨List.mem_append_right _ h, g⟩
theorem gt1 {w : Cond} {i : Nat} (h : tables_1_1[i]? = some w) (g : goodWord w = true) : w ∈ gt := gt_in (List.mem_append_left _ (List.mem_of_getElem? h)) g
theorem gt2 {w : Cond} {i : Nat} (h : tables_1_2[i]? = some w) (g : goodWord w = true) : w ∈ gt := gt_in (List.mem_append_right _ (List.mem_append_left _ (List.mem_of_getElem? h))) g
theorem gt3 {w : Cond} {i : Nat} (h : tables_1_3[i]? = some w) (g : goodWord w = true) : w ∈ gt := gt_in (List.mem_append_right _ (List.mem_append_right _ (List.mem_append_left _ (List.mem_of_getElem? h)))) g
theorem gt4 {w : Cond} {i : Nat} (h : tables_1_4[i]? = some w) (g : goodWord w = true) : w ∈ gt := gt_in (List.mem_append_right _ (List.mem_append_right _ (List.mem_append_right _ (List.mem_append_left _ (List.mem_of_getElem? h))))) g
theorem gt5 {w : Cond} {i : Nat} (h : tables_1_5[i]? = some w) (g : goodWord w = true) : w ∈ gt := gt_in (List.mem_append_right _ (List.mem_append_right _ (List.mem_append_right _ (List.mem_append_right _ (List.mem_append_left _ (List.mem_of_getElem? h)))))) g
theorem gt6 {w : Cond} {i : Nat} (h : tables_1_6[i]? = some w) (g : goodWord w = true) : w ∈ gt := gt_in (List.mem_append_right _ (List.mem_append_right _ (List.mem_append_right _ (List.mem_append_right _ (List.mem_append_right _ (List.mem_of_getElem? h)))))) g
theorem gtp {w : Cond} {i : Nat} (h : (k2_sels lw_privs)[i]? = some w) (g : goodWord w = true) : w ∈ gt := List.mem_filter.mpr ⟨List.mem_append_left _ (List.mem_of_getElem? h), g⟩
/-! THE CORE: a small machine over a fixed world of 76 cells, named by their places; Ct: a method's contract over it; WW: the walk of a body over it -/
abbrev Wd : Type := Nat → va_E
def vv (ad : Nat → Nat) : Value → Value
  | .ref k => .ref (ad k)
  | .int x => .int x
  | .long x => .long x
  | .float x => .float x
  | .double x => .double x
  | .null => .null
  | .retAddr x => .retAddr x
theorem vv_cat (ad : Nat → Nat) (v : Value) : (vv ad v).category = v.category := by cases v <;> rfl
theorem vv_null {ad : Nat → Nat} {v : Value} (h : v ≠ .null) : vv ad v ≠ .null := by cases v <;> simp_all [vv]
def ce (ad : Nat → Nat) (ck : Nat → ClassId) : va_E → va_E
  | .inl (k, x) => .inl (ck k, x)
  | .inr (c, fs) => .inr (c, fs.map (vv ad))
def mkw (ad : Nat → Nat) (ck : Nat → ClassId) (h : Wd) : va_W := (List.range 76).map (fun k => (ad k, ce ad ck (h k)))
theorem mkw_get {ad : Nat → Nat} {ck : Nat → ClassId} {h : Wd} {k : Nat} (hk : k < 76) : (mkw ad ck h)[k]? = some (ad k, ce ad ck (h k)) := by
  simp [mkw, hk]
theorem mkw_of {ad : Nat → Nat} {ck : Nat → ClassId} {h : Wd} {k : Nat} {q : Nat × va_E} (hq : (mkw ad ck h)[k]? = some q) : k < 76 ∧ q = (ad k, ce ad ck (h k)) := by
  by_cases hk : k < 76
  · rw [mkw_get hk] at hq
    exact ⟨hk, (Option.some.inj hq).symm⟩
  · exfalso
    have hl : (mkw ad ck h).length = 76 := by simp [mkw]
    have := (List.getElem?_eq_some_iff.mp hq).1
    omega
theorem mkw_set {ad : Nat → Nat} {ck : Nat → ClassId} {h : Wd} {k : Nat} (e : va_E) (hk : k < 76) : (mkw ad ck h).set k (ad k, ce ad ck e) = mkw ad ck (va_up h k e) := by
  apply List.ext_getElem?
  intro j
  by_cases hj : j = k
  · subst hj
    rw [mkw_get hk, List.getElem?_set_self (by simp [mkw, hk]), va_up_self]
  · rw [List.getElem?_set_ne (Ne.symm hj)]
    by_cases h2 : j < 76
    · rw [mkw_get h2, mkw_get h2, va_up_ne _ _ hj]
    · rw [List.getElem?_eq_none (by simp [mkw]; omega), List.getElem?_eq_none (by simp [mkw]; omega)]
def Aof (ad : Nat → Nat) : Nat → Prop := fun q => ∃ k, k < 76 ∧ q = ad k
def Inj (ad : Nat → Nat) : Prop := ∀ i j, i < 76 → j < 76 → ad i = ad j → i = j
theorem mkw_D {ad : Nat → Nat} {ck : Nat → ClassId} {h : Wd} (hi : Inj ad) : va_D (Aof ad) (mkw ad ck h) := by
  refine ⟨fun i j x y hx hy hxy => ?_, fun k q hq => ?_⟩
  · obtain ⟨h1, e1⟩ := mkw_of hx
    obtain ⟨h2, e2⟩ := mkw_of hy
    subst e1; subst e2
    exact hi i j h1 h2 hxy
  · obtain ⟨h1, e1⟩ := mkw_of hq
    subst e1
    exact ⟨k, h1, rfl⟩
abbrev tysOf (ck : Nat → ClassId) : List (ClassId × FieldType) := [(ck 0, .int), (ck 1, .long), (ck 2, .boolean)]
/-- the private members of nest mates that are linked -/
def nestF : List (String × Nat × String × String × String × String) := [(RX6, 64, "SnoresGold$Memory", "camp", "LSnoresGold$Camp;", "SnoresGold"), (RX6, 185, "SnoresGold$Memory", "tales", "LSnoresGold$Tales;", "SnoresGold"), (RX6, 231, "SnoresGold$Memory", "sights", "LSnoresGold$Sights;", "SnoresGold"), (RX2, 36, "SnoresGold", "DEED_SIGNS", "[C", "SnoresGold")]
def nestM : List (String × Nat × MethodName × String) := [(RX6, 31, yX5_init, "SnoresGold"), (RX0, 50, yX6_isCell, "SnoresGold"), (RX0, 76, yX6_isManNumber, "SnoresGold"), (RX0, 72, yX6_hasBit, "SnoresGold"), (RX2, 33, yX6_isManNumber, "SnoresGold"), (RX0, 145, yX6_rowOf, "SnoresGold"), (RX0, 148, yX6_columnOf, "SnoresGold"), (RX0, 116, yX6_distance, "SnoresGold"), (RX4, 45, yX6_hasBit, "SnoresGold"), (RX3, 33, yX6_columnOf, "SnoresGold"), (RX3, 37, yX6_rowOf, "SnoresGold")]
def NST (s : State) : Prop := (∀ q ∈ nestF, va_Nw (.fieldLinkNest q.1 q.2.1 q.2.2.1 q.2.2.2.1 q.2.2.2.2.1 q.2.2.2.2.2) s) ∧ (∀ q ∈ nestM, va_Nw (.methodLinkNest q.1 q.2.1 q.2.2.1 q.2.2.2) s)
theorem NST.warm {s U : State} (hW : s.WarmedH U.vm) (h : NST s) : NST U := ⟨fun q hq => va_Nw.warmF hW (h.1 q hq), fun q hq => va_Nw.warmM hW (h.2 q hq)⟩
theorem NST.same {s U : State} (e : s.vm = U.vm) (h : NST s) : NST U := ⟨fun q hq => va_Nw.same rfl e (h.1 q hq), fun q hq => va_Nw.same rfl e (h.2 q hq)⟩
/-- the static row of the deeds' signs; its place is 99 -/
def dsg (j : Nat) : Int32 := match j with
  | 0 => 110
  | 1 => 101
  | 2 => 115
  | 3 => 119
  | 4 => 100
  | 5 => 99
  | 6 => 46
  | 7 => 42
  | _ => 126
def ZST (ad : Nat → Nat) (s : State) (H : Heap) : Prop := va_Z "SnoresGold" "DEED_SIGNS" "[C" (.ref (ad 99)) (Aof ad) s H ∧ va_T .char (ad 99) 9 (fun j => .int (dsg j)) (Aof ad) s H
def IV (D : va_G) (ad : Nat → Nat) (ck : Nat → ClassId) (h : Wd) (U : State) : Prop := va_P D vwCl (mkw ad ck h) U.heap ∧ va_K D vwCl (tysOf ck) U ∧ NST U ∧ ZST ad U U.heap
/-- a method: name, bytes, locals, return type, parameters, room -/
abbrev MI : Type := MethodName × ByteArray × Nat × Option FieldType × Nat × Nat × Nat
abbrev my (q : MI) : MethodName := q.1
abbrev mb (q : MI) : ByteArray := q.2.1
abbrev mn (q : MI) : Nat := q.2.2.1
abbrev mr (q : MI) : Option FieldType := q.2.2.2.1
abbrev mp (q : MI) : Nat := q.2.2.2.2.1
abbrev mf (q : MI) : Nat := q.2.2.2.2.2.1
abbrev mo (q : MI) : Nat := q.2.2.2.2.2.2
abbrev rmM (q : MI) : Room := { frames := mf q, cells := 0, slots := 0, locals := mo q }
abbrev wsM (q : MI) : List Cond := .code (my q) (mb q) (mn q) (mr q) :: gt
def Qc (D : va_G) (ad : Nat → Nat) (ck : Nat → ClassId) (r : Option Value) (h' : Wd) : Array Value → State → Outcome → State → Prop := fun _ st oc t => (oc = .returned (r.map (vv ad)) ∧ IV D ad ck h' t) ∧ va_F (Aof ad) st t
/-- a method's contract over the world of places -/
def Ct (q : MI) (as : List Value) (h : Wd) (r : Option Value) (h' : Wd) : Prop := ∀ (l : Launch) (D : va_G) (ad : Nat → Nat) (ck : Nat → ClassId), Inj ad → Met l (my q) (wsM q) (rmM q) (va_Pc (as.map (vv ad)) (IV D ad ck h)) (Qc D ad ck r h') 0 0 (Aof ad)
def asc : Nat → List Value → List (Nat × Value)
  | _, [] => []
  | i, v :: t => if v = .null then asc (i + 1) t else (i, v) :: asc (i + 1) t
theorem asc_mem {w : Value} {j : Nat} : ∀ {L : List Value} {i : Nat}, (j, w) ∈ asc i L ↔ w ≠ .null ∧ ∃ k, L[k]? = some w ∧ j = i + k := by
  intro L
  induction L with
  | nil => intro i; simp [asc]
  | cons v t ih =>
    intro i
    have key : (∃ k, (v :: t)[k]? = some w ∧ j = i + k) ↔ (w = v ∧ j = i) ∨ ∃ k, t[k]? = some w ∧ j = i + 1 + k := by
      constructor
      · rintro ⟨k, h1, h2⟩
        cases k with
        | zero => exact Or.inl ⟨(Option.some.inj h1).symm, by omega⟩
        | succ k => exact Or.inr ⟨k, by simpa using h1, by omega⟩
      · rintro (⟨h1, h2⟩ | ⟨k, h1, h2⟩)
        · exact ⟨0, by simp [h1], by omega⟩
        · exact ⟨k + 1, by simpa using h1, by omega⟩
    rw [key]
    by_cases hv : v = .null
    · rw [asc, if_pos hv, ih]
      constructor
      · rintro ⟨a, b⟩; exact ⟨a, Or.inr b⟩
      · rintro ⟨a, ⟨b, -⟩ | b⟩
        · exact absurd (b.trans hv) a
        · exact ⟨a, b⟩
    · rw [asc, if_neg hv, List.mem_cons, ih]
      constructor
      · rintro (a | ⟨a, b⟩)
        · have h1 := congrArg Prod.fst a
          have h2 := congrArg Prod.snd a
          dsimp only at h1 h2
          exact ⟨by rw [h2]; exact hv, Or.inl ⟨h2, h1⟩⟩
        · exact ⟨a, Or.inr b⟩
      · rintro ⟨a, ⟨b, c⟩ | b⟩
        · exact Or.inl (by rw [b, c])
        · exact Or.inr ⟨a, b⟩
/-- the locals: null stands for a slot that nothing is said of -/
def Has (ad : Nat → Nat) (ls : Array Slot) (n : Nat) (L : List Value) : Prop := lv_has ls n (asc 0 (L.map (vv ad)))
theorem Has.at {ad : Nat → Nat} {ls : Array Slot} {n i : Nat} {L : List Value} {v : Value} (A : Has ad ls n L) (h : L[i]? = some v) (hv : v ≠ .null) : ls[i]? = some (.val (vv ad v)) :=
  A.2.2 (i, vv ad v) (asc_mem.mpr ⟨vv_null hv, i, by rw [List.getElem?_map, h]; rfl, by omega⟩)
theorem Has.mid {ad : Nat → Nat} {ls : Array Slot} {n i : Nat} {X t : List Value} {v : Value} (A : Has ad ls n (X ++ v :: t)) (hX : X.length = i) (hv : v ≠ .null) : ls[i]? = some (.val (vv ad v)) :=
  A.at (by rw [← hX, List.getElem?_append_right (Nat.le_refl _), Nat.sub_self]; rfl) hv
theorem asc_of {w : Value} {j : Nat} {L : List Value} (h : (j, w) ∈ asc 0 L) : w ≠ .null ∧ L[j]? = some w := by
  obtain ⟨a, k, b, c⟩ := asc_mem.mp h
  exact ⟨a, by rw [c, Nat.zero_add]; exact b⟩
/-- behind a store of one slot -/
theorem Has.set1 {ad : Nat → Nat} {ls ls' : Array Slot} {n i : Nat} {X t : List Value} {a v : Value} (hX : X.length = i) (hc : ∀ w, X.getLast? = some w → w.category = 1)
    (A' : lv_has ls' n ((i, vv ad v) :: (asc 0 ((X ++ a :: t).map (vv ad))).filter (fun q => !(q.1 == i) && !(q.1 + 1 == i && q.2.category == 2)))) : Has ad ls' n (X ++ v :: t) := by
  refine ⟨A'.1, A'.2.1, fun q hq => ?_⟩
  obtain ⟨j, w⟩ := q
  obtain ⟨h1, h2⟩ := asc_of hq
  refine A'.2.2 (j, w) ?_
  rw [List.getElem?_map] at h2
  subst hX
  by_cases hj : j = X.length
  · subst hj
    rw [List.getElem?_append_right (Nat.le_refl _), Nat.sub_self] at h2
    have e : vv ad v = w := by simpa using h2
    rw [e]
    exact List.mem_cons_self
  · refine List.mem_cons_of_mem _ (List.mem_filter.mpr ⟨asc_mem.mpr ⟨h1, j, ?_, by omega⟩, ?_⟩)
    · rw [List.getElem?_map]
      rcases Nat.lt_or_ge j X.length with hl | hl
      · rw [List.getElem?_append_left hl] at h2 ⊢
        exact h2
      · rw [List.getElem?_append_right hl] at h2 ⊢
        obtain ⟨d, hd⟩ : ∃ d, j - X.length = d + 1 := ⟨j - X.length - 1, by omega⟩
        rw [hd] at h2 ⊢
        exact h2
    · simp only [Bool.and_eq_true, Bool.not_eq_true', beq_eq_false_iff_ne, ne_eq, Bool.and_eq_false_iff]
      refine ⟨hj, ?_⟩
      by_cases h3 : j + 1 = X.length
      · refine Or.inr ?_
        rw [List.getElem?_append_left (by omega)] at h2
        cases hx : X[j]? with
        | none => rw [hx] at h2; cases h2
        | some z =>
          rw [hx] at h2
          have e : vv ad z = w := Option.some.inj h2
          have hz := hc z (by rw [List.getLast?_eq_getElem?, ← hx]; congr 1; omega)
          rw [← e, vv_cat, hz]
          decide
      · exact Or.inl h3
theorem Has.set2 {ad : Nat → Nat} {ls ls' : Array Slot} {n i : Nat} {X t : List Value} {a b v : Value} (hX : X.length = i) (hc : ∀ w, X.getLast? = some w → w.category = 1)
    (A' : lv_has ls' n ((i, vv ad v) :: (asc 0 ((X ++ a :: b :: t).map (vv ad))).filter (fun q => !(q.1 == i) && (!(q.1 == i + 1) && !(q.1 + 1 == i && q.2.category == 2))))) : Has ad ls' n (X ++ v :: .null :: t) := by
  refine ⟨A'.1, A'.2.1, fun q hq => ?_⟩
  obtain ⟨j, w⟩ := q
  obtain ⟨h1, h2⟩ := asc_of hq
  refine A'.2.2 (j, w) ?_
  rw [List.getElem?_map] at h2
  subst hX
  by_cases hj : j = X.length
  · subst hj
    rw [List.getElem?_append_right (Nat.le_refl _), Nat.sub_self] at h2
    have e : vv ad v = w := by simpa using h2
    rw [e]
    exact List.mem_cons_self
  · have hj2 : j ≠ X.length + 1 := by
      intro e
      rw [e, List.getElem?_append_right (by omega), show X.length + 1 - X.length = 1 by omega] at h2
      have : vv ad .null = w := by simpa using h2
      exact h1 (by rw [← this]; rfl)
    refine List.mem_cons_of_mem _ (List.mem_filter.mpr ⟨asc_mem.mpr ⟨h1, j, ?_, by omega⟩, ?_⟩)
    · rw [List.getElem?_map]
      rcases Nat.lt_or_ge j X.length with hl | hl
      · rw [List.getElem?_append_left hl] at h2 ⊢
        exact h2
      · rw [List.getElem?_append_right hl] at h2 ⊢
        obtain ⟨d, hd⟩ : ∃ d, j - X.length = d + 2 := ⟨j - X.length - 2, by omega⟩
        rw [hd] at h2 ⊢
        exact h2
    · simp only [Bool.and_eq_true, Bool.not_eq_true', beq_eq_false_iff_ne, ne_eq, Bool.and_eq_false_iff]
      refine ⟨hj, hj2, ?_⟩
      by_cases h3 : j + 1 = X.length
      · refine Or.inr ?_
        rw [List.getElem?_append_left (by omega)] at h2
        cases hx : X[j]? with
        | none => rw [hx] at h2; cases h2
        | some z =>
          rw [hx] at h2
          have e : vv ad z = w := Option.some.inj h2
          have hz := hc z (by rw [List.getLast?_eq_getElem?, ← hx]; congr 1; omega)
          rw [← e, vv_cat, hz]
          decide
      · exact Or.inl h3
/-- a method's arguments as locals -/
def lpos : List Value → List Value
  | [] => []
  | v :: t => if v.category = 2 then v :: .null :: lpos t else v :: lpos t
theorem lpos_args {ad : Nat → Nat} : ∀ (vs : List Value) (i j : Nat) (w : Value), ((lpos vs).map (vv ad))[j]? = some w → w ≠ .null → (i + j, w) ∈ lv_args i (vs.map (vv ad)) := by
  intro vs
  induction vs with
  | nil => intro i j w h; simp [lpos] at h
  | cons v t ih =>
    intro i j w h hw
    rw [List.map_cons, lv_args, vv_cat]
    by_cases hc : v.category = 2
    · rw [lpos, if_pos hc] at h
      rw [if_pos hc]
      rcases j with _ | _ | j
      · have e : vv ad v = w := by simpa using h
        rw [← e]
        exact List.mem_cons_self
      · have e : vv ad .null = w := by simpa using h
        exact absurd (by rw [← e]; rfl) hw
      · have := ih (i + 2) j w (by simpa using h) hw
        exact List.mem_cons_of_mem _ (by rw [show i + (j + 1 + 1) = i + 2 + j by omega]; exact this)
    · rw [lpos, if_neg hc] at h
      rw [if_neg hc]
      rcases j with _ | j
      · have e : vv ad v = w := by simpa using h
        rw [← e]
        exact List.mem_cons_self
      · have := ih (i + 1) j w (by simpa using h) hw
        exact List.mem_cons_of_mem _ (by rw [show i + (j + 1) = i + 1 + j by omega]; exact this)
theorem has_entry {ad : Nat → Nat} {as : List Value} {n : Nat} {Z : List Value} (hlen : (lg_sl (as.map (vv ad))).length ≤ n) (hZ : ∀ z ∈ Z, z = .null) : Has ad ((lg_sl (as.map (vv ad)) ++ List.replicate (n - (lg_sl (as.map (vv ad))).length) Slot.unset).toArray) n (lpos as ++ Z) := by
  have e := lv_entry (as.map (vv ad)) (n := n) hlen
  refine ⟨e.1, e.2.1, fun q hq => ?_⟩
  obtain ⟨j, w⟩ := q
  obtain ⟨h1, h2⟩ := asc_of hq
  refine e.2.2 (j, w) ?_
  rw [List.map_append] at h2
  rcases Nat.lt_or_ge j ((lpos as).map (vv ad)).length with hl | hl
  · rw [List.getElem?_append_left hl] at h2
    have := lpos_args as 0 j w h2 h1
    rwa [Nat.zero_add] at this
  · rw [List.getElem?_append_right hl] at h2
    have hm := List.mem_of_getElem? h2
    obtain ⟨z, hz, ez⟩ := List.mem_map.mp hm
    rw [hZ z hz] at ez
    exact absurd ez.symm h1
theorem sl_len (ad : Nat → Nat) : ∀ vs : List Value, (lg_sl (vs.map (vv ad))).length = (lg_sl vs).length := by
  intro vs
  induction vs with
  | nil => rfl
  | cons v t ih =>
    simp only [lg_sl, List.map_cons, List.flatMap_cons, List.length_append, vv_cat] at ih ⊢
    rw [ih]
    congr 1
    by_cases hc : v.category = 2 <;> simp [hc]
/-- what stands at every place of a method's walk -/
def CX (q : MI) (p : Program) (s : State) (m : MethodId) (args : Array Value) (meth : Method) (c : Code) (D : va_G) (ad : Nat → Nat) (ck : Nat → ClassId) : Prop :=
  p.tables.exec = Jvm.exec ∧ c.code = mb q ∧ c.maxLocals = mn q ∧ s.vm.findClass (my q).cls = some m.cls ∧ (∀ w ∈ gt, w.before args s = true) ∧ meth.sig.returnType = mr q ∧ meth.locks = false ∧ va_K D vwCl (tysOf ck) s ∧ NST s ∧ ZST ad s s.heap ∧ Inj ad
def WW (q : MI) (pc : Nat) (L st : List Value) (h : Wd) (r : Option Value) (h' : Wd) : Prop :=
  ∀ (p : Program) (l : Launch) (e : Env) (s : State) (m : MethodId) (args : Array Value) (below : List Frame) (meth : Method) (c : Code) (D : va_G) (ad : Nat → Nat) (ck : Nat → ClassId) (H : Heap) (locs : List Loc) (ls : Array Slot),
    CX q p s m args meth c D ad ck → va_P D vwCl (mkw ad ck h) H → va_S (Aof ad) s.heap H locs → Has ad ls (mn q) L →
    W p l e (rmM q) s m args below meth c H locs 0 0 (MQ below (Qc D ad ck r h') args s 0 0 (Aof ad)) (F0 m pc ls (st.map (vv ad)))
theorem ZST.to {ad : Nat → Nat} {s U : State} {H : Heap} {locs : List Loc} (h : ZST ad s s.heap) (hW : s.vm.Alike U.vm) (S : va_S (Aof ad) s.heap H locs) (hU : U.heap = H) : ZST ad U U.heap := by
  rw [hU]
  exact ⟨(h.1.moved hW).kept S.2.1, (h.2.moved hW).kept S.2.1⟩
theorem CX.iv {q : MI} {p : Program} {s : State} {m : MethodId} {args : Array Value} {meth : Method} {c : Code} {D : va_G} {ad : Nat → Nat} {ck : Nat → ClassId} {h : Wd} {H : Heap} {locs : List Loc} {U : State} (C : CX q p s m args meth c D ad ck) (P : va_P D vwCl (mkw ad ck h) H) (S : va_S (Aof ad) s.heap H locs) (hU : U.heap = H) (hW : s.WarmedH U.vm) : IV D ad ck h U := by
  obtain ⟨-, -, -, -, -, -, -, hK, hN, hZ, -⟩ := C
  exact ⟨by rw [hU]; exact P, va_K.moved hW.alike hK, hN.warm hW, hZ.to hW.alike S hU⟩
theorem Ct.of {q : MI} {as : List Value} {Z : List Value} {h h' : Wd} {r : Option Value} (hy : plainName (my q).cls = true) (hlen : (lg_sl as).length ≤ mn q) (hZ : ∀ z ∈ Z, z = .null) (k : WW q 0 (lpos as ++ Z) [] h r h') : Ct q as h r h' := by
  intro l D ad ck hi
  refine Met.ofW (cc := mb q) (maxL := mn q) (ret := mr q) hy rfl ?_
  intro p e s m args below meth c s₁ B hml hv
  obtain ⟨rfl, hIV⟩ := hv
  have hts := atoms_spec (ws := wsM q) B.pre
  have C : CX q p s m _ meth c D ad ck := ⟨B.exec, B.bytes, hml, findClass_of_methodNamed B.named, fun w hw => hts w (List.mem_cons_of_mem _ hw), B.returns, B.notSynchronized, hIV.2.1, hIV.2.2.1, hIV.2.2.2, hi⟩
  rw [lg_entry_eq]
  exact k p l e s m _ below meth c D ad ck s.heap [] _ C hIV.1 va_S.rf (has_entry (by rw [sl_len]; exact hlen) hZ)
/-- what a callee asks of the tables -/
def CO (q : MI) : Prop := Cond.code (my q) (mb q) (mn q) (mr q) ∈ gt ∧ Cond.initialized (my q).cls ∈ gt ∧ ((my q).cls ≠ "java/lang/invoke/MethodHandle" ∧ (my q).cls ≠ "java/lang/invoke/VarHandle" ∧ (parseMethodDescriptor (my q).desc).map (fun d => d.parameters.length) = some (mp q))
def CV (q : MI) : Prop := CO q ∧ Cond.instanceMethod (my q) ∈ gt ∧ Cond.selects (my q).cls (my q) (my q) ∈ gt
def CS (q : MI) : Prop := CO q ∧ Cond.static (my q) ∈ gt
def RM (q q2 : MI) : Prop := mf q2 + 1 ≤ mf q ∧ 8 + (mn q2 + 11) + mo q2 ≤ mo q
theorem co_good {q2 : MI} (h : CO q2) : GoodIn gt (wsM q2) := by
  intro w hw
  rcases List.mem_cons.mp hw with rfl | hw
  · exact ⟨h.1, good_of_word (gt_good h.1)⟩
  · exact ⟨hw, good_of_word (gt_good hw)⟩
theorem fb_IV {D : va_G} {ad : Nat → Nat} {ck : Nat → ClassId} {h : Wd} {as : List Value} : FrameBlind (va_Pc as (IV D ad ck h)) := by
  intro a U g mk hq
  obtain ⟨q0, q1, q2, q3, q4⟩ := hq
  exact ⟨q0, q1, va_K.moved (u := U) (U := U.calling g mk a) (Vm.Alike.refl U.vm) q2, q3.same rfl, q4.1.moved (u := U) (U := U.calling g mk a) (Vm.Alike.refl U.vm), q4.2.moved (u := U) (U := U.calling g mk a) (Vm.Alike.refl U.vm)⟩
theorem ww_call {p : Program} {l : Launch} {e : Env} {R : Room} {s : State} {m : MethodId} {args : Array Value} {below : List Frame} {meth : Method} {c : Code} {H : Heap} {locs : List Loc} {Q : State → Prop} {D : va_G} {ad : Nat → Nat} {ck : Nat → ClassId} {pc : Nat} {ls : Array Slot} {st0 rest : List Value} {a : Array Value} {r : Option Value} {h1 : Wd}
    (hr : va_Run p l e R s m args below meth c H locs 0 0 0 0 (F0 m pc ls st0) rest (Qc D ad ck r h1 a) (Aof ad)) (S : va_S (Aof ad) s.heap H locs)
    (kk : ∀ (H1 : Heap) (locs1 : List Loc), va_P D vwCl (mkw ad ck h1) H1 → va_S (Aof ad) s.heap H1 locs1 → W p l e R s m args below meth c H1 locs1 0 0 Q (F0 m (pc + 3) ls ((r.map (vv ad)).toList ++ rest))) : W p l e R s m args below meth c H locs 0 0 Q (F0 m pc ls st0) := by
  intro T hT X
  obtain ⟨v, st₀, t, T', L, h0, X', hL, e1, e2, ⟨⟨hv, hIV⟩, hz, hk⟩, st⟩ := hr T hT X
  cases hv
  rw [h0] at hz hk
  obtain ⟨t2, a1, b1⟩ := kk T'.heap (locs ++ L) (by rw [e1]; exact hIV.1)
    ⟨Nat.le_trans S.1 (by rw [e1]; exact hz), fun q g1 g2 => by rw [e1, hk q (Nat.lt_of_lt_of_le g1 S.1) g2]; exact S.2.1 q g1 g2, fun q hq => by
      rcases List.mem_append.mp hq with h | h
      · exact S.2.2 q h
      · exact hL q h⟩ T' rfl X'
  exact ⟨t2, st t2 a1, b1⟩
theorem cat_sum {ad : Nat → Nat} (st : List Value) : ((st.map (vv ad)).map fun v => v.category).sum = (st.map fun v => v.category).sum := by
  rw [List.map_map]
  congr 1
  apply List.map_congr_left
  intro v _
  exact vv_cat ad v
def osum (st : List Value) : Nat := (st.map fun v => v.category).sum
theorem callB_mk {q q2 : MI} {p : Program} {s : State} {m : MethodId} {args : Array Value} {meth : Method} {c : Code} {D : va_G} {ad : Nat → Nat} {ck : Nat → ClassId} {idx : Nat} (C : CX q p s m args meth c D ad ck) (ho : CO q2) (hR : RM q q2) (hl : Cond.methodLink (my q).cls idx (my q2) ∈ gt) : CallB (rmM q) s args (my q).cls idx (my q2) (mb q2) (mn q2) (mr q2) (wsM q2) (rmM q2) 0 0 (mp q2) := by
  obtain ⟨-, -, -, -, hts, -⟩ := C
  exact callB_of (mp q2) hts (co_good ho) rfl rfl rfl (hts _ ho.2.1) (hts _ hl) ho.2.2 hR
theorem r_callV {q q2 : MI} {pc idx ci n b : Nat} {L st as st0 : List Value} {h h1 h' : Wd} {r1 r : Option Value} {fs : List Value} {T : u_T} (hc : Ct q2 (.ref b :: as) h r1 h1) (hv : CV q2) (hR : RM q q2) (hl : Cond.methodLink (my q).cls idx (my q2) ∈ gt) (hd : decode (mb q) pc = .ok (.invokevirtual idx, 3)) (hb : b < 76) (hh : h b = .inr (ci, fs)) (hcl : vwCl[ci]? = some ((my q2).cls, T, n)) (hn : as.length = mp q2) (hs : st0 = as.reverse ++ .ref b :: st) (hw : osum st ≤ 8)
    (k : WW q (pc + 3) L (r1.toList ++ st) h1 r h') : WW q pc L st0 h r h' := by
  subst hs
  intro p l e s m args below meth c D ad ck H locs ls C P S A
  have hM := hc l D ad ck C.2.2.2.2.2.2.2.2.2.2
  obtain ⟨hx, hbb, hml, hown, hts, hrt, hlk, hK, hN, hZ, hi⟩ := id C
  have hB := callB_mk (idx := idx) C hv.1 hR hl
  refine ww_call (va_runV (C := (my q2).cls) (b := ad b) (As := as.map (vv ad)) (rest := st.map (vv ad)) ⟨hx, hbb, hml, hown, hts⟩ hM ⟨hB, hts _ hv.2.1, hts _ hv.2.2⟩ ⟨fb_IV, ?_, fun U hU hW => ⟨rfl, C.iv P S hU hW⟩⟩ rfl (by rw [List.length_map]; exact hn) A.1 ?_ ?_ hd ⟨Nat.zero_le _, Nat.zero_le _⟩) S (fun H1 locs1 P1 S1 => ?_)
  · have := va_recv hK P hcl (a := ad b) (q0 := b) (fs := fs.map (vv ad)) (by rw [mkw_get hb, hh]; rfl)
    exact this
  · show List.map (vv ad) _ = _
    rw [List.map_append, List.map_reverse]
    rfl
  · refine lv_room ?_
    rw [cat_sum]
    exact hw
  · have := k p l e s m args below meth c D ad ck H1 locs1 ls C P1 S1 A
    rw [List.map_append] at this
    cases r1 with
    | none => exact this
    | some v => exact this
theorem r_callS {q q2 : MI} {pc idx : Nat} {L st as st0 : List Value} {h h1 h' : Wd} {r1 r : Option Value} (hc : Ct q2 as h r1 h1) (hv : CS q2) (hR : RM q q2) (hl : Cond.methodLink (my q).cls idx (my q2) ∈ gt) (hd : decode (mb q) pc = .ok (.invokestatic idx, 3)) (hn : as.length = mp q2) (hs : st0 = as.reverse ++ st) (hw : osum st ≤ 8)
    (k : WW q (pc + 3) L (r1.toList ++ st) h1 r h') : WW q pc L st0 h r h' := by
  subst hs
  intro p l e s m args below meth c D ad ck H locs ls C P S A
  have hM := hc l D ad ck C.2.2.2.2.2.2.2.2.2.2
  obtain ⟨hx, hbb, hml, hown, hts, hrt, hlk, hK, hN, hZ, hi⟩ := id C
  have hB := callB_mk (idx := idx) C hv.1 hR hl
  refine ww_call (va_runS (As := as.map (vv ad)) (rest := st.map (vv ad)) ⟨hx, hbb, hml, hown, hts⟩ hM ⟨hB, hts _ hv.2⟩ ⟨fb_IV, fun U hU hW => ⟨rfl, C.iv P S hU hW⟩⟩ rfl (by rw [List.length_map]; exact hn) A.1 ?_ ?_ hd ⟨Nat.zero_le _, Nat.zero_le _⟩) S (fun H1 locs1 P1 S1 => ?_)
  · show List.map (vv ad) _ = _
    rw [List.map_append, List.map_reverse]
  · refine lv_room ?_
    rw [cat_sum]
    exact hw
  · have := k p l e s m args below meth c D ad ck H1 locs1 ls C P1 S1 A
    rw [List.map_append] at this
    cases r1 with
    | none => exact this
    | some v => exact this
/-- a call of a nest mate's private static method -/
theorem r_callSN {q q2 : MI} {pc idx : Nat} {host : String} {L st as st0 : List Value} {h h1 h' : Wd} {r1 r : Option Value} (hc : Ct q2 as h r1 h1) (hv : CS q2) (hR : RM q q2) (hl : ((my q).cls, idx, my q2, host) ∈ nestM) (hd : decode (mb q) pc = .ok (.invokestatic idx, 3)) (hn : as.length = mp q2) (hs : st0 = as.reverse ++ st) (hw : osum st ≤ 8)
    (k : WW q (pc + 3) L (r1.toList ++ st) h1 r h') : WW q pc L st0 h r h' := by
  subst hs
  intro p l e s m args below meth c D ad ck H locs ls C P S A
  have hM := hc l D ad ck C.2.2.2.2.2.2.2.2.2.2
  obtain ⟨hx, hbb, hml, hown, hts, hrt, hlk, hK, hN, hZ, hi⟩ := id C
  have hB : va_CN (rmM q) s args (my q).cls idx (my q2) host (mb q2) (mn q2) (mr q2) (wsM q2) (rmM q2) 0 0 (mp q2) := va_cnB (mp q2) hts (co_good hv.1) rfl rfl rfl (hN.2 _ hl) (hts _ hv.1.2.1) hv.1.2.2 hR
  refine ww_call (va_runSN (As := as.map (vv ad)) (rest := st.map (vv ad)) ⟨hx, hbb, hml, hown, hts⟩ hM ⟨hB, hts _ hv.2, trivial⟩ ⟨fb_IV, fun U hU hW => ⟨rfl, C.iv P S hU hW⟩⟩ rfl (by rw [List.length_map]; exact hn) A.1 ?_ ?_ hd ⟨Nat.zero_le _, Nat.zero_le _⟩) S (fun H1 locs1 P1 S1 => ?_)
  · show List.map (vv ad) _ = _
    rw [List.map_append, List.map_reverse]
  · refine lv_room ?_
    rw [cat_sum]
    exact hw
  · have := k p l e s m args below meth c D ad ck H1 locs1 ls C P1 S1 A
    rw [List.map_append] at this
    cases r1 with
    | none => exact this
    | some v => exact this
end
