section
-- ===== PART A: goes FIRST, ahead of the names: the tables' words, and 'selects' of the private methods out of them =====
/-- a private method of a class that the tables say can be made, by its rows of tables_1 -/
def lw_okq (q : MethodName × Nat) : Prop := (q.1.cls ≠ "java/lang/invoke/MethodHandle" ∧ q.1.cls ≠ "java/lang/invoke/VarHandle") ∧ Cond.instantiable q.1.cls q.2 ∈ tables_1 ∧ Cond.privateMethod q.1 ∈ tables_1 ∧ Cond.instanceMethod q.1 ∈ tables_1
theorem lw_p0 : lw_okq (⟨"MenuScreens$Line", "addWord", "(II)V"⟩, 4) := ⟨⟨by decide +kernel, by decide +kernel⟩, List.mem_of_getElem? (i := 125) (by decide +kernel), List.mem_of_getElem? (i := 453) (by decide +kernel), List.mem_of_getElem? (i := 454) (by decide +kernel)⟩
theorem lw_p1 : lw_okq (⟨"MenuScreens$Reader", "takeLine", "(I)Z"⟩, 4) := ⟨⟨by decide +kernel, by decide +kernel⟩, List.mem_of_getElem? (i := 119) (by decide +kernel), List.mem_of_getElem? (i := 461) (by decide +kernel), List.mem_of_getElem? (i := 462) (by decide +kernel)⟩
theorem lw_p2 : lw_okq (⟨"MenuScreens$Reader", "takeName", "()Z"⟩, 4) := ⟨⟨by decide +kernel, by decide +kernel⟩, List.mem_of_getElem? (i := 119) (by decide +kernel), List.mem_of_getElem? (i := 507) (by decide +kernel), List.mem_of_getElem? (i := 508) (by decide +kernel)⟩
theorem lw_p3 : lw_okq (⟨"MenuScreens$Reader", "isFreeForValue", "(J)Z"⟩, 4) := ⟨⟨by decide +kernel, by decide +kernel⟩, List.mem_of_getElem? (i := 119) (by decide +kernel), List.mem_of_getElem? (i := 516) (by decide +kernel), List.mem_of_getElem? (i := 517) (by decide +kernel)⟩
theorem lw_p4 : lw_okq (⟨"java/util/ArrayList", "add", "(Ljava/lang/Object;[Ljava/lang/Object;I)V"⟩, 3) := ⟨⟨by decide +kernel, by decide +kernel⟩, List.mem_of_getElem? (i := 76) (by decide +kernel), List.mem_of_getElem? (i := 583) (by decide +kernel), List.mem_of_getElem? (i := 584) (by decide +kernel)⟩
theorem lw_p5 : lw_okq (⟨"java/util/ArrayList", "grow", "()[Ljava/lang/Object;"⟩, 3) := ⟨⟨by decide +kernel, by decide +kernel⟩, List.mem_of_getElem? (i := 76) (by decide +kernel), List.mem_of_getElem? (i := 587) (by decide +kernel), List.mem_of_getElem? (i := 588) (by decide +kernel)⟩
theorem lw_p6 : lw_okq (⟨"java/util/ArrayList", "grow", "(I)[Ljava/lang/Object;"⟩, 3) := ⟨⟨by decide +kernel, by decide +kernel⟩, List.mem_of_getElem? (i := 76) (by decide +kernel), List.mem_of_getElem? (i := 591) (by decide +kernel), List.mem_of_getElem? (i := 592) (by decide +kernel)⟩
theorem lw_p7 : lw_okq (⟨"MenuScreens$Reader", "takeSetting", "()Z"⟩, 4) := ⟨⟨by decide +kernel, by decide +kernel⟩, List.mem_of_getElem? (i := 119) (by decide +kernel), List.mem_of_getElem? (i := 626) (by decide +kernel), List.mem_of_getElem? (i := 627) (by decide +kernel)⟩
theorem lw_p8 : lw_okq (⟨"MenuScreens$Reader", "takeScreen", "(I)Z"⟩, 4) := ⟨⟨by decide +kernel, by decide +kernel⟩, List.mem_of_getElem? (i := 119) (by decide +kernel), List.mem_of_getElem? (i := 640) (by decide +kernel), List.mem_of_getElem? (i := 641) (by decide +kernel)⟩
theorem lw_p9 : lw_okq (⟨"MenuScreens$Reader", "takeLineOf", "(LMenuScreens$Screen;Ljava/lang/String;)Z"⟩, 4) := ⟨⟨by decide +kernel, by decide +kernel⟩, List.mem_of_getElem? (i := 119) (by decide +kernel), List.mem_of_getElem? (i := 686) (by decide +kernel), List.mem_of_getElem? (i := 687) (by decide +kernel)⟩
theorem lw_p10 : lw_okq (⟨"MenuScreens$Reader", "takePut", "(LMenuScreens$Screen;)Z"⟩, 4) := ⟨⟨by decide +kernel, by decide +kernel⟩, List.mem_of_getElem? (i := 119) (by decide +kernel), List.mem_of_getElem? (i := 691) (by decide +kernel), List.mem_of_getElem? (i := 692) (by decide +kernel)⟩
theorem lw_p11 : lw_okq (⟨"MenuScreens$Reader", "takePiece", "(LMenuScreens$Screen;LMenuScreens$Piece;)Z"⟩, 4) := ⟨⟨by decide +kernel, by decide +kernel⟩, List.mem_of_getElem? (i := 119) (by decide +kernel), List.mem_of_getElem? (i := 724) (by decide +kernel), List.mem_of_getElem? (i := 725) (by decide +kernel)⟩
theorem lw_p12 : lw_okq (⟨"MenuScreens$Reader", "takeSay", "(LMenuScreens$Screen;)Z"⟩, 4) := ⟨⟨by decide +kernel, by decide +kernel⟩, List.mem_of_getElem? (i := 119) (by decide +kernel), List.mem_of_getElem? (i := 729) (by decide +kernel), List.mem_of_getElem? (i := 730) (by decide +kernel)⟩
theorem lw_p13 : lw_okq (⟨"MenuScreens$Reader", "takeShow", "(LMenuScreens$Screen;)Z"⟩, 4) := ⟨⟨by decide +kernel, by decide +kernel⟩, List.mem_of_getElem? (i := 119) (by decide +kernel), List.mem_of_getElem? (i := 735) (by decide +kernel), List.mem_of_getElem? (i := 736) (by decide +kernel)⟩
theorem lw_p14 : lw_okq (⟨"MenuScreens$Reader", "takeIf", "()Z"⟩, 4) := ⟨⟨by decide +kernel, by decide +kernel⟩, List.mem_of_getElem? (i := 119) (by decide +kernel), List.mem_of_getElem? (i := 756) (by decide +kernel), List.mem_of_getElem? (i := 757) (by decide +kernel)⟩
theorem lw_p15 : lw_okq (⟨"MenuScreens$Reader", "takeKey", "(LMenuScreens$Screen;)Z"⟩, 4) := ⟨⟨by decide +kernel, by decide +kernel⟩, List.mem_of_getElem? (i := 119) (by decide +kernel), List.mem_of_getElem? (i := 784) (by decide +kernel), List.mem_of_getElem? (i := 785) (by decide +kernel)⟩
def lw_privs_1 : List (MethodName × Nat) := [(⟨"MenuScreens$Line", "addWord", "(II)V"⟩, 4), (⟨"MenuScreens$Reader", "takeLine", "(I)Z"⟩, 4), (⟨"MenuScreens$Reader", "takeName", "()Z"⟩, 4), (⟨"MenuScreens$Reader", "isFreeForValue", "(J)Z"⟩, 4), (⟨"java/util/ArrayList", "add", "(Ljava/lang/Object;[Ljava/lang/Object;I)V"⟩, 3), (⟨"java/util/ArrayList", "grow", "()[Ljava/lang/Object;"⟩, 3), (⟨"java/util/ArrayList", "grow", "(I)[Ljava/lang/Object;"⟩, 3), (⟨"MenuScreens$Reader", "takeSetting", "()Z"⟩, 4), (⟨"MenuScreens$Reader", "takeScreen", "(I)Z"⟩, 4), (⟨"MenuScreens$Reader", "takeLineOf", "(LMenuScreens$Screen;Ljava/lang/String;)Z"⟩, 4), (⟨"MenuScreens$Reader", "takePut", "(LMenuScreens$Screen;)Z"⟩, 4), (⟨"MenuScreens$Reader", "takePiece", "(LMenuScreens$Screen;LMenuScreens$Piece;)Z"⟩, 4), (⟨"MenuScreens$Reader", "takeSay", "(LMenuScreens$Screen;)Z"⟩, 4), (⟨"MenuScreens$Reader", "takeShow", "(LMenuScreens$Screen;)Z"⟩, 4), (⟨"MenuScreens$Reader", "takeIf", "()Z"⟩, 4), (⟨"MenuScreens$Reader", "takeKey", "(LMenuScreens$Screen;)Z"⟩, 4)]
theorem lw_r1 : ∀ q ∈ lw_privs_1, lw_okq q := List.forall_mem_cons.mpr ⟨lw_p0, List.forall_mem_cons.mpr ⟨lw_p1, List.forall_mem_cons.mpr ⟨lw_p2, List.forall_mem_cons.mpr ⟨lw_p3, List.forall_mem_cons.mpr ⟨lw_p4, List.forall_mem_cons.mpr ⟨lw_p5, List.forall_mem_cons.mpr ⟨lw_p6, List.forall_mem_cons.mpr ⟨lw_p7, List.forall_mem_cons.mpr ⟨lw_p8, List.forall_mem_cons.mpr ⟨lw_p9, List.forall_mem_cons.mpr ⟨lw_p10, List.forall_mem_cons.mpr ⟨lw_p11, List.forall_mem_cons.mpr ⟨lw_p12, List.forall_mem_cons.mpr ⟨lw_p13, List.forall_mem_cons.mpr ⟨lw_p14, List.forall_mem_cons.mpr ⟨lw_p15, fun _ h => absurd h List.not_mem_nil⟩⟩⟩⟩⟩⟩⟩⟩⟩⟩⟩⟩⟩⟩⟩⟩
theorem lw_p16 : lw_okq (⟨"MenuScreens$Reader", "takeBar", "(LMenuScreens$Screen;)Z"⟩, 4) := ⟨⟨by decide +kernel, by decide +kernel⟩, List.mem_of_getElem? (i := 119) (by decide +kernel), List.mem_of_getElem? (i := 789) (by decide +kernel), List.mem_of_getElem? (i := 790) (by decide +kernel)⟩
theorem lw_p17 : lw_okq (⟨"MenuScreens$Plan", "markScreensThatLeadHome", "()V"⟩, 4) := ⟨⟨by decide +kernel, by decide +kernel⟩, List.mem_of_getElem? (i := 70) (by decide +kernel), List.mem_of_getElem? (i := 802) (by decide +kernel), List.mem_of_getElem? (i := 803) (by decide +kernel)⟩
theorem lw_p18 : lw_okq (⟨"MenuScreens$Plan", "hasKeyTowardsHome", "(LMenuScreens$Screen;)Z"⟩, 4) := ⟨⟨by decide +kernel, by decide +kernel⟩, List.mem_of_getElem? (i := 70) (by decide +kernel), List.mem_of_getElem? (i := 806) (by decide +kernel), List.mem_of_getElem? (i := 807) (by decide +kernel)⟩
theorem lw_p19 : lw_okq (⟨"MenuScreens$Warnings", "rankOf", "(I)I"⟩, 6) := ⟨⟨by decide +kernel, by decide +kernel⟩, List.mem_of_getElem? (i := 158) (by decide +kernel), List.mem_of_getElem? (i := 856) (by decide +kernel), List.mem_of_getElem? (i := 857) (by decide +kernel)⟩
theorem lw_p20 : lw_okq (⟨"MenuScreens$ValuePiece", "signFromRight", "(I)I"⟩, 5) := ⟨⟨by decide +kernel, by decide +kernel⟩, List.mem_of_getElem? (i := 739) (by decide +kernel), List.mem_of_getElem? (i := 873) (by decide +kernel), List.mem_of_getElem? (i := 874) (by decide +kernel)⟩
theorem lw_p21 : lw_okq (⟨"MenuScreens$Warnings", "insertOpen", "(II)V"⟩, 6) := ⟨⟨by decide +kernel, by decide +kernel⟩, List.mem_of_getElem? (i := 158) (by decide +kernel), List.mem_of_getElem? (i := 910) (by decide +kernel), List.mem_of_getElem? (i := 911) (by decide +kernel)⟩
theorem lw_p22 : lw_okq (⟨"MenuScreens$Warnings", "placeInOpen", "(I)I"⟩, 6) := ⟨⟨by decide +kernel, by decide +kernel⟩, List.mem_of_getElem? (i := 158) (by decide +kernel), List.mem_of_getElem? (i := 930) (by decide +kernel), List.mem_of_getElem? (i := 931) (by decide +kernel)⟩
theorem lw_p23 : lw_okq (⟨"MenuScreensModel", "wrong", "()I"⟩, 59) := ⟨⟨by decide +kernel, by decide +kernel⟩, List.mem_of_getElem? (i := 983) (by decide +kernel), List.mem_of_getElem? (i := 1176) (by decide +kernel), List.mem_of_getElem? (i := 1177) (by decide +kernel)⟩
theorem lw_p24 : lw_okq (⟨"MenuScreensModel", "next", "()Z"⟩, 59) := ⟨⟨by decide +kernel, by decide +kernel⟩, List.mem_of_getElem? (i := 983) (by decide +kernel), List.mem_of_getElem? (i := 1180) (by decide +kernel), List.mem_of_getElem? (i := 1181) (by decide +kernel)⟩
theorem lw_p25 : lw_okq (⟨"MenuScreensModel", "line", "(I)Z"⟩, 59) := ⟨⟨by decide +kernel, by decide +kernel⟩, List.mem_of_getElem? (i := 983) (by decide +kernel), List.mem_of_getElem? (i := 1184) (by decide +kernel), List.mem_of_getElem? (i := 1185) (by decide +kernel)⟩
theorem lw_p26 : lw_okq (⟨"MenuScreensModel", "word", "()J"⟩, 59) := ⟨⟨by decide +kernel, by decide +kernel⟩, List.mem_of_getElem? (i := 983) (by decide +kernel), List.mem_of_getElem? (i := 1188) (by decide +kernel), List.mem_of_getElem? (i := 1189) (by decide +kernel)⟩
theorem lw_p27 : lw_okq (⟨"MenuScreensModel", "addValue", "(Z)Z"⟩, 59) := ⟨⟨by decide +kernel, by decide +kernel⟩, List.mem_of_getElem? (i := 983) (by decide +kernel), List.mem_of_getElem? (i := 1196) (by decide +kernel), List.mem_of_getElem? (i := 1197) (by decide +kernel)⟩
theorem lw_p28 : lw_okq (⟨"MenuScreensModel", "name", "()Z"⟩, 59) := ⟨⟨by decide +kernel, by decide +kernel⟩, List.mem_of_getElem? (i := 983) (by decide +kernel), List.mem_of_getElem? (i := 1200) (by decide +kernel), List.mem_of_getElem? (i := 1201) (by decide +kernel)⟩
theorem lw_p29 : lw_okq (⟨"MenuScreensModel", "isName", "()Z"⟩, 59) := ⟨⟨by decide +kernel, by decide +kernel⟩, List.mem_of_getElem? (i := 983) (by decide +kernel), List.mem_of_getElem? (i := 1204) (by decide +kernel), List.mem_of_getElem? (i := 1205) (by decide +kernel)⟩
theorem lw_p30 : lw_okq (⟨"MenuScreensModel", "findValue", "()I"⟩, 59) := ⟨⟨by decide +kernel, by decide +kernel⟩, List.mem_of_getElem? (i := 983) (by decide +kernel), List.mem_of_getElem? (i := 1208) (by decide +kernel), List.mem_of_getElem? (i := 1209) (by decide +kernel)⟩
theorem lw_p31 : lw_okq (⟨"MenuScreensModel", "same", "(IIII)Z"⟩, 59) := ⟨⟨by decide +kernel, by decide +kernel⟩, List.mem_of_getElem? (i := 983) (by decide +kernel), List.mem_of_getElem? (i := 1212) (by decide +kernel), List.mem_of_getElem? (i := 1213) (by decide +kernel)⟩
def lw_privs_2 : List (MethodName × Nat) := [(⟨"MenuScreens$Reader", "takeBar", "(LMenuScreens$Screen;)Z"⟩, 4), (⟨"MenuScreens$Plan", "markScreensThatLeadHome", "()V"⟩, 4), (⟨"MenuScreens$Plan", "hasKeyTowardsHome", "(LMenuScreens$Screen;)Z"⟩, 4), (⟨"MenuScreens$Warnings", "rankOf", "(I)I"⟩, 6), (⟨"MenuScreens$ValuePiece", "signFromRight", "(I)I"⟩, 5), (⟨"MenuScreens$Warnings", "insertOpen", "(II)V"⟩, 6), (⟨"MenuScreens$Warnings", "placeInOpen", "(I)I"⟩, 6), (⟨"MenuScreensModel", "wrong", "()I"⟩, 59), (⟨"MenuScreensModel", "next", "()Z"⟩, 59), (⟨"MenuScreensModel", "line", "(I)Z"⟩, 59), (⟨"MenuScreensModel", "word", "()J"⟩, 59), (⟨"MenuScreensModel", "addValue", "(Z)Z"⟩, 59), (⟨"MenuScreensModel", "name", "()Z"⟩, 59), (⟨"MenuScreensModel", "isName", "()Z"⟩, 59), (⟨"MenuScreensModel", "findValue", "()I"⟩, 59), (⟨"MenuScreensModel", "same", "(IIII)Z"⟩, 59)]
theorem lw_r2 : ∀ q ∈ lw_privs_2, lw_okq q := List.forall_mem_cons.mpr ⟨lw_p16, List.forall_mem_cons.mpr ⟨lw_p17, List.forall_mem_cons.mpr ⟨lw_p18, List.forall_mem_cons.mpr ⟨lw_p19, List.forall_mem_cons.mpr ⟨lw_p20, List.forall_mem_cons.mpr ⟨lw_p21, List.forall_mem_cons.mpr ⟨lw_p22, List.forall_mem_cons.mpr ⟨lw_p23, List.forall_mem_cons.mpr ⟨lw_p24, List.forall_mem_cons.mpr ⟨lw_p25, List.forall_mem_cons.mpr ⟨lw_p26, List.forall_mem_cons.mpr ⟨lw_p27, List.forall_mem_cons.mpr ⟨lw_p28, List.forall_mem_cons.mpr ⟨lw_p29, List.forall_mem_cons.mpr ⟨lw_p30, List.forall_mem_cons.mpr ⟨lw_p31, fun _ h => absurd h List.not_mem_nil⟩⟩⟩⟩⟩⟩⟩⟩⟩⟩⟩⟩⟩⟩⟩⟩
theorem lw_p32 : lw_okq (⟨"MenuScreensModel", "number", "(JJ)Z"⟩, 59) := ⟨⟨by decide +kernel, by decide +kernel⟩, List.mem_of_getElem? (i := 983) (by decide +kernel), List.mem_of_getElem? (i := 1218) (by decide +kernel), List.mem_of_getElem? (i := 1219) (by decide +kernel)⟩
theorem lw_p33 : lw_okq (⟨"MenuScreensModel", "through", "()Z"⟩, 59) := ⟨⟨by decide +kernel, by decide +kernel⟩, List.mem_of_getElem? (i := 983) (by decide +kernel), List.mem_of_getElem? (i := 1224) (by decide +kernel), List.mem_of_getElem? (i := 1225) (by decide +kernel)⟩
theorem lw_p34 : lw_okq (⟨"MenuScreensModel", "addScreen", "(I)Z"⟩, 59) := ⟨⟨by decide +kernel, by decide +kernel⟩, List.mem_of_getElem? (i := 983) (by decide +kernel), List.mem_of_getElem? (i := 1228) (by decide +kernel), List.mem_of_getElem? (i := 1229) (by decide +kernel)⟩
theorem lw_p35 : lw_okq (⟨"MenuScreensModel", "findScreen", "(II)I"⟩, 59) := ⟨⟨by decide +kernel, by decide +kernel⟩, List.mem_of_getElem? (i := 983) (by decide +kernel), List.mem_of_getElem? (i := 1232) (by decide +kernel), List.mem_of_getElem? (i := 1233) (by decide +kernel)⟩
theorem lw_p36 : lw_okq (⟨"MenuScreensModel", "addPart", "(I)Z"⟩, 59) := ⟨⟨by decide +kernel, by decide +kernel⟩, List.mem_of_getElem? (i := 983) (by decide +kernel), List.mem_of_getElem? (i := 1237) (by decide +kernel), List.mem_of_getElem? (i := 1238) (by decide +kernel)⟩
theorem lw_p37 : lw_okq (⟨"MenuScreensModel", "addCondition", "()Z"⟩, 59) := ⟨⟨by decide +kernel, by decide +kernel⟩, List.mem_of_getElem? (i := 983) (by decide +kernel), List.mem_of_getElem? (i := 1242) (by decide +kernel), List.mem_of_getElem? (i := 1243) (by decide +kernel)⟩
theorem lw_p38 : lw_okq (⟨"MenuScreensModel", "addKey", "()Z"⟩, 59) := ⟨⟨by decide +kernel, by decide +kernel⟩, List.mem_of_getElem? (i := 983) (by decide +kernel), List.mem_of_getElem? (i := 1246) (by decide +kernel), List.mem_of_getElem? (i := 1247) (by decide +kernel)⟩
theorem lw_p39 : lw_okq (⟨"MenuScreensModel", "endLine", "()I"⟩, 59) := ⟨⟨by decide +kernel, by decide +kernel⟩, List.mem_of_getElem? (i := 983) (by decide +kernel), List.mem_of_getElem? (i := 1251) (by decide +kernel), List.mem_of_getElem? (i := 1252) (by decide +kernel)⟩
theorem lw_p40 : lw_okq (⟨"MenuScreensModel", "leads", "(II)I"⟩, 59) := ⟨⟨by decide +kernel, by decide +kernel⟩, List.mem_of_getElem? (i := 983) (by decide +kernel), List.mem_of_getElem? (i := 1255) (by decide +kernel), List.mem_of_getElem? (i := 1256) (by decide +kernel)⟩
theorem lw_p41 : lw_okq (⟨"MenuScreensModel", "barred", "()Z"⟩, 59) := ⟨⟨by decide +kernel, by decide +kernel⟩, List.mem_of_getElem? (i := 983) (by decide +kernel), List.mem_of_getElem? (i := 1271) (by decide +kernel), List.mem_of_getElem? (i := 1272) (by decide +kernel)⟩
theorem lw_p42 : lw_okq (⟨"MenuScreensModel", "atHand", "()I"⟩, 59) := ⟨⟨by decide +kernel, by decide +kernel⟩, List.mem_of_getElem? (i := 983) (by decide +kernel), List.mem_of_getElem? (i := 1279) (by decide +kernel), List.mem_of_getElem? (i := 1280) (by decide +kernel)⟩
theorem lw_p43 : lw_okq (⟨"MenuScreensModel", "before", "(IZ)I"⟩, 59) := ⟨⟨by decide +kernel, by decide +kernel⟩, List.mem_of_getElem? (i := 983) (by decide +kernel), List.mem_of_getElem? (i := 1283) (by decide +kernel), List.mem_of_getElem? (i := 1284) (by decide +kernel)⟩
theorem lw_p44 : lw_okq (⟨"MenuScreensModel", "partAt", "(III)I"⟩, 59) := ⟨⟨by decide +kernel, by decide +kernel⟩, List.mem_of_getElem? (i := 983) (by decide +kernel), List.mem_of_getElem? (i := 1287) (by decide +kernel), List.mem_of_getElem? (i := 1288) (by decide +kernel)⟩
theorem lw_p45 : lw_okq (⟨"MenuScreensModel", "holds", "(I)Z"⟩, 59) := ⟨⟨by decide +kernel, by decide +kernel⟩, List.mem_of_getElem? (i := 983) (by decide +kernel), List.mem_of_getElem? (i := 1291) (by decide +kernel), List.mem_of_getElem? (i := 1292) (by decide +kernel)⟩
theorem lw_p46 : lw_okq (⟨"MenuScreensModel", "digit", "(III)I"⟩, 59) := ⟨⟨by decide +kernel, by decide +kernel⟩, List.mem_of_getElem? (i := 983) (by decide +kernel), List.mem_of_getElem? (i := 1295) (by decide +kernel), List.mem_of_getElem? (i := 1296) (by decide +kernel)⟩
def lw_privs_3 : List (MethodName × Nat) := [(⟨"MenuScreensModel", "number", "(JJ)Z"⟩, 59), (⟨"MenuScreensModel", "through", "()Z"⟩, 59), (⟨"MenuScreensModel", "addScreen", "(I)Z"⟩, 59), (⟨"MenuScreensModel", "findScreen", "(II)I"⟩, 59), (⟨"MenuScreensModel", "addPart", "(I)Z"⟩, 59), (⟨"MenuScreensModel", "addCondition", "()Z"⟩, 59), (⟨"MenuScreensModel", "addKey", "()Z"⟩, 59), (⟨"MenuScreensModel", "endLine", "()I"⟩, 59), (⟨"MenuScreensModel", "leads", "(II)I"⟩, 59), (⟨"MenuScreensModel", "barred", "()Z"⟩, 59), (⟨"MenuScreensModel", "atHand", "()I"⟩, 59), (⟨"MenuScreensModel", "before", "(IZ)I"⟩, 59), (⟨"MenuScreensModel", "partAt", "(III)I"⟩, 59), (⟨"MenuScreensModel", "holds", "(I)Z"⟩, 59), (⟨"MenuScreensModel", "digit", "(III)I"⟩, 59)]
theorem lw_r3 : ∀ q ∈ lw_privs_3, lw_okq q := List.forall_mem_cons.mpr ⟨lw_p32, List.forall_mem_cons.mpr ⟨lw_p33, List.forall_mem_cons.mpr ⟨lw_p34, List.forall_mem_cons.mpr ⟨lw_p35, List.forall_mem_cons.mpr ⟨lw_p36, List.forall_mem_cons.mpr ⟨lw_p37, List.forall_mem_cons.mpr ⟨lw_p38, List.forall_mem_cons.mpr ⟨lw_p39, List.forall_mem_cons.mpr ⟨lw_p40, List.forall_mem_cons.mpr ⟨lw_p41, List.forall_mem_cons.mpr ⟨lw_p42, List.forall_mem_cons.mpr ⟨lw_p43, List.forall_mem_cons.mpr ⟨lw_p44, List.forall_mem_cons.mpr ⟨lw_p45, List.forall_mem_cons.mpr ⟨lw_p46, fun _ h => absurd h List.not_mem_nil⟩⟩⟩⟩⟩⟩⟩⟩⟩⟩⟩⟩⟩⟩⟩
def lw_privs : List (MethodName × Nat) := lw_privs_1 ++ (lw_privs_2 ++ (lw_privs_3))
def lw_tbl : List Cond := k2_sels lw_privs ++ tables_1
theorem lw_privs_ok : ∀ q ∈ lw_privs, lw_okq q := by
  show ∀ q ∈ lw_privs_1 ++ (lw_privs_2 ++ (lw_privs_3)), lw_okq q
  exact List.forall_mem_append.mpr ⟨lw_r1, List.forall_mem_append.mpr ⟨lw_r2, lw_r3⟩⟩
-- ===== end of PART A; then your names; then what follows =====
end
section
/-! THE VIEW: what is known of the heap's cells as one function of the address. The kit's worlds stand below it (one pool of all cells that were made since the law began; cells from before are read alone). -/
abbrev vH : Type := Nat → Option va_E
def vup (h : vH) (a : Nat) (e : va_E) : vH := fun b => if b = a then some e else h b
theorem vup_s (h : vH) (a : Nat) (e : va_E) : vup h a e a = some e := by simp [vup]
theorem vup_n (h : vH) {a b : Nat} (e : va_E) (n : b ≠ a) : vup h a e b = h b := by simp [vup, n]
theorem vup_k {h : vH} {a b : Nat} {e x y : va_E} (hb : h b = some x) (ha : h a = some y) (n : x ≠ y) : vup h a e b = some x := by
  rw [vup_n h e (fun q => n (by rw [q, ha] at hb; exact (Option.some.inj hb).symm))]
  exact hb
theorem vup_f {h : vH} {a b : Nat} {e x : va_E} (hb : h b = some x) (ha : h a = none) : vup h a e b = some x := by
  rw [vup_n h e (fun q => by rw [q, ha] at hb; cases hb)]
  exact hb
/-- what can be read at a cell -/
def vrd (D : va_G) (cl : List vw_C) (U : State) (q : Nat × va_E) (H : Heap) : Prop := match q.2 with
  | .inl x => ∃ cell : Cell, H[q.1]? = some cell ∧ cell.vm.isStatics = false ∧ cell.vm ≠ .unknown ∧ (∀ ty, ArrOfT U x.1 ty → U.isArrayOf cell ty) ∧ x.2.1 ≤ cell.slots.size ∧ cell.slots.size.toInt32 = Int32.ofNat x.2.1 ∧ ∀ j : Nat, j < x.2.1 → cell.slots[j]? = (vp_cell x.1 x.2).slots[j]?
  | .inr o => ∃ r : vw_C, cl[o.1]? = some r ∧ ∃ cell : Cell, H[q.1]? = some cell ∧ cell.cls = D.1 o.1 ∧ cell.vm.isStatics = false ∧ cell.vm ≠ .unknown ∧ ∀ k : Nat, k < r.2.2 → cell.slots[D.2 o.1 k]? = some (vp_V o.2 k)
theorem vrd.kept {D : va_G} {cl : List vw_C} {U : State} {q : Nat × va_E} {H H1 : Heap} (h : vrd D cl U q H) (e : H1[q.1]? = H[q.1]?) : vrd D cl U q H1 := by
  obtain ⟨a, x⟩ := q
  cases x with
  | inl x =>
    obtain ⟨cell, h1, h2⟩ := h
    exact ⟨cell, e.trans h1, h2⟩
  | inr o =>
    obtain ⟨r, h1, cell, h2, h3⟩ := h
    exact ⟨r, h1, cell, e.trans h2, h3⟩
theorem vArr_back {u U : State} (hvm : u.vm.Alike U.vm) {cA : ClassId} {ty : FieldType} (h : ArrOfT U cA ty) : ArrOfT u cA ty := arrOfT_moved hvm.symm h
theorem vrd.moved {D : va_G} {cl : List vw_C} {u U : State} (hvm : u.vm.Alike U.vm) {q : Nat × va_E} {H : Heap} (h : vrd D cl u q H) : vrd D cl U q H := by
  obtain ⟨a, x⟩ := q
  cases x with
  | inl x =>
    obtain ⟨cell, h1, h2, h3, h4, h5⟩ := h
    exact ⟨cell, h1, h2, h3, fun ty hty => State.isArrayOf_alike hvm (h4 ty (vArr_back hvm hty)), h5⟩
  | inr o => exact h
theorem vp_cell_size (cA : ClassId) (x : vp_A) : (vp_cell cA x).slots.size = x.1 := by
  obtain ⟨n, y⟩ := x
  rcases y with f | f | f | f | f <;> exact arrV_size _ _ _
theorem vp_cell_vm (cA : ClassId) (x : vp_A) : (vp_cell cA x).vm = .none := by
  obtain ⟨n, y⟩ := x
  rcases y with f | f | f | f | f <;> rfl
theorem vp_cell_arr (U : State) (cA : ClassId) (x : vp_A) (ty : FieldType) (h : ArrOfT U cA ty) : U.isArrayOf (vp_cell cA x) ty := by
  obtain ⟨n, y⟩ := x
  rcases y with f | f | f | f | f <;> exact h _ _
theorem vrd.of {D : va_G} {cl : List vw_C} {U : State} {q : Nat × va_E} {H : Heap} (h : va_at D cl q H) : vrd D cl U q H := by
  obtain ⟨a, x⟩ := q
  cases x with
  | inl x =>
    refine ⟨vp_cell x.1 x.2, h, by rw [vp_cell_vm]; rfl, by rw [vp_cell_vm]; exact (fun z => by cases z), fun ty hty => vp_cell_arr U x.1 x.2 ty hty, by rw [vp_cell_size]; exact Nat.le_refl _, (by rw [vp_cell_size] <;> rfl), fun j _ => rfl⟩
  | inr o =>
    obtain ⟨r, h1, cell, h2, h3, h4, h5⟩ := h
    exact ⟨r, h1, cell, h2, h3, by rw [h4]; rfl, by rw [h4]; exact (fun z => by cases z), h5⟩
abbrev vB (S0 : State) : Nat → Prop := fun q => S0.heap.size ≤ q
/-- the view h is true of the heap H -/
def vQ (S0 : State) (D : va_G) (cl : List vw_C) (h : vH) (H : Heap) : Prop := ∃ (L : List Nat) (f : Nat → va_E), va_P D cl (va_pl L f) H ∧ va_D (vB S0) (va_pl L f) ∧ ∀ (a : Nat) (e : va_E), h a = some e → (a ∈ L ∧ f a = e) ∨ (a < S0.heap.size ∧ vrd D cl S0 (a, e) S0.heap)
/-- the state is one of the law's, S0 its start -/
def vN (S0 U : State) : Prop := S0.WarmedH U.vm ∧ S0.heap.size ≤ U.heap.size ∧ ∀ q : Nat, q < S0.heap.size → U.heap[q]? = S0.heap[q]?
/-- a method's start and end -/
def vI (S0 : State) (D : va_G) (cl : List vw_C) (h : vH) (U : State) : Prop := vN S0 U ∧ vQ S0 D cl h U.heap
/-- within a method that began at s -/
def vO (S0 : State) (D : va_G) (cl : List vw_C) (h : vH) (s : State) (H : Heap) (locs : List Loc) : Prop := vN S0 s ∧ va_S (vB S0) s.heap H locs ∧ vQ S0 D cl h H
theorem vO.start {S0 : State} {D : va_G} {cl : List vw_C} {h : vH} {s : State} (x : vI S0 D cl h s) : vO S0 D cl h s s.heap [] := ⟨x.1, va_S.rf, x.2⟩
theorem vO.old {S0 : State} {D : va_G} {cl : List vw_C} {h : vH} {s : State} {H : Heap} {locs : List Loc} (x : vO S0 D cl h s H locs) : ∀ q : Nat, q < S0.heap.size → H[q]? = S0.heap[q]? := fun q hq => by
  rw [x.2.1.2.1 q (Nat.lt_of_lt_of_le hq x.1.2.1) (Nat.not_le.mpr hq)]
  exact x.1.2.2 q hq
theorem vO.rd {S0 : State} {D : va_G} {cl : List vw_C} {h : vH} {s : State} {H : Heap} {locs : List Loc} (x : vO S0 D cl h s H locs) {a : Nat} {e : va_E} (ha : h a = some e) : vrd D cl s (a, e) H := by
  obtain ⟨L, f, hP, hD, hh⟩ := x.2.2
  rcases hh a e ha with ⟨h1, h2⟩ | ⟨h1, h2⟩
  · obtain ⟨k, hk⟩ := va_pl_get (X := []) (f := f) h1
    exact vrd.of (by rw [← h2]; exact hP k _ hk)
  · exact (h2.kept (x.old a h1)).moved x.1.1.alike
theorem vO.lt {S0 : State} {D : va_G} {cl : List vw_C} {h : vH} {s : State} {H : Heap} {locs : List Loc} (x : vO S0 D cl h s H locs) {a : Nat} {e : va_E} (ha : h a = some e) : a < H.size := by
  obtain ⟨L, f, hP, hD, hh⟩ := x.2.2
  rcases hh a e ha with ⟨h1, h2⟩ | ⟨h1, h2⟩
  · exact va_pl_lt (X := []) hP h1
  · exact Nat.lt_of_lt_of_le h1 (Nat.le_trans x.1.2.1 x.2.1.1)
/-- the state behind a method -/
theorem vO.fin {S0 : State} {D : va_G} {cl : List vw_C} {h : vH} {s t : State} {H : Heap} {locs : List Loc} (x : vO S0 D cl h s H locs) (ht : t.heap = H) (hW : s.WarmedH t.vm) : vI S0 D cl h t := by
  refine ⟨⟨x.1.1.trans hW, ?_, fun q hq => ?_⟩, ?_⟩
  · rw [ht]; exact Nat.le_trans x.1.2.1 x.2.1.1
  · rw [ht]; exact x.old q hq
  · rw [ht]; exact x.2.2
/-- a state that a callee begins with -/
theorem vO.call {S0 : State} {D : va_G} {cl : List vw_C} {h : vH} {s U : State} {H : Heap} {locs : List Loc} (x : vO S0 D cl h s H locs) (ht : U.heap = H) (hW : s.WarmedH U.vm) : vI S0 D cl h U := x.fin ht hW
/-- behind a call -/
theorem vO.back {S0 : State} {D : va_G} {cl : List vw_C} {h h' : vH} {s t : State} {H H1 : Heap} {locs locs1 : List Loc} (x : vO S0 D cl h s H locs) (ht : t.heap = H1) (y : vI S0 D cl h' t) (hS : va_S (vB S0) s.heap H1 locs1) : vO S0 D cl h' s H1 locs1 := ⟨x.1, hS, by rw [← ht]; exact y.2⟩
/-- a cell that may be written: it isn't older than the law -/
theorem vO.set {S0 : State} {D : va_G} {cl : List vw_C} {h : vH} {s : State} {H : Heap} {locs : List Loc} (x : vO S0 D cl h s H locs) {a : Nat} {e0 : va_E} (ha : h a = some e0) (hw : S0.heap.size ≤ a) :
    ∃ (ws : va_W) (k : Nat), va_P D cl ws H ∧ va_D (vB S0) ws ∧ ws[k]? = some (a, e0) ∧ ∀ (e : va_E) (H1 : Heap) (locs1 : List Loc), va_P D cl (ws.set k (a, e)) H1 → va_D (vB S0) (ws.set k (a, e)) → va_S (vB S0) s.heap H1 locs1 → vO S0 D cl (vup h a e) s H1 locs1 := by
  obtain ⟨L, f, hP, hD, hh⟩ := x.2.2
  rcases hh a e0 ha with ⟨h1, h2⟩ | ⟨h1, -⟩
  · obtain ⟨k, hk⟩ := va_pl_get (X := []) (f := f) h1
    rw [List.nil_append] at hk
    refine ⟨va_pl L f, k, hP, hD, by rw [← h2]; exact hk, fun e H1 locs1 hP1 hD1 hS1 => ⟨x.1, hS1, L, va_up f a e, ?_, ?_, fun b y hb => ?_⟩⟩
    · have e1 := va_pl_set (X := []) (e := e) (by rw [List.nil_append]; exact hD) h1 (by rw [List.nil_append]; exact hk)
      rw [List.nil_append, List.nil_append] at e1
      rw [← e1]; exact hP1
    · have e1 := va_pl_set (X := []) (e := e) (by rw [List.nil_append]; exact hD) h1 (by rw [List.nil_append]; exact hk)
      rw [List.nil_append, List.nil_append] at e1
      rw [← e1]; exact hD1
    · by_cases hba : b = a
      · subst hba
        rw [vup_s] at hb
        exact Or.inl ⟨h1, by rw [va_up_self]; exact Option.some.inj hb⟩
      · rw [vup_n h e hba] at hb
        rcases hh b y hb with ⟨g1, g2⟩ | g
        · exact Or.inl ⟨g1, by rw [va_up_ne _ _ hba]; exact g2⟩
        · exact Or.inr g
  · exact absurd hw (Nat.not_le.mpr h1)
/-- a new cell -/
theorem vO.new {S0 : State} {D : va_G} {cl : List vw_C} {h : vH} {s : State} {H : Heap} {locs : List Loc} (x : vO S0 D cl h s H locs) :
    ∃ ws : va_W, va_P D cl ws H ∧ va_D (vB S0) ws ∧ ∀ (q : Nat) (e : va_E) (H1 : Heap) (locs1 : List Loc), va_P D cl (ws ++ [(q, e)]) H1 → va_D (vB S0) (ws ++ [(q, e)]) → va_S (vB S0) s.heap H1 locs1 → h q = none ∧ S0.heap.size ≤ q ∧ vO S0 D cl (vup h q e) s H1 locs1 := by
  obtain ⟨L, f, hP, hD, hh⟩ := x.2.2
  refine ⟨va_pl L f, hP, hD, fun q e H1 locs1 hP1 hD1 hS1 => ?_⟩
  have hlen : (va_pl L f ++ [(q, e)])[(va_pl L f).length]? = some (q, e) := by
    rw [List.getElem?_append_right (Nat.le_refl _), Nat.sub_self]; rfl
  have hq : S0.heap.size ≤ q := hD1.2 _ _ hlen
  have hn : q ∉ L := by
    intro hm
    obtain ⟨k, hk⟩ := va_pl_get (X := []) (f := f) hm
    rw [List.nil_append] at hk
    have hk1 := (List.getElem?_eq_some_iff.mp hk).1
    have := hD1.1 k (va_pl L f).length (q, f q) (q, e) (by rw [List.getElem?_append_left hk1]; exact hk) hlen rfl
    omega
  refine ⟨?_, hq, x.1, hS1, L ++ [q], va_up f q e, by rw [← va_pl_push hn]; exact hP1, by rw [← va_pl_push hn]; exact hD1, fun b y hb => ?_⟩
  · cases hy : h q with
    | none => rfl
    | some y =>
      rcases hh q y hy with ⟨g1, -⟩ | ⟨g1, -⟩
      · exact absurd g1 hn
      · exact absurd hq (Nat.not_le.mpr g1)
  · by_cases hba : b = q
    · subst hba
      rw [vup_s] at hb
      exact Or.inl ⟨List.mem_append_right _ List.mem_cons_self, by rw [va_up_self]; exact Option.some.inj hb⟩
    · rw [vup_n h e hba] at hb
      rcases hh b y hb with ⟨g1, g2⟩ | g
      · exact Or.inl ⟨List.mem_append_left _ g1, by rw [va_up_ne _ _ hba]; exact g2⟩
      · exact Or.inr g
/-- less is known -/
theorem vO.weak {S0 : State} {D : va_G} {cl : List vw_C} {h h' : vH} {s : State} {H : Heap} {locs : List Loc} (x : vO S0 D cl h s H locs) (hh : ∀ a e, h' a = some e → h a = some e) : vO S0 D cl h' s H locs := by
  obtain ⟨h1, h2, L, f, h3, h4, h5⟩ := x
  exact ⟨h1, h2, L, f, h3, h4, fun a e ha => h5 a e (hh a e ha)⟩
end
section
/-! ROWS OVER THE VIEW -/
/-- what stays through a method: machine, code, locals' number, class, words, tables -/
def vC (p : Program) (s : State) (m : MethodId) (args : Array Value) (c : Code) (cc : ByteArray) (nL : Nat) (own : String) (Ts : List Cond) (D : va_G) (cl : List vw_C) (tys : List (ClassId × FieldType)) : Prop := CallFix p m c cc nL s args Ts own ∧ va_K D cl tys s
/-- a field, by the pool's number: to be read -/
def vFl (Ts : List Cond) (cl : List vw_C) (own : String) (index ci k : Nat) : Prop := ∃ (C : String) (T : u_T) (N : Nat) (ref : String), cl[ci]? = some (C, T, N) ∧ k < N ∧ (∀ w ∈ u_ws C T N, w ∈ Ts) ∧ Cond.fieldLink own index ref (T k).2.1 (T k).2.2.1 ∈ Ts ∧ ((T k).1 = ref ∨ Cond.sameField ref (T k).1 (T k).2.1 (T k).2.2.1 ∈ Ts)
/-- to be written; fin: a final field, in its own class's constructor -/
def vFp (Ts : List Cond) (cl : List vw_C) (own : String) (index ci k : Nat) (ty : FieldType) (fin : Bool) : Prop := ∃ (C : String) (T : u_T) (N : Nat) (ref : String) (ty0 : Nat → FieldType), cl[ci]? = some (C, T, N) ∧ k < N ∧ (∀ w ∈ u_ws C T N, w ∈ Ts) ∧ Cond.fieldLink own index ref (T k).2.1 (T k).2.2.1 ∈ Ts ∧ ((T k).1 = ref ∨ Cond.sameField ref (T k).1 (T k).2.1 (T k).2.2.1 ∈ Ts) ∧ (∀ j, j < N → parseFieldDescriptor (T j).2.2.1 = some (ty0 j)) ∧ (∀ a, a < N → ∀ b, b < N → a ≠ b → (T a).2.1 ≠ (T b).2.1) ∧ parseFieldDescriptor (T k).2.2.1 = some ty ∧ (T k).2.2.2 = fin ∧ (fin = true → (T k).1 = own)
/-- a class whose objects are made -/
def vFn (Ts : List Cond) (cl : List vw_C) (own : String) (index ci : Nat) (fs : List Value) : Prop := ∃ (C : String) (T : u_T) (ty0 : Nat → FieldType), cl[ci]? = some (C, T, fs.length) ∧ (∀ w ∈ u_ws C T fs.length, w ∈ Ts) ∧ Cond.classLink own index C ∈ Ts ∧ Cond.instantiable C fs.length ∈ Ts ∧ Cond.initialized C ∈ Ts ∧ (∀ j, j < fs.length → parseFieldDescriptor (T j).2.2.1 = some (ty0 j)) ∧ ∀ j, j < fs.length → defaultValue (ty0 j) = vp_V fs j
theorem vsame {Ts : List Cond} {args : Array Value} {s : State} (hts : ∀ w ∈ Ts, w.before args s = true) {o ref n d : String} (h : o = ref ∨ Cond.sameField ref o n d ∈ Ts) : ∀ x, s.fieldFound? o n d = some x → s.fieldFound? ref n d = some x := by
  intro x hx
  rcases h with h | h
  · subst h; exact hx
  · exact u_same (hts _ h) x hx
section VROWS
variable {p : Program} {l : Launch} {e : Env} {R : Room} {s : State} {m : MethodId} {args : Array Value} {below : List Frame} {meth : Method} {c : Code} {H : Heap} {locs : List Loc} {cells slots : Nat} {Q : State → Prop}
variable {cc : ByteArray} {pc nL : Nat} {ls : Array Slot} {rest : List Value} {D : va_G} {cl : List vw_C} {tys : List (ClassId × FieldType)} {own : String} {Ts : List Cond} {S0 : State} {h : vH} {a : Nat}
theorem mv_get (C : vC p s m args c cc nL own Ts D cl tys) (X : vO S0 D cl h s H locs) {ci index : Nat} {fs : List Value} (ha : h a = some (.inr (ci, fs))) (k : Nat) (hf : vFl Ts cl own index ci k) {v : Value} (hv : fs[k]? = some v) (hdg : decode cc pc = .ok (.getfield index, 3))
    (kk : W p l e R s m args below meth c H locs cells slots Q (F0 m (pc + 3) ls (v :: rest))) : W p l e R s m args below meth c H locs cells slots Q (F0 m pc ls (.ref a :: rest)) := by
  obtain ⟨⟨hx, hb, -, hown, hts⟩, hK⟩ := C
  obtain ⟨Cn, T, N, ref, hc, hk, hin, hlk, hsm⟩ := hf
  obtain ⟨r, h1, cell, q1, q2, q3, q4, q5⟩ := X.rd ha
  have hr : r = (Cn, T, N) := Option.some.inj (h1.symm.trans hc)
  subst hr
  obtain ⟨hS, hfc, kC, hkC, hkind⟩ := hK.1 ci _ hc
  obtain ⟨cf, kf, fi, f, hi, hsl⟩ := hS k hk
  refine W.getf hx hb hown (hts _ hlk) (vsame hts hsm _ hi) (u_facts hfc hkC (u_lays hts hin hk) hi).1 q1 q4 (v := v) ?_ rfl rfl hdg kk
  rw [hsl, q5 k hk]
  simp [vp_V, hv]
theorem mv_put (C : vC p s m args c cc nL own Ts D cl tys) (X : vO S0 D cl h s H locs) {ci index : Nat} {fs : List Value} (ha : h a = some (.inr (ci, fs))) (hw : S0.heap.size ≤ a) (k : Nat) {ty : FieldType} {v : Value} (hf : vFp Ts cl own index ci k ty false) (hn : narrow ty v = v) (hfit : fits ty v = true) (hl : k < fs.length) (hdg : decode cc pc = .ok (.putfield index, 3))
    (kk : ∀ (H1 : Heap) (locs1 : List Loc), vO S0 D cl (vup h a (.inr (ci, fs.set k v))) s H1 locs1 → W p l e R s m args below meth c H1 locs1 cells slots Q (F0 m (pc + 3) ls rest)) : W p l e R s m args below meth c H locs cells slots Q (F0 m pc ls (v :: .ref a :: rest)) := by
  obtain ⟨⟨hx, hb, -, hown, hts⟩, hK⟩ := C
  obtain ⟨Cn, T, N, ref, ty0, hc, hk, hin, hlk, hsm, hty, hnm, hd, hfin, -⟩ := hf
  obtain ⟨ws, q0, hP, hD, he, hset⟩ := X.set ha hw
  exact va_put hx hb hts hin ty0 hty hnm hown hK hP hD X.2.1 q0 he hc k hk (hts _ hlk) (vsame hts hsm) hfin hd hn hfit hl hdg (fun H1 l1 a1 a2 a3 => kk H1 l1 (hset _ H1 l1 a1 a2 a3))
theorem mv_putF (C : vC p s m args c cc nL own Ts D cl tys) (X : vO S0 D cl h s H locs) {ci index : Nat} {fs : List Value} (ha : h a = some (.inr (ci, fs))) (hw : S0.heap.size ≤ a) (k : Nat) {ty : FieldType} {v : Value} (hin2 : meth.name = "<init>") (hf : vFp Ts cl own index ci k ty true) (hn : narrow ty v = v) (hfit : fits ty v = true) (hl : k < fs.length) (hdg : decode cc pc = .ok (.putfield index, 3))
    (kk : ∀ (H1 : Heap) (locs1 : List Loc), vO S0 D cl (vup h a (.inr (ci, fs.set k v))) s H1 locs1 → W p l e R s m args below meth c H1 locs1 cells slots Q (F0 m (pc + 3) ls rest)) : W p l e R s m args below meth c H locs cells slots Q (F0 m pc ls (v :: .ref a :: rest)) := by
  obtain ⟨⟨hx, hb, -, hown, hts⟩, hK⟩ := C
  obtain ⟨Cn, T, N, ref, ty0, hc, hk, hin, hlk, hsm, hty, hnm, hd, hfin, hdc⟩ := hf
  obtain ⟨ws, q0, hP, hD, he, hset⟩ := X.set ha hw
  exact va_putF hx hb hts hin ty0 hty hnm hown hK hP hD X.2.1 q0 he hc k hk (hts _ hlk) (vsame hts hsm) hfin hin2 (hdc rfl) hd hn hfit hl hdg (fun H1 l1 a1 a2 a3 => kk H1 l1 (hset _ H1 l1 a1 a2 a3))
theorem mv_new (C : vC p s m args c cc nL own Ts D cl tys) (X : vO S0 D cl h s H locs) {ci index : Nat} {fs : List Value} (hf : vFn Ts cl own index ci fs) (hcells : cells + 1 ≤ R.cells) (hslots : slots + fs.length ≤ R.slots) (hdg : decode cc pc = .ok (.new index, 3))
    (kk : ∀ (q : Nat) (H1 : Heap), h q = none → S0.heap.size ≤ q → vO S0 D cl (vup h q (.inr (ci, fs))) s H1 locs → W p l e R s m args below meth c H1 locs (cells + 1) (slots + fs.length) Q (F0 m (pc + 3) ls (.ref q :: rest))) : W p l e R s m args below meth c H locs cells slots Q (F0 m pc ls rest) := by
  obtain ⟨⟨hx, hb, -, hown, hts⟩, hK⟩ := C
  obtain ⟨Cn, T, ty0, hc, hin, hcl, hins, hini, hty, hfs⟩ := hf
  obtain ⟨ws, hP, hD, hnew⟩ := X.new
  exact va_new hx hb hts hin ty0 hty hown (hts _ hcl) (hts _ hins) (hts _ hini) hK hP hD X.2.1 (fun q hq => Nat.le_trans X.1.2.1 hq) hc hfs hcells hslots hdg (fun q H1 a1 a2 a3 => by
    obtain ⟨b1, b2, b3⟩ := hnew q _ H1 locs a1 a2 a3
    exact kk q H1 b1 b2 b3)
theorem mv_hin {i : Int32} {j n N : Nat} (hi : i = nI j) (hj : j < n) (hn : n < 2 ^ 31) (hN : n ≤ N) : ¬ (i < 0 ∨ N ≤ i.toNatClampNeg) := by
  subst hi
  rw [nI_clamp (by omega)]
  intro z
  rcases z with z | z
  · exact nI_pos (by omega) z
  · omega
theorem mv_iald (C : vC p s m args c cc nL own Ts D cl tys) (X : vO S0 D cl h s H locs) {n : Nat} {cA : ClassId} {f : Nat → Int32} (ha : h a = some (.inl (cA, n, .inl f))) (t0 : Nat) (ht : tys[t0]? = some (cA, .int)) {i : Int32} (j : Nat) (hi : i = nI j) (hj : j < n) (hn : n < 2 ^ 31) (hdg : decode cc pc = .ok (.iaload, 1))
    (kk : W p l e R s m args below meth c H locs cells slots Q (F0 m (pc + 1) ls (.int (f j) :: rest))) : W p l e R s m args below meth c H locs cells slots Q (F0 m pc ls (.int i :: .ref a :: rest)) := by
  obtain ⟨⟨hx, hb, -, hown, hts⟩, hK⟩ := C
  obtain ⟨cell, q1, q2, q3, q4, q5, q6, q7⟩ := X.rd ha
  have ec : i.toNatClampNeg = j := by rw [hi]; exact nI_clamp (by omega)
  exact W.iald (v := .int (f j)) hx hb q1 (q4 .int (hK.2 t0 _ ht).1) q3 (mv_hin hi hj hn q5) (by rw [ec, q7 _ hj]; show (arrV _ _ _).slots[_]? = _; rw [arrV_read _ _ hj]) rfl rfl hdg kk
theorem mv_lald (C : vC p s m args c cc nL own Ts D cl tys) (X : vO S0 D cl h s H locs) {n : Nat} {cA : ClassId} {f : Nat → Int64} (ha : h a = some (.inl (cA, n, .inr (.inl f)))) (t0 : Nat) (ht : tys[t0]? = some (cA, .long)) {i : Int32} (j : Nat) (hi : i = nI j) (hj : j < n) (hn : n < 2 ^ 31) (hdg : decode cc pc = .ok (.laload, 1))
    (kk : W p l e R s m args below meth c H locs cells slots Q (F0 m (pc + 1) ls (.long (f j) :: rest))) : W p l e R s m args below meth c H locs cells slots Q (F0 m pc ls (.int i :: .ref a :: rest)) := by
  obtain ⟨⟨hx, hb, -, hown, hts⟩, hK⟩ := C
  obtain ⟨cell, q1, q2, q3, q4, q5, q6, q7⟩ := X.rd ha
  have ec : i.toNatClampNeg = j := by rw [hi]; exact nI_clamp (by omega)
  exact W.lald (v := .long (f j)) hx hb q1 (q4 .long (hK.2 t0 _ ht).1) q3 (mv_hin hi hj hn q5) (by rw [ec, q7 _ hj]; show (arrV _ _ _).slots[_]? = _; rw [arrV_read _ _ hj]) rfl rfl hdg kk
theorem mv_bald (C : vC p s m args c cc nL own Ts D cl tys) (X : vO S0 D cl h s H locs) {n : Nat} {cA : ClassId} {f : Nat → Int32} (ha : h a = some (.inl (cA, n, .inl f))) (t0 : Nat) (ht : tys[t0]? = some (cA, .byte)) {i : Int32} (j : Nat) (hi : i = nI j) (hj : j < n) (hn : n < 2 ^ 31) (hdg : decode cc pc = .ok (.baload, 1))
    (kk : W p l e R s m args below meth c H locs cells slots Q (F0 m (pc + 1) ls (.int (f j) :: rest))) : W p l e R s m args below meth c H locs cells slots Q (F0 m pc ls (.int i :: .ref a :: rest)) := by
  obtain ⟨⟨hx, hb, -, hown, hts⟩, hK⟩ := C
  obtain ⟨cell, q1, q2, q3, q4, q5, q6, q7⟩ := X.rd ha
  have ec : i.toNatClampNeg = j := by rw [hi]; exact nI_clamp (by omega)
  exact W.bald (v := .int (f j)) hx hb q1 (q4 .byte (hK.2 t0 _ ht).1) q3 (mv_hin hi hj hn q5) (by rw [ec, q7 _ hj]; show (arrV _ _ _).slots[_]? = _; rw [arrV_read _ _ hj]) rfl rfl hdg kk
theorem mv_zald (C : vC p s m args c cc nL own Ts D cl tys) (X : vO S0 D cl h s H locs) {n : Nat} {cA : ClassId} {f : Nat → Int32} (ha : h a = some (.inl (cA, n, .inl f))) (t0 : Nat) (ht : tys[t0]? = some (cA, .boolean)) {i : Int32} (j : Nat) (hi : i = nI j) (hj : j < n) (hn : n < 2 ^ 31) (hdg : decode cc pc = .ok (.baload, 1))
    (kk : W p l e R s m args below meth c H locs cells slots Q (F0 m (pc + 1) ls (.int (f j) :: rest))) : W p l e R s m args below meth c H locs cells slots Q (F0 m pc ls (.int i :: .ref a :: rest)) := by
  obtain ⟨⟨hx, hb, -, hown, hts⟩, hK⟩ := C
  obtain ⟨cell, q1, q2, q3, q4, q5, q6, q7⟩ := X.rd ha
  have ec : i.toNatClampNeg = j := by rw [hi]; exact nI_clamp (by omega)
  exact W.zald (v := .int (f j)) hx hb q1 (q4 .boolean (hK.2 t0 _ ht).1) q3 (mv_hin hi hj hn q5) (by rw [ec, q7 _ hj]; show (arrV _ _ _).slots[_]? = _; rw [arrV_read _ _ hj]) rfl rfl hdg kk
theorem mv_aald (C : vC p s m args c cc nL own Ts D cl tys) (X : vO S0 D cl h s H locs) {n : Nat} {cA : ClassId} {f : Nat → Option Nat} (ha : h a = some (.inl (cA, n, .inr (.inr (.inr (.inr f)))))) (t0 : Nat) {ty : FieldType} (ht : tys[t0]? = some (cA, ty)) (hr : ty.isReference = true) {i : Int32} (j : Nat) (hi : i = nI j) (hj : j < n) (hn : n < 2 ^ 31) (hdg : decode cc pc = .ok (.aaload, 1))
    (kk : W p l e R s m args below meth c H locs cells slots Q (F0 m (pc + 1) ls (va_rf (f j) :: rest))) : W p l e R s m args below meth c H locs cells slots Q (F0 m pc ls (.int i :: .ref a :: rest)) := by
  obtain ⟨⟨hx, hb, -, hown, hts⟩, hK⟩ := C
  obtain ⟨cell, q1, q2, q3, q4, q5, q6, q7⟩ := X.rd ha
  have ec : i.toNatClampNeg = j := by rw [hi]; exact nI_clamp (by omega)
  exact W.aald (v := va_rf (f j)) (ty := ty) hx hb q1 (q4 ty (hK.2 t0 _ ht).1) hr q3 (mv_hin hi hj hn q5) (by rw [ec, q7 _ hj]; show (arrV _ _ _).slots[_]? = _; rw [arrV_read _ _ hj]) rfl rfl hdg kk
theorem mv_alen (C : vC p s m args c cc nL own Ts D cl tys) (X : vO S0 D cl h s H locs) {cA : ClassId} {x : vp_A} (ha : h a = some (.inl (cA, x))) (t0 : Nat) {ty : FieldType} (ht : tys[t0]? = some (cA, ty)) (hdg : decode cc pc = .ok (.arraylength, 1))
    (kk : W p l e R s m args below meth c H locs cells slots Q (F0 m (pc + 1) ls (.int (nI x.1) :: rest))) : W p l e R s m args below meth c H locs cells slots Q (F0 m pc ls (.ref a :: rest)) := by
  obtain ⟨⟨hx, hb, -, hown, hts⟩, hK⟩ := C
  obtain ⟨cell, q1, q2, q3, q4, q5, q6, q7⟩ := X.rd ha
  exact W.alen (n := nI x.1) hx hb q1 (q4 ty (hK.2 t0 _ ht).1) q6 rfl rfl hdg kk
theorem mv_in {i : Int32} {j n : Nat} (hi : i = nI j) (hj : j < n) (hn : n < 2 ^ 31) : vp_in i n := by rw [hi]; exact vp_in_nI hj hn
theorem mv_iast (C : vC p s m args c cc nL own Ts D cl tys) (X : vO S0 D cl h s H locs) {n : Nat} {cA : ClassId} {f : Nat → Int32} (ha : h a = some (.inl (cA, n, .inl f))) (hw : S0.heap.size ≤ a) (t0 : Nat) (ht : tys[t0]? = some (cA, .int)) {i x : Int32} (j : Nat) (hi : i = nI j) (hj : j < n) (hn : n < 2 ^ 31) (hdg : decode cc pc = .ok (.iastore, 1))
    (kk : ∀ (H1 : Heap) (locs1 : List Loc), vO S0 D cl (vup h a (.inl (cA, n, .inl (upd f j x)))) s H1 locs1 → W p l e R s m args below meth c H1 locs1 cells slots Q (F0 m (pc + 1) ls rest)) : W p l e R s m args below meth c H locs cells slots Q (F0 m pc ls (.int x :: .int i :: .ref a :: rest)) := by
  obtain ⟨⟨hx, hb, -, hown, hts⟩, hK⟩ := C
  obtain ⟨ws, q0, hP, hD, he, hset⟩ := X.set ha hw
  have ec : i.toNatClampNeg = j := by rw [hi]; exact nI_clamp (by omega)
  refine va_iast hx hb hK hP hD X.2.1 q0 t0 he ht (mv_in hi hj hn) hdg (fun H1 l1 a1 a2 a3 => kk H1 l1 ?_)
  rw [ec] at a1 a2
  exact hset _ H1 l1 a1 a2 a3
theorem mv_last (C : vC p s m args c cc nL own Ts D cl tys) (X : vO S0 D cl h s H locs) {n : Nat} {cA : ClassId} {f : Nat → Int64} (ha : h a = some (.inl (cA, n, .inr (.inl f)))) (hw : S0.heap.size ≤ a) (t0 : Nat) (ht : tys[t0]? = some (cA, .long)) {i : Int32} {x : Int64} (j : Nat) (hi : i = nI j) (hj : j < n) (hn : n < 2 ^ 31) (hdg : decode cc pc = .ok (.lastore, 1))
    (kk : ∀ (H1 : Heap) (locs1 : List Loc), vO S0 D cl (vup h a (.inl (cA, n, .inr (.inl (vp_updL f j x))))) s H1 locs1 → W p l e R s m args below meth c H1 locs1 cells slots Q (F0 m (pc + 1) ls rest)) : W p l e R s m args below meth c H locs cells slots Q (F0 m pc ls (.long x :: .int i :: .ref a :: rest)) := by
  obtain ⟨⟨hx, hb, -, hown, hts⟩, hK⟩ := C
  obtain ⟨ws, q0, hP, hD, he, hset⟩ := X.set ha hw
  have ec : i.toNatClampNeg = j := by rw [hi]; exact nI_clamp (by omega)
  refine va_last hx hb hK hP hD X.2.1 q0 t0 he ht (mv_in hi hj hn) hdg (fun H1 l1 a1 a2 a3 => kk H1 l1 ?_)
  rw [ec] at a1 a2
  exact hset _ H1 l1 a1 a2 a3
theorem mv_bast (C : vC p s m args c cc nL own Ts D cl tys) (X : vO S0 D cl h s H locs) {n : Nat} {cA : ClassId} {f : Nat → Int32} (ha : h a = some (.inl (cA, n, .inl f))) (hw : S0.heap.size ≤ a) (t0 : Nat) (ht : tys[t0]? = some (cA, .byte)) {i x : Int32} (j : Nat) (hi : i = nI j) (hj : j < n) (hn : n < 2 ^ 31) (hdg : decode cc pc = .ok (.bastore, 1))
    (kk : ∀ (H1 : Heap) (locs1 : List Loc), vO S0 D cl (vup h a (.inl (cA, n, .inl (upd f j (vp_nar .byte x))))) s H1 locs1 → W p l e R s m args below meth c H1 locs1 cells slots Q (F0 m (pc + 1) ls rest)) : W p l e R s m args below meth c H locs cells slots Q (F0 m pc ls (.int x :: .int i :: .ref a :: rest)) := by
  obtain ⟨⟨hx, hb, -, hown, hts⟩, hK⟩ := C
  obtain ⟨ws, q0, hP, hD, he, hset⟩ := X.set ha hw
  have ec : i.toNatClampNeg = j := by rw [hi]; exact nI_clamp (by omega)
  refine va_bast hx hb hK hP hD X.2.1 q0 t0 he ht (mv_in hi hj hn) hdg (fun H1 l1 a1 a2 a3 => kk H1 l1 ?_)
  rw [ec] at a1 a2
  exact hset _ H1 l1 a1 a2 a3
theorem mv_any (C : vC p s m args c cc nL own Ts D cl tys) (X : vO S0 D cl h s H locs) {ci : Nat} {fs : List Value} {r : vw_C} {E : String} (ha : h a = some (.inr (ci, fs))) (hc : cl[ci]? = some r) (hasg : ∀ comp c0 : ClassId, s.vm.findClass E = some comp → s.vm.findClass r.1 = some c0 → s.vm.assignable c0 comp = true) : va_Any E s H a := by
  obtain ⟨⟨hx, hb, -, hown, hts⟩, hK⟩ := C
  obtain ⟨r', h1, cell, q1, q2, q3, q4, q5⟩ := X.rd ha
  have hr : r' = r := Option.some.inj (h1.symm.trans hc)
  subst hr
  obtain ⟨hS, hfc, kC, hkC, hkind⟩ := hK.1 ci _ hc
  exact ⟨cell, q1, q3, ⟨kC, by rw [q2]; exact hkC⟩, fun comp h9 => hasg comp _ h9 (by rw [q2]; exact hfc)⟩
theorem mv_recv (C : vC p s m args c cc nL own Ts D cl tys) (X : vO S0 D cl h s H locs) {ci : Nat} {fs : List Value} {r : vw_C} (ha : h a = some (.inr (ci, fs))) (hc : cl[ci]? = some r) : ∃ cell : Cell, H[a]? = some cell ∧ cell.vm.isStatics = false ∧ s.vm.findClass r.1 = some cell.cls := by
  obtain ⟨⟨hx, hb, -, hown, hts⟩, hK⟩ := C
  obtain ⟨r', h1, cell, q1, q2, q3, q4, q5⟩ := X.rd ha
  have hr : r' = r := Option.some.inj (h1.symm.trans hc)
  subst hr
  obtain ⟨hS, hfc, kC, hkC, hkind⟩ := hK.1 ci _ hc
  exact ⟨cell, q1, q3, by rw [q2]; exact hfc⟩
theorem mv_aast (C : vC p s m args c cc nL own Ts D cl tys) (X : vO S0 D cl h s H locs) {n v : Nat} {cA : ClassId} {E : String} {f : Nat → Option Nat} (ha : h a = some (.inl (cA, n, .inr (.inr (.inr (.inr f)))))) (hw : S0.heap.size ≤ a) (t0 : Nat) (ht : tys[t0]? = some (cA, .object E)) (hr : va_Any E s H v) {i : Int32} (j : Nat) (hi : i = nI j) (hj : j < n) (hn : n < 2 ^ 31) (hdg : decode cc pc = .ok (.aastore, 1))
    (kk : ∀ (H1 : Heap) (locs1 : List Loc), vO S0 D cl (vup h a (.inl (cA, n, .inr (.inr (.inr (.inr (va_up f j (some v)))))))) s H1 locs1 → W p l e R s m args below meth c H1 locs1 cells slots Q (F0 m (pc + 1) ls rest)) : W p l e R s m args below meth c H locs cells slots Q (F0 m pc ls (.ref v :: .int i :: .ref a :: rest)) := by
  obtain ⟨⟨hx, hb, -, hown, hts⟩, hK⟩ := C
  obtain ⟨ws, q0, hP, hD, he, hset⟩ := X.set ha hw
  have ec : i.toNatClampNeg = j := by rw [hi]; exact nI_clamp (by omega)
  refine va_astqM hx hb hK hP hD X.2.1 q0 t0 he ht hr (mv_in hi hj hn) hdg (fun H1 l1 a1 a2 a3 => kk H1 l1 ?_)
  rw [ec] at a1 a2
  exact hset _ H1 l1 a1 a2 a3
theorem mv_aastN (C : vC p s m args c cc nL own Ts D cl tys) (X : vO S0 D cl h s H locs) {n : Nat} {cA : ClassId} {E : String} {f : Nat → Option Nat} (ha : h a = some (.inl (cA, n, .inr (.inr (.inr (.inr f)))))) (hw : S0.heap.size ≤ a) (t0 : Nat) (ht : tys[t0]? = some (cA, .object E)) {i : Int32} (j : Nat) (hi : i = nI j) (hj : j < n) (hn : n < 2 ^ 31) (hdg : decode cc pc = .ok (.aastore, 1))
    (kk : ∀ (H1 : Heap) (locs1 : List Loc), vO S0 D cl (vup h a (.inl (cA, n, .inr (.inr (.inr (.inr (va_up f j none))))))) s H1 locs1 → W p l e R s m args below meth c H1 locs1 cells slots Q (F0 m (pc + 1) ls rest)) : W p l e R s m args below meth c H locs cells slots Q (F0 m pc ls (.null :: .int i :: .ref a :: rest)) := by
  obtain ⟨⟨hx, hb, -, hown, hts⟩, hK⟩ := C
  obtain ⟨ws, q0, hP, hD, he, hset⟩ := X.set ha hw
  have ec : i.toNatClampNeg = j := by rw [hi]; exact nI_clamp (by omega)
  refine va_astqN hx hb hK hP hD X.2.1 q0 t0 he ht (mv_in hi hj hn) hdg (fun H1 l1 a1 a2 a3 => kk H1 l1 ?_)
  rw [ec] at a1 a2
  exact hset _ H1 l1 a1 a2 a3
/-- one class of arrays a type -/
theorem va_RA_one {U : State} {c1 c2 : ClassId} {ty : FieldType} (h1 : va_RA U c1 ty) (h2 : va_RA U c2 ty) : c1 = c2 := by
  cases ty with
  | object C =>
    obtain ⟨_, _, -, -, -, a⟩ := h1
    obtain ⟨_, _, -, -, -, b⟩ := h2
    exact Option.some.inj (a.symm.trans b)
  | _ => exact Option.some.inj (Eq.trans (Eq.symm h1) h2)
theorem mv_newa (C : vC p s m args c cc nL own Ts D cl tys) (X : vO S0 D cl h s H locs) {atype : ArrayType} (harr : Cond.arrayClass (newarray.typeOf atype) ∈ Ts) {ty : FieldType} (hty : newarray.typeOf atype = ty) (t0 : Nat) {cA : ClassId} (ht : tys[t0]? = some (cA, ty)) {n : Int32} (N' : Nat) {a0 : vp_A} (ha : ∀ cA : ClassId, vp_cell cA a0 = arrV cA N' (fun _ => defaultValue ty)) (hi : n = nI N') (hN : N' < 2 ^ 31) (hbytes : N' * componentBytes ty ≤ 536870912) (hcells : cells + 1 ≤ R.cells) (hslots : slots + N' ≤ R.slots) (hdg : decode cc pc = .ok (.newarray atype, 2))
    (kk : ∀ (q : Nat) (H1 : Heap), h q = none → S0.heap.size ≤ q → vO S0 D cl (vup h q (.inl (cA, a0))) s H1 locs → W p l e R s m args below meth c H1 locs (cells + 1) (slots + N') Q (F0 m (pc + 2) ls (.ref q :: rest))) : W p l e R s m args below meth c H locs cells slots Q (F0 m pc ls (.int n :: rest)) := by
  obtain ⟨⟨hx, hb, -, hown, hts⟩, hK⟩ := C
  obtain ⟨ws, hP, hD, hnew⟩ := X.new
  subst hi
  refine va_newa hx hb (hts _ harr) hty hK hP hD X.2.1 (fun q hq => Nat.le_trans X.1.2.1 hq) ha (nI_pos hN) (nI_clamp hN) hbytes hcells hslots hdg (fun q cB H1 hK1 a1 a2 a3 => ?_)
  have h1 : va_RA s cB ty := (hK1.2 tys.length (cB, ty) (by rw [List.getElem?_append_right (Nat.le_refl _), Nat.sub_self]; rfl)).2
  have h2 : cA = cB := va_RA_one (hK.2 t0 _ ht).2 h1
  subst h2
  obtain ⟨b1, b2, b3⟩ := hnew q _ H1 locs a1 a2 a3
  exact kk q H1 b1 b2 b3
theorem mv_newq (C : vC p s m args c cc nL own Ts D cl tys) (X : vO S0 D cl h s H locs) {E : String} {index : Nat} (hcl : Cond.classLink own index E ∈ Ts) (hover : va_AO E s) (t0 : Nat) {cA : ClassId} (ht : tys[t0]? = some (cA, .object E)) {n : Int32} (N' : Nat) (hi : n = nI N') (hN : N' < 2 ^ 31) (hbytes : N' * 4 ≤ 536870912) (hcells : cells + 1 ≤ R.cells) (hslots : slots + N' ≤ R.slots) (hdg : decode cc pc = .ok (.anewarray index, 3))
    (kk : ∀ (q : Nat) (H1 : Heap), h q = none → S0.heap.size ≤ q → vO S0 D cl (vup h q (.inl (cA, N', .inr (.inr (.inr (.inr (fun _ => none))))))) s H1 locs → W p l e R s m args below meth c H1 locs (cells + 1) (slots + N') Q (F0 m (pc + 3) ls (.ref q :: rest))) : W p l e R s m args below meth c H locs cells slots Q (F0 m pc ls (.int n :: rest)) := by
  obtain ⟨⟨hx, hb, -, hown, hts⟩, hK⟩ := C
  obtain ⟨ws, hP, hD, hnew⟩ := X.new
  subst hi
  refine va_newq hx hb hown (hts _ hcl) hover hK hP hD X.2.1 (fun q hq => Nat.le_trans X.1.2.1 hq) (nI_pos hN) (nI_clamp hN) hbytes hcells hslots hdg (fun q cB H1 hK1 a1 a2 a3 => ?_)
  have h1 : va_RA s cB (.object E) := (hK1.2 tys.length (cB, .object E) (by rw [List.getElem?_append_right (Nat.le_refl _), Nat.sub_self]; rfl)).2
  have h2 : cA = cB := va_RA_one (hK.2 t0 _ ht).2 h1
  subst h2
  obtain ⟨b1, b2, b3⟩ := hnew q _ H1 locs a1 a2 a3
  exact kk q H1 b1 b2 b3
end VROWS
end
section
/-! METHODS AND CALLS OVER THE VIEW -/
abbrev vW (y : MethodName) (bytes : ByteArray) (maxL : Nat) (ret : Option FieldType) (Ts : List Cond) : List Cond := Cond.code y bytes maxL ret :: Ts
abbrev vRm (F N mc ms : Nat) : Room := { frames := F, cells := mc, slots := ms, locals := N }
/-- a method's contract, from the view h on; by its answer: int, long, none, a reference -/
def vMi (l : Launch) (S0 : State) (D : va_G) (cl : List vw_C) (Ts : List Cond) (y : MethodName) (bytes : ByteArray) (maxL : Nat) (ret : Option FieldType) (F N mc ms : Nat) (av : List Value) (h : vH) (post : Int32 → vH → Prop) : Prop := Met l y (vW y bytes maxL ret Ts) (vRm F N mc ms) (va_Pc av (vI S0 D cl h)) (va_Qi post (vI S0 D cl) (vB S0)) mc ms (vB S0)
def vMl (l : Launch) (S0 : State) (D : va_G) (cl : List vw_C) (Ts : List Cond) (y : MethodName) (bytes : ByteArray) (maxL : Nat) (ret : Option FieldType) (F N mc ms : Nat) (av : List Value) (h : vH) (post : Int64 → vH → Prop) : Prop := Met l y (vW y bytes maxL ret Ts) (vRm F N mc ms) (va_Pc av (vI S0 D cl h)) (va_Ql post (vI S0 D cl) (vB S0)) mc ms (vB S0)
def vMv (l : Launch) (S0 : State) (D : va_G) (cl : List vw_C) (Ts : List Cond) (y : MethodName) (bytes : ByteArray) (maxL : Nat) (ret : Option FieldType) (F N mc ms : Nat) (av : List Value) (h : vH) (post : vH → Prop) : Prop := Met l y (vW y bytes maxL ret Ts) (vRm F N mc ms) (va_Pc av (vI S0 D cl h)) (va_Qv post (vI S0 D cl) (vB S0)) mc ms (vB S0)
def vMq (l : Launch) (S0 : State) (D : va_G) (cl : List vw_C) (Ts : List Cond) (y : MethodName) (bytes : ByteArray) (maxL : Nat) (ret : Option FieldType) (F N mc ms : Nat) (av : List Value) (h : vH) (post : Option Nat → vH → Prop) : Prop := Met l y (vW y bytes maxL ret Ts) (vRm F N mc ms) (va_Pc av (vI S0 D cl h)) (va_Qq post (vI S0 D cl) (vB S0)) mc ms (vB S0)
/-- a method's beginning -/
theorem vM_of {l : Launch} {S0 : State} {D : va_G} {cl : List vw_C} {tys : List (ClassId × FieldType)} (hK0 : va_K D cl tys S0) {Ts : List Cond} {y : MethodName} {bytes : ByteArray} {maxL : Nat} {ret : Option FieldType} {F N mc ms : Nat} {av : List Value} {h : vH} {Qc : Array Value → State → Outcome → State → Prop} (hy : plainName y.cls = true) (hlen : (lg_sl av).length ≤ maxL)
    (body : ∀ (p : Program) (e : Env) (s : State) (m : MethodId) (below : List Frame) (meth : Method) (c : Code) (ls : Array Slot), vC p s m av.toArray c bytes maxL y.cls Ts D cl tys → meth.sig.returnType = ret → meth.locks = false → meth.name = y.name → vO S0 D cl h s s.heap [] → lv_has ls maxL (lv_args 0 av) →
      W p l e (vRm F N mc ms) s m av.toArray below meth c s.heap [] 0 0 (MQ below Qc av.toArray s mc ms (vB S0)) (F0 m 0 ls [])) :
    Met l y (vW y bytes maxL ret Ts) (vRm F N mc ms) (va_Pc av (vI S0 D cl h)) Qc mc ms (vB S0) := by
  refine Met.ofW (cc := bytes) (maxL := maxL) (ret := ret) hy rfl ?_
  intro p e s m args below meth c s₁ B hml hv
  obtain ⟨rfl, hI⟩ := hv
  have hts : ∀ w ∈ vW y bytes maxL ret Ts, w.before av.toArray s = true := atoms_spec (ws := vW y bytes maxL ret Ts) B.pre
  have hown : s.vm.findClass y.cls = some m.cls := findClass_of_methodNamed B.named
  have hl := lv_entry av (n := maxL) hlen
  rw [lg_entry_eq]
  exact body p e s m below meth c _ ⟨⟨B.exec, B.bytes, hml, hown, fun w hw => hts w (List.mem_cons_of_mem _ hw)⟩, va_K.moved hI.1.1.alike hK0⟩ B.returns B.notSynchronized (name_of_methodNamed B.named B.method).1 (vO.start hI) hl
section VCALLS
variable {p : Program} {l : Launch} {e : Env} {R : Room} {s : State} {m : MethodId} {args : Array Value} {below : List Frame} {meth : Method} {c : Code} {H : Heap} {locs : List Loc} {cells slots : Nat} {Q : State → Prop}
variable {cc : ByteArray} {pc nL : Nat} {ls : Array Slot} {rest st0 : List Value} {D : va_G} {cl : List vw_C} {tys : List (ClassId × FieldType)} {own : String} {Ts : List Cond} {S0 : State} {h : vH} {a : Nat}
variable {mc ms : Nat}
/-- ends -/
theorem mv_iret (C : vC p s m args c cc nL own Ts D cl tys) (X : vO S0 D cl h s H locs) {post : Int32 → vH → Prop} {v : Int32} {ty : FieldType} (hr : meth.sig.returnType = some ty) (hn : narrow ty (.int v) = .int v) (hlk : meth.locks = false) (hp : post v h) (hc : cells ≤ mc) (hs : slots ≤ ms) (hdg : decode cc pc = .ok (.ireturn, 1)) :
    W p l e R s m args below meth c H locs cells slots (MQ below (va_Qi post (vI S0 D cl) (vB S0)) args s mc ms (vB S0)) (F0 m pc ls [.int v]) := by
  refine W.widen hc hs ?_
  exact W.zret (ty := ty) C.1.1 C.1.2.1 hr hn (fun t ht hW => ⟨⟨v, h, rfl, hp, X.fin ht hW⟩, X.2.1.F ht⟩) X.2.1.2.2 hdg hlk
theorem mv_lret (C : vC p s m args c cc nL own Ts D cl tys) (X : vO S0 D cl h s H locs) {post : Int64 → vH → Prop} {v : Int64} (hr : meth.sig.returnType = some .long) (hlk : meth.locks = false) (hp : post v h) (hc : cells ≤ mc) (hs : slots ≤ ms) (hdg : decode cc pc = .ok (.lreturn, 1)) :
    W p l e R s m args below meth c H locs cells slots (MQ below (va_Ql post (vI S0 D cl) (vB S0)) args s mc ms (vB S0)) (F0 m pc ls [.long v]) := by
  refine W.widen hc hs ?_
  exact W.lret C.1.1 C.1.2.1 hr (fun t ht hW => ⟨⟨v, h, rfl, hp, X.fin ht hW⟩, X.2.1.F ht⟩) X.2.1.2.2 hdg hlk
theorem mv_vret (C : vC p s m args c cc nL own Ts D cl tys) (X : vO S0 D cl h s H locs) {post : vH → Prop} (hr : meth.sig.returnType = none) (hlk : meth.locks = false) (hp : post h) (hc : cells ≤ mc) (hs : slots ≤ ms) (hdg : decode cc pc = .ok (.return_, 1)) :
    W p l e R s m args below meth c H locs cells slots (MQ below (va_Qv post (vI S0 D cl) (vB S0)) args s mc ms (vB S0)) (F0 m pc ls []) := by
  refine W.widen hc hs ?_
  exact W.vret C.1.1 C.1.2.1 hr (fun t ht hW => ⟨⟨h, rfl, hp, X.fin ht hW⟩, X.2.1.F ht⟩) X.2.1.2.2 hdg hlk
theorem mv_aret (C : vC p s m args c cc nL own Ts D cl tys) (X : vO S0 D cl h s H locs) {post : Option Nat → vH → Prop} {r : Option Nat} {rt : FieldType} (hr : meth.sig.returnType = some rt) (hrt : (∃ n, rt = .object n) ∨ ∃ t, rt = .array t) (hlk : meth.locks = false) (hp : post r h) (hc : cells ≤ mc) (hs : slots ≤ ms) (hdg : decode cc pc = .ok (.areturn, 1)) :
    W p l e R s m args below meth c H locs cells slots (MQ below (va_Qq post (vI S0 D cl) (vB S0)) args s mc ms (vB S0)) (F0 m pc ls [va_rf r]) := by
  refine W.widen hc hs ?_
  exact W.aret (v := va_rf r) C.1.1 C.1.2.1 hr hrt (va_rf_or r) (fun t ht hW => ⟨⟨r, h, rfl, hp, X.fin ht hW⟩, X.2.1.F ht⟩) X.2.1.2.2 hdg hlk
/-- the word list of a callee is good -/
theorem vGood {y : MethodName} {bytes : ByteArray} {maxL : Nat} {ret : Option FieldType} (hG : ∀ w ∈ Ts, goodWord w = true) (hc : Cond.code y bytes maxL ret ∈ Ts) {ws : List Cond} (hw : ∀ w ∈ ws, w ∈ Ts) : GoodIn Ts (ws ++ vW y bytes maxL ret Ts) := by
  intro w h9
  have h1 : w ∈ Ts := by
    rcases List.mem_append.mp h9 with h | h
    · exact hw w h
    · rcases List.mem_cons.mp h with h | h
      · rw [h]; exact hc
      · exact h
  exact ⟨h1, good_of_word (hG w h1)⟩
theorem vBlind {av : List Value} : FrameBlind (va_Pc av (vI S0 D cl h)) := fun _ _ _ _ q => ⟨q.1, ⟨q.2.1.1, q.2.1.2.1, q.2.1.2.2⟩, q.2.2⟩
/-- what a call of a method asks of the tables: an object's own method, an inherited or overriding one, a static one, a constructor -/
def vKV (Ts : List Cond) (own : String) (index : Nat) (y : MethodName) (bytes : ByteArray) (maxL : Nat) (ret : Option FieldType) (n : Nat) : Prop := Cond.methodLink own index y ∈ Ts ∧ Cond.instanceMethod y ∈ Ts ∧ Cond.selects y.cls y y ∈ Ts ∧ Cond.initialized y.cls ∈ Ts ∧ Cond.code y bytes maxL ret ∈ Ts ∧ (y.cls ≠ "java/lang/invoke/MethodHandle" ∧ y.cls ≠ "java/lang/invoke/VarHandle" ∧ (parseMethodDescriptor y.desc).map (fun d => d.parameters.length) = some n)
def vKU (Ts : List Cond) (own : String) (index : Nat) (C owner : String) (x y : MethodName) (bytes : ByteArray) (maxL : Nat) (ret : Option FieldType) (n : Nat) : Prop := Cond.methodLink own index x ∈ Ts ∧ Cond.sameMethod x.cls owner x.name x.desc ∈ Ts ∧ Cond.selects C x y ∈ Ts ∧ Cond.instanceMethod y ∈ Ts ∧ Cond.initialized y.cls ∈ Ts ∧ Cond.code y bytes maxL ret ∈ Ts ∧ (owner ≠ "java/lang/invoke/MethodHandle" ∧ owner ≠ "java/lang/invoke/VarHandle" ∧ (parseMethodDescriptor x.desc).map (fun d => d.parameters.length) = some n)
def vKS (Ts : List Cond) (own : String) (index : Nat) (y : MethodName) (bytes : ByteArray) (maxL : Nat) (ret : Option FieldType) (n : Nat) : Prop := Cond.methodLink own index y ∈ Ts ∧ Cond.static y ∈ Ts ∧ Cond.initialized y.cls ∈ Ts ∧ Cond.code y bytes maxL ret ∈ Ts ∧ (y.cls ≠ "java/lang/invoke/MethodHandle" ∧ y.cls ≠ "java/lang/invoke/VarHandle" ∧ (parseMethodDescriptor y.desc).map (fun d => d.parameters.length) = some n)
def vKI (Ts : List Cond) (own : String) (index : Nat) (y : MethodName) (bytes : ByteArray) (maxL : Nat) (n : Nat) : Prop := Cond.methodLink own index y ∈ Ts ∧ Cond.instanceMethod y ∈ Ts ∧ Cond.initialized y.cls ∈ Ts ∧ Cond.code y bytes maxL none ∈ Ts ∧ y.name = "<init>" ∧ (y.cls ≠ "java/lang/invoke/MethodHandle" ∧ y.cls ≠ "java/lang/invoke/VarHandle" ∧ (parseMethodDescriptor y.desc).map (fun d => d.parameters.length) = some n)
variable {index n maxL F N b ci : Nat} {y x : MethodName} {bytes : ByteArray} {ret : Option FieldType} {As : List Value} {fs : List Value} {r : vw_C} {Qc : Array Value → State → Outcome → State → Prop}
theorem mv_rV (hG : ∀ w ∈ Ts, goodWord w = true) (C : vC p s m args c cc nL own Ts D cl tys) (X : vO S0 D cl h s H locs) (K : vKV Ts own index y bytes maxL ret n) (hM : Met l y (vW y bytes maxL ret Ts) (vRm F N mc ms) (va_Pc (.ref b :: As) (vI S0 D cl h)) Qc mc ms (vB S0)) (hb9 : h b = some (.inr (ci, fs))) (hci : cl[ci]? = some r) (hrC : r.1 = y.cls) (hR : F + 1 ≤ R.frames ∧ 8 + (maxL + 11) + N ≤ R.locals) (hn : As.length = n) (hsz : ls.size = nL) (hst : st0 = As.reverse ++ .ref b :: rest) (hW : (rest.map fun v => v.category).sum ≤ 8) (hdg : decode cc pc = .ok (.invokevirtual index, 3)) (hf : cells + mc ≤ R.cells ∧ slots + ms ≤ R.slots) :
    va_Run p l e R s m args below meth c H locs cells slots mc ms (F0 m pc ls st0) rest (Qc (Value.ref b :: As).toArray) (vB S0) := by
  obtain ⟨k1, k2, k3, k4, k5, k6⟩ := K
  have hT : GoodIn Ts (wsV own index y.cls y (vW y bytes maxL ret Ts)) := vGood (ws := [.methodLink own index y, .instanceMethod y, .selects y.cls y y, .initialized y.cls]) hG k5 (fun w hw => by
    simp only [List.mem_cons, List.not_mem_nil, or_false] at hw
    rcases hw with rfl | rfl | rfl | rfl <;> assumption)
  have hrecv := mv_recv C X hb9 hci
  rw [hrC] at hrecv
  exact va_runV C.1 hM (cwV (C := y.cls) n C.1.2.2.2.2 hT rfl rfl rfl ⟨rfl, k6⟩ hR) ⟨vBlind, hrecv, fun U hU hWm => ⟨rfl, X.call hU hWm⟩⟩ rfl hn hsz hst (lv_room hW) hdg hf
theorem mv_rU (hG : ∀ w ∈ Ts, goodWord w = true) (C : vC p s m args c cc nL own Ts D cl tys) (X : vO S0 D cl h s H locs) {owner : String} (K : vKU Ts own index r.1 owner x y bytes maxL ret n) (hdecl : va_Decl s ⟨owner, x.name, x.desc⟩) (hM : Met l y (vW y bytes maxL ret Ts) (vRm F N mc ms) (va_Pc (.ref b :: As) (vI S0 D cl h)) Qc mc ms (vB S0)) (hb9 : h b = some (.inr (ci, fs))) (hci : cl[ci]? = some r) (hR : F + 1 ≤ R.frames ∧ 8 + (maxL + 11) + N ≤ R.locals) (hn : As.length = n) (hsz : ls.size = nL) (hst : st0 = As.reverse ++ .ref b :: rest) (hW : (rest.map fun v => v.category).sum ≤ 8) (hdg : decode cc pc = .ok (.invokevirtual index, 3)) (hf : cells + mc ≤ R.cells ∧ slots + ms ≤ R.slots) :
    va_Run p l e R s m args below meth c H locs cells slots mc ms (F0 m pc ls st0) rest (Qc (Value.ref b :: As).toArray) (vB S0) := by
  obtain ⟨k1, k2, k3, k4, k5, k6, k7⟩ := K
  have hT : GoodIn Ts ([] ++ vW y bytes maxL ret Ts) := vGood hG k6 (fun w hw => by cases hw)
  have hts := C.1.2.2.2.2
  have cw : va_CU R s args own r.1 owner index x y bytes maxL ret (vW y bytes maxL ret Ts) (vRm F N mc ms) mc ms n :=
    ⟨⟨rfl, rfl, hR.1, hR.2, pay_in hts hT, List.mem_cons_self⟩, hts _ k6, hts _ k5, ⟨k7.1, k7.2.1⟩, fun sig h9 => by
      have h2 := k7.2.2
      rw [h9] at h2
      exact (Option.some.inj h2).symm, hts _ k1, hts _ k2, hdecl, hts _ k3, hts _ k4⟩
  exact va_runU C.1 hM cw ⟨vBlind, mv_recv C X hb9 hci, fun U hU hWm => ⟨rfl, X.call hU hWm⟩⟩ rfl hn hsz hst (lv_room hW) hdg hf
theorem mv_rS (hG : ∀ w ∈ Ts, goodWord w = true) (C : vC p s m args c cc nL own Ts D cl tys) (X : vO S0 D cl h s H locs) (K : vKS Ts own index y bytes maxL ret n) (hM : Met l y (vW y bytes maxL ret Ts) (vRm F N mc ms) (va_Pc As (vI S0 D cl h)) Qc mc ms (vB S0)) (hR : F + 1 ≤ R.frames ∧ 8 + (maxL + 11) + N ≤ R.locals) (hn : As.length = n) (hsz : ls.size = nL) (hst : st0 = As.reverse ++ rest) (hW : (rest.map fun v => v.category).sum ≤ 8) (hdg : decode cc pc = .ok (.invokestatic index, 3)) (hf : cells + mc ≤ R.cells ∧ slots + ms ≤ R.slots) :
    va_Run p l e R s m args below meth c H locs cells slots mc ms (F0 m pc ls st0) rest (Qc As.toArray) (vB S0) := by
  obtain ⟨k1, k2, k3, k4, k5⟩ := K
  have hT : GoodIn Ts (va_wsS own index y (vW y bytes maxL ret Ts)) := vGood (ws := [.methodLink own index y, .static y, .initialized y.cls]) hG k4 (fun w hw => by
    simp only [List.mem_cons, List.not_mem_nil, or_false] at hw
    rcases hw with rfl | rfl | rfl <;> assumption)
  exact va_runS C.1 hM (va_cwS n C.1.2.2.2.2 hT rfl rfl rfl k5 hR) ⟨vBlind, fun U hU hWm => ⟨rfl, X.call hU hWm⟩⟩ rfl hn hsz hst (lv_room hW) hdg hf
theorem mv_rI (hG : ∀ w ∈ Ts, goodWord w = true) (C : vC p s m args c cc nL own Ts D cl tys) (X : vO S0 D cl h s H locs) (K : vKI Ts own index y bytes maxL n) (hM : Met l y (vW y bytes maxL none Ts) (vRm F N mc ms) (va_Pc (.ref b :: As) (vI S0 D cl h)) Qc mc ms (vB S0)) (hR : F + 1 ≤ R.frames ∧ 8 + (maxL + 11) + N ≤ R.locals) (hn : As.length = n) (hsz : ls.size = nL) (hst : st0 = As.reverse ++ .ref b :: rest) (hW : (rest.map fun v => v.category).sum ≤ 8) (hdg : decode cc pc = .ok (.invokespecial index, 3)) (hf : cells + mc ≤ R.cells ∧ slots + ms ≤ R.slots) :
    va_Run p l e R s m args below meth c H locs cells slots mc ms (F0 m pc ls st0) rest (Qc (Value.ref b :: As).toArray) (vB S0) := by
  obtain ⟨k1, k2, k3, k4, k5, k6⟩ := K
  have hT : GoodIn Ts ([] ++ vW y bytes maxL none Ts) := vGood hG k4 (fun w hw => by cases hw)
  have hts := C.1.2.2.2.2
  exact va_runI C.1 hM (cwI n hts hT rfl rfl rfl (hts _ k3) (hts _ k1) (hts _ k2) k5 k6 hR) ⟨vBlind, fun U hU hWm => ⟨rfl, X.call hU hWm⟩⟩ rfl hn hsz hst (lv_room hW) hdg hf
/-- a private constructor of a nest mate -/
def vKIN (S0 : State) (Ts : List Cond) (own : String) (index : Nat) (y : MethodName) (host : String) (bytes : ByteArray) (maxL : Nat) (n : Nat) : Prop := va_Nw (.methodLinkNest own index y host) S0 ∧ Cond.instanceMethod y ∈ Ts ∧ Cond.initialized y.cls ∈ Ts ∧ Cond.code y bytes maxL none ∈ Ts ∧ y.name = "<init>" ∧ (y.cls ≠ "java/lang/invoke/MethodHandle" ∧ y.cls ≠ "java/lang/invoke/VarHandle" ∧ (parseMethodDescriptor y.desc).map (fun d => d.parameters.length) = some n)
theorem mv_rIN (hG : ∀ w ∈ Ts, goodWord w = true) (C : vC p s m args c cc nL own Ts D cl tys) (X : vO S0 D cl h s H locs) {host : String} (K : vKIN S0 Ts own index y host bytes maxL n) (hM : Met l y (vW y bytes maxL none Ts) (vRm F N mc ms) (va_Pc (.ref b :: As) (vI S0 D cl h)) Qc mc ms (vB S0)) (hR : F + 1 ≤ R.frames ∧ 8 + (maxL + 11) + N ≤ R.locals) (hn : As.length = n) (hsz : ls.size = nL) (hst : st0 = As.reverse ++ .ref b :: rest) (hW : (rest.map fun v => v.category).sum ≤ 8) (hdg : decode cc pc = .ok (.invokespecial index, 3)) (hf : cells + mc ≤ R.cells ∧ slots + ms ≤ R.slots) :
    va_Run p l e R s m args below meth c H locs cells slots mc ms (F0 m pc ls st0) rest (Qc (Value.ref b :: As).toArray) (vB S0) := by
  obtain ⟨k1, k2, k3, k4, k5, k6⟩ := K
  have hT : GoodIn Ts ([] ++ vW y bytes maxL none Ts) := vGood hG k4 (fun w hw => by cases hw)
  have hts := C.1.2.2.2.2
  exact va_runIN C.1 hM ⟨va_cnB n hts hT rfl rfl rfl (va_Nw.warmM X.1.1 k1) (hts _ k3) k6 hR, k5, hts _ k2⟩ ⟨vBlind, fun U hU hWm => ⟨rfl, X.call hU hWm⟩⟩ rfl hn hsz hst (lv_room hW) hdg hf
variable {aa : Array Value}
/-- behind a call -/
theorem mv_bi (X : vO S0 D cl h s H locs) {post : Int32 → vH → Prop} (hr : va_Run p l e R s m args below meth c H locs cells slots mc ms (F0 m pc ls st0) rest (va_Qi post (vI S0 D cl) (vB S0) aa) (vB S0)) (kk : ∀ (r : Int32) (h' : vH) (H1 : Heap) (locs1 : List Loc), post r h' → vO S0 D cl h' s H1 locs1 → W p l e R s m args below meth c H1 locs1 (cells + mc) (slots + ms) Q (F0 m (pc + 3) ls (.int r :: rest))) : W p l e R s m args below meth c H locs cells slots Q (F0 m pc ls st0) :=
  va_calli hr X.2.1 (fun _ _ q => q) (fun _ q => q) (fun r u _ H1 locs1 ht _ hw hB _ _ hS => kk r u H1 locs1 hw (X.back ht hB hS))
theorem mv_bl (X : vO S0 D cl h s H locs) {post : Int64 → vH → Prop} (hr : va_Run p l e R s m args below meth c H locs cells slots mc ms (F0 m pc ls st0) rest (va_Ql post (vI S0 D cl) (vB S0) aa) (vB S0)) (kk : ∀ (r : Int64) (h' : vH) (H1 : Heap) (locs1 : List Loc), post r h' → vO S0 D cl h' s H1 locs1 → W p l e R s m args below meth c H1 locs1 (cells + mc) (slots + ms) Q (F0 m (pc + 3) ls (.long r :: rest))) : W p l e R s m args below meth c H locs cells slots Q (F0 m pc ls st0) :=
  va_calll hr X.2.1 (fun _ _ q => q) (fun _ q => q) (fun r u _ H1 locs1 ht _ hw hB _ _ hS => kk r u H1 locs1 hw (X.back ht hB hS))
theorem mv_bv (X : vO S0 D cl h s H locs) {post : vH → Prop} (hr : va_Run p l e R s m args below meth c H locs cells slots mc ms (F0 m pc ls st0) rest (va_Qv post (vI S0 D cl) (vB S0) aa) (vB S0)) (kk : ∀ (h' : vH) (H1 : Heap) (locs1 : List Loc), post h' → vO S0 D cl h' s H1 locs1 → W p l e R s m args below meth c H1 locs1 (cells + mc) (slots + ms) Q (F0 m (pc + 3) ls rest)) : W p l e R s m args below meth c H locs cells slots Q (F0 m pc ls st0) :=
  va_callv hr X.2.1 (fun _ _ q => q) (fun _ q => q) (fun u _ H1 locs1 ht _ hw hB _ _ hS => kk u H1 locs1 hw (X.back ht hB hS))
theorem mv_bq (X : vO S0 D cl h s H locs) {post : Option Nat → vH → Prop} (hr : va_Run p l e R s m args below meth c H locs cells slots mc ms (F0 m pc ls st0) rest (va_Qq post (vI S0 D cl) (vB S0) aa) (vB S0)) (kk : ∀ (r : Option Nat) (h' : vH) (H1 : Heap) (locs1 : List Loc), post r h' → vO S0 D cl h' s H1 locs1 → W p l e R s m args below meth c H1 locs1 (cells + mc) (slots + ms) Q (F0 m (pc + 3) ls (va_rf r :: rest))) : W p l e R s m args below meth c H locs cells slots Q (F0 m pc ls st0) :=
  va_callq hr X.2.1 (fun _ _ q => q) (fun _ q => q) (fun r u _ H1 locs1 ht _ hw hB _ _ hS => kk r u H1 locs1 hw (X.back ht hB hS))
end VCALLS
end
section
/-! System.arraycopy over the view -/
theorem vO.set2 {S0 : State} {D : va_G} {cl : List vw_C} {h : vH} {s : State} {H : Heap} {locs : List Loc} (x : vO S0 D cl h s H locs) {a a0 : Nat} {e0 e1 : va_E} (ha0 : h a0 = some e0) (hw0 : S0.heap.size ≤ a0) (ha : h a = some e1) (hw : S0.heap.size ≤ a) :
    ∃ (ws : va_W) (k0 k : Nat), va_P D cl ws H ∧ va_D (vB S0) ws ∧ ws[k0]? = some (a0, e0) ∧ ws[k]? = some (a, e1) ∧ ∀ (e : va_E) (H1 : Heap) (locs1 : List Loc), va_P D cl (ws.set k (a, e)) H1 → va_D (vB S0) (ws.set k (a, e)) → va_S (vB S0) s.heap H1 locs1 → vO S0 D cl (vup h a e) s H1 locs1 := by
  obtain ⟨L, f, hP, hD, hh⟩ := x.2.2
  rcases hh a0 e0 ha0 with ⟨g1, g2⟩ | ⟨g1, -⟩
  · rcases hh a e1 ha with ⟨h1, h2⟩ | ⟨h1, -⟩
    · obtain ⟨k0, hk0⟩ := va_pl_get (X := []) (f := f) g1
      obtain ⟨k, hk⟩ := va_pl_get (X := []) (f := f) h1
      rw [List.nil_append] at hk hk0
      refine ⟨va_pl L f, k0, k, hP, hD, by rw [← g2]; exact hk0, by rw [← h2]; exact hk, fun e H1 locs1 hP1 hD1 hS1 => ⟨x.1, hS1, L, va_up f a e, ?_, ?_, fun b y hb => ?_⟩⟩
      · have e1 := va_pl_set (X := []) (e := e) (by rw [List.nil_append]; exact hD) h1 (by rw [List.nil_append]; exact hk)
        rw [List.nil_append, List.nil_append] at e1
        rw [← e1]; exact hP1
      · have e1 := va_pl_set (X := []) (e := e) (by rw [List.nil_append]; exact hD) h1 (by rw [List.nil_append]; exact hk)
        rw [List.nil_append, List.nil_append] at e1
        rw [← e1]; exact hD1
      · by_cases hba : b = a
        · subst hba
          rw [vup_s] at hb
          exact Or.inl ⟨h1, by rw [va_up_self]; exact Option.some.inj hb⟩
        · rw [vup_n h e hba] at hb
          rcases hh b y hb with ⟨g1, g2⟩ | g
          · exact Or.inl ⟨g1, by rw [va_up_ne _ _ hba]; exact g2⟩
          · exact Or.inr g
    · exact absurd hw (Nat.not_le.mpr h1)
  · exact absurd hw0 (Nat.not_le.mpr g1)
/-- what System.arraycopy asks of the tables -/
def vKC (Ts : List Cond) (own : String) (index : Nat) : Prop := Cond.methodLink own index arraycopyName ∈ Ts ∧ Cond.native arraycopyName ∈ Ts ∧ Cond.static arraycopyName ∈ Ts ∧ Cond.initialized "java/lang/System" ∈ Ts
section VCOPY
variable {p : Program} {l : Launch} {e : Env} {R : Room} {s : State} {m : MethodId} {args : Array Value} {below : List Frame} {meth : Method} {c : Code} {H : Heap} {locs : List Loc} {cells slots : Nat} {Q : State → Prop}
variable {cc : ByteArray} {pc nL : Nat} {ls : Array Slot} {rest : List Value} {D : va_G} {cl : List vw_C} {tys : List (ClassId × FieldType)} {own : String} {Ts : List Cond} {S0 : State} {h : vH} {a : Nat}
theorem mv_copyi (C : vC p s m args c cc nL own Ts D cl tys) (X : vO S0 D cl h s H locs) (hls : ls.size = nL) {index : Nat} (K : vKC Ts own index) {a0 : Nat} {cA : ClassId} {n0 n1 : Nat} {f g : Nat → Int32} {ty : FieldType} (ha0 : h a0 = some (.inl (cA, n0, .inl f))) (hw0 : S0.heap.size ≤ a0) (ha : h a = some (.inl (cA, n1, .inl g))) (hw : S0.heap.size ≤ a) (t0 : Nat) (ht : tys[t0]? = some (cA, ty)) (hprim : refKind ty = false)
    {sp dp n : Int32} (SP DP N' : Nat) (e1 : sp = nI SP) (e2 : dp = nI DP) (e3 : n = nI N') (l0 : n0 < 2 ^ 31) (l1 : n1 < 2 ^ 31) (h4 : SP + N' ≤ n0) (h5 : DP + N' ≤ n1) (hfit : ∀ i, i < N' → fits ty (.int (f (SP + i))) = true)
    (hframes : 1 ≤ R.frames) (hlocals : (rest.map fun v => v.category).sum + (nativeFrameWords "java/lang/System" "arraycopy" 5 + 11) ≤ R.locals) (hdg : decode cc pc = .ok (.invokestatic index, 3))
    (kk : ∀ (H1 : Heap) (locs1 : List Loc), vO S0 D cl (vup h a (.inl (cA, n1, .inl (va_cpy f g SP DP N')))) s H1 locs1 → W p l e R s m args below meth c H1 locs1 cells slots Q (F0 m (pc + 3) ls rest)) : W p l e R s m args below meth c H locs cells slots Q (F0 m pc ls (.int n :: .int dp :: .ref a :: .int sp :: .ref a0 :: rest)) := by
  obtain ⟨⟨hx, hb, hml, hown, hts⟩, hK⟩ := C
  obtain ⟨k1, k2, k3, k4⟩ := K
  obtain ⟨ws, q0, q1, hP, hD, he0, he, hset⟩ := X.set2 ha0 hw0 ha hw
  subst e1 e2 e3
  have c1 : (nI SP).toNatClampNeg = SP := nI_clamp (by omega)
  have c2 : (nI DP).toNatClampNeg = DP := nI_clamp (by omega)
  have c3 : (nI N').toNatClampNeg = N' := nI_clamp (by omega)
  refine va_copyi hx hb (by rw [hml, hls]) hown (hts _ k1) (hts _ k2) (hts _ k3) (hts _ k4) hK hP hD X.2.1 q0 q1 t0 t0 he0 he ht ht hprim (nI_pos (by omega)) (nI_pos (by omega)) (nI_pos (by omega)) (by rw [c1, c3]; exact h4) (by rw [c2, c3]; exact h5) (by rw [c1, c3]; exact hfit) hframes hlocals hdg (fun H1 l1 a1 a2 a3 => kk H1 l1 ?_)
  rw [c1, c2, c3] at a1 a2
  exact hset _ H1 l1 a1 a2 a3
theorem mv_copyq (C : vC p s m args c cc nL own Ts D cl tys) (X : vO S0 D cl h s H locs) (hls : ls.size = nL) {index : Nat} (K : vKC Ts own index) {a0 : Nat} {cA : ClassId} {n0 n1 : Nat} {f g : Nat → Option Nat} {E : String} (ha0 : h a0 = some (.inl (cA, n0, .inr (.inr (.inr (.inr f)))))) (hw0 : S0.heap.size ≤ a0) (ha : h a = some (.inl (cA, n1, .inr (.inr (.inr (.inr g)))))) (hw : S0.heap.size ≤ a) (t0 : Nat) (ht : tys[t0]? = some (cA, .object E))
    {sp dp n : Int32} (SP DP N' : Nat) (e1 : sp = nI SP) (e2 : dp = nI DP) (e3 : n = nI N') (l0 : n0 < 2 ^ 31) (l1 : n1 < 2 ^ 31) (h4 : SP + N' ≤ n0) (h5 : DP + N' ≤ n1) (hel : ∀ i : Nat, i < N' → ∀ y : Nat, f (SP + i) = some y → va_Any E s H y)
    (hframes : 1 ≤ R.frames) (hlocals : (rest.map fun v => v.category).sum + (nativeFrameWords "java/lang/System" "arraycopy" 5 + 11) ≤ R.locals) (hdg : decode cc pc = .ok (.invokestatic index, 3))
    (kk : ∀ (H1 : Heap) (locs1 : List Loc), vO S0 D cl (vup h a (.inl (cA, n1, .inr (.inr (.inr (.inr (va_cpy f g SP DP N'))))))) s H1 locs1 → W p l e R s m args below meth c H1 locs1 cells slots Q (F0 m (pc + 3) ls rest)) : W p l e R s m args below meth c H locs cells slots Q (F0 m pc ls (.int n :: .int dp :: .ref a :: .int sp :: .ref a0 :: rest)) := by
  obtain ⟨⟨hx, hb, hml, hown, hts⟩, hK⟩ := C
  obtain ⟨k1, k2, k3, k4⟩ := K
  obtain ⟨ws, q0, q1, hP, hD, he0, he, hset⟩ := X.set2 ha0 hw0 ha hw
  subst e1 e2 e3
  have c1 : (nI SP).toNatClampNeg = SP := nI_clamp (by omega)
  have c2 : (nI DP).toNatClampNeg = DP := nI_clamp (by omega)
  have c3 : (nI N').toNatClampNeg = N' := nI_clamp (by omega)
  refine va_copyM hx hb (by rw [hml, hls]) hown (hts _ k1) (hts _ k2) (hts _ k3) (hts _ k4) hK hP hD X.2.1 q0 q1 t0 t0 he0 he ht ht (nI_pos (by omega)) (nI_pos (by omega)) (nI_pos (by omega)) (by rw [c1, c3]; exact h4) (by rw [c2, c3]; exact h5) (by rw [c1, c3]; exact hel) hframes hlocals hdg (fun H1 l1 a1 a2 a3 => kk H1 l1 ?_)
  rw [c1, c2, c3] at a1 a2
  exact hset _ H1 l1 a1 a2 a3
end VCOPY
end
section
section VMORE
variable {p : Program} {l : Launch} {e : Env} {R : Room} {s : State} {m : MethodId} {args : Array Value} {below : List Frame} {meth : Method} {c : Code} {H : Heap} {locs : List Loc} {cells slots : Nat} {Q : State → Prop}
variable {cc : ByteArray} {pc nL : Nat} {ls : Array Slot} {rest : List Value} {D : va_G} {cl : List vw_C} {tys : List (ClassId × FieldType)} {own : String} {Ts : List Cond} {S0 : State} {h : vH} {a : Nat}
theorem mv_zast (C : vC p s m args c cc nL own Ts D cl tys) (X : vO S0 D cl h s H locs) {n : Nat} {cA : ClassId} {f : Nat → Int32} (ha : h a = some (.inl (cA, n, .inl f))) (hw : S0.heap.size ≤ a) (t0 : Nat) (ht : tys[t0]? = some (cA, .boolean)) {i x : Int32} (hv : vp_nar .boolean x = x) (j : Nat) (hi : i = nI j) (hj : j < n) (hn : n < 2 ^ 31) (hdg : decode cc pc = .ok (.bastore, 1))
    (kk : ∀ (H1 : Heap) (locs1 : List Loc), vO S0 D cl (vup h a (.inl (cA, n, .inl (upd f j x)))) s H1 locs1 → W p l e R s m args below meth c H1 locs1 cells slots Q (F0 m (pc + 1) ls rest)) : W p l e R s m args below meth c H locs cells slots Q (F0 m pc ls (.int x :: .int i :: .ref a :: rest)) := by
  obtain ⟨⟨hx, hb, -, hown, hts⟩, hK⟩ := C
  obtain ⟨ws, q0, hP, hD, he, hset⟩ := X.set ha hw
  have ec : i.toNatClampNeg = j := by rw [hi]; exact nI_clamp (by omega)
  refine va_zast hx hb hK hP hD X.2.1 q0 t0 he ht (mv_in hi hj hn) hdg (fun H1 l1 a1 a2 a3 => kk H1 l1 ?_)
  rw [ec, hv] at a1 a2
  exact hset _ H1 l1 a1 a2 a3
end VMORE
end
section
/-! beginnings and ends, the goal by a name (for loops) -/
theorem vM_ofQ {l : Launch} {S0 : State} {D : va_G} {cl : List vw_C} {tys : List (ClassId × FieldType)} (hK0 : va_K D cl tys S0) {Ts : List Cond} {y : MethodName} {bytes : ByteArray} {maxL : Nat} {ret : Option FieldType} {F N mc ms : Nat} {av : List Value} {h : vH} {Qc : Array Value → State → Outcome → State → Prop} (hy : plainName y.cls = true) (hlen : (lg_sl av).length ≤ maxL)
    (body : ∀ (p : Program) (e : Env) (s : State) (m : MethodId) (args : Array Value) (below : List Frame) (meth : Method) (c : Code) (ls : Array Slot) (Q : State → Prop), Q = MQ below Qc args s mc ms (vB S0) → vC p s m args c bytes maxL y.cls Ts D cl tys → meth.sig.returnType = ret → meth.locks = false → meth.name = y.name → vO S0 D cl h s s.heap [] → lv_has ls maxL (lv_args 0 av) →
      W p l e (vRm F N mc ms) s m args below meth c s.heap [] 0 0 Q (F0 m 0 ls [])) :
    Met l y (vW y bytes maxL ret Ts) (vRm F N mc ms) (va_Pc av (vI S0 D cl h)) Qc mc ms (vB S0) :=
  vM_of hK0 hy hlen (fun p e s m below meth c ls C hr hlk hnm X hl => body p e s m _ below meth c ls _ rfl C hr hlk hnm X hl)
section VENDS
variable {p : Program} {l : Launch} {e : Env} {R : Room} {s : State} {m : MethodId} {args : Array Value} {below : List Frame} {meth : Method} {c : Code} {H : Heap} {locs : List Loc} {cells slots : Nat} {Q : State → Prop}
variable {cc : ByteArray} {pc nL mc ms : Nat} {ls : Array Slot} {D : va_G} {cl : List vw_C} {tys : List (ClassId × FieldType)} {own : String} {Ts : List Cond} {S0 : State} {h : vH}
theorem mq_iret {post : Int32 → vH → Prop} {v : Int32} {ty : FieldType} (hQ : Q = MQ below (va_Qi post (vI S0 D cl) (vB S0)) args s mc ms (vB S0)) (C : vC p s m args c cc nL own Ts D cl tys) (X : vO S0 D cl h s H locs) (hr : meth.sig.returnType = some ty) (hn : narrow ty (.int v) = .int v) (hlk : meth.locks = false) (hp : post v h) (hc : cells ≤ mc) (hs : slots ≤ ms) (hdg : decode cc pc = .ok (.ireturn, 1)) :
    W p l e R s m args below meth c H locs cells slots Q (F0 m pc ls [.int v]) := by rw [hQ]; exact mv_iret C X hr hn hlk hp hc hs hdg
theorem mq_lret {post : Int64 → vH → Prop} {v : Int64} (hQ : Q = MQ below (va_Ql post (vI S0 D cl) (vB S0)) args s mc ms (vB S0)) (C : vC p s m args c cc nL own Ts D cl tys) (X : vO S0 D cl h s H locs) (hr : meth.sig.returnType = some .long) (hlk : meth.locks = false) (hp : post v h) (hc : cells ≤ mc) (hs : slots ≤ ms) (hdg : decode cc pc = .ok (.lreturn, 1)) :
    W p l e R s m args below meth c H locs cells slots Q (F0 m pc ls [.long v]) := by rw [hQ]; exact mv_lret C X hr hlk hp hc hs hdg
theorem mq_vret {post : vH → Prop} (hQ : Q = MQ below (va_Qv post (vI S0 D cl) (vB S0)) args s mc ms (vB S0)) (C : vC p s m args c cc nL own Ts D cl tys) (X : vO S0 D cl h s H locs) (hr : meth.sig.returnType = none) (hlk : meth.locks = false) (hp : post h) (hc : cells ≤ mc) (hs : slots ≤ ms) (hdg : decode cc pc = .ok (.return_, 1)) :
    W p l e R s m args below meth c H locs cells slots Q (F0 m pc ls []) := by rw [hQ]; exact mv_vret C X hr hlk hp hc hs hdg
theorem mq_aret {post : Option Nat → vH → Prop} {r : Option Nat} {rt : FieldType} (hQ : Q = MQ below (va_Qq post (vI S0 D cl) (vB S0)) args s mc ms (vB S0)) (C : vC p s m args c cc nL own Ts D cl tys) (X : vO S0 D cl h s H locs) (hr : meth.sig.returnType = some rt) (hrt : (∃ n, rt = .object n) ∨ ∃ t, rt = .array t) (hlk : meth.locks = false) (hp : post r h) (hc : cells ≤ mc) (hs : slots ≤ ms) (hdg : decode cc pc = .ok (.areturn, 1)) :
    W p l e R s m args below meth c H locs cells slots Q (F0 m pc ls [va_rf r]) := by rw [hQ]; exact mv_aret C X hr hrt hlk hp hc hs hdg
end VENDS
end
section
/-! NAMES, by program (wip/whole/py/names.py) out of the Statement -/
def GT : List Cond := lw_tbl.filter goodWord
theorem gt_good : ∀ w ∈ GT, goodWord w = true := fun w h => (List.mem_filter.mp h).2
theorem gt_tab {w : Cond} (h : w ∈ tables_1) (g : goodWord w = true) : w ∈ GT := List.mem_filter.mpr ⟨List.mem_append_right _ h, g⟩
theorem gt_p {w : Cond} (i : Nat) (h : (k2_sels lw_privs)[i]? = some w) (g : goodWord w = true) : w ∈ GT := List.mem_filter.mpr ⟨List.mem_append_left _ (List.mem_of_getElem? h), g⟩
theorem gt_1 {w : Cond} (i : Nat) (h : tables_1_1[i]? = some w) (g : goodWord w = true) : w ∈ GT := gt_tab (List.mem_append_left _ (List.mem_of_getElem? h)) g
theorem gt_2 {w : Cond} (i : Nat) (h : tables_1_2[i]? = some w) (g : goodWord w = true) : w ∈ GT := gt_tab (List.mem_append_right _ (List.mem_append_left _ (List.mem_of_getElem? h))) g
theorem gt_3 {w : Cond} (i : Nat) (h : tables_1_3[i]? = some w) (g : goodWord w = true) : w ∈ GT := gt_tab (List.mem_append_right _ (List.mem_append_right _ (List.mem_append_left _ (List.mem_of_getElem? h)))) g
theorem gt_4 {w : Cond} (i : Nat) (h : tables_1_4[i]? = some w) (g : goodWord w = true) : w ∈ GT := gt_tab (List.mem_append_right _ (List.mem_append_right _ (List.mem_append_right _ (List.mem_append_left _ (List.mem_of_getElem? h))))) g
theorem gt_5 {w : Cond} (i : Nat) (h : tables_1_5[i]? = some w) (g : goodWord w = true) : w ∈ GT := gt_tab (List.mem_append_right _ (List.mem_append_right _ (List.mem_append_right _ (List.mem_append_right _ (List.mem_append_left _ (List.mem_of_getElem? h)))))) g
theorem gt_6 {w : Cond} (i : Nat) (h : tables_1_6[i]? = some w) (g : goodWord w = true) : w ∈ GT := gt_tab (List.mem_append_right _ (List.mem_append_right _ (List.mem_append_right _ (List.mem_append_right _ (List.mem_append_right _ (List.mem_of_getElem? h)))))) g
def R0 : String := "java/lang/String"
def T0 : u_T := fun k => match k with
  | 0 => ("java/lang/String", "value", "[B", true)
  | 1 => ("java/lang/String", "coder", "B", true)
  | 2 => ("java/lang/String", "hash", "I", false)
  | _ => ("java/lang/String", "hashIsZero", "Z", false)
def ty0 : Nat → FieldType := fun k => match k with
  | 0 => .array .byte
  | 1 => .byte
  | 2 => .int
  | _ => .boolean
theorem nm0 : ∀ a, a < 4 → ∀ b, b < 4 → a ≠ b → (T0 a).2.1 ≠ (T0 b).2.1 := by decide +kernel
theorem tyok0 : ∀ k, k < 4 → parseFieldDescriptor (T0 k).2.2.1 = some (ty0 k) := by decide +kernel
theorem in0 : ∀ w ∈ u_ws R0 T0 4, w ∈ GT := by
  intro w hw
  obtain ⟨k, hk, rfl⟩ := List.mem_map.mp hw
  have hk := List.mem_range.mp hk
  match k, hk with
  | 0, _ => exact gt_2 138 (by decide +kernel) rfl
  | 1, _ => exact gt_2 140 (by decide +kernel) rfl
  | 2, _ => exact gt_2 142 (by decide +kernel) rfl
  | 3, _ => exact gt_2 144 (by decide +kernel) rfl
  | n + 4, h => exact absurd h (by omega)
def R1 : String := "java/lang/StringBuilder"
def T1 : u_T := fun k => match k with
  | 0 => ("java/lang/AbstractStringBuilder", "value", "[B", false)
  | 1 => ("java/lang/AbstractStringBuilder", "coder", "B", false)
  | 2 => ("java/lang/AbstractStringBuilder", "maybeLatin1", "Z", false)
  | _ => ("java/lang/AbstractStringBuilder", "count", "I", false)
def ty1 : Nat → FieldType := fun k => match k with
  | 0 => .array .byte
  | 1 => .byte
  | 2 => .boolean
  | _ => .int
theorem nm1 : ∀ a, a < 4 → ∀ b, b < 4 → a ≠ b → (T1 a).2.1 ≠ (T1 b).2.1 := by decide +kernel
theorem tyok1 : ∀ k, k < 4 → parseFieldDescriptor (T1 k).2.2.1 = some (ty1 k) := by decide +kernel
theorem in1 : ∀ w ∈ u_ws R1 T1 4, w ∈ GT := by
  intro w hw
  obtain ⟨k, hk, rfl⟩ := List.mem_map.mp hw
  have hk := List.mem_range.mp hk
  match k, hk with
  | 0, _ => exact gt_1 59 (by decide +kernel) rfl
  | 1, _ => exact gt_1 61 (by decide +kernel) rfl
  | 2, _ => exact gt_1 63 (by decide +kernel) rfl
  | 3, _ => exact gt_1 65 (by decide +kernel) rfl
  | n + 4, h => exact absurd h (by omega)
def R2 : String := "java/util/ArrayList"
def T2 : u_T := fun k => match k with
  | 0 => ("java/util/ArrayList", "elementData", "[Ljava/lang/Object;", false)
  | 1 => ("java/util/ArrayList", "size", "I", false)
  | _ => ("java/util/AbstractList", "modCount", "I", false)
def ty2 : Nat → FieldType := fun k => match k with
  | 0 => .array (.object "java/lang/Object")
  | 1 => .int
  | _ => .int
theorem nm2 : ∀ a, a < 3 → ∀ b, b < 3 → a ≠ b → (T2 a).2.1 ≠ (T2 b).2.1 := by decide +kernel
theorem tyok2 : ∀ k, k < 3 → parseFieldDescriptor (T2 k).2.2.1 = some (ty2 k) := by decide +kernel
theorem in2 : ∀ w ∈ u_ws R2 T2 3, w ∈ GT := by
  intro w hw
  obtain ⟨k, hk, rfl⟩ := List.mem_map.mp hw
  have hk := List.mem_range.mp hk
  match k, hk with
  | 0, _ => exact gt_1 94 (by decide +kernel) rfl
  | 1, _ => exact gt_1 96 (by decide +kernel) rfl
  | 2, _ => exact gt_1 98 (by decide +kernel) rfl
  | n + 3, h => exact absurd h (by omega)
def R3 : String := "MenuScreens"
def T3 : u_T := fun k => match k with
  | 0 => ("MenuScreens", "rows", "I", true)
  | 1 => ("MenuScreens", "columns", "I", true)
  | 2 => ("MenuScreens", "text", "Ljava/lang/StringBuilder;", true)
  | 3 => ("MenuScreens", "plan", "LMenuScreens$Plan;", true)
  | 4 => ("MenuScreens", "reader", "LMenuScreens$Reader;", true)
  | 5 => ("MenuScreens", "warnings", "LMenuScreens$Warnings;", true)
  | 6 => ("MenuScreens", "atHand", "I", false)
  | 7 => ("MenuScreens", "speed", "I", false)
  | 8 => ("MenuScreens", "language", "I", false)
  | 9 => ("MenuScreens", "brokenLamps", "I", false)
  | 10 => ("MenuScreens", "trips", "I", false)
  | 11 => ("MenuScreens", "allMetres", "J", false)
  | _ => ("MenuScreens", "allCents", "J", false)
def ty3 : Nat → FieldType := fun k => match k with
  | 0 => .int
  | 1 => .int
  | 2 => .object "java/lang/StringBuilder"
  | 3 => .object "MenuScreens$Plan"
  | 4 => .object "MenuScreens$Reader"
  | 5 => .object "MenuScreens$Warnings"
  | 6 => .int
  | 7 => .int
  | 8 => .int
  | 9 => .int
  | 10 => .int
  | 11 => .long
  | _ => .long
theorem nm3 : ∀ a, a < 13 → ∀ b, b < 13 → a ≠ b → (T3 a).2.1 ≠ (T3 b).2.1 := by decide +kernel
theorem tyok3 : ∀ k, k < 13 → parseFieldDescriptor (T3 k).2.2.1 = some (ty3 k) := by decide +kernel
theorem in3 : ∀ w ∈ u_ws R3 T3 13, w ∈ GT := by
  intro w hw
  obtain ⟨k, hk, rfl⟩ := List.mem_map.mp hw
  have hk := List.mem_range.mp hk
  match k, hk with
  | 0, _ => exact gt_1 196 (by decide +kernel) rfl
  | 1, _ => exact gt_1 198 (by decide +kernel) rfl
  | 2, _ => exact gt_1 200 (by decide +kernel) rfl
  | 3, _ => exact gt_1 202 (by decide +kernel) rfl
  | 4, _ => exact gt_1 204 (by decide +kernel) rfl
  | 5, _ => exact gt_1 206 (by decide +kernel) rfl
  | 6, _ => exact gt_1 208 (by decide +kernel) rfl
  | 7, _ => exact gt_1 210 (by decide +kernel) rfl
  | 8, _ => exact gt_1 212 (by decide +kernel) rfl
  | 9, _ => exact gt_1 214 (by decide +kernel) rfl
  | 10, _ => exact gt_1 216 (by decide +kernel) rfl
  | 11, _ => exact gt_1 218 (by decide +kernel) rfl
  | 12, _ => exact gt_1 220 (by decide +kernel) rfl
  | n + 13, h => exact absurd h (by omega)
def R4 : String := "MenuScreens$Plan"
def T4 : u_T := fun k => match k with
  | 0 => ("MenuScreens$Plan", "values", "Ljava/util/ArrayList;", true)
  | 1 => ("MenuScreens$Plan", "screens", "Ljava/util/ArrayList;", true)
  | 2 => ("MenuScreens$Plan", "rings", "[I", true)
  | _ => ("MenuScreens$Plan", "ringCount", "I", false)
def ty4 : Nat → FieldType := fun k => match k with
  | 0 => .object "java/util/ArrayList"
  | 1 => .object "java/util/ArrayList"
  | 2 => .array .int
  | _ => .int
theorem nm4 : ∀ a, a < 4 → ∀ b, b < 4 → a ≠ b → (T4 a).2.1 ≠ (T4 b).2.1 := by decide +kernel
theorem tyok4 : ∀ k, k < 4 → parseFieldDescriptor (T4 k).2.2.1 = some (ty4 k) := by decide +kernel
theorem in4 : ∀ w ∈ u_ws R4 T4 4, w ∈ GT := by
  intro w hw
  obtain ⟨k, hk, rfl⟩ := List.mem_map.mp hw
  have hk := List.mem_range.mp hk
  match k, hk with
  | 0, _ => exact gt_1 108 (by decide +kernel) rfl
  | 1, _ => exact gt_1 110 (by decide +kernel) rfl
  | 2, _ => exact gt_1 112 (by decide +kernel) rfl
  | 3, _ => exact gt_1 114 (by decide +kernel) rfl
  | n + 4, h => exact absurd h (by omega)
def R5 : String := "MenuScreens$Reader"
def T5 : u_T := fun k => match k with
  | 0 => ("MenuScreens$Reader", "plan", "LMenuScreens$Plan;", true)
  | 1 => ("MenuScreens$Reader", "line", "LMenuScreens$Line;", true)
  | 2 => ("MenuScreens$Reader", "screen", "LMenuScreens$Screen;", false)
  | _ => ("MenuScreens$Reader", "pending", "LMenuScreens$Condition;", false)
def ty5 : Nat → FieldType := fun k => match k with
  | 0 => .object "MenuScreens$Plan"
  | 1 => .object "MenuScreens$Line"
  | 2 => .object "MenuScreens$Screen"
  | _ => .object "MenuScreens$Condition"
theorem nm5 : ∀ a, a < 4 → ∀ b, b < 4 → a ≠ b → (T5 a).2.1 ≠ (T5 b).2.1 := by decide +kernel
theorem tyok5 : ∀ k, k < 4 → parseFieldDescriptor (T5 k).2.2.1 = some (ty5 k) := by decide +kernel
theorem in5 : ∀ w ∈ u_ws R5 T5 4, w ∈ GT := by
  intro w hw
  obtain ⟨k, hk, rfl⟩ := List.mem_map.mp hw
  have hk := List.mem_range.mp hk
  match k, hk with
  | 0, _ => exact gt_1 148 (by decide +kernel) rfl
  | 1, _ => exact gt_1 150 (by decide +kernel) rfl
  | 2, _ => exact gt_1 152 (by decide +kernel) rfl
  | 3, _ => exact gt_1 154 (by decide +kernel) rfl
  | n + 4, h => exact absurd h (by omega)
def R6 : String := "MenuScreens$Line"
def T6 : u_T := fun k => match k with
  | 0 => ("MenuScreens$Line", "starts", "[I", true)
  | 1 => ("MenuScreens$Line", "ends", "[I", true)
  | 2 => ("MenuScreens$Line", "text", "Ljava/lang/String;", false)
  | _ => ("MenuScreens$Line", "count", "I", false)
def ty6 : Nat → FieldType := fun k => match k with
  | 0 => .array .int
  | 1 => .array .int
  | 2 => .object "java/lang/String"
  | _ => .int
theorem nm6 : ∀ a, a < 4 → ∀ b, b < 4 → a ≠ b → (T6 a).2.1 ≠ (T6 b).2.1 := by decide +kernel
theorem tyok6 : ∀ k, k < 4 → parseFieldDescriptor (T6 k).2.2.1 = some (ty6 k) := by decide +kernel
theorem in6 : ∀ w ∈ u_ws R6 T6 4, w ∈ GT := by
  intro w hw
  obtain ⟨k, hk, rfl⟩ := List.mem_map.mp hw
  have hk := List.mem_range.mp hk
  match k, hk with
  | 0, _ => exact gt_1 135 (by decide +kernel) rfl
  | 1, _ => exact gt_1 137 (by decide +kernel) rfl
  | 2, _ => exact gt_1 139 (by decide +kernel) rfl
  | 3, _ => exact gt_1 141 (by decide +kernel) rfl
  | n + 4, h => exact absurd h (by omega)
def R7 : String := "MenuScreens$Warnings"
def T7 : u_T := fun k => match k with
  | 0 => ("MenuScreens$Warnings", "ranks", "[I", true)
  | 1 => ("MenuScreens$Warnings", "times", "[J", true)
  | 2 => ("MenuScreens$Warnings", "open", "[I", true)
  | 3 => ("MenuScreens$Warnings", "count", "I", false)
  | 4 => ("MenuScreens$Warnings", "openCount", "I", false)
  | _ => ("MenuScreens$Warnings", "lastTime", "J", false)
def ty7 : Nat → FieldType := fun k => match k with
  | 0 => .array .int
  | 1 => .array .long
  | 2 => .array .int
  | 3 => .int
  | 4 => .int
  | _ => .long
theorem nm7 : ∀ a, a < 6 → ∀ b, b < 6 → a ≠ b → (T7 a).2.1 ≠ (T7 b).2.1 := by decide +kernel
theorem tyok7 : ∀ k, k < 6 → parseFieldDescriptor (T7 k).2.2.1 = some (ty7 k) := by decide +kernel
theorem in7 : ∀ w ∈ u_ws R7 T7 6, w ∈ GT := by
  intro w hw
  obtain ⟨k, hk, rfl⟩ := List.mem_map.mp hw
  have hk := List.mem_range.mp hk
  match k, hk with
  | 0, _ => exact gt_1 169 (by decide +kernel) rfl
  | 1, _ => exact gt_1 171 (by decide +kernel) rfl
  | 2, _ => exact gt_1 173 (by decide +kernel) rfl
  | 3, _ => exact gt_1 175 (by decide +kernel) rfl
  | 4, _ => exact gt_1 177 (by decide +kernel) rfl
  | 5, _ => exact gt_1 179 (by decide +kernel) rfl
  | n + 6, h => exact absurd h (by omega)
def R8 : String := "MenuScreens$Value"
def T8 : u_T := fun k => match k with
  | 0 => ("MenuScreens$Value", "name", "J", true)
  | 1 => ("MenuScreens$Value", "isSetting", "Z", true)
  | 2 => ("MenuScreens$Value", "low", "J", true)
  | 3 => ("MenuScreens$Value", "high", "J", true)
  | 4 => ("MenuScreens$Value", "now", "J", false)
  | _ => ("MenuScreens$Value", "valid", "Z", false)
def ty8 : Nat → FieldType := fun k => match k with
  | 0 => .long
  | 1 => .boolean
  | 2 => .long
  | 3 => .long
  | 4 => .long
  | _ => .boolean
theorem nm8 : ∀ a, a < 6 → ∀ b, b < 6 → a ≠ b → (T8 a).2.1 ≠ (T8 b).2.1 := by decide +kernel
theorem tyok8 : ∀ k, k < 6 → parseFieldDescriptor (T8 k).2.2.1 = some (ty8 k) := by decide +kernel
theorem in8 : ∀ w ∈ u_ws R8 T8 6, w ∈ GT := by
  intro w hw
  obtain ⟨k, hk, rfl⟩ := List.mem_map.mp hw
  have hk := List.mem_range.mp hk
  match k, hk with
  | 0, _ => exact gt_3 85 (by decide +kernel) rfl
  | 1, _ => exact gt_3 87 (by decide +kernel) rfl
  | 2, _ => exact gt_3 89 (by decide +kernel) rfl
  | 3, _ => exact gt_3 91 (by decide +kernel) rfl
  | 4, _ => exact gt_3 93 (by decide +kernel) rfl
  | 5, _ => exact gt_3 95 (by decide +kernel) rfl
  | n + 6, h => exact absurd h (by omega)
def R9 : String := "MenuScreens$Screen"
def T9 : u_T := fun k => match k with
  | 0 => ("MenuScreens$Screen", "name", "J", true)
  | 1 => ("MenuScreens$Screen", "line", "I", true)
  | 2 => ("MenuScreens$Screen", "pieces", "Ljava/util/ArrayList;", true)
  | 3 => ("MenuScreens$Screen", "keyNames", "[J", true)
  | 4 => ("MenuScreens$Screen", "keyScreens", "[I", true)
  | 5 => ("MenuScreens$Screen", "bar", "I", false)
  | _ => ("MenuScreens$Screen", "leadsHome", "Z", false)
def ty9 : Nat → FieldType := fun k => match k with
  | 0 => .long
  | 1 => .int
  | 2 => .object "java/util/ArrayList"
  | 3 => .array .long
  | 4 => .array .int
  | 5 => .int
  | _ => .boolean
theorem nm9 : ∀ a, a < 7 → ∀ b, b < 7 → a ≠ b → (T9 a).2.1 ≠ (T9 b).2.1 := by decide +kernel
theorem tyok9 : ∀ k, k < 7 → parseFieldDescriptor (T9 k).2.2.1 = some (ty9 k) := by decide +kernel
theorem in9 : ∀ w ∈ u_ws R9 T9 7, w ∈ GT := by
  intro w hw
  obtain ⟨k, hk, rfl⟩ := List.mem_map.mp hw
  have hk := List.mem_range.mp hk
  match k, hk with
  | 0, _ => exact gt_3 190 (by decide +kernel) rfl
  | 1, _ => exact gt_3 192 (by decide +kernel) rfl
  | 2, _ => exact gt_3 194 (by decide +kernel) rfl
  | 3, _ => exact gt_3 196 (by decide +kernel) rfl
  | 4, _ => exact gt_3 198 (by decide +kernel) rfl
  | 5, _ => exact gt_3 200 (by decide +kernel) rfl
  | 6, _ => exact gt_3 202 (by decide +kernel) rfl
  | n + 7, h => exact absurd h (by omega)
def R10 : String := "MenuScreens$WordPiece"
def T10 : u_T := fun k => match k with
  | 0 => ("MenuScreens$WordPiece", "first", "Ljava/lang/String;", true)
  | 1 => ("MenuScreens$WordPiece", "second", "Ljava/lang/String;", true)
  | 2 => ("MenuScreens$Piece", "row", "I", true)
  | 3 => ("MenuScreens$Piece", "column", "I", true)
  | _ => ("MenuScreens$Piece", "conditions", "LMenuScreens$Condition;", true)
def ty10 : Nat → FieldType := fun k => match k with
  | 0 => .object "java/lang/String"
  | 1 => .object "java/lang/String"
  | 2 => .int
  | 3 => .int
  | _ => .object "MenuScreens$Condition"
theorem nm10 : ∀ a, a < 5 → ∀ b, b < 5 → a ≠ b → (T10 a).2.1 ≠ (T10 b).2.1 := by decide +kernel
theorem tyok10 : ∀ k, k < 5 → parseFieldDescriptor (T10 k).2.2.1 = some (ty10 k) := by decide +kernel
theorem in10 : ∀ w ∈ u_ws R10 T10 5, w ∈ GT := by
  intro w hw
  obtain ⟨k, hk, rfl⟩ := List.mem_map.mp hw
  have hk := List.mem_range.mp hk
  match k, hk with
  | 0, _ => exact gt_3 232 (by decide +kernel) rfl
  | 1, _ => exact gt_3 234 (by decide +kernel) rfl
  | 2, _ => exact gt_3 236 (by decide +kernel) rfl
  | 3, _ => exact gt_3 238 (by decide +kernel) rfl
  | 4, _ => exact gt_4 0 (by decide +kernel) rfl
  | n + 5, h => exact absurd h (by omega)
def R11 : String := "MenuScreens$ValuePiece"
def T11 : u_T := fun k => match k with
  | 0 => ("MenuScreens$ValuePiece", "value", "LMenuScreens$Value;", true)
  | 1 => ("MenuScreens$ValuePiece", "width", "I", true)
  | 2 => ("MenuScreens$Piece", "row", "I", true)
  | 3 => ("MenuScreens$Piece", "column", "I", true)
  | _ => ("MenuScreens$Piece", "conditions", "LMenuScreens$Condition;", true)
def ty11 : Nat → FieldType := fun k => match k with
  | 0 => .object "MenuScreens$Value"
  | 1 => .int
  | 2 => .int
  | 3 => .int
  | _ => .object "MenuScreens$Condition"
theorem nm11 : ∀ a, a < 5 → ∀ b, b < 5 → a ≠ b → (T11 a).2.1 ≠ (T11 b).2.1 := by decide +kernel
theorem tyok11 : ∀ k, k < 5 → parseFieldDescriptor (T11 k).2.2.1 = some (ty11 k) := by decide +kernel
theorem in11 : ∀ w ∈ u_ws R11 T11 5, w ∈ GT := by
  intro w hw
  obtain ⟨k, hk, rfl⟩ := List.mem_map.mp hw
  have hk := List.mem_range.mp hk
  match k, hk with
  | 0, _ => exact gt_4 26 (by decide +kernel) rfl
  | 1, _ => exact gt_4 28 (by decide +kernel) rfl
  | 2, _ => exact gt_4 30 (by decide +kernel) rfl
  | 3, _ => exact gt_4 31 (by decide +kernel) rfl
  | 4, _ => exact gt_4 32 (by decide +kernel) rfl
  | n + 5, h => exact absurd h (by omega)
def R12 : String := "MenuScreens$Condition"
def T12 : u_T := fun k => match k with
  | 0 => ("MenuScreens$Condition", "value", "LMenuScreens$Value;", true)
  | 1 => ("MenuScreens$Condition", "op", "C", true)
  | 2 => ("MenuScreens$Condition", "number", "I", true)
  | _ => ("MenuScreens$Condition", "before", "LMenuScreens$Condition;", true)
def ty12 : Nat → FieldType := fun k => match k with
  | 0 => .object "MenuScreens$Value"
  | 1 => .char
  | 2 => .int
  | _ => .object "MenuScreens$Condition"
theorem nm12 : ∀ a, a < 4 → ∀ b, b < 4 → a ≠ b → (T12 a).2.1 ≠ (T12 b).2.1 := by decide +kernel
theorem tyok12 : ∀ k, k < 4 → parseFieldDescriptor (T12 k).2.2.1 = some (ty12 k) := by decide +kernel
theorem in12 : ∀ w ∈ u_ws R12 T12 4, w ∈ GT := by
  intro w hw
  obtain ⟨k, hk, rfl⟩ := List.mem_map.mp hw
  have hk := List.mem_range.mp hk
  match k, hk with
  | 0, _ => exact gt_4 53 (by decide +kernel) rfl
  | 1, _ => exact gt_4 55 (by decide +kernel) rfl
  | 2, _ => exact gt_4 57 (by decide +kernel) rfl
  | 3, _ => exact gt_4 59 (by decide +kernel) rfl
  | n + 4, h => exact absurd h (by omega)
def R13 : String := "MenuScreensModel"
def T13 : u_T := fun k => match k with
  | 0 => ("MenuScreensModel", "code", "I", false)
  | 1 => ("MenuScreensModel", "height", "I", true)
  | 2 => ("MenuScreensModel", "width", "I", true)
  | 3 => ("MenuScreensModel", "length", "I", false)
  | 4 => ("MenuScreensModel", "text", "[I", true)
  | 5 => ("MenuScreensModel", "size", "I", false)
  | 6 => ("MenuScreensModel", "kept", "[I", true)
  | 7 => ("MenuScreensModel", "at", "I", false)
  | 8 => ("MenuScreensModel", "end", "I", false)
  | 9 => ("MenuScreensModel", "from", "I", false)
  | 10 => ("MenuScreensModel", "to", "I", false)
  | 11 => ("MenuScreensModel", "number", "J", false)
  | 12 => ("MenuScreensModel", "values", "I", false)
  | 13 => ("MenuScreensModel", "valueFrom", "[I", true)
  | 14 => ("MenuScreensModel", "valueTo", "[I", true)
  | 15 => ("MenuScreensModel", "isSetting", "[Z", true)
  | 16 => ("MenuScreensModel", "low", "[J", true)
  | 17 => ("MenuScreensModel", "high", "[J", true)
  | 18 => ("MenuScreensModel", "now", "[J", true)
  | 19 => ("MenuScreensModel", "valid", "[Z", true)
  | 20 => ("MenuScreensModel", "screens", "I", false)
  | 21 => ("MenuScreensModel", "screenFrom", "[I", true)
  | 22 => ("MenuScreensModel", "screenTo", "[I", true)
  | 23 => ("MenuScreensModel", "screenLine", "[I", true)
  | 24 => ("MenuScreensModel", "bar", "[J", true)
  | 25 => ("MenuScreensModel", "home", "[Z", true)
  | 26 => ("MenuScreensModel", "keyFrom", "[I", true)
  | 27 => ("MenuScreensModel", "keyTo", "[I", true)
  | 28 => ("MenuScreensModel", "parts", "I", false)
  | 29 => ("MenuScreensModel", "partScreen", "[I", true)
  | 30 => ("MenuScreensModel", "partKind", "[I", true)
  | 31 => ("MenuScreensModel", "partRow", "[I", true)
  | 32 => ("MenuScreensModel", "partColumn", "[I", true)
  | 33 => ("MenuScreensModel", "partValue", "[I", true)
  | 34 => ("MenuScreensModel", "partColumns", "[I", true)
  | 35 => ("MenuScreensModel", "firstFrom", "[I", true)
  | 36 => ("MenuScreensModel", "firstTo", "[I", true)
  | 37 => ("MenuScreensModel", "secondFrom", "[I", true)
  | 38 => ("MenuScreensModel", "secondTo", "[I", true)
  | 39 => ("MenuScreensModel", "conditions", "I", false)
  | 40 => ("MenuScreensModel", "ofScreen", "[I", true)
  | 41 => ("MenuScreensModel", "ofPart", "[I", true)
  | 42 => ("MenuScreensModel", "ofValue", "[I", true)
  | 43 => ("MenuScreensModel", "op", "[I", true)
  | 44 => ("MenuScreensModel", "than", "[J", true)
  | 45 => ("MenuScreensModel", "present", "I", false)
  | 46 => ("MenuScreensModel", "language", "I", false)
  | 47 => ("MenuScreensModel", "speed", "J", false)
  | 48 => ("MenuScreensModel", "rings", "I", false)
  | 49 => ("MenuScreensModel", "ring", "[I", true)
  | 50 => ("MenuScreensModel", "warnings", "I", false)
  | 51 => ("MenuScreensModel", "rank", "[I", true)
  | 52 => ("MenuScreensModel", "time", "[J", true)
  | 53 => ("MenuScreensModel", "accepted", "[Z", true)
  | 54 => ("MenuScreensModel", "last", "J", false)
  | 55 => ("MenuScreensModel", "trips", "I", false)
  | 56 => ("MenuScreensModel", "metres", "J", false)
  | 57 => ("MenuScreensModel", "cents", "J", false)
  | _ => ("MenuScreensModel", "broken", "[Z", true)
def ty13 : Nat → FieldType := fun k => match k with
  | 0 => .int
  | 1 => .int
  | 2 => .int
  | 3 => .int
  | 4 => .array .int
  | 5 => .int
  | 6 => .array .int
  | 7 => .int
  | 8 => .int
  | 9 => .int
  | 10 => .int
  | 11 => .long
  | 12 => .int
  | 13 => .array .int
  | 14 => .array .int
  | 15 => .array .boolean
  | 16 => .array .long
  | 17 => .array .long
  | 18 => .array .long
  | 19 => .array .boolean
  | 20 => .int
  | 21 => .array .int
  | 22 => .array .int
  | 23 => .array .int
  | 24 => .array .long
  | 25 => .array .boolean
  | 26 => .array .int
  | 27 => .array .int
  | 28 => .int
  | 29 => .array .int
  | 30 => .array .int
  | 31 => .array .int
  | 32 => .array .int
  | 33 => .array .int
  | 34 => .array .int
  | 35 => .array .int
  | 36 => .array .int
  | 37 => .array .int
  | 38 => .array .int
  | 39 => .int
  | 40 => .array .int
  | 41 => .array .int
  | 42 => .array .int
  | 43 => .array .int
  | 44 => .array .long
  | 45 => .int
  | 46 => .int
  | 47 => .long
  | 48 => .int
  | 49 => .array .int
  | 50 => .int
  | 51 => .array .int
  | 52 => .array .long
  | 53 => .array .boolean
  | 54 => .long
  | 55 => .int
  | 56 => .long
  | 57 => .long
  | _ => .array .boolean
theorem nm13 : ∀ a, a < 59 → ∀ b, b < 59 → a ≠ b → (T13 a).2.1 ≠ (T13 b).2.1 := by decide +kernel
theorem tyok13 : ∀ k, k < 59 → parseFieldDescriptor (T13 k).2.2.1 = some (ty13 k) := by decide +kernel
theorem in13 : ∀ w ∈ u_ws R13 T13 59, w ∈ GT := by
  intro w hw
  obtain ⟨k, hk, rfl⟩ := List.mem_map.mp hw
  have hk := List.mem_range.mp hk
  match k, hk with
  | 0, _ => exact gt_5 87 (by decide +kernel) rfl
  | 1, _ => exact gt_5 89 (by decide +kernel) rfl
  | 2, _ => exact gt_5 91 (by decide +kernel) rfl
  | 3, _ => exact gt_5 93 (by decide +kernel) rfl
  | 4, _ => exact gt_5 95 (by decide +kernel) rfl
  | 5, _ => exact gt_5 97 (by decide +kernel) rfl
  | 6, _ => exact gt_5 99 (by decide +kernel) rfl
  | 7, _ => exact gt_5 101 (by decide +kernel) rfl
  | 8, _ => exact gt_5 103 (by decide +kernel) rfl
  | 9, _ => exact gt_5 105 (by decide +kernel) rfl
  | 10, _ => exact gt_5 107 (by decide +kernel) rfl
  | 11, _ => exact gt_5 109 (by decide +kernel) rfl
  | 12, _ => exact gt_5 111 (by decide +kernel) rfl
  | 13, _ => exact gt_5 113 (by decide +kernel) rfl
  | 14, _ => exact gt_5 115 (by decide +kernel) rfl
  | 15, _ => exact gt_5 117 (by decide +kernel) rfl
  | 16, _ => exact gt_5 119 (by decide +kernel) rfl
  | 17, _ => exact gt_5 121 (by decide +kernel) rfl
  | 18, _ => exact gt_5 123 (by decide +kernel) rfl
  | 19, _ => exact gt_5 125 (by decide +kernel) rfl
  | 20, _ => exact gt_5 127 (by decide +kernel) rfl
  | 21, _ => exact gt_5 129 (by decide +kernel) rfl
  | 22, _ => exact gt_5 131 (by decide +kernel) rfl
  | 23, _ => exact gt_5 133 (by decide +kernel) rfl
  | 24, _ => exact gt_5 135 (by decide +kernel) rfl
  | 25, _ => exact gt_5 137 (by decide +kernel) rfl
  | 26, _ => exact gt_5 139 (by decide +kernel) rfl
  | 27, _ => exact gt_5 141 (by decide +kernel) rfl
  | 28, _ => exact gt_5 143 (by decide +kernel) rfl
  | 29, _ => exact gt_5 145 (by decide +kernel) rfl
  | 30, _ => exact gt_5 147 (by decide +kernel) rfl
  | 31, _ => exact gt_5 149 (by decide +kernel) rfl
  | 32, _ => exact gt_5 151 (by decide +kernel) rfl
  | 33, _ => exact gt_5 153 (by decide +kernel) rfl
  | 34, _ => exact gt_5 155 (by decide +kernel) rfl
  | 35, _ => exact gt_5 157 (by decide +kernel) rfl
  | 36, _ => exact gt_5 159 (by decide +kernel) rfl
  | 37, _ => exact gt_5 161 (by decide +kernel) rfl
  | 38, _ => exact gt_5 163 (by decide +kernel) rfl
  | 39, _ => exact gt_5 165 (by decide +kernel) rfl
  | 40, _ => exact gt_5 167 (by decide +kernel) rfl
  | 41, _ => exact gt_5 169 (by decide +kernel) rfl
  | 42, _ => exact gt_5 171 (by decide +kernel) rfl
  | 43, _ => exact gt_5 173 (by decide +kernel) rfl
  | 44, _ => exact gt_5 175 (by decide +kernel) rfl
  | 45, _ => exact gt_5 177 (by decide +kernel) rfl
  | 46, _ => exact gt_5 179 (by decide +kernel) rfl
  | 47, _ => exact gt_5 181 (by decide +kernel) rfl
  | 48, _ => exact gt_5 183 (by decide +kernel) rfl
  | 49, _ => exact gt_5 185 (by decide +kernel) rfl
  | 50, _ => exact gt_5 187 (by decide +kernel) rfl
  | 51, _ => exact gt_5 189 (by decide +kernel) rfl
  | 52, _ => exact gt_5 191 (by decide +kernel) rfl
  | 53, _ => exact gt_5 193 (by decide +kernel) rfl
  | 54, _ => exact gt_5 195 (by decide +kernel) rfl
  | 55, _ => exact gt_5 197 (by decide +kernel) rfl
  | 56, _ => exact gt_5 199 (by decide +kernel) rfl
  | 57, _ => exact gt_5 201 (by decide +kernel) rfl
  | 58, _ => exact gt_5 203 (by decide +kernel) rfl
  | n + 59, h => exact absurd h (by omega)
abbrev vcl : List vw_C := [(R0, T0, 4), (R1, T1, 4), (R2, T2, 3), (R3, T3, 13), (R4, T4, 4), (R5, T5, 4), (R6, T6, 4), (R7, T7, 6), (R8, T8, 6), (R9, T9, 7), (R10, T10, 5), (R11, T11, 5), (R12, T12, 4), (R13, T13, 59)]
/-- the arrays' classes: int, long, byte, boolean, Object -/
abbrev vty (dT : Nat → ClassId) : List (ClassId × FieldType) := [(dT 0, .int), (dT 1, .long), (dT 2, .byte), (dT 3, .boolean), (dT 4, .object "java/lang/Object")]
def y_MenuScreens_init : MethodName := ⟨"MenuScreens", "<init>", "(II)V"⟩
def y_Object_init : MethodName := ⟨"java/lang/Object", "<init>", "()V"⟩
def y_StringBuilder_init : MethodName := ⟨"java/lang/StringBuilder", "<init>", "()V"⟩
def y_AbstractStringBuilder_init : MethodName := ⟨"java/lang/AbstractStringBuilder", "<init>", "(I)V"⟩
def y_StringUTF16_newBytesFor : MethodName := ⟨"java/lang/StringUTF16", "newBytesFor", "(I)[B"⟩
def y_StringUTF16_newBytesLength : MethodName := ⟨"java/lang/StringUTF16", "newBytesLength", "(I)I"⟩
def y_Plan_init : MethodName := ⟨"MenuScreens$Plan", "<init>", "()V"⟩
def y_ArrayList_init : MethodName := ⟨"java/util/ArrayList", "<init>", "()V"⟩
def y_AbstractList_init : MethodName := ⟨"java/util/AbstractList", "<init>", "()V"⟩
def y_AbstractCollection_init : MethodName := ⟨"java/util/AbstractCollection", "<init>", "()V"⟩
def y_Reader_init : MethodName := ⟨"MenuScreens$Reader", "<init>", "(LMenuScreens$Plan;)V"⟩
def y_Line_init : MethodName := ⟨"MenuScreens$Line", "<init>", "()V"⟩
def y_Warnings_init : MethodName := ⟨"MenuScreens$Warnings", "<init>", "()V"⟩
def y_MenuScreens_sign : MethodName := ⟨"MenuScreens", "sign", "(I)V"⟩
def y_StringBuilder_length : MethodName := ⟨"java/lang/StringBuilder", "length", "()I"⟩
def y_AbstractStringBuilder_length : MethodName := ⟨"java/lang/AbstractStringBuilder", "length", "()I"⟩
def y_StringBuilder_append : MethodName := ⟨"java/lang/StringBuilder", "append", "(C)Ljava/lang/StringBuilder;"⟩
def y_AbstractStringBuilder_append : MethodName := ⟨"java/lang/AbstractStringBuilder", "append", "(C)Ljava/lang/AbstractStringBuilder;"⟩
def y_AbstractStringBuilder_ensureCapacityInternal : MethodName := ⟨"java/lang/AbstractStringBuilder", "ensureCapacityInternal", "(I)V"⟩
def y_AbstractStringBuilder_newCapacity : MethodName := ⟨"java/lang/AbstractStringBuilder", "newCapacity", "(I)I"⟩
def y_ArraysSupport_newLength : MethodName := ⟨"jdk/internal/util/ArraysSupport", "newLength", "(III)I"⟩
def y_Math_max : MethodName := ⟨"java/lang/Math", "max", "(II)I"⟩
def y_ArraysSupport_hugeLength : MethodName := ⟨"jdk/internal/util/ArraysSupport", "hugeLength", "(II)I"⟩
def y_Arrays_copyOf : MethodName := ⟨"java/util/Arrays", "copyOf", "([BI)[B"⟩
def y_Math_min : MethodName := ⟨"java/lang/Math", "min", "(II)I"⟩
def y_AbstractStringBuilder_isLatin1 : MethodName := ⟨"java/lang/AbstractStringBuilder", "isLatin1", "()Z"⟩
def y_StringLatin1_canEncode : MethodName := ⟨"java/lang/StringLatin1", "canEncode", "(C)Z"⟩
def y_AbstractStringBuilder_inflate : MethodName := ⟨"java/lang/AbstractStringBuilder", "inflate", "()V"⟩
def y_StringLatin1_inflate : MethodName := ⟨"java/lang/StringLatin1", "inflate", "([BI[BII)V"⟩
def y_StringUTF16_inflate : MethodName := ⟨"java/lang/StringUTF16", "inflate", "([BI[BII)V"⟩
def y_StringUTF16_checkBoundsOffCount : MethodName := ⟨"java/lang/StringUTF16", "checkBoundsOffCount", "(II[B)V"⟩
def y_StringUTF16_length : MethodName := ⟨"java/lang/StringUTF16", "length", "([B)I"⟩
def y_String_checkBoundsOffCount : MethodName := ⟨"java/lang/String", "checkBoundsOffCount", "(III)I"⟩
def y_Preconditions_checkFromIndexSize : MethodName := ⟨"jdk/internal/util/Preconditions", "checkFromIndexSize", "(IIILjava/util/function/BiFunction;)I"⟩
def y_StringUTF16_putChar : MethodName := ⟨"java/lang/StringUTF16", "putChar", "([BII)V"⟩
def y_StringUTF16_putCharSB : MethodName := ⟨"java/lang/StringUTF16", "putCharSB", "([BII)V"⟩
def y_StringUTF16_checkIndex : MethodName := ⟨"java/lang/StringUTF16", "checkIndex", "(I[B)V"⟩
def y_String_checkIndex : MethodName := ⟨"java/lang/String", "checkIndex", "(II)V"⟩
def y_Preconditions_checkIndex : MethodName := ⟨"jdk/internal/util/Preconditions", "checkIndex", "(IILjava/util/function/BiFunction;)I"⟩
def y_MenuScreens_read : MethodName := ⟨"MenuScreens", "read", "()I"⟩
def y_StringBuilder_toString : MethodName := ⟨"java/lang/StringBuilder", "toString", "()Ljava/lang/String;"⟩
def y_String_init : MethodName := ⟨"java/lang/String", "<init>", "(Ljava/lang/StringBuilder;)V"⟩
def y_String_init_2 : MethodName := ⟨"java/lang/String", "<init>", "(Ljava/lang/AbstractStringBuilder;Ljava/lang/Void;)V"⟩
def y_AbstractStringBuilder_getValue : MethodName := ⟨"java/lang/AbstractStringBuilder", "getValue", "()[B"⟩
def y_Arrays_copyOfRange : MethodName := ⟨"java/util/Arrays", "copyOfRange", "([BII)[B"⟩
def y_Arrays_copyOfRangeByte : MethodName := ⟨"java/util/Arrays", "copyOfRangeByte", "([BII)[B"⟩
def y_Arrays_checkLength : MethodName := ⟨"java/util/Arrays", "checkLength", "(II)V"⟩
def y_StringUTF16_compress : MethodName := ⟨"java/lang/StringUTF16", "compress", "([BII)[B"⟩
def y_StringUTF16_compress_2 : MethodName := ⟨"java/lang/StringUTF16", "compress", "([BI[BII)I"⟩
def y_StringUTF16_getChar : MethodName := ⟨"java/lang/StringUTF16", "getChar", "([BI)C"⟩
def y_StringUTF16_coderFromArrayLen : MethodName := ⟨"java/lang/StringUTF16", "coderFromArrayLen", "([BI)B"⟩
def y_StringBuilder_setLength : MethodName := ⟨"java/lang/StringBuilder", "setLength", "(I)V"⟩
def y_AbstractStringBuilder_setLength : MethodName := ⟨"java/lang/AbstractStringBuilder", "setLength", "(I)V"⟩
def y_StringLatin1_fillNull : MethodName := ⟨"java/lang/StringLatin1", "fillNull", "([BII)V"⟩
def y_Arrays_fill : MethodName := ⟨"java/util/Arrays", "fill", "([BIIB)V"⟩
def y_Arrays_rangeCheck : MethodName := ⟨"java/util/Arrays", "rangeCheck", "(III)V"⟩
def y_StringUTF16_fillNull : MethodName := ⟨"java/lang/StringUTF16", "fillNull", "([BII)V"⟩
def y_Plan_clear : MethodName := ⟨"MenuScreens$Plan", "clear", "()V"⟩
def y_Plan_clearScreensAndValues : MethodName := ⟨"MenuScreens$Plan", "clearScreensAndValues", "()V"⟩
def y_ArrayList_clear : MethodName := ⟨"java/util/ArrayList", "clear", "()V"⟩
def y_Reader_firstWrongLine : MethodName := ⟨"MenuScreens$Reader", "firstWrongLine", "(Ljava/lang/String;)I"⟩
def y_String_length : MethodName := ⟨"java/lang/String", "length", "()I"⟩
def y_String_coder : MethodName := ⟨"java/lang/String", "coder", "()B"⟩
def y_String_charAt : MethodName := ⟨"java/lang/String", "charAt", "(I)C"⟩
def y_String_isLatin1 : MethodName := ⟨"java/lang/String", "isLatin1", "()Z"⟩
def y_StringLatin1_charAt : MethodName := ⟨"java/lang/StringLatin1", "charAt", "([BI)C"⟩
def y_StringUTF16_charAt : MethodName := ⟨"java/lang/StringUTF16", "charAt", "([BI)C"⟩
def y_Line_split : MethodName := ⟨"MenuScreens$Line", "split", "(Ljava/lang/String;II)V"⟩
def y_Line_addWord : MethodName := ⟨"MenuScreens$Line", "addWord", "(II)V"⟩
def y_Line_wordCount : MethodName := ⟨"MenuScreens$Line", "wordCount", "()I"⟩
def y_Reader_takeLine : MethodName := ⟨"MenuScreens$Reader", "takeLine", "(I)Z"⟩
def y_Line_wordAt : MethodName := ⟨"MenuScreens$Line", "wordAt", "(I)Ljava/lang/String;"⟩
def y_String_substring : MethodName := ⟨"java/lang/String", "substring", "(II)Ljava/lang/String;"⟩
def y_String_checkBoundsBeginEnd : MethodName := ⟨"java/lang/String", "checkBoundsBeginEnd", "(III)V"⟩
def y_Preconditions_checkFromToIndex : MethodName := ⟨"jdk/internal/util/Preconditions", "checkFromToIndex", "(IIILjava/util/function/BiFunction;)I"⟩
def y_StringLatin1_newString : MethodName := ⟨"java/lang/StringLatin1", "newString", "([BII)Ljava/lang/String;"⟩
def y_String_init_3 : MethodName := ⟨"java/lang/String", "<init>", "([BB)V"⟩
def y_StringUTF16_newString : MethodName := ⟨"java/lang/StringUTF16", "newString", "([BII)Ljava/lang/String;"⟩
def y_String_equals : MethodName := ⟨"java/lang/String", "equals", "(Ljava/lang/Object;)Z"⟩
def y_StringLatin1_equals : MethodName := ⟨"java/lang/StringLatin1", "equals", "([B[B)Z"⟩
def y_Reader_takeName : MethodName := ⟨"MenuScreens$Reader", "takeName", "()Z"⟩
def y_Line_nameAt : MethodName := ⟨"MenuScreens$Line", "nameAt", "(I)J"⟩
def y_Reader_isFreeForValue : MethodName := ⟨"MenuScreens$Reader", "isFreeForValue", "(J)Z"⟩
def y_ArrayList_size : MethodName := ⟨"java/util/ArrayList", "size", "()I"⟩
def y_Plan_valueNamed : MethodName := ⟨"MenuScreens$Plan", "valueNamed", "(J)LMenuScreens$Value;"⟩
def y_ArrayList_get : MethodName := ⟨"java/util/ArrayList", "get", "(I)Ljava/lang/Object;"⟩
def y_Objects_checkIndex : MethodName := ⟨"java/util/Objects", "checkIndex", "(II)I"⟩
def y_ArrayList_elementData : MethodName := ⟨"java/util/ArrayList", "elementData", "(I)Ljava/lang/Object;"⟩
def y_Value_init : MethodName := ⟨"MenuScreens$Value", "<init>", "(J)V"⟩
def y_ArrayList_add : MethodName := ⟨"java/util/ArrayList", "add", "(Ljava/lang/Object;)Z"⟩
def y_ArrayList_add_2 : MethodName := ⟨"java/util/ArrayList", "add", "(Ljava/lang/Object;[Ljava/lang/Object;I)V"⟩
def y_ArrayList_grow : MethodName := ⟨"java/util/ArrayList", "grow", "()[Ljava/lang/Object;"⟩
def y_ArrayList_grow_2 : MethodName := ⟨"java/util/ArrayList", "grow", "(I)[Ljava/lang/Object;"⟩
def y_Arrays_copyOf_2 : MethodName := ⟨"java/util/Arrays", "copyOf", "([Ljava/lang/Object;I)[Ljava/lang/Object;"⟩
def y_Arrays_copyOf_3 : MethodName := ⟨"java/util/Arrays", "copyOf", "([Ljava/lang/Object;ILjava/lang/Class;)[Ljava/lang/Object;"⟩
def y_Reader_takeSetting : MethodName := ⟨"MenuScreens$Reader", "takeSetting", "()Z"⟩
def y_Line_numberAt : MethodName := ⟨"MenuScreens$Line", "numberAt", "(I)I"⟩
def y_Value_init_2 : MethodName := ⟨"MenuScreens$Value", "<init>", "(JJJJ)V"⟩
def y_Reader_takeScreen : MethodName := ⟨"MenuScreens$Reader", "takeScreen", "(I)Z"⟩
def y_Plan_screenNumberOf : MethodName := ⟨"MenuScreens$Plan", "screenNumberOf", "(J)I"⟩
def y_Screen_init : MethodName := ⟨"MenuScreens$Screen", "<init>", "(JI)V"⟩
def y_Reader_takeLineOf : MethodName := ⟨"MenuScreens$Reader", "takeLineOf", "(LMenuScreens$Screen;Ljava/lang/String;)Z"⟩
def y_Reader_takePut : MethodName := ⟨"MenuScreens$Reader", "takePut", "(LMenuScreens$Screen;)Z"⟩
def y_WordPiece_init : MethodName := ⟨"MenuScreens$WordPiece", "<init>", "(IILMenuScreens$Condition;Ljava/lang/String;Ljava/lang/String;)V"⟩
def y_Piece_init : MethodName := ⟨"MenuScreens$Piece", "<init>", "(IILMenuScreens$Condition;)V"⟩
def y_Reader_takePiece : MethodName := ⟨"MenuScreens$Reader", "takePiece", "(LMenuScreens$Screen;LMenuScreens$Piece;)Z"⟩
def y_Reader_takeSay : MethodName := ⟨"MenuScreens$Reader", "takeSay", "(LMenuScreens$Screen;)Z"⟩
def y_Reader_takeShow : MethodName := ⟨"MenuScreens$Reader", "takeShow", "(LMenuScreens$Screen;)Z"⟩
def y_ValuePiece_init : MethodName := ⟨"MenuScreens$ValuePiece", "<init>", "(IILMenuScreens$Condition;LMenuScreens$Value;I)V"⟩
def y_Reader_takeIf : MethodName := ⟨"MenuScreens$Reader", "takeIf", "()Z"⟩
def y_Condition_init : MethodName := ⟨"MenuScreens$Condition", "<init>", "(LMenuScreens$Value;CILMenuScreens$Condition;)V"⟩
def y_Reader_takeKey : MethodName := ⟨"MenuScreens$Reader", "takeKey", "(LMenuScreens$Screen;)Z"⟩
def y_Reader_takeBar : MethodName := ⟨"MenuScreens$Reader", "takeBar", "(LMenuScreens$Screen;)Z"⟩
def y_Plan_joinKeys : MethodName := ⟨"MenuScreens$Plan", "joinKeys", "()V"⟩
def y_Plan_findRings : MethodName := ⟨"MenuScreens$Plan", "findRings", "()V"⟩
def y_Plan_markScreensThatLeadHome : MethodName := ⟨"MenuScreens$Plan", "markScreensThatLeadHome", "()V"⟩
def y_Plan_hasKeyTowardsHome : MethodName := ⟨"MenuScreens$Plan", "hasKeyTowardsHome", "(LMenuScreens$Screen;)Z"⟩
def y_Screen_screenBehindKey : MethodName := ⟨"MenuScreens$Screen", "screenBehindKey", "(I)I"⟩
def y_Plan_screenNumbered : MethodName := ⟨"MenuScreens$Plan", "screenNumbered", "(I)LMenuScreens$Screen;"⟩
def y_Plan_firstWrongScreenLine : MethodName := ⟨"MenuScreens$Plan", "firstWrongScreenLine", "()I"⟩
def y_Screen_hasKeyToNowhere : MethodName := ⟨"MenuScreens$Screen", "hasKeyToNowhere", "()Z"⟩
def y_MenuScreens_value : MethodName := ⟨"MenuScreens", "value", "(IJZ)I"⟩
def y_Plan_valueNumbered : MethodName := ⟨"MenuScreens$Plan", "valueNumbered", "(I)LMenuScreens$Value;"⟩
def y_MenuScreens_press : MethodName := ⟨"MenuScreens", "press", "(I)I"⟩
def y_Screen_isBarredAt : MethodName := ⟨"MenuScreens$Screen", "isBarredAt", "(I)Z"⟩
def y_MenuScreens_shown : MethodName := ⟨"MenuScreens", "shown", "(II)I"⟩
def y_Warnings_signAt : MethodName := ⟨"MenuScreens$Warnings", "signAt", "(I)I"⟩
def y_Warnings_rankOf : MethodName := ⟨"MenuScreens$Warnings", "rankOf", "(I)I"⟩
def y_Screen_signAt : MethodName := ⟨"MenuScreens$Screen", "signAt", "(III)I"⟩
def y_ValuePiece_signAt : MethodName := ⟨"MenuScreens$ValuePiece", "signAt", "(II)I"⟩
def y_ValuePiece_signFromRight : MethodName := ⟨"MenuScreens$ValuePiece", "signFromRight", "(I)I"⟩
def y_Math_abs : MethodName := ⟨"java/lang/Math", "abs", "(J)J"⟩
def y_ValuePiece_digitsOf : MethodName := ⟨"MenuScreens$ValuePiece", "digitsOf", "(J)I"⟩
def y_ValuePiece_digitFromRight : MethodName := ⟨"MenuScreens$ValuePiece", "digitFromRight", "(JI)I"⟩
def y_WordPiece_signAt : MethodName := ⟨"MenuScreens$WordPiece", "signAt", "(II)I"⟩
def y_Piece_isOn : MethodName := ⟨"MenuScreens$Piece", "isOn", "()Z"⟩
def y_Condition_holds : MethodName := ⟨"MenuScreens$Condition", "holds", "()Z"⟩
def y_MenuScreens_warn : MethodName := ⟨"MenuScreens", "warn", "(IJ)I"⟩
def y_Warnings_add : MethodName := ⟨"MenuScreens$Warnings", "add", "(IJ)I"⟩
def y_Warnings_insertOpen : MethodName := ⟨"MenuScreens$Warnings", "insertOpen", "(II)V"⟩
def y_MenuScreens_warning : MethodName := ⟨"MenuScreens", "warning", "(I)I"⟩
def y_Warnings_openAt : MethodName := ⟨"MenuScreens$Warnings", "openAt", "(I)I"⟩
def y_MenuScreens_accept : MethodName := ⟨"MenuScreens", "accept", "(I)I"⟩
def y_Warnings_close : MethodName := ⟨"MenuScreens$Warnings", "close", "(I)I"⟩
def y_Warnings_placeInOpen : MethodName := ⟨"MenuScreens$Warnings", "placeInOpen", "(I)I"⟩
def y_MenuScreens_trip : MethodName := ⟨"MenuScreens", "trip", "(JJ)I"⟩
def y_MenuScreens_sum : MethodName := ⟨"MenuScreens", "sum", "(II)J"⟩
def y_MenuScreens_greatestDivisor : MethodName := ⟨"MenuScreens", "greatestDivisor", "(JJ)J"⟩
def y_MenuScreens_speed : MethodName := ⟨"MenuScreens", "speed", "(J)I"⟩
def y_MenuScreens_language : MethodName := ⟨"MenuScreens", "language", "(I)I"⟩
def y_MenuScreens_ring : MethodName := ⟨"MenuScreens", "ring", "(I)I"⟩
def y_Plan_ringAt : MethodName := ⟨"MenuScreens$Plan", "ringAt", "(I)I"⟩
def y_MenuScreens_setting : MethodName := ⟨"MenuScreens", "setting", "(IJ)I"⟩
def y_MenuScreens_lamp : MethodName := ⟨"MenuScreens", "lamp", "(IZ)I"⟩
def y_Integer_bitCount : MethodName := ⟨"java/lang/Integer", "bitCount", "(I)I"⟩
def y_MenuScreensLaw_cell : MethodName := ⟨"MenuScreensLaw", "cell", "([II)I"⟩
def y_MenuScreensModel_init : MethodName := ⟨"MenuScreensModel", "<init>", "(II)V"⟩
def y_MenuScreensModel_sign : MethodName := ⟨"MenuScreensModel", "sign", "(I)V"⟩
def y_MenuScreensModel_read : MethodName := ⟨"MenuScreensModel", "read", "()I"⟩
def y_MenuScreensModel_wrong : MethodName := ⟨"MenuScreensModel", "wrong", "()I"⟩
def y_MenuScreensModel_next : MethodName := ⟨"MenuScreensModel", "next", "()Z"⟩
def y_MenuScreensModel_line : MethodName := ⟨"MenuScreensModel", "line", "(I)Z"⟩
def y_MenuScreensModel_word : MethodName := ⟨"MenuScreensModel", "word", "()J"⟩
def y_MenuScreensModel_told : MethodName := ⟨"MenuScreensModel", "told", "(IIIIIII)J"⟩
def y_MenuScreensModel_addValue : MethodName := ⟨"MenuScreensModel", "addValue", "(Z)Z"⟩
def y_MenuScreensModel_name : MethodName := ⟨"MenuScreensModel", "name", "()Z"⟩
def y_MenuScreensModel_isName : MethodName := ⟨"MenuScreensModel", "isName", "()Z"⟩
def y_MenuScreensModel_findValue : MethodName := ⟨"MenuScreensModel", "findValue", "()I"⟩
def y_MenuScreensModel_same : MethodName := ⟨"MenuScreensModel", "same", "(IIII)Z"⟩
def y_MenuScreensModel_number : MethodName := ⟨"MenuScreensModel", "number", "(JJ)Z"⟩
def y_MenuScreensModel_through : MethodName := ⟨"MenuScreensModel", "through", "()Z"⟩
def y_MenuScreensModel_addScreen : MethodName := ⟨"MenuScreensModel", "addScreen", "(I)Z"⟩
def y_MenuScreensModel_findScreen : MethodName := ⟨"MenuScreensModel", "findScreen", "(II)I"⟩
def y_MenuScreensModel_addPart : MethodName := ⟨"MenuScreensModel", "addPart", "(I)Z"⟩
def y_MenuScreensModel_addCondition : MethodName := ⟨"MenuScreensModel", "addCondition", "()Z"⟩
def y_MenuScreensModel_addKey : MethodName := ⟨"MenuScreensModel", "addKey", "()Z"⟩
def y_MenuScreensModel_endLine : MethodName := ⟨"MenuScreensModel", "endLine", "()I"⟩
def y_MenuScreensModel_leads : MethodName := ⟨"MenuScreensModel", "leads", "(II)I"⟩
def y_MenuScreensModel_value : MethodName := ⟨"MenuScreensModel", "value", "(IJZ)I"⟩
def y_MenuScreensModel_setting : MethodName := ⟨"MenuScreensModel", "setting", "(IJ)I"⟩
def y_MenuScreensModel_press : MethodName := ⟨"MenuScreensModel", "press", "(I)I"⟩
def y_MenuScreensModel_barred : MethodName := ⟨"MenuScreensModel", "barred", "()Z"⟩
def y_MenuScreensModel_shown : MethodName := ⟨"MenuScreensModel", "shown", "(II)I"⟩
def y_MenuScreensModel_atHand : MethodName := ⟨"MenuScreensModel", "atHand", "()I"⟩
def y_MenuScreensModel_before : MethodName := ⟨"MenuScreensModel", "before", "(IZ)I"⟩
def y_MenuScreensModel_partAt : MethodName := ⟨"MenuScreensModel", "partAt", "(III)I"⟩
def y_MenuScreensModel_holds : MethodName := ⟨"MenuScreensModel", "holds", "(I)Z"⟩
def y_MenuScreensModel_digit : MethodName := ⟨"MenuScreensModel", "digit", "(III)I"⟩
def y_MenuScreensModel_speed : MethodName := ⟨"MenuScreensModel", "speed", "(J)I"⟩
def y_MenuScreensModel_language : MethodName := ⟨"MenuScreensModel", "language", "(I)I"⟩
def y_MenuScreensModel_ring : MethodName := ⟨"MenuScreensModel", "ring", "(I)I"⟩
def y_MenuScreensModel_warn : MethodName := ⟨"MenuScreensModel", "warn", "(IJ)I"⟩
def y_MenuScreensModel_warning : MethodName := ⟨"MenuScreensModel", "warning", "(I)I"⟩
def y_MenuScreensModel_accept : MethodName := ⟨"MenuScreensModel", "accept", "(I)I"⟩
def y_MenuScreensModel_trip : MethodName := ⟨"MenuScreensModel", "trip", "(JJ)I"⟩
def y_MenuScreensModel_sum : MethodName := ⟨"MenuScreensModel", "sum", "(II)J"⟩
def y_MenuScreensModel_lamp : MethodName := ⟨"MenuScreensModel", "lamp", "(IZ)I"⟩
end
section
/-! SITES, by program: what each pool number of each class stands for -/
theorem f_0_9_3 : vFl GT vcl "MenuScreens" 9 3 0 := ⟨R3, T3, 13, "MenuScreens", rfl, by decide, in3, gt_1 183 (by decide +kernel) rfl, Or.inl rfl⟩
theorem p_0_9_3 : vFp GT vcl "MenuScreens" 9 3 0 (.int) true := ⟨R3, T3, 13, "MenuScreens", ty3, rfl, by decide, in3, gt_1 183 (by decide +kernel) rfl, Or.inl rfl, tyok3, nm3, by decide +kernel, rfl, fun _ => rfl⟩
theorem f_0_13_3 : vFl GT vcl "MenuScreens" 13 3 1 := ⟨R3, T3, 13, "MenuScreens", rfl, by decide, in3, gt_1 184 (by decide +kernel) rfl, Or.inl rfl⟩
theorem p_0_13_3 : vFp GT vcl "MenuScreens" 13 3 1 (.int) true := ⟨R3, T3, 13, "MenuScreens", ty3, rfl, by decide, in3, gt_1 184 (by decide +kernel) rfl, Or.inl rfl, tyok3, nm3, by decide +kernel, rfl, fun _ => rfl⟩
theorem f_0_19_3 : vFl GT vcl "MenuScreens" 19 3 2 := ⟨R3, T3, 13, "MenuScreens", rfl, by decide, in3, gt_1 185 (by decide +kernel) rfl, Or.inl rfl⟩
theorem p_0_19_3 : vFp GT vcl "MenuScreens" 19 3 2 (.object "java/lang/StringBuilder") true := ⟨R3, T3, 13, "MenuScreens", ty3, rfl, by decide, in3, gt_1 185 (by decide +kernel) rfl, Or.inl rfl, tyok3, nm3, by decide +kernel, rfl, fun _ => rfl⟩
theorem f_0_26_3 : vFl GT vcl "MenuScreens" 26 3 3 := ⟨R3, T3, 13, "MenuScreens", rfl, by decide, in3, gt_1 186 (by decide +kernel) rfl, Or.inl rfl⟩
theorem p_0_26_3 : vFp GT vcl "MenuScreens" 26 3 3 (.object "MenuScreens$Plan") true := ⟨R3, T3, 13, "MenuScreens", ty3, rfl, by decide, in3, gt_1 186 (by decide +kernel) rfl, Or.inl rfl, tyok3, nm3, by decide +kernel, rfl, fun _ => rfl⟩
theorem f_0_35_3 : vFl GT vcl "MenuScreens" 35 3 4 := ⟨R3, T3, 13, "MenuScreens", rfl, by decide, in3, gt_1 187 (by decide +kernel) rfl, Or.inl rfl⟩
theorem p_0_35_3 : vFp GT vcl "MenuScreens" 35 3 4 (.object "MenuScreens$Reader") true := ⟨R3, T3, 13, "MenuScreens", ty3, rfl, by decide, in3, gt_1 187 (by decide +kernel) rfl, Or.inl rfl, tyok3, nm3, by decide +kernel, rfl, fun _ => rfl⟩
theorem f_0_42_3 : vFl GT vcl "MenuScreens" 42 3 5 := ⟨R3, T3, 13, "MenuScreens", rfl, by decide, in3, gt_1 188 (by decide +kernel) rfl, Or.inl rfl⟩
theorem p_0_42_3 : vFp GT vcl "MenuScreens" 42 3 5 (.object "MenuScreens$Warnings") true := ⟨R3, T3, 13, "MenuScreens", ty3, rfl, by decide, in3, gt_1 188 (by decide +kernel) rfl, Or.inl rfl, tyok3, nm3, by decide +kernel, rfl, fun _ => rfl⟩
theorem f_0_81_4 : vFl GT vcl "MenuScreens" 81 4 1 := ⟨R4, T4, 4, "MenuScreens$Plan", rfl, by decide, in4, gt_1 104 (by decide +kernel) rfl, Or.inl rfl⟩
theorem f_0_90_3 : vFl GT vcl "MenuScreens" 90 3 6 := ⟨R3, T3, 13, "MenuScreens", rfl, by decide, in3, gt_1 189 (by decide +kernel) rfl, Or.inl rfl⟩
theorem p_0_90_3 : vFp GT vcl "MenuScreens" 90 3 6 (.int) false := ⟨R3, T3, 13, "MenuScreens", ty3, rfl, by decide, in3, gt_1 189 (by decide +kernel) rfl, Or.inl rfl, tyok3, nm3, by decide +kernel, rfl, fun h => by cases h⟩
theorem f_0_101_8 : vFl GT vcl "MenuScreens" 101 8 1 := ⟨R8, T8, 6, "MenuScreens$Value", rfl, by decide, in8, gt_3 72 (by decide +kernel) rfl, Or.inl rfl⟩
theorem p_0_107_8 : vFp GT vcl "MenuScreens" 107 8 4 (.long) false := ⟨R8, T8, 6, "MenuScreens$Value", ty8, rfl, by decide, in8, gt_3 80 (by decide +kernel) rfl, Or.inl rfl, tyok8, nm8, by decide +kernel, rfl, fun h => by cases h⟩
theorem p_0_111_8 : vFp GT vcl "MenuScreens" 111 8 5 (.boolean) false := ⟨R8, T8, 6, "MenuScreens$Value", ty8, rfl, by decide, in8, gt_3 84 (by decide +kernel) rfl, Or.inl rfl, tyok8, nm8, by decide +kernel, rfl, fun h => by cases h⟩
theorem f_0_124_3 : vFl GT vcl "MenuScreens" 124 3 7 := ⟨R3, T3, 13, "MenuScreens", rfl, by decide, in3, gt_1 190 (by decide +kernel) rfl, Or.inl rfl⟩
theorem p_0_124_3 : vFp GT vcl "MenuScreens" 124 3 7 (.int) false := ⟨R3, T3, 13, "MenuScreens", ty3, rfl, by decide, in3, gt_1 190 (by decide +kernel) rfl, Or.inl rfl, tyok3, nm3, by decide +kernel, rfl, fun h => by cases h⟩
theorem f_0_134_3 : vFl GT vcl "MenuScreens" 134 3 8 := ⟨R3, T3, 13, "MenuScreens", rfl, by decide, in3, gt_1 191 (by decide +kernel) rfl, Or.inl rfl⟩
theorem p_0_134_3 : vFp GT vcl "MenuScreens" 134 3 8 (.int) false := ⟨R3, T3, 13, "MenuScreens", ty3, rfl, by decide, in3, gt_1 191 (by decide +kernel) rfl, Or.inl rfl, tyok3, nm3, by decide +kernel, rfl, fun h => by cases h⟩
theorem f_0_152_3 : vFl GT vcl "MenuScreens" 152 3 11 := ⟨R3, T3, 13, "MenuScreens", rfl, by decide, in3, gt_1 194 (by decide +kernel) rfl, Or.inl rfl⟩
theorem p_0_152_3 : vFp GT vcl "MenuScreens" 152 3 11 (.long) false := ⟨R3, T3, 13, "MenuScreens", ty3, rfl, by decide, in3, gt_1 194 (by decide +kernel) rfl, Or.inl rfl, tyok3, nm3, by decide +kernel, rfl, fun h => by cases h⟩
theorem f_0_155_3 : vFl GT vcl "MenuScreens" 155 3 12 := ⟨R3, T3, 13, "MenuScreens", rfl, by decide, in3, gt_1 195 (by decide +kernel) rfl, Or.inl rfl⟩
theorem p_0_155_3 : vFp GT vcl "MenuScreens" 155 3 12 (.long) false := ⟨R3, T3, 13, "MenuScreens", ty3, rfl, by decide, in3, gt_1 195 (by decide +kernel) rfl, Or.inl rfl, tyok3, nm3, by decide +kernel, rfl, fun h => by cases h⟩
theorem f_0_158_3 : vFl GT vcl "MenuScreens" 158 3 10 := ⟨R3, T3, 13, "MenuScreens", rfl, by decide, in3, gt_1 193 (by decide +kernel) rfl, Or.inl rfl⟩
theorem p_0_158_3 : vFp GT vcl "MenuScreens" 158 3 10 (.int) false := ⟨R3, T3, 13, "MenuScreens", ty3, rfl, by decide, in3, gt_1 193 (by decide +kernel) rfl, Or.inl rfl, tyok3, nm3, by decide +kernel, rfl, fun h => by cases h⟩
theorem f_0_174_8 : vFl GT vcl "MenuScreens" 174 8 2 := ⟨R8, T8, 6, "MenuScreens$Value", rfl, by decide, in8, gt_3 74 (by decide +kernel) rfl, Or.inl rfl⟩
theorem f_0_177_8 : vFl GT vcl "MenuScreens" 177 8 3 := ⟨R8, T8, 6, "MenuScreens$Value", rfl, by decide, in8, gt_3 76 (by decide +kernel) rfl, Or.inl rfl⟩
theorem f_0_180_3 : vFl GT vcl "MenuScreens" 180 3 9 := ⟨R3, T3, 13, "MenuScreens", rfl, by decide, in3, gt_1 192 (by decide +kernel) rfl, Or.inl rfl⟩
theorem p_0_180_3 : vFp GT vcl "MenuScreens" 180 3 9 (.int) false := ⟨R3, T3, 13, "MenuScreens", ty3, rfl, by decide, in3, gt_1 192 (by decide +kernel) rfl, Or.inl rfl, tyok3, nm3, by decide +kernel, rfl, fun h => by cases h⟩
theorem f_1_7_12 : vFl GT vcl "MenuScreens$Condition" 7 12 0 := ⟨R12, T12, 4, "MenuScreens$Condition", rfl, by decide, in12, gt_4 48 (by decide +kernel) rfl, Or.inl rfl⟩
theorem p_1_7_12 : vFp GT vcl "MenuScreens$Condition" 7 12 0 (.object "MenuScreens$Value") true := ⟨R12, T12, 4, "MenuScreens$Condition", ty12, rfl, by decide, in12, gt_4 48 (by decide +kernel) rfl, Or.inl rfl, tyok12, nm12, by decide +kernel, rfl, fun _ => rfl⟩
theorem f_1_13_12 : vFl GT vcl "MenuScreens$Condition" 13 12 1 := ⟨R12, T12, 4, "MenuScreens$Condition", rfl, by decide, in12, gt_4 49 (by decide +kernel) rfl, Or.inl rfl⟩
theorem p_1_13_12 : vFp GT vcl "MenuScreens$Condition" 13 12 1 (.char) true := ⟨R12, T12, 4, "MenuScreens$Condition", ty12, rfl, by decide, in12, gt_4 49 (by decide +kernel) rfl, Or.inl rfl, tyok12, nm12, by decide +kernel, rfl, fun _ => rfl⟩
theorem f_1_17_12 : vFl GT vcl "MenuScreens$Condition" 17 12 2 := ⟨R12, T12, 4, "MenuScreens$Condition", rfl, by decide, in12, gt_4 50 (by decide +kernel) rfl, Or.inl rfl⟩
theorem p_1_17_12 : vFp GT vcl "MenuScreens$Condition" 17 12 2 (.int) true := ⟨R12, T12, 4, "MenuScreens$Condition", ty12, rfl, by decide, in12, gt_4 50 (by decide +kernel) rfl, Or.inl rfl, tyok12, nm12, by decide +kernel, rfl, fun _ => rfl⟩
theorem p_1_21_12 : vFp GT vcl "MenuScreens$Condition" 21 12 3 (.object "MenuScreens$Condition") true := ⟨R12, T12, 4, "MenuScreens$Condition", ty12, rfl, by decide, in12, gt_4 51 (by decide +kernel) rfl, Or.inl rfl, tyok12, nm12, by decide +kernel, rfl, fun _ => rfl⟩
theorem f_1_25_8 : vFl GT vcl "MenuScreens$Condition" 25 8 5 := ⟨R8, T8, 6, "MenuScreens$Value", rfl, by decide, in8, gt_3 81 (by decide +kernel) rfl, Or.inl rfl⟩
theorem f_1_31_8 : vFl GT vcl "MenuScreens$Condition" 31 8 4 := ⟨R8, T8, 6, "MenuScreens$Value", rfl, by decide, in8, gt_3 77 (by decide +kernel) rfl, Or.inl rfl⟩
theorem f_2_11_6 : vFl GT vcl "MenuScreens$Line" 11 6 0 := ⟨R6, T6, 4, "MenuScreens$Line", rfl, by decide, in6, gt_1 131 (by decide +kernel) rfl, Or.inl rfl⟩
theorem p_2_11_6 : vFp GT vcl "MenuScreens$Line" 11 6 0 (.array .int) true := ⟨R6, T6, 4, "MenuScreens$Line", ty6, rfl, by decide, in6, gt_1 131 (by decide +kernel) rfl, Or.inl rfl, tyok6, nm6, by decide +kernel, rfl, fun _ => rfl⟩
theorem f_2_15_6 : vFl GT vcl "MenuScreens$Line" 15 6 1 := ⟨R6, T6, 4, "MenuScreens$Line", rfl, by decide, in6, gt_1 132 (by decide +kernel) rfl, Or.inl rfl⟩
theorem p_2_15_6 : vFp GT vcl "MenuScreens$Line" 15 6 1 (.array .int) true := ⟨R6, T6, 4, "MenuScreens$Line", ty6, rfl, by decide, in6, gt_1 132 (by decide +kernel) rfl, Or.inl rfl, tyok6, nm6, by decide +kernel, rfl, fun _ => rfl⟩
theorem f_2_20_6 : vFl GT vcl "MenuScreens$Line" 20 6 2 := ⟨R6, T6, 4, "MenuScreens$Line", rfl, by decide, in6, gt_1 133 (by decide +kernel) rfl, Or.inl rfl⟩
theorem p_2_20_6 : vFp GT vcl "MenuScreens$Line" 20 6 2 (.object "java/lang/String") false := ⟨R6, T6, 4, "MenuScreens$Line", ty6, rfl, by decide, in6, gt_1 133 (by decide +kernel) rfl, Or.inl rfl, tyok6, nm6, by decide +kernel, rfl, fun h => by cases h⟩
theorem f_2_24_6 : vFl GT vcl "MenuScreens$Line" 24 6 3 := ⟨R6, T6, 4, "MenuScreens$Line", rfl, by decide, in6, gt_1 134 (by decide +kernel) rfl, Or.inl rfl⟩
theorem p_2_24_6 : vFp GT vcl "MenuScreens$Line" 24 6 3 (.int) false := ⟨R6, T6, 4, "MenuScreens$Line", ty6, rfl, by decide, in6, gt_1 134 (by decide +kernel) rfl, Or.inl rfl, tyok6, nm6, by decide +kernel, rfl, fun h => by cases h⟩
theorem p_3_7_10 : vFp GT vcl "MenuScreens$Piece" 7 10 2 (.int) true := ⟨R10, T10, 5, "MenuScreens$Piece", ty10, rfl, by decide, in10, gt_3 225 (by decide +kernel) rfl, Or.inl rfl, tyok10, nm10, by decide +kernel, rfl, fun _ => rfl⟩
theorem p_3_7_11 : vFp GT vcl "MenuScreens$Piece" 7 11 2 (.int) true := ⟨R11, T11, 5, "MenuScreens$Piece", ty11, rfl, by decide, in11, gt_3 225 (by decide +kernel) rfl, Or.inl rfl, tyok11, nm11, by decide +kernel, rfl, fun _ => rfl⟩
theorem p_3_13_10 : vFp GT vcl "MenuScreens$Piece" 13 10 3 (.int) true := ⟨R10, T10, 5, "MenuScreens$Piece", ty10, rfl, by decide, in10, gt_3 228 (by decide +kernel) rfl, Or.inl rfl, tyok10, nm10, by decide +kernel, rfl, fun _ => rfl⟩
theorem p_3_13_11 : vFp GT vcl "MenuScreens$Piece" 13 11 3 (.int) true := ⟨R11, T11, 5, "MenuScreens$Piece", ty11, rfl, by decide, in11, gt_3 228 (by decide +kernel) rfl, Or.inl rfl, tyok11, nm11, by decide +kernel, rfl, fun _ => rfl⟩
theorem f_3_16_10 : vFl GT vcl "MenuScreens$Piece" 16 10 4 := ⟨R10, T10, 5, "MenuScreens$Piece", rfl, by decide, in10, gt_3 231 (by decide +kernel) rfl, Or.inl rfl⟩
theorem p_3_16_10 : vFp GT vcl "MenuScreens$Piece" 16 10 4 (.object "MenuScreens$Condition") true := ⟨R10, T10, 5, "MenuScreens$Piece", ty10, rfl, by decide, in10, gt_3 231 (by decide +kernel) rfl, Or.inl rfl, tyok10, nm10, by decide +kernel, rfl, fun _ => rfl⟩
theorem f_3_16_11 : vFl GT vcl "MenuScreens$Piece" 16 11 4 := ⟨R11, T11, 5, "MenuScreens$Piece", rfl, by decide, in11, gt_3 231 (by decide +kernel) rfl, Or.inl rfl⟩
theorem p_3_16_11 : vFp GT vcl "MenuScreens$Piece" 16 11 4 (.object "MenuScreens$Condition") true := ⟨R11, T11, 5, "MenuScreens$Piece", ty11, rfl, by decide, in11, gt_3 231 (by decide +kernel) rfl, Or.inl rfl, tyok11, nm11, by decide +kernel, rfl, fun _ => rfl⟩
theorem f_3_26_12 : vFl GT vcl "MenuScreens$Piece" 26 12 3 := ⟨R12, T12, 4, "MenuScreens$Condition", rfl, by decide, in12, gt_4 52 (by decide +kernel) rfl, Or.inl rfl⟩
theorem f_4_12_4 : vFl GT vcl "MenuScreens$Plan" 12 4 0 := ⟨R4, T4, 4, "MenuScreens$Plan", rfl, by decide, in4, gt_1 101 (by decide +kernel) rfl, Or.inl rfl⟩
theorem p_4_12_4 : vFp GT vcl "MenuScreens$Plan" 12 4 0 (.object "java/util/ArrayList") true := ⟨R4, T4, 4, "MenuScreens$Plan", ty4, rfl, by decide, in4, gt_1 101 (by decide +kernel) rfl, Or.inl rfl, tyok4, nm4, by decide +kernel, rfl, fun _ => rfl⟩
theorem f_4_18_4 : vFl GT vcl "MenuScreens$Plan" 18 4 1 := ⟨R4, T4, 4, "MenuScreens$Plan", rfl, by decide, in4, gt_1 103 (by decide +kernel) rfl, Or.inl rfl⟩
theorem p_4_18_4 : vFp GT vcl "MenuScreens$Plan" 18 4 1 (.object "java/util/ArrayList") true := ⟨R4, T4, 4, "MenuScreens$Plan", ty4, rfl, by decide, in4, gt_1 103 (by decide +kernel) rfl, Or.inl rfl, tyok4, nm4, by decide +kernel, rfl, fun _ => rfl⟩
theorem f_4_21_4 : vFl GT vcl "MenuScreens$Plan" 21 4 2 := ⟨R4, T4, 4, "MenuScreens$Plan", rfl, by decide, in4, gt_1 106 (by decide +kernel) rfl, Or.inl rfl⟩
theorem p_4_21_4 : vFp GT vcl "MenuScreens$Plan" 21 4 2 (.array .int) true := ⟨R4, T4, 4, "MenuScreens$Plan", ty4, rfl, by decide, in4, gt_1 106 (by decide +kernel) rfl, Or.inl rfl, tyok4, nm4, by decide +kernel, rfl, fun _ => rfl⟩
theorem f_4_28_4 : vFl GT vcl "MenuScreens$Plan" 28 4 3 := ⟨R4, T4, 4, "MenuScreens$Plan", rfl, by decide, in4, gt_1 107 (by decide +kernel) rfl, Or.inl rfl⟩
theorem p_4_28_4 : vFp GT vcl "MenuScreens$Plan" 28 4 3 (.int) false := ⟨R4, T4, 4, "MenuScreens$Plan", ty4, rfl, by decide, in4, gt_1 107 (by decide +kernel) rfl, Or.inl rfl, tyok4, nm4, by decide +kernel, rfl, fun h => by cases h⟩
theorem f_4_45_8 : vFl GT vcl "MenuScreens$Plan" 45 8 0 := ⟨R8, T8, 6, "MenuScreens$Value", rfl, by decide, in8, gt_3 70 (by decide +kernel) rfl, Or.inl rfl⟩
theorem f_4_51_9 : vFl GT vcl "MenuScreens$Plan" 51 9 0 := ⟨R9, T9, 7, "MenuScreens$Screen", rfl, by decide, in9, gt_3 177 (by decide +kernel) rfl, Or.inl rfl⟩
theorem f_4_52_9 : vFl GT vcl "MenuScreens$Plan" 52 9 3 := ⟨R9, T9, 7, "MenuScreens$Screen", rfl, by decide, in9, gt_3 183 (by decide +kernel) rfl, Or.inl rfl⟩
theorem f_4_56_9 : vFl GT vcl "MenuScreens$Plan" 56 9 4 := ⟨R9, T9, 7, "MenuScreens$Screen", rfl, by decide, in9, gt_3 186 (by decide +kernel) rfl, Or.inl rfl⟩
theorem f_4_66_9 : vFl GT vcl "MenuScreens$Plan" 66 9 6 := ⟨R9, T9, 7, "MenuScreens$Screen", rfl, by decide, in9, gt_3 189 (by decide +kernel) rfl, Or.inl rfl⟩
theorem p_4_66_9 : vFp GT vcl "MenuScreens$Plan" 66 9 6 (.boolean) false := ⟨R9, T9, 7, "MenuScreens$Screen", ty9, rfl, by decide, in9, gt_3 189 (by decide +kernel) rfl, Or.inl rfl, tyok9, nm9, by decide +kernel, rfl, fun h => by cases h⟩
theorem f_4_86_9 : vFl GT vcl "MenuScreens$Plan" 86 9 1 := ⟨R9, T9, 7, "MenuScreens$Screen", rfl, by decide, in9, gt_3 179 (by decide +kernel) rfl, Or.inl rfl⟩
theorem f_5_12_5 : vFl GT vcl "MenuScreens$Reader" 12 5 1 := ⟨R5, T5, 4, "MenuScreens$Reader", rfl, by decide, in5, gt_1 145 (by decide +kernel) rfl, Or.inl rfl⟩
theorem p_5_12_5 : vFp GT vcl "MenuScreens$Reader" 12 5 1 (.object "MenuScreens$Line") true := ⟨R5, T5, 4, "MenuScreens$Reader", ty5, rfl, by decide, in5, gt_1 145 (by decide +kernel) rfl, Or.inl rfl, tyok5, nm5, by decide +kernel, rfl, fun _ => rfl⟩
theorem f_5_18_5 : vFl GT vcl "MenuScreens$Reader" 18 5 0 := ⟨R5, T5, 4, "MenuScreens$Reader", rfl, by decide, in5, gt_1 144 (by decide +kernel) rfl, Or.inl rfl⟩
theorem p_5_18_5 : vFp GT vcl "MenuScreens$Reader" 18 5 0 (.object "MenuScreens$Plan") true := ⟨R5, T5, 4, "MenuScreens$Reader", ty5, rfl, by decide, in5, gt_1 144 (by decide +kernel) rfl, Or.inl rfl, tyok5, nm5, by decide +kernel, rfl, fun _ => rfl⟩
theorem f_5_22_5 : vFl GT vcl "MenuScreens$Reader" 22 5 2 := ⟨R5, T5, 4, "MenuScreens$Reader", rfl, by decide, in5, gt_1 146 (by decide +kernel) rfl, Or.inl rfl⟩
theorem p_5_22_5 : vFp GT vcl "MenuScreens$Reader" 22 5 2 (.object "MenuScreens$Screen") false := ⟨R5, T5, 4, "MenuScreens$Reader", ty5, rfl, by decide, in5, gt_1 146 (by decide +kernel) rfl, Or.inl rfl, tyok5, nm5, by decide +kernel, rfl, fun h => by cases h⟩
theorem f_5_26_5 : vFl GT vcl "MenuScreens$Reader" 26 5 3 := ⟨R5, T5, 4, "MenuScreens$Reader", rfl, by decide, in5, gt_1 147 (by decide +kernel) rfl, Or.inl rfl⟩
theorem p_5_26_5 : vFp GT vcl "MenuScreens$Reader" 26 5 3 (.object "MenuScreens$Condition") false := ⟨R5, T5, 4, "MenuScreens$Reader", ty5, rfl, by decide, in5, gt_1 147 (by decide +kernel) rfl, Or.inl rfl, tyok5, nm5, by decide +kernel, rfl, fun h => by cases h⟩
theorem f_5_117_4 : vFl GT vcl "MenuScreens$Reader" 117 4 0 := ⟨R4, T4, 4, "MenuScreens$Plan", rfl, by decide, in4, gt_1 102 (by decide +kernel) rfl, Or.inl rfl⟩
theorem f_5_148_4 : vFl GT vcl "MenuScreens$Reader" 148 4 1 := ⟨R4, T4, 4, "MenuScreens$Plan", rfl, by decide, in4, gt_1 105 (by decide +kernel) rfl, Or.inl rfl⟩
theorem f_5_176_10 : vFl GT vcl "MenuScreens$Reader" 176 10 2 := ⟨R10, T10, 5, "MenuScreens$Piece", rfl, by decide, in10, gt_3 227 (by decide +kernel) rfl, Or.inl rfl⟩
theorem f_5_176_11 : vFl GT vcl "MenuScreens$Reader" 176 11 2 := ⟨R11, T11, 5, "MenuScreens$Piece", rfl, by decide, in11, gt_3 227 (by decide +kernel) rfl, Or.inl rfl⟩
theorem f_5_182_10 : vFl GT vcl "MenuScreens$Reader" 182 10 3 := ⟨R10, T10, 5, "MenuScreens$Piece", rfl, by decide, in10, gt_3 230 (by decide +kernel) rfl, Or.inl rfl⟩
theorem f_5_182_11 : vFl GT vcl "MenuScreens$Reader" 182 11 3 := ⟨R11, T11, 5, "MenuScreens$Piece", rfl, by decide, in11, gt_3 230 (by decide +kernel) rfl, Or.inl rfl⟩
theorem f_5_185_9 : vFl GT vcl "MenuScreens$Reader" 185 9 2 := ⟨R9, T9, 7, "MenuScreens$Screen", rfl, by decide, in9, gt_3 181 (by decide +kernel) rfl, Or.inl rfl⟩
theorem f_5_199_9 : vFl GT vcl "MenuScreens$Reader" 199 9 3 := ⟨R9, T9, 7, "MenuScreens$Screen", rfl, by decide, in9, gt_3 184 (by decide +kernel) rfl, Or.inl rfl⟩
theorem p_5_203_9 : vFp GT vcl "MenuScreens$Reader" 203 9 5 (.int) false := ⟨R9, T9, 7, "MenuScreens$Screen", ty9, rfl, by decide, in9, gt_3 188 (by decide +kernel) rfl, Or.inl rfl, tyok9, nm9, by decide +kernel, rfl, fun h => by cases h⟩
theorem f_6_12_9 : vFl GT vcl "MenuScreens$Screen" 12 9 2 := ⟨R9, T9, 7, "MenuScreens$Screen", rfl, by decide, in9, gt_3 180 (by decide +kernel) rfl, Or.inl rfl⟩
theorem p_6_12_9 : vFp GT vcl "MenuScreens$Screen" 12 9 2 (.object "java/util/ArrayList") true := ⟨R9, T9, 7, "MenuScreens$Screen", ty9, rfl, by decide, in9, gt_3 180 (by decide +kernel) rfl, Or.inl rfl, tyok9, nm9, by decide +kernel, rfl, fun _ => rfl⟩
theorem f_6_18_9 : vFl GT vcl "MenuScreens$Screen" 18 9 3 := ⟨R9, T9, 7, "MenuScreens$Screen", rfl, by decide, in9, gt_3 182 (by decide +kernel) rfl, Or.inl rfl⟩
theorem p_6_18_9 : vFp GT vcl "MenuScreens$Screen" 18 9 3 (.array .long) true := ⟨R9, T9, 7, "MenuScreens$Screen", ty9, rfl, by decide, in9, gt_3 182 (by decide +kernel) rfl, Or.inl rfl, tyok9, nm9, by decide +kernel, rfl, fun _ => rfl⟩
theorem f_6_22_9 : vFl GT vcl "MenuScreens$Screen" 22 9 4 := ⟨R9, T9, 7, "MenuScreens$Screen", rfl, by decide, in9, gt_3 185 (by decide +kernel) rfl, Or.inl rfl⟩
theorem p_6_22_9 : vFp GT vcl "MenuScreens$Screen" 22 9 4 (.array .int) true := ⟨R9, T9, 7, "MenuScreens$Screen", ty9, rfl, by decide, in9, gt_3 185 (by decide +kernel) rfl, Or.inl rfl, tyok9, nm9, by decide +kernel, rfl, fun _ => rfl⟩
theorem f_6_26_9 : vFl GT vcl "MenuScreens$Screen" 26 9 5 := ⟨R9, T9, 7, "MenuScreens$Screen", rfl, by decide, in9, gt_3 187 (by decide +kernel) rfl, Or.inl rfl⟩
theorem p_6_26_9 : vFp GT vcl "MenuScreens$Screen" 26 9 5 (.int) false := ⟨R9, T9, 7, "MenuScreens$Screen", ty9, rfl, by decide, in9, gt_3 187 (by decide +kernel) rfl, Or.inl rfl, tyok9, nm9, by decide +kernel, rfl, fun h => by cases h⟩
theorem p_6_30_9 : vFp GT vcl "MenuScreens$Screen" 30 9 0 (.long) true := ⟨R9, T9, 7, "MenuScreens$Screen", ty9, rfl, by decide, in9, gt_3 176 (by decide +kernel) rfl, Or.inl rfl, tyok9, nm9, by decide +kernel, rfl, fun _ => rfl⟩
theorem p_6_34_9 : vFp GT vcl "MenuScreens$Screen" 34 9 1 (.int) true := ⟨R9, T9, 7, "MenuScreens$Screen", ty9, rfl, by decide, in9, gt_3 178 (by decide +kernel) rfl, Or.inl rfl, tyok9, nm9, by decide +kernel, rfl, fun _ => rfl⟩
theorem f_6_47_10 : vFl GT vcl "MenuScreens$Screen" 47 10 2 := ⟨R10, T10, 5, "MenuScreens$Piece", rfl, by decide, in10, gt_3 226 (by decide +kernel) rfl, Or.inl rfl⟩
theorem f_6_47_11 : vFl GT vcl "MenuScreens$Screen" 47 11 2 := ⟨R11, T11, 5, "MenuScreens$Piece", rfl, by decide, in11, gt_3 226 (by decide +kernel) rfl, Or.inl rfl⟩
theorem f_6_50_10 : vFl GT vcl "MenuScreens$Screen" 50 10 3 := ⟨R10, T10, 5, "MenuScreens$Piece", rfl, by decide, in10, gt_3 229 (by decide +kernel) rfl, Or.inl rfl⟩
theorem f_6_50_11 : vFl GT vcl "MenuScreens$Screen" 50 11 3 := ⟨R11, T11, 5, "MenuScreens$Piece", rfl, by decide, in11, gt_3 229 (by decide +kernel) rfl, Or.inl rfl⟩
theorem p_7_9_8 : vFp GT vcl "MenuScreens$Value" 9 8 0 (.long) true := ⟨R8, T8, 6, "MenuScreens$Value", ty8, rfl, by decide, in8, gt_3 69 (by decide +kernel) rfl, Or.inl rfl, tyok8, nm8, by decide +kernel, rfl, fun _ => rfl⟩
theorem p_7_15_8 : vFp GT vcl "MenuScreens$Value" 15 8 1 (.boolean) true := ⟨R8, T8, 6, "MenuScreens$Value", ty8, rfl, by decide, in8, gt_3 71 (by decide +kernel) rfl, Or.inl rfl, tyok8, nm8, by decide +kernel, rfl, fun _ => rfl⟩
theorem p_7_21_8 : vFp GT vcl "MenuScreens$Value" 21 8 2 (.long) true := ⟨R8, T8, 6, "MenuScreens$Value", ty8, rfl, by decide, in8, gt_3 73 (by decide +kernel) rfl, Or.inl rfl, tyok8, nm8, by decide +kernel, rfl, fun _ => rfl⟩
theorem p_7_26_8 : vFp GT vcl "MenuScreens$Value" 26 8 3 (.long) true := ⟨R8, T8, 6, "MenuScreens$Value", ty8, rfl, by decide, in8, gt_3 75 (by decide +kernel) rfl, Or.inl rfl, tyok8, nm8, by decide +kernel, rfl, fun _ => rfl⟩
theorem p_7_29_8 : vFp GT vcl "MenuScreens$Value" 29 8 4 (.long) false := ⟨R8, T8, 6, "MenuScreens$Value", ty8, rfl, by decide, in8, gt_3 78 (by decide +kernel) rfl, Or.inl rfl, tyok8, nm8, by decide +kernel, rfl, fun h => by cases h⟩
theorem p_7_32_8 : vFp GT vcl "MenuScreens$Value" 32 8 5 (.boolean) false := ⟨R8, T8, 6, "MenuScreens$Value", ty8, rfl, by decide, in8, gt_3 83 (by decide +kernel) rfl, Or.inl rfl, tyok8, nm8, by decide +kernel, rfl, fun h => by cases h⟩
theorem f_8_9_11 : vFl GT vcl "MenuScreens$ValuePiece" 9 11 0 := ⟨R11, T11, 5, "MenuScreens$ValuePiece", rfl, by decide, in11, gt_4 24 (by decide +kernel) rfl, Or.inl rfl⟩
theorem p_8_9_11 : vFp GT vcl "MenuScreens$ValuePiece" 9 11 0 (.object "MenuScreens$Value") true := ⟨R11, T11, 5, "MenuScreens$ValuePiece", ty11, rfl, by decide, in11, gt_4 24 (by decide +kernel) rfl, Or.inl rfl, tyok11, nm11, by decide +kernel, rfl, fun _ => rfl⟩
theorem f_8_15_11 : vFl GT vcl "MenuScreens$ValuePiece" 15 11 1 := ⟨R11, T11, 5, "MenuScreens$ValuePiece", rfl, by decide, in11, gt_4 25 (by decide +kernel) rfl, Or.inl rfl⟩
theorem p_8_15_11 : vFp GT vcl "MenuScreens$ValuePiece" 15 11 1 (.int) true := ⟨R11, T11, 5, "MenuScreens$ValuePiece", ty11, rfl, by decide, in11, gt_4 25 (by decide +kernel) rfl, Or.inl rfl, tyok11, nm11, by decide +kernel, rfl, fun _ => rfl⟩
theorem f_8_19_8 : vFl GT vcl "MenuScreens$ValuePiece" 19 8 5 := ⟨R8, T8, 6, "MenuScreens$Value", rfl, by decide, in8, gt_3 82 (by decide +kernel) rfl, Or.inl rfl⟩
theorem f_8_29_8 : vFl GT vcl "MenuScreens$ValuePiece" 29 8 4 := ⟨R8, T8, 6, "MenuScreens$Value", rfl, by decide, in8, gt_3 79 (by decide +kernel) rfl, Or.inl rfl⟩
theorem f_9_9_7 : vFl GT vcl "MenuScreens$Warnings" 9 7 0 := ⟨R7, T7, 6, "MenuScreens$Warnings", rfl, by decide, in7, gt_1 163 (by decide +kernel) rfl, Or.inl rfl⟩
theorem p_9_9_7 : vFp GT vcl "MenuScreens$Warnings" 9 7 0 (.array .int) true := ⟨R7, T7, 6, "MenuScreens$Warnings", ty7, rfl, by decide, in7, gt_1 163 (by decide +kernel) rfl, Or.inl rfl, tyok7, nm7, by decide +kernel, rfl, fun _ => rfl⟩
theorem f_9_15_7 : vFl GT vcl "MenuScreens$Warnings" 15 7 1 := ⟨R7, T7, 6, "MenuScreens$Warnings", rfl, by decide, in7, gt_1 164 (by decide +kernel) rfl, Or.inl rfl⟩
theorem p_9_15_7 : vFp GT vcl "MenuScreens$Warnings" 15 7 1 (.array .long) true := ⟨R7, T7, 6, "MenuScreens$Warnings", ty7, rfl, by decide, in7, gt_1 164 (by decide +kernel) rfl, Or.inl rfl, tyok7, nm7, by decide +kernel, rfl, fun _ => rfl⟩
theorem f_9_19_7 : vFl GT vcl "MenuScreens$Warnings" 19 7 2 := ⟨R7, T7, 6, "MenuScreens$Warnings", rfl, by decide, in7, gt_1 165 (by decide +kernel) rfl, Or.inl rfl⟩
theorem p_9_19_7 : vFp GT vcl "MenuScreens$Warnings" 19 7 2 (.array .int) true := ⟨R7, T7, 6, "MenuScreens$Warnings", ty7, rfl, by decide, in7, gt_1 165 (by decide +kernel) rfl, Or.inl rfl, tyok7, nm7, by decide +kernel, rfl, fun _ => rfl⟩
theorem f_9_22_7 : vFl GT vcl "MenuScreens$Warnings" 22 7 5 := ⟨R7, T7, 6, "MenuScreens$Warnings", rfl, by decide, in7, gt_1 168 (by decide +kernel) rfl, Or.inl rfl⟩
theorem p_9_22_7 : vFp GT vcl "MenuScreens$Warnings" 22 7 5 (.long) false := ⟨R7, T7, 6, "MenuScreens$Warnings", ty7, rfl, by decide, in7, gt_1 168 (by decide +kernel) rfl, Or.inl rfl, tyok7, nm7, by decide +kernel, rfl, fun h => by cases h⟩
theorem f_9_26_7 : vFl GT vcl "MenuScreens$Warnings" 26 7 3 := ⟨R7, T7, 6, "MenuScreens$Warnings", rfl, by decide, in7, gt_1 166 (by decide +kernel) rfl, Or.inl rfl⟩
theorem p_9_26_7 : vFp GT vcl "MenuScreens$Warnings" 26 7 3 (.int) false := ⟨R7, T7, 6, "MenuScreens$Warnings", ty7, rfl, by decide, in7, gt_1 166 (by decide +kernel) rfl, Or.inl rfl, tyok7, nm7, by decide +kernel, rfl, fun h => by cases h⟩
theorem f_9_34_7 : vFl GT vcl "MenuScreens$Warnings" 34 7 4 := ⟨R7, T7, 6, "MenuScreens$Warnings", rfl, by decide, in7, gt_1 167 (by decide +kernel) rfl, Or.inl rfl⟩
theorem p_9_34_7 : vFp GT vcl "MenuScreens$Warnings" 34 7 4 (.int) false := ⟨R7, T7, 6, "MenuScreens$Warnings", ty7, rfl, by decide, in7, gt_1 167 (by decide +kernel) rfl, Or.inl rfl, tyok7, nm7, by decide +kernel, rfl, fun h => by cases h⟩
theorem f_10_9_10 : vFl GT vcl "MenuScreens$WordPiece" 9 10 0 := ⟨R10, T10, 5, "MenuScreens$WordPiece", rfl, by decide, in10, gt_3 223 (by decide +kernel) rfl, Or.inl rfl⟩
theorem p_10_9_10 : vFp GT vcl "MenuScreens$WordPiece" 9 10 0 (.object "java/lang/String") true := ⟨R10, T10, 5, "MenuScreens$WordPiece", ty10, rfl, by decide, in10, gt_3 223 (by decide +kernel) rfl, Or.inl rfl, tyok10, nm10, by decide +kernel, rfl, fun _ => rfl⟩
theorem f_10_15_10 : vFl GT vcl "MenuScreens$WordPiece" 15 10 1 := ⟨R10, T10, 5, "MenuScreens$WordPiece", rfl, by decide, in10, gt_3 224 (by decide +kernel) rfl, Or.inl rfl⟩
theorem p_10_15_10 : vFp GT vcl "MenuScreens$WordPiece" 15 10 1 (.object "java/lang/String") true := ⟨R10, T10, 5, "MenuScreens$WordPiece", ty10, rfl, by decide, in10, gt_3 224 (by decide +kernel) rfl, Or.inl rfl, tyok10, nm10, by decide +kernel, rfl, fun _ => rfl⟩
theorem f_12_7_13 : vFl GT vcl "MenuScreensModel" 7 13 4 := ⟨R13, T13, 59, "MenuScreensModel", rfl, by decide, in13, gt_5 32 (by decide +kernel) rfl, Or.inl rfl⟩
theorem p_12_7_13 : vFp GT vcl "MenuScreensModel" 7 13 4 (.array .int) true := ⟨R13, T13, 59, "MenuScreensModel", ty13, rfl, by decide, in13, gt_5 32 (by decide +kernel) rfl, Or.inl rfl, tyok13, nm13, by decide +kernel, rfl, fun _ => rfl⟩
theorem f_12_13_13 : vFl GT vcl "MenuScreensModel" 13 13 6 := ⟨R13, T13, 59, "MenuScreensModel", rfl, by decide, in13, gt_5 34 (by decide +kernel) rfl, Or.inl rfl⟩
theorem p_12_13_13 : vFp GT vcl "MenuScreensModel" 13 13 6 (.array .int) true := ⟨R13, T13, 59, "MenuScreensModel", ty13, rfl, by decide, in13, gt_5 34 (by decide +kernel) rfl, Or.inl rfl, tyok13, nm13, by decide +kernel, rfl, fun _ => rfl⟩
theorem f_12_16_13 : vFl GT vcl "MenuScreensModel" 16 13 13 := ⟨R13, T13, 59, "MenuScreensModel", rfl, by decide, in13, gt_5 41 (by decide +kernel) rfl, Or.inl rfl⟩
theorem p_12_16_13 : vFp GT vcl "MenuScreensModel" 16 13 13 (.array .int) true := ⟨R13, T13, 59, "MenuScreensModel", ty13, rfl, by decide, in13, gt_5 41 (by decide +kernel) rfl, Or.inl rfl, tyok13, nm13, by decide +kernel, rfl, fun _ => rfl⟩
theorem f_12_19_13 : vFl GT vcl "MenuScreensModel" 19 13 14 := ⟨R13, T13, 59, "MenuScreensModel", rfl, by decide, in13, gt_5 42 (by decide +kernel) rfl, Or.inl rfl⟩
theorem p_12_19_13 : vFp GT vcl "MenuScreensModel" 19 13 14 (.array .int) true := ⟨R13, T13, 59, "MenuScreensModel", ty13, rfl, by decide, in13, gt_5 42 (by decide +kernel) rfl, Or.inl rfl, tyok13, nm13, by decide +kernel, rfl, fun _ => rfl⟩
theorem f_12_22_13 : vFl GT vcl "MenuScreensModel" 22 13 15 := ⟨R13, T13, 59, "MenuScreensModel", rfl, by decide, in13, gt_5 43 (by decide +kernel) rfl, Or.inl rfl⟩
theorem p_12_22_13 : vFp GT vcl "MenuScreensModel" 22 13 15 (.array .boolean) true := ⟨R13, T13, 59, "MenuScreensModel", ty13, rfl, by decide, in13, gt_5 43 (by decide +kernel) rfl, Or.inl rfl, tyok13, nm13, by decide +kernel, rfl, fun _ => rfl⟩
theorem f_12_26_13 : vFl GT vcl "MenuScreensModel" 26 13 16 := ⟨R13, T13, 59, "MenuScreensModel", rfl, by decide, in13, gt_5 44 (by decide +kernel) rfl, Or.inl rfl⟩
theorem p_12_26_13 : vFp GT vcl "MenuScreensModel" 26 13 16 (.array .long) true := ⟨R13, T13, 59, "MenuScreensModel", ty13, rfl, by decide, in13, gt_5 44 (by decide +kernel) rfl, Or.inl rfl, tyok13, nm13, by decide +kernel, rfl, fun _ => rfl⟩
theorem f_12_30_13 : vFl GT vcl "MenuScreensModel" 30 13 17 := ⟨R13, T13, 59, "MenuScreensModel", rfl, by decide, in13, gt_5 45 (by decide +kernel) rfl, Or.inl rfl⟩
theorem p_12_30_13 : vFp GT vcl "MenuScreensModel" 30 13 17 (.array .long) true := ⟨R13, T13, 59, "MenuScreensModel", ty13, rfl, by decide, in13, gt_5 45 (by decide +kernel) rfl, Or.inl rfl, tyok13, nm13, by decide +kernel, rfl, fun _ => rfl⟩
theorem f_12_33_13 : vFl GT vcl "MenuScreensModel" 33 13 18 := ⟨R13, T13, 59, "MenuScreensModel", rfl, by decide, in13, gt_5 46 (by decide +kernel) rfl, Or.inl rfl⟩
theorem p_12_33_13 : vFp GT vcl "MenuScreensModel" 33 13 18 (.array .long) true := ⟨R13, T13, 59, "MenuScreensModel", ty13, rfl, by decide, in13, gt_5 46 (by decide +kernel) rfl, Or.inl rfl, tyok13, nm13, by decide +kernel, rfl, fun _ => rfl⟩
theorem f_12_36_13 : vFl GT vcl "MenuScreensModel" 36 13 19 := ⟨R13, T13, 59, "MenuScreensModel", rfl, by decide, in13, gt_5 47 (by decide +kernel) rfl, Or.inl rfl⟩
theorem p_12_36_13 : vFp GT vcl "MenuScreensModel" 36 13 19 (.array .boolean) true := ⟨R13, T13, 59, "MenuScreensModel", ty13, rfl, by decide, in13, gt_5 47 (by decide +kernel) rfl, Or.inl rfl, tyok13, nm13, by decide +kernel, rfl, fun _ => rfl⟩
theorem f_12_39_13 : vFl GT vcl "MenuScreensModel" 39 13 21 := ⟨R13, T13, 59, "MenuScreensModel", rfl, by decide, in13, gt_5 49 (by decide +kernel) rfl, Or.inl rfl⟩
theorem p_12_39_13 : vFp GT vcl "MenuScreensModel" 39 13 21 (.array .int) true := ⟨R13, T13, 59, "MenuScreensModel", ty13, rfl, by decide, in13, gt_5 49 (by decide +kernel) rfl, Or.inl rfl, tyok13, nm13, by decide +kernel, rfl, fun _ => rfl⟩
theorem f_12_42_13 : vFl GT vcl "MenuScreensModel" 42 13 22 := ⟨R13, T13, 59, "MenuScreensModel", rfl, by decide, in13, gt_5 50 (by decide +kernel) rfl, Or.inl rfl⟩
theorem p_12_42_13 : vFp GT vcl "MenuScreensModel" 42 13 22 (.array .int) true := ⟨R13, T13, 59, "MenuScreensModel", ty13, rfl, by decide, in13, gt_5 50 (by decide +kernel) rfl, Or.inl rfl, tyok13, nm13, by decide +kernel, rfl, fun _ => rfl⟩
theorem f_12_45_13 : vFl GT vcl "MenuScreensModel" 45 13 23 := ⟨R13, T13, 59, "MenuScreensModel", rfl, by decide, in13, gt_5 51 (by decide +kernel) rfl, Or.inl rfl⟩
theorem p_12_45_13 : vFp GT vcl "MenuScreensModel" 45 13 23 (.array .int) true := ⟨R13, T13, 59, "MenuScreensModel", ty13, rfl, by decide, in13, gt_5 51 (by decide +kernel) rfl, Or.inl rfl, tyok13, nm13, by decide +kernel, rfl, fun _ => rfl⟩
theorem f_12_48_13 : vFl GT vcl "MenuScreensModel" 48 13 24 := ⟨R13, T13, 59, "MenuScreensModel", rfl, by decide, in13, gt_5 52 (by decide +kernel) rfl, Or.inl rfl⟩
theorem p_12_48_13 : vFp GT vcl "MenuScreensModel" 48 13 24 (.array .long) true := ⟨R13, T13, 59, "MenuScreensModel", ty13, rfl, by decide, in13, gt_5 52 (by decide +kernel) rfl, Or.inl rfl, tyok13, nm13, by decide +kernel, rfl, fun _ => rfl⟩
theorem f_12_51_13 : vFl GT vcl "MenuScreensModel" 51 13 25 := ⟨R13, T13, 59, "MenuScreensModel", rfl, by decide, in13, gt_5 53 (by decide +kernel) rfl, Or.inl rfl⟩
theorem p_12_51_13 : vFp GT vcl "MenuScreensModel" 51 13 25 (.array .boolean) true := ⟨R13, T13, 59, "MenuScreensModel", ty13, rfl, by decide, in13, gt_5 53 (by decide +kernel) rfl, Or.inl rfl, tyok13, nm13, by decide +kernel, rfl, fun _ => rfl⟩
theorem f_12_54_13 : vFl GT vcl "MenuScreensModel" 54 13 26 := ⟨R13, T13, 59, "MenuScreensModel", rfl, by decide, in13, gt_5 54 (by decide +kernel) rfl, Or.inl rfl⟩
theorem p_12_54_13 : vFp GT vcl "MenuScreensModel" 54 13 26 (.array .int) true := ⟨R13, T13, 59, "MenuScreensModel", ty13, rfl, by decide, in13, gt_5 54 (by decide +kernel) rfl, Or.inl rfl, tyok13, nm13, by decide +kernel, rfl, fun _ => rfl⟩
theorem f_12_57_13 : vFl GT vcl "MenuScreensModel" 57 13 27 := ⟨R13, T13, 59, "MenuScreensModel", rfl, by decide, in13, gt_5 55 (by decide +kernel) rfl, Or.inl rfl⟩
theorem p_12_57_13 : vFp GT vcl "MenuScreensModel" 57 13 27 (.array .int) true := ⟨R13, T13, 59, "MenuScreensModel", ty13, rfl, by decide, in13, gt_5 55 (by decide +kernel) rfl, Or.inl rfl, tyok13, nm13, by decide +kernel, rfl, fun _ => rfl⟩
theorem f_12_60_13 : vFl GT vcl "MenuScreensModel" 60 13 29 := ⟨R13, T13, 59, "MenuScreensModel", rfl, by decide, in13, gt_5 57 (by decide +kernel) rfl, Or.inl rfl⟩
theorem p_12_60_13 : vFp GT vcl "MenuScreensModel" 60 13 29 (.array .int) true := ⟨R13, T13, 59, "MenuScreensModel", ty13, rfl, by decide, in13, gt_5 57 (by decide +kernel) rfl, Or.inl rfl, tyok13, nm13, by decide +kernel, rfl, fun _ => rfl⟩
theorem f_12_63_13 : vFl GT vcl "MenuScreensModel" 63 13 30 := ⟨R13, T13, 59, "MenuScreensModel", rfl, by decide, in13, gt_5 58 (by decide +kernel) rfl, Or.inl rfl⟩
theorem p_12_63_13 : vFp GT vcl "MenuScreensModel" 63 13 30 (.array .int) true := ⟨R13, T13, 59, "MenuScreensModel", ty13, rfl, by decide, in13, gt_5 58 (by decide +kernel) rfl, Or.inl rfl, tyok13, nm13, by decide +kernel, rfl, fun _ => rfl⟩
theorem f_12_66_13 : vFl GT vcl "MenuScreensModel" 66 13 31 := ⟨R13, T13, 59, "MenuScreensModel", rfl, by decide, in13, gt_5 59 (by decide +kernel) rfl, Or.inl rfl⟩
theorem p_12_66_13 : vFp GT vcl "MenuScreensModel" 66 13 31 (.array .int) true := ⟨R13, T13, 59, "MenuScreensModel", ty13, rfl, by decide, in13, gt_5 59 (by decide +kernel) rfl, Or.inl rfl, tyok13, nm13, by decide +kernel, rfl, fun _ => rfl⟩
theorem f_12_69_13 : vFl GT vcl "MenuScreensModel" 69 13 32 := ⟨R13, T13, 59, "MenuScreensModel", rfl, by decide, in13, gt_5 60 (by decide +kernel) rfl, Or.inl rfl⟩
theorem p_12_69_13 : vFp GT vcl "MenuScreensModel" 69 13 32 (.array .int) true := ⟨R13, T13, 59, "MenuScreensModel", ty13, rfl, by decide, in13, gt_5 60 (by decide +kernel) rfl, Or.inl rfl, tyok13, nm13, by decide +kernel, rfl, fun _ => rfl⟩
theorem f_12_72_13 : vFl GT vcl "MenuScreensModel" 72 13 33 := ⟨R13, T13, 59, "MenuScreensModel", rfl, by decide, in13, gt_5 61 (by decide +kernel) rfl, Or.inl rfl⟩
theorem p_12_72_13 : vFp GT vcl "MenuScreensModel" 72 13 33 (.array .int) true := ⟨R13, T13, 59, "MenuScreensModel", ty13, rfl, by decide, in13, gt_5 61 (by decide +kernel) rfl, Or.inl rfl, tyok13, nm13, by decide +kernel, rfl, fun _ => rfl⟩
theorem f_12_75_13 : vFl GT vcl "MenuScreensModel" 75 13 34 := ⟨R13, T13, 59, "MenuScreensModel", rfl, by decide, in13, gt_5 62 (by decide +kernel) rfl, Or.inl rfl⟩
theorem p_12_75_13 : vFp GT vcl "MenuScreensModel" 75 13 34 (.array .int) true := ⟨R13, T13, 59, "MenuScreensModel", ty13, rfl, by decide, in13, gt_5 62 (by decide +kernel) rfl, Or.inl rfl, tyok13, nm13, by decide +kernel, rfl, fun _ => rfl⟩
theorem f_12_78_13 : vFl GT vcl "MenuScreensModel" 78 13 35 := ⟨R13, T13, 59, "MenuScreensModel", rfl, by decide, in13, gt_5 63 (by decide +kernel) rfl, Or.inl rfl⟩
theorem p_12_78_13 : vFp GT vcl "MenuScreensModel" 78 13 35 (.array .int) true := ⟨R13, T13, 59, "MenuScreensModel", ty13, rfl, by decide, in13, gt_5 63 (by decide +kernel) rfl, Or.inl rfl, tyok13, nm13, by decide +kernel, rfl, fun _ => rfl⟩
theorem f_12_81_13 : vFl GT vcl "MenuScreensModel" 81 13 36 := ⟨R13, T13, 59, "MenuScreensModel", rfl, by decide, in13, gt_5 64 (by decide +kernel) rfl, Or.inl rfl⟩
theorem p_12_81_13 : vFp GT vcl "MenuScreensModel" 81 13 36 (.array .int) true := ⟨R13, T13, 59, "MenuScreensModel", ty13, rfl, by decide, in13, gt_5 64 (by decide +kernel) rfl, Or.inl rfl, tyok13, nm13, by decide +kernel, rfl, fun _ => rfl⟩
theorem f_12_84_13 : vFl GT vcl "MenuScreensModel" 84 13 37 := ⟨R13, T13, 59, "MenuScreensModel", rfl, by decide, in13, gt_5 65 (by decide +kernel) rfl, Or.inl rfl⟩
theorem p_12_84_13 : vFp GT vcl "MenuScreensModel" 84 13 37 (.array .int) true := ⟨R13, T13, 59, "MenuScreensModel", ty13, rfl, by decide, in13, gt_5 65 (by decide +kernel) rfl, Or.inl rfl, tyok13, nm13, by decide +kernel, rfl, fun _ => rfl⟩
theorem f_12_87_13 : vFl GT vcl "MenuScreensModel" 87 13 38 := ⟨R13, T13, 59, "MenuScreensModel", rfl, by decide, in13, gt_5 66 (by decide +kernel) rfl, Or.inl rfl⟩
theorem p_12_87_13 : vFp GT vcl "MenuScreensModel" 87 13 38 (.array .int) true := ⟨R13, T13, 59, "MenuScreensModel", ty13, rfl, by decide, in13, gt_5 66 (by decide +kernel) rfl, Or.inl rfl, tyok13, nm13, by decide +kernel, rfl, fun _ => rfl⟩
theorem f_12_90_13 : vFl GT vcl "MenuScreensModel" 90 13 40 := ⟨R13, T13, 59, "MenuScreensModel", rfl, by decide, in13, gt_5 68 (by decide +kernel) rfl, Or.inl rfl⟩
theorem p_12_90_13 : vFp GT vcl "MenuScreensModel" 90 13 40 (.array .int) true := ⟨R13, T13, 59, "MenuScreensModel", ty13, rfl, by decide, in13, gt_5 68 (by decide +kernel) rfl, Or.inl rfl, tyok13, nm13, by decide +kernel, rfl, fun _ => rfl⟩
theorem f_12_93_13 : vFl GT vcl "MenuScreensModel" 93 13 41 := ⟨R13, T13, 59, "MenuScreensModel", rfl, by decide, in13, gt_5 69 (by decide +kernel) rfl, Or.inl rfl⟩
theorem p_12_93_13 : vFp GT vcl "MenuScreensModel" 93 13 41 (.array .int) true := ⟨R13, T13, 59, "MenuScreensModel", ty13, rfl, by decide, in13, gt_5 69 (by decide +kernel) rfl, Or.inl rfl, tyok13, nm13, by decide +kernel, rfl, fun _ => rfl⟩
theorem f_12_96_13 : vFl GT vcl "MenuScreensModel" 96 13 42 := ⟨R13, T13, 59, "MenuScreensModel", rfl, by decide, in13, gt_5 70 (by decide +kernel) rfl, Or.inl rfl⟩
theorem p_12_96_13 : vFp GT vcl "MenuScreensModel" 96 13 42 (.array .int) true := ⟨R13, T13, 59, "MenuScreensModel", ty13, rfl, by decide, in13, gt_5 70 (by decide +kernel) rfl, Or.inl rfl, tyok13, nm13, by decide +kernel, rfl, fun _ => rfl⟩
theorem f_12_99_13 : vFl GT vcl "MenuScreensModel" 99 13 43 := ⟨R13, T13, 59, "MenuScreensModel", rfl, by decide, in13, gt_5 71 (by decide +kernel) rfl, Or.inl rfl⟩
theorem p_12_99_13 : vFp GT vcl "MenuScreensModel" 99 13 43 (.array .int) true := ⟨R13, T13, 59, "MenuScreensModel", ty13, rfl, by decide, in13, gt_5 71 (by decide +kernel) rfl, Or.inl rfl, tyok13, nm13, by decide +kernel, rfl, fun _ => rfl⟩
theorem f_12_102_13 : vFl GT vcl "MenuScreensModel" 102 13 44 := ⟨R13, T13, 59, "MenuScreensModel", rfl, by decide, in13, gt_5 72 (by decide +kernel) rfl, Or.inl rfl⟩
theorem p_12_102_13 : vFp GT vcl "MenuScreensModel" 102 13 44 (.array .long) true := ⟨R13, T13, 59, "MenuScreensModel", ty13, rfl, by decide, in13, gt_5 72 (by decide +kernel) rfl, Or.inl rfl, tyok13, nm13, by decide +kernel, rfl, fun _ => rfl⟩
theorem f_12_105_13 : vFl GT vcl "MenuScreensModel" 105 13 49 := ⟨R13, T13, 59, "MenuScreensModel", rfl, by decide, in13, gt_5 77 (by decide +kernel) rfl, Or.inl rfl⟩
theorem p_12_105_13 : vFp GT vcl "MenuScreensModel" 105 13 49 (.array .int) true := ⟨R13, T13, 59, "MenuScreensModel", ty13, rfl, by decide, in13, gt_5 77 (by decide +kernel) rfl, Or.inl rfl, tyok13, nm13, by decide +kernel, rfl, fun _ => rfl⟩
theorem f_12_108_13 : vFl GT vcl "MenuScreensModel" 108 13 51 := ⟨R13, T13, 59, "MenuScreensModel", rfl, by decide, in13, gt_5 79 (by decide +kernel) rfl, Or.inl rfl⟩
theorem p_12_108_13 : vFp GT vcl "MenuScreensModel" 108 13 51 (.array .int) true := ⟨R13, T13, 59, "MenuScreensModel", ty13, rfl, by decide, in13, gt_5 79 (by decide +kernel) rfl, Or.inl rfl, tyok13, nm13, by decide +kernel, rfl, fun _ => rfl⟩
theorem f_12_111_13 : vFl GT vcl "MenuScreensModel" 111 13 52 := ⟨R13, T13, 59, "MenuScreensModel", rfl, by decide, in13, gt_5 80 (by decide +kernel) rfl, Or.inl rfl⟩
theorem p_12_111_13 : vFp GT vcl "MenuScreensModel" 111 13 52 (.array .long) true := ⟨R13, T13, 59, "MenuScreensModel", ty13, rfl, by decide, in13, gt_5 80 (by decide +kernel) rfl, Or.inl rfl, tyok13, nm13, by decide +kernel, rfl, fun _ => rfl⟩
theorem f_12_114_13 : vFl GT vcl "MenuScreensModel" 114 13 53 := ⟨R13, T13, 59, "MenuScreensModel", rfl, by decide, in13, gt_5 81 (by decide +kernel) rfl, Or.inl rfl⟩
theorem p_12_114_13 : vFp GT vcl "MenuScreensModel" 114 13 53 (.array .boolean) true := ⟨R13, T13, 59, "MenuScreensModel", ty13, rfl, by decide, in13, gt_5 81 (by decide +kernel) rfl, Or.inl rfl, tyok13, nm13, by decide +kernel, rfl, fun _ => rfl⟩
theorem f_12_117_13 : vFl GT vcl "MenuScreensModel" 117 13 58 := ⟨R13, T13, 59, "MenuScreensModel", rfl, by decide, in13, gt_5 86 (by decide +kernel) rfl, Or.inl rfl⟩
theorem p_12_117_13 : vFp GT vcl "MenuScreensModel" 117 13 58 (.array .boolean) true := ⟨R13, T13, 59, "MenuScreensModel", ty13, rfl, by decide, in13, gt_5 86 (by decide +kernel) rfl, Or.inl rfl, tyok13, nm13, by decide +kernel, rfl, fun _ => rfl⟩
theorem f_12_120_13 : vFl GT vcl "MenuScreensModel" 120 13 1 := ⟨R13, T13, 59, "MenuScreensModel", rfl, by decide, in13, gt_5 29 (by decide +kernel) rfl, Or.inl rfl⟩
theorem p_12_120_13 : vFp GT vcl "MenuScreensModel" 120 13 1 (.int) true := ⟨R13, T13, 59, "MenuScreensModel", ty13, rfl, by decide, in13, gt_5 29 (by decide +kernel) rfl, Or.inl rfl, tyok13, nm13, by decide +kernel, rfl, fun _ => rfl⟩
theorem f_12_124_13 : vFl GT vcl "MenuScreensModel" 124 13 2 := ⟨R13, T13, 59, "MenuScreensModel", rfl, by decide, in13, gt_5 30 (by decide +kernel) rfl, Or.inl rfl⟩
theorem p_12_124_13 : vFp GT vcl "MenuScreensModel" 124 13 2 (.int) true := ⟨R13, T13, 59, "MenuScreensModel", ty13, rfl, by decide, in13, gt_5 30 (by decide +kernel) rfl, Or.inl rfl, tyok13, nm13, by decide +kernel, rfl, fun _ => rfl⟩
theorem p_12_127_13 : vFp GT vcl "MenuScreensModel" 127 13 0 (.int) false := ⟨R13, T13, 59, "MenuScreensModel", ty13, rfl, by decide, in13, gt_5 28 (by decide +kernel) rfl, Or.inl rfl, tyok13, nm13, by decide +kernel, rfl, fun h => by cases h⟩
theorem f_12_130_13 : vFl GT vcl "MenuScreensModel" 130 13 3 := ⟨R13, T13, 59, "MenuScreensModel", rfl, by decide, in13, gt_5 31 (by decide +kernel) rfl, Or.inl rfl⟩
theorem p_12_130_13 : vFp GT vcl "MenuScreensModel" 130 13 3 (.int) false := ⟨R13, T13, 59, "MenuScreensModel", ty13, rfl, by decide, in13, gt_5 31 (by decide +kernel) rfl, Or.inl rfl, tyok13, nm13, by decide +kernel, rfl, fun h => by cases h⟩
theorem f_12_133_13 : vFl GT vcl "MenuScreensModel" 133 13 7 := ⟨R13, T13, 59, "MenuScreensModel", rfl, by decide, in13, gt_5 35 (by decide +kernel) rfl, Or.inl rfl⟩
theorem p_12_133_13 : vFp GT vcl "MenuScreensModel" 133 13 7 (.int) false := ⟨R13, T13, 59, "MenuScreensModel", ty13, rfl, by decide, in13, gt_5 35 (by decide +kernel) rfl, Or.inl rfl, tyok13, nm13, by decide +kernel, rfl, fun h => by cases h⟩
theorem f_12_136_13 : vFl GT vcl "MenuScreensModel" 136 13 8 := ⟨R13, T13, 59, "MenuScreensModel", rfl, by decide, in13, gt_5 36 (by decide +kernel) rfl, Or.inl rfl⟩
theorem p_12_136_13 : vFp GT vcl "MenuScreensModel" 136 13 8 (.int) false := ⟨R13, T13, 59, "MenuScreensModel", ty13, rfl, by decide, in13, gt_5 36 (by decide +kernel) rfl, Or.inl rfl, tyok13, nm13, by decide +kernel, rfl, fun h => by cases h⟩
theorem f_12_139_13 : vFl GT vcl "MenuScreensModel" 139 13 9 := ⟨R13, T13, 59, "MenuScreensModel", rfl, by decide, in13, gt_5 37 (by decide +kernel) rfl, Or.inl rfl⟩
theorem p_12_139_13 : vFp GT vcl "MenuScreensModel" 139 13 9 (.int) false := ⟨R13, T13, 59, "MenuScreensModel", ty13, rfl, by decide, in13, gt_5 37 (by decide +kernel) rfl, Or.inl rfl, tyok13, nm13, by decide +kernel, rfl, fun h => by cases h⟩
theorem f_12_142_13 : vFl GT vcl "MenuScreensModel" 142 13 10 := ⟨R13, T13, 59, "MenuScreensModel", rfl, by decide, in13, gt_5 38 (by decide +kernel) rfl, Or.inl rfl⟩
theorem p_12_142_13 : vFp GT vcl "MenuScreensModel" 142 13 10 (.int) false := ⟨R13, T13, 59, "MenuScreensModel", ty13, rfl, by decide, in13, gt_5 38 (by decide +kernel) rfl, Or.inl rfl, tyok13, nm13, by decide +kernel, rfl, fun h => by cases h⟩
theorem f_12_152_13 : vFl GT vcl "MenuScreensModel" 152 13 11 := ⟨R13, T13, 59, "MenuScreensModel", rfl, by decide, in13, gt_5 39 (by decide +kernel) rfl, Or.inl rfl⟩
theorem p_12_152_13 : vFp GT vcl "MenuScreensModel" 152 13 11 (.long) false := ⟨R13, T13, 59, "MenuScreensModel", ty13, rfl, by decide, in13, gt_5 39 (by decide +kernel) rfl, Or.inl rfl, tyok13, nm13, by decide +kernel, rfl, fun h => by cases h⟩
theorem f_12_162_13 : vFl GT vcl "MenuScreensModel" 162 13 12 := ⟨R13, T13, 59, "MenuScreensModel", rfl, by decide, in13, gt_5 40 (by decide +kernel) rfl, Or.inl rfl⟩
theorem p_12_162_13 : vFp GT vcl "MenuScreensModel" 162 13 12 (.int) false := ⟨R13, T13, 59, "MenuScreensModel", ty13, rfl, by decide, in13, gt_5 40 (by decide +kernel) rfl, Or.inl rfl, tyok13, nm13, by decide +kernel, rfl, fun h => by cases h⟩
theorem f_12_169_13 : vFl GT vcl "MenuScreensModel" 169 13 20 := ⟨R13, T13, 59, "MenuScreensModel", rfl, by decide, in13, gt_5 48 (by decide +kernel) rfl, Or.inl rfl⟩
theorem p_12_169_13 : vFp GT vcl "MenuScreensModel" 169 13 20 (.int) false := ⟨R13, T13, 59, "MenuScreensModel", ty13, rfl, by decide, in13, gt_5 48 (by decide +kernel) rfl, Or.inl rfl, tyok13, nm13, by decide +kernel, rfl, fun h => by cases h⟩
theorem f_12_222_13 : vFl GT vcl "MenuScreensModel" 222 13 28 := ⟨R13, T13, 59, "MenuScreensModel", rfl, by decide, in13, gt_5 56 (by decide +kernel) rfl, Or.inl rfl⟩
theorem p_12_222_13 : vFp GT vcl "MenuScreensModel" 222 13 28 (.int) false := ⟨R13, T13, 59, "MenuScreensModel", ty13, rfl, by decide, in13, gt_5 56 (by decide +kernel) rfl, Or.inl rfl, tyok13, nm13, by decide +kernel, rfl, fun h => by cases h⟩
theorem f_12_227_13 : vFl GT vcl "MenuScreensModel" 227 13 39 := ⟨R13, T13, 59, "MenuScreensModel", rfl, by decide, in13, gt_5 67 (by decide +kernel) rfl, Or.inl rfl⟩
theorem p_12_227_13 : vFp GT vcl "MenuScreensModel" 227 13 39 (.int) false := ⟨R13, T13, 59, "MenuScreensModel", ty13, rfl, by decide, in13, gt_5 67 (by decide +kernel) rfl, Or.inl rfl, tyok13, nm13, by decide +kernel, rfl, fun h => by cases h⟩
theorem f_12_233_13 : vFl GT vcl "MenuScreensModel" 233 13 48 := ⟨R13, T13, 59, "MenuScreensModel", rfl, by decide, in13, gt_5 76 (by decide +kernel) rfl, Or.inl rfl⟩
theorem p_12_233_13 : vFp GT vcl "MenuScreensModel" 233 13 48 (.int) false := ⟨R13, T13, 59, "MenuScreensModel", ty13, rfl, by decide, in13, gt_5 76 (by decide +kernel) rfl, Or.inl rfl, tyok13, nm13, by decide +kernel, rfl, fun h => by cases h⟩
theorem f_12_236_13 : vFl GT vcl "MenuScreensModel" 236 13 5 := ⟨R13, T13, 59, "MenuScreensModel", rfl, by decide, in13, gt_5 33 (by decide +kernel) rfl, Or.inl rfl⟩
theorem p_12_236_13 : vFp GT vcl "MenuScreensModel" 236 13 5 (.int) false := ⟨R13, T13, 59, "MenuScreensModel", ty13, rfl, by decide, in13, gt_5 33 (by decide +kernel) rfl, Or.inl rfl, tyok13, nm13, by decide +kernel, rfl, fun h => by cases h⟩
theorem f_12_245_13 : vFl GT vcl "MenuScreensModel" 245 13 45 := ⟨R13, T13, 59, "MenuScreensModel", rfl, by decide, in13, gt_5 73 (by decide +kernel) rfl, Or.inl rfl⟩
theorem p_12_245_13 : vFp GT vcl "MenuScreensModel" 245 13 45 (.int) false := ⟨R13, T13, 59, "MenuScreensModel", ty13, rfl, by decide, in13, gt_5 73 (by decide +kernel) rfl, Or.inl rfl, tyok13, nm13, by decide +kernel, rfl, fun h => by cases h⟩
theorem f_12_251_13 : vFl GT vcl "MenuScreensModel" 251 13 47 := ⟨R13, T13, 59, "MenuScreensModel", rfl, by decide, in13, gt_5 75 (by decide +kernel) rfl, Or.inl rfl⟩
theorem p_12_251_13 : vFp GT vcl "MenuScreensModel" 251 13 47 (.long) false := ⟨R13, T13, 59, "MenuScreensModel", ty13, rfl, by decide, in13, gt_5 75 (by decide +kernel) rfl, Or.inl rfl, tyok13, nm13, by decide +kernel, rfl, fun h => by cases h⟩
theorem f_12_264_13 : vFl GT vcl "MenuScreensModel" 264 13 46 := ⟨R13, T13, 59, "MenuScreensModel", rfl, by decide, in13, gt_5 74 (by decide +kernel) rfl, Or.inl rfl⟩
theorem p_12_264_13 : vFp GT vcl "MenuScreensModel" 264 13 46 (.int) false := ⟨R13, T13, 59, "MenuScreensModel", ty13, rfl, by decide, in13, gt_5 74 (by decide +kernel) rfl, Or.inl rfl, tyok13, nm13, by decide +kernel, rfl, fun h => by cases h⟩
theorem f_12_273_13 : vFl GT vcl "MenuScreensModel" 273 13 54 := ⟨R13, T13, 59, "MenuScreensModel", rfl, by decide, in13, gt_5 82 (by decide +kernel) rfl, Or.inl rfl⟩
theorem p_12_273_13 : vFp GT vcl "MenuScreensModel" 273 13 54 (.long) false := ⟨R13, T13, 59, "MenuScreensModel", ty13, rfl, by decide, in13, gt_5 82 (by decide +kernel) rfl, Or.inl rfl, tyok13, nm13, by decide +kernel, rfl, fun h => by cases h⟩
theorem f_12_276_13 : vFl GT vcl "MenuScreensModel" 276 13 50 := ⟨R13, T13, 59, "MenuScreensModel", rfl, by decide, in13, gt_5 78 (by decide +kernel) rfl, Or.inl rfl⟩
theorem p_12_276_13 : vFp GT vcl "MenuScreensModel" 276 13 50 (.int) false := ⟨R13, T13, 59, "MenuScreensModel", ty13, rfl, by decide, in13, gt_5 78 (by decide +kernel) rfl, Or.inl rfl, tyok13, nm13, by decide +kernel, rfl, fun h => by cases h⟩
theorem f_12_287_13 : vFl GT vcl "MenuScreensModel" 287 13 56 := ⟨R13, T13, 59, "MenuScreensModel", rfl, by decide, in13, gt_5 84 (by decide +kernel) rfl, Or.inl rfl⟩
theorem p_12_287_13 : vFp GT vcl "MenuScreensModel" 287 13 56 (.long) false := ⟨R13, T13, 59, "MenuScreensModel", ty13, rfl, by decide, in13, gt_5 84 (by decide +kernel) rfl, Or.inl rfl, tyok13, nm13, by decide +kernel, rfl, fun h => by cases h⟩
theorem f_12_290_13 : vFl GT vcl "MenuScreensModel" 290 13 57 := ⟨R13, T13, 59, "MenuScreensModel", rfl, by decide, in13, gt_5 85 (by decide +kernel) rfl, Or.inl rfl⟩
theorem p_12_290_13 : vFp GT vcl "MenuScreensModel" 290 13 57 (.long) false := ⟨R13, T13, 59, "MenuScreensModel", ty13, rfl, by decide, in13, gt_5 85 (by decide +kernel) rfl, Or.inl rfl, tyok13, nm13, by decide +kernel, rfl, fun h => by cases h⟩
theorem f_12_293_13 : vFl GT vcl "MenuScreensModel" 293 13 55 := ⟨R13, T13, 59, "MenuScreensModel", rfl, by decide, in13, gt_5 83 (by decide +kernel) rfl, Or.inl rfl⟩
theorem p_12_293_13 : vFp GT vcl "MenuScreensModel" 293 13 55 (.int) false := ⟨R13, T13, 59, "MenuScreensModel", ty13, rfl, by decide, in13, gt_5 83 (by decide +kernel) rfl, Or.inl rfl, tyok13, nm13, by decide +kernel, rfl, fun h => by cases h⟩
theorem f_13_15_1 : vFl GT vcl "java/lang/AbstractStringBuilder" 15 1 0 := ⟨R1, T1, 4, "java/lang/AbstractStringBuilder", rfl, by decide, in1, gt_1 54 (by decide +kernel) rfl, Or.inl rfl⟩
theorem p_13_15_1 : vFp GT vcl "java/lang/AbstractStringBuilder" 15 1 0 (.array .byte) false := ⟨R1, T1, 4, "java/lang/AbstractStringBuilder", ty1, rfl, by decide, in1, gt_1 54 (by decide +kernel) rfl, Or.inl rfl, tyok1, nm1, by decide +kernel, rfl, fun h => by cases h⟩
theorem f_13_22_1 : vFl GT vcl "java/lang/AbstractStringBuilder" 22 1 1 := ⟨R1, T1, 4, "java/lang/AbstractStringBuilder", rfl, by decide, in1, gt_1 55 (by decide +kernel) rfl, Or.inl rfl⟩
theorem p_13_22_1 : vFp GT vcl "java/lang/AbstractStringBuilder" 22 1 1 (.byte) false := ⟨R1, T1, 4, "java/lang/AbstractStringBuilder", ty1, rfl, by decide, in1, gt_1 55 (by decide +kernel) rfl, Or.inl rfl, tyok1, nm1, by decide +kernel, rfl, fun h => by cases h⟩
theorem p_13_73_1 : vFp GT vcl "java/lang/AbstractStringBuilder" 73 1 2 (.boolean) false := ⟨R1, T1, 4, "java/lang/AbstractStringBuilder", ty1, rfl, by decide, in1, gt_1 56 (by decide +kernel) rfl, Or.inl rfl, tyok1, nm1, by decide +kernel, rfl, fun h => by cases h⟩
theorem f_13_79_1 : vFl GT vcl "java/lang/AbstractStringBuilder" 79 1 3 := ⟨R1, T1, 4, "java/lang/AbstractStringBuilder", rfl, by decide, in1, gt_1 58 (by decide +kernel) rfl, Or.inl rfl⟩
theorem p_13_79_1 : vFp GT vcl "java/lang/AbstractStringBuilder" 79 1 3 (.int) false := ⟨R1, T1, 4, "java/lang/AbstractStringBuilder", ty1, rfl, by decide, in1, gt_1 58 (by decide +kernel) rfl, Or.inl rfl, tyok1, nm1, by decide +kernel, rfl, fun h => by cases h⟩
theorem f_17_9_0 : vFl GT vcl "java/lang/String" 9 0 0 := ⟨R0, T0, 4, "java/lang/String", rfl, by decide, in0, gt_2 136 (by decide +kernel) rfl, Or.inl rfl⟩
theorem p_17_9_0 : vFp GT vcl "java/lang/String" 9 0 0 (.array .byte) true := ⟨R0, T0, 4, "java/lang/String", ty0, rfl, by decide, in0, gt_2 136 (by decide +kernel) rfl, Or.inl rfl, tyok0, nm0, by decide +kernel, rfl, fun _ => rfl⟩
theorem f_17_15_0 : vFl GT vcl "java/lang/String" 15 0 1 := ⟨R0, T0, 4, "java/lang/String", rfl, by decide, in0, gt_2 137 (by decide +kernel) rfl, Or.inl rfl⟩
theorem p_17_15_0 : vFp GT vcl "java/lang/String" 15 0 1 (.byte) true := ⟨R0, T0, 4, "java/lang/String", ty0, rfl, by decide, in0, gt_2 137 (by decide +kernel) rfl, Or.inl rfl, tyok0, nm0, by decide +kernel, rfl, fun _ => rfl⟩
theorem f_17_1048_1 : vFl GT vcl "java/lang/String" 1048 1 2 := ⟨R1, T1, 4, "java/lang/AbstractStringBuilder", rfl, by decide, in1, gt_1 57 (by decide +kernel) rfl, Or.inl rfl⟩
theorem p_22_7_2 : vFp GT vcl "java/util/AbstractList" 7 2 2 (.int) false := ⟨R2, T2, 3, "java/util/AbstractList", ty2, rfl, by decide, in2, gt_1 91 (by decide +kernel) rfl, Or.inl rfl, tyok2, nm2, by decide +kernel, rfl, fun h => by cases h⟩
theorem f_23_9_2 : vFl GT vcl "java/util/ArrayList" 9 2 0 := ⟨R2, T2, 3, "java/util/ArrayList", rfl, by decide, in2, gt_1 89 (by decide +kernel) rfl, Or.inl rfl⟩
theorem p_23_9_2 : vFp GT vcl "java/util/ArrayList" 9 2 0 (.array (.object "java/lang/Object")) false := ⟨R2, T2, 3, "java/util/ArrayList", ty2, rfl, by decide, in2, gt_1 89 (by decide +kernel) rfl, Or.inl rfl, tyok2, nm2, by decide +kernel, rfl, fun h => by cases h⟩
theorem f_23_48_2 : vFl GT vcl "java/util/ArrayList" 48 2 1 := ⟨R2, T2, 3, "java/util/ArrayList", rfl, by decide, in2, gt_1 90 (by decide +kernel) rfl, Or.inl rfl⟩
theorem p_23_48_2 : vFp GT vcl "java/util/ArrayList" 48 2 1 (.int) false := ⟨R2, T2, 3, "java/util/ArrayList", ty2, rfl, by decide, in2, gt_1 90 (by decide +kernel) rfl, Or.inl rfl, tyok2, nm2, by decide +kernel, rfl, fun h => by cases h⟩
theorem f_23_63_2 : vFl GT vcl "java/util/ArrayList" 63 2 2 := ⟨R2, T2, 3, "java/util/ArrayList", rfl, by decide, in2, gt_1 92 (by decide +kernel) rfl, Or.inr (gt_1 93 (by decide +kernel) rfl)⟩
theorem p_23_63_2 : vFp GT vcl "java/util/ArrayList" 63 2 2 (.int) false := ⟨R2, T2, 3, "java/util/ArrayList", ty2, rfl, by decide, in2, gt_1 92 (by decide +kernel) rfl, Or.inr (gt_1 93 (by decide +kernel) rfl), tyok2, nm2, by decide +kernel, rfl, fun h => by cases h⟩
theorem n_0_16 : vFn GT vcl "MenuScreens" 16 1 [.null, .int 0, .int 0, .int 0] := ⟨R1, T1, ty1, rfl, in1, gt_1 36 (by decide +kernel) rfl, gt_1 37 (by decide +kernel) rfl, gt_1 3 (by decide +kernel) rfl, tyok1, fun j hj => by
  match j, hj with
  | 0, _ => rfl
  | 1, _ => rfl
  | 2, _ => rfl
  | 3, _ => rfl
  | n + 4, h => exact absurd h (by simp)⟩
theorem n_0_23 : vFn GT vcl "MenuScreens" 23 4 [.null, .null, .null, .int 0] := ⟨R4, T4, ty4, rfl, in4, gt_1 69 (by decide +kernel) rfl, gt_1 70 (by decide +kernel) rfl, gt_1 6 (by decide +kernel) rfl, tyok4, fun j hj => by
  match j, hj with
  | 0, _ => rfl
  | 1, _ => rfl
  | 2, _ => rfl
  | 3, _ => rfl
  | n + 4, h => exact absurd h (by simp)⟩
theorem n_0_30 : vFn GT vcl "MenuScreens" 30 5 [.null, .null, .null, .null] := ⟨R5, T5, ty5, rfl, in5, gt_1 118 (by decide +kernel) rfl, gt_1 119 (by decide +kernel) rfl, gt_1 10 (by decide +kernel) rfl, tyok5, fun j hj => by
  match j, hj with
  | 0, _ => rfl
  | 1, _ => rfl
  | 2, _ => rfl
  | 3, _ => rfl
  | n + 4, h => exact absurd h (by simp)⟩
theorem n_0_39 : vFn GT vcl "MenuScreens" 39 7 [.null, .null, .null, .int 0, .int 0, .long 0] := ⟨R7, T7, ty7, rfl, in7, gt_1 157 (by decide +kernel) rfl, gt_1 158 (by decide +kernel) rfl, gt_1 12 (by decide +kernel) rfl, tyok7, fun j hj => by
  match j, hj with
  | 0, _ => rfl
  | 1, _ => rfl
  | 2, _ => rfl
  | 3, _ => rfl
  | 4, _ => rfl
  | 5, _ => rfl
  | n + 6, h => exact absurd h (by simp)⟩
theorem n_4_9 : vFn GT vcl "MenuScreens$Plan" 9 2 [.null, .int 0, .int 0] := ⟨R2, T2, ty2, rfl, in2, gt_1 75 (by decide +kernel) rfl, gt_1 76 (by decide +kernel) rfl, gt_1 9 (by decide +kernel) rfl, tyok2, fun j hj => by
  match j, hj with
  | 0, _ => rfl
  | 1, _ => rfl
  | 2, _ => rfl
  | n + 3, h => exact absurd h (by simp)⟩
theorem n_5_9 : vFn GT vcl "MenuScreens$Reader" 9 6 [.null, .null, .null, .int 0] := ⟨R6, T6, ty6, rfl, in6, gt_1 124 (by decide +kernel) rfl, gt_1 125 (by decide +kernel) rfl, gt_1 11 (by decide +kernel) rfl, tyok6, fun j hj => by
  match j, hj with
  | 0, _ => rfl
  | 1, _ => rfl
  | 2, _ => rfl
  | 3, _ => rfl
  | n + 4, h => exact absurd h (by simp)⟩
theorem n_5_123 : vFn GT vcl "MenuScreens$Reader" 123 8 [.long 0, .int 0, .long 0, .long 0, .long 0, .int 0] := ⟨R8, T8, ty8, rfl, in8, gt_3 61 (by decide +kernel) rfl, gt_3 62 (by decide +kernel) rfl, gt_1 21 (by decide +kernel) rfl, tyok8, fun j hj => by
  match j, hj with
  | 0, _ => rfl
  | 1, _ => rfl
  | 2, _ => rfl
  | 3, _ => rfl
  | 4, _ => rfl
  | 5, _ => rfl
  | n + 6, h => exact absurd h (by simp)⟩
theorem n_5_155 : vFn GT vcl "MenuScreens$Reader" 155 9 [.long 0, .int 0, .null, .null, .null, .int 0, .int 0] := ⟨R9, T9, ty9, rfl, in9, gt_3 168 (by decide +kernel) rfl, gt_3 169 (by decide +kernel) rfl, gt_1 22 (by decide +kernel) rfl, tyok9, fun j hj => by
  match j, hj with
  | 0, _ => rfl
  | 1, _ => rfl
  | 2, _ => rfl
  | 3, _ => rfl
  | 4, _ => rfl
  | 5, _ => rfl
  | 6, _ => rfl
  | n + 7, h => exact absurd h (by simp)⟩
theorem n_5_160 : vFn GT vcl "MenuScreens$Reader" 160 10 [.null, .null, .int 0, .int 0, .null] := ⟨R10, T10, ty10, rfl, in10, gt_3 214 (by decide +kernel) rfl, gt_3 215 (by decide +kernel) rfl, gt_1 24 (by decide +kernel) rfl, tyok10, fun j hj => by
  match j, hj with
  | 0, _ => rfl
  | 1, _ => rfl
  | 2, _ => rfl
  | 3, _ => rfl
  | 4, _ => rfl
  | n + 5, h => exact absurd h (by simp)⟩
theorem n_5_171 : vFn GT vcl "MenuScreens$Reader" 171 11 [.null, .int 0, .int 0, .int 0, .null] := ⟨R11, T11, ty11, rfl, in11, gt_4 18 (by decide +kernel) rfl, gt_4 19 (by decide +kernel) rfl, gt_1 25 (by decide +kernel) rfl, tyok11, fun j hj => by
  match j, hj with
  | 0, _ => rfl
  | 1, _ => rfl
  | 2, _ => rfl
  | 3, _ => rfl
  | 4, _ => rfl
  | n + 5, h => exact absurd h (by simp)⟩
theorem n_5_194 : vFn GT vcl "MenuScreens$Reader" 194 12 [.null, .int 0, .int 0, .null] := ⟨R12, T12, ty12, rfl, in12, gt_4 42 (by decide +kernel) rfl, gt_4 43 (by decide +kernel) rfl, gt_1 26 (by decide +kernel) rfl, tyok12, fun j hj => by
  match j, hj with
  | 0, _ => rfl
  | 1, _ => rfl
  | 2, _ => rfl
  | 3, _ => rfl
  | n + 4, h => exact absurd h (by simp)⟩
theorem n_6_9 : vFn GT vcl "MenuScreens$Screen" 9 2 [.null, .int 0, .int 0] := ⟨R2, T2, ty2, rfl, in2, gt_3 174 (by decide +kernel) rfl, gt_1 76 (by decide +kernel) rfl, gt_1 9 (by decide +kernel) rfl, tyok2, fun j hj => by
  match j, hj with
  | 0, _ => rfl
  | 1, _ => rfl
  | 2, _ => rfl
  | n + 3, h => exact absurd h (by simp)⟩
theorem n_18_18 : vFn GT vcl "java/lang/StringBuilder" 18 0 [.null, .int 0, .int 0, .int 0] := ⟨R0, T0, ty0, rfl, in0, gt_2 97 (by decide +kernel) rfl, gt_2 98 (by decide +kernel) rfl, gt_1 4 (by decide +kernel) rfl, tyok0, fun j hj => by
  match j, hj with
  | 0, _ => rfl
  | 1, _ => rfl
  | 2, _ => rfl
  | 3, _ => rfl
  | n + 4, h => exact absurd h (by simp)⟩
theorem n_19_1 : vFn GT vcl "java/lang/StringLatin1" 1 0 [.null, .int 0, .int 0, .int 0] := ⟨R0, T0, ty0, rfl, in0, gt_3 3 (by decide +kernel) rfl, gt_2 98 (by decide +kernel) rfl, gt_1 4 (by decide +kernel) rfl, tyok0, fun j hj => by
  match j, hj with
  | 0, _ => rfl
  | 1, _ => rfl
  | 2, _ => rfl
  | 3, _ => rfl
  | n + 4, h => exact absurd h (by simp)⟩
theorem n_20_3 : vFn GT vcl "java/lang/StringUTF16" 3 0 [.null, .int 0, .int 0, .int 0] := ⟨R0, T0, ty0, rfl, in0, gt_3 15 (by decide +kernel) rfl, gt_2 98 (by decide +kernel) rfl, gt_1 4 (by decide +kernel) rfl, tyok0, fun j hj => by
  match j, hj with
  | 0, _ => rfl
  | 1, _ => rfl
  | 2, _ => rfl
  | 3, _ => rfl
  | n + 4, h => exact absurd h (by simp)⟩
theorem k_0_18 : vKI GT "MenuScreens" 18 y_StringBuilder_init prog_21_method_1_code 1 0 := ⟨gt_1 38 (by decide +kernel) rfl, gt_1 39 (by decide +kernel) rfl, gt_1 3 (by decide +kernel) rfl, gt_1 40 (rfl) rfl, rfl, by decide +kernel⟩
theorem k_0_32 : vKI GT "MenuScreens" 32 y_Reader_init prog_6_method_1_code 2 1 := ⟨gt_1 120 (by decide +kernel) rfl, gt_1 121 (by decide +kernel) rfl, gt_1 10 (by decide +kernel) rfl, gt_1 122 (rfl) rfl, rfl, by decide +kernel⟩
theorem k_0_46 : vKV GT "MenuScreens" 46 y_StringBuilder_length prog_21_method_93_code 1 (some .int) 0 := ⟨gt_1 227 (by decide +kernel) rfl, gt_1 228 (by decide +kernel) rfl, gt_1 229 (by decide +kernel) rfl, gt_1 3 (by decide +kernel) rfl, gt_1 230 (rfl) rfl, by decide +kernel⟩
theorem k_0_50 : vKV GT "MenuScreens" 50 y_StringBuilder_append prog_21_method_14_code 2 (some (.object "java/lang/StringBuilder")) 1 := ⟨gt_1 234 (by decide +kernel) rfl, gt_1 235 (by decide +kernel) rfl, gt_1 236 (by decide +kernel) rfl, gt_1 3 (by decide +kernel) rfl, gt_1 237 (rfl) rfl, by decide +kernel⟩
theorem k_0_54 : vKV GT "MenuScreens" 54 y_StringBuilder_toString prog_21_method_42_code 1 (some (.object "java/lang/String")) 0 := ⟨gt_2 93 (by decide +kernel) rfl, gt_2 94 (by decide +kernel) rfl, gt_2 95 (by decide +kernel) rfl, gt_1 3 (by decide +kernel) rfl, gt_2 96 (rfl) rfl, by decide +kernel⟩
theorem k_0_58 : vKV GT "MenuScreens" 58 y_StringBuilder_setLength prog_21_method_89_code 2 none 1 := ⟨gt_2 147 (by decide +kernel) rfl, gt_2 148 (by decide +kernel) rfl, gt_2 149 (by decide +kernel) rfl, gt_1 3 (by decide +kernel) rfl, gt_2 150 (rfl) rfl, by decide +kernel⟩
theorem k_0_62 : vKV GT "MenuScreens" 62 y_Plan_clear prog_5_method_2_code 1 none 0 := ⟨gt_2 167 (by decide +kernel) rfl, gt_2 168 (by decide +kernel) rfl, gt_2 169 (by decide +kernel) rfl, gt_1 6 (by decide +kernel) rfl, gt_2 170 (rfl) rfl, by decide +kernel⟩
theorem k_0_65 : vKV GT "MenuScreens" 65 y_Reader_firstWrongLine prog_6_method_2_code 5 (some .int) 1 := ⟨gt_2 179 (by decide +kernel) rfl, gt_2 180 (by decide +kernel) rfl, gt_2 181 (by decide +kernel) rfl, gt_1 10 (by decide +kernel) rfl, gt_2 182 (rfl) rfl, by decide +kernel⟩
theorem k_0_69 : vKV GT "MenuScreens" 69 y_Plan_joinKeys prog_5_method_9_code 6 none 0 := ⟨gt_4 72 (by decide +kernel) rfl, gt_4 73 (by decide +kernel) rfl, gt_4 74 (by decide +kernel) rfl, gt_1 6 (by decide +kernel) rfl, gt_4 75 (rfl) rfl, by decide +kernel⟩
theorem k_0_72 : vKV GT "MenuScreens" 72 y_Plan_findRings prog_5_method_10_code 2 none 0 := ⟨gt_4 77 (by decide +kernel) rfl, gt_4 78 (by decide +kernel) rfl, gt_4 79 (by decide +kernel) rfl, gt_1 6 (by decide +kernel) rfl, gt_4 80 (rfl) rfl, by decide +kernel⟩
theorem k_0_75 : vKV GT "MenuScreens" 75 y_Plan_firstWrongScreenLine prog_5_method_13_code 3 (some .int) 0 := ⟨gt_4 97 (by decide +kernel) rfl, gt_4 98 (by decide +kernel) rfl, gt_4 99 (by decide +kernel) rfl, gt_1 6 (by decide +kernel) rfl, gt_4 100 (rfl) rfl, by decide +kernel⟩
theorem k_0_78 : vKV GT "MenuScreens" 78 y_Plan_clearScreensAndValues prog_5_method_3_code 1 none 0 := ⟨gt_4 105 (by decide +kernel) rfl, gt_2 172 (by decide +kernel) rfl, gt_2 173 (by decide +kernel) rfl, gt_1 6 (by decide +kernel) rfl, gt_2 174 (rfl) rfl, by decide +kernel⟩
theorem k_0_85 : vKV GT "MenuScreens" 85 y_ArrayList_size prog_27_method_8_code 1 (some .int) 0 := ⟨gt_4 106 (by decide +kernel) rfl, gt_3 40 (by decide +kernel) rfl, gt_3 41 (by decide +kernel) rfl, gt_1 9 (by decide +kernel) rfl, gt_3 42 (rfl) rfl, by decide +kernel⟩
theorem k_0_93 : vKV GT "MenuScreens" 93 y_Plan_valueNumbered prog_5_method_4_code 2 (some (.object "MenuScreens$Value")) 1 := ⟨gt_4 111 (by decide +kernel) rfl, gt_4 112 (by decide +kernel) rfl, gt_4 113 (by decide +kernel) rfl, gt_1 6 (by decide +kernel) rfl, gt_4 114 (rfl) rfl, by decide +kernel⟩
theorem k_0_114 : vKV GT "MenuScreens" 114 y_Plan_screenNumbered prog_5_method_6_code 2 (some (.object "MenuScreens$Screen")) 1 := ⟨gt_4 121 (by decide +kernel) rfl, gt_4 94 (by decide +kernel) rfl, gt_4 95 (by decide +kernel) rfl, gt_1 6 (by decide +kernel) rfl, gt_4 96 (rfl) rfl, by decide +kernel⟩
theorem k_0_118 : vKV GT "MenuScreens" 118 y_Screen_screenBehindKey prog_7_method_3_code 2 (some .int) 1 := ⟨gt_4 122 (by decide +kernel) rfl, gt_4 90 (by decide +kernel) rfl, gt_4 91 (by decide +kernel) rfl, gt_1 22 (by decide +kernel) rfl, gt_4 92 (rfl) rfl, by decide +kernel⟩
theorem k_0_127 : vKV GT "MenuScreens" 127 y_Screen_isBarredAt prog_7_method_2_code 2 (some .boolean) 1 := ⟨gt_4 123 (by decide +kernel) rfl, gt_4 124 (by decide +kernel) rfl, gt_4 125 (by decide +kernel) rfl, gt_1 22 (by decide +kernel) rfl, gt_4 126 (rfl) rfl, by decide +kernel⟩
theorem k_0_131 : vKV GT "MenuScreens" 131 y_Warnings_signAt prog_10_method_8_code 3 (some .int) 1 := ⟨gt_4 131 (by decide +kernel) rfl, gt_4 132 (by decide +kernel) rfl, gt_4 133 (by decide +kernel) rfl, gt_1 12 (by decide +kernel) rfl, gt_4 134 (rfl) rfl, by decide +kernel⟩
theorem k_0_137 : vKV GT "MenuScreens" 137 y_Screen_signAt prog_7_method_4_code 7 (some .int) 3 := ⟨gt_4 139 (by decide +kernel) rfl, gt_4 140 (by decide +kernel) rfl, gt_4 141 (by decide +kernel) rfl, gt_1 22 (by decide +kernel) rfl, gt_4 142 (rfl) rfl, by decide +kernel⟩
theorem k_0_140 : vKV GT "MenuScreens" 140 y_Warnings_add prog_10_method_2_code 4 (some .int) 2 := ⟨gt_4 185 (by decide +kernel) rfl, gt_4 186 (by decide +kernel) rfl, gt_4 187 (by decide +kernel) rfl, gt_1 12 (by decide +kernel) rfl, gt_4 188 (rfl) rfl, by decide +kernel⟩
theorem k_0_144 : vKV GT "MenuScreens" 144 y_Warnings_openAt prog_10_method_5_code 2 (some .int) 1 := ⟨gt_4 197 (by decide +kernel) rfl, gt_4 198 (by decide +kernel) rfl, gt_4 199 (by decide +kernel) rfl, gt_1 12 (by decide +kernel) rfl, gt_4 200 (rfl) rfl, by decide +kernel⟩
theorem k_0_147 : vKV GT "MenuScreens" 147 y_Warnings_close prog_10_method_6_code 4 (some .int) 1 := ⟨gt_4 205 (by decide +kernel) rfl, gt_4 206 (by decide +kernel) rfl, gt_4 207 (by decide +kernel) rfl, gt_1 12 (by decide +kernel) rfl, gt_4 208 (rfl) rfl, by decide +kernel⟩
theorem k_0_165 : vKS GT "MenuScreens" 165 y_MenuScreens_greatestDivisor prog_1_method_17_code 11 (some .long) 2 := ⟨gt_4 225 (by decide +kernel) rfl, gt_4 226 (by decide +kernel) rfl, gt_1 1 (by decide +kernel) rfl, gt_4 227 (rfl) rfl, by decide +kernel⟩
theorem k_0_171 : vKV GT "MenuScreens" 171 y_Plan_ringAt prog_5_method_8_code 2 (some .int) 1 := ⟨gt_5 1 (by decide +kernel) rfl, gt_5 2 (by decide +kernel) rfl, gt_5 3 (by decide +kernel) rfl, gt_1 6 (by decide +kernel) rfl, gt_5 4 (rfl) rfl, by decide +kernel⟩
theorem k_0_183 : vKS GT "MenuScreens" 183 y_Integer_bitCount prog_17_method_49_code 1 (some .int) 1 := ⟨gt_5 13 (by decide +kernel) rfl, gt_5 14 (by decide +kernel) rfl, gt_1 27 (by decide +kernel) rfl, gt_5 15 (rfl) rfl, by decide +kernel⟩
theorem k_2_28 : vKV GT "MenuScreens$Line" 28 y_String_length prog_20_method_54_code 1 (some .int) 0 := ⟨gt_2 210 (by decide +kernel) rfl, gt_2 184 (by decide +kernel) rfl, gt_2 185 (by decide +kernel) rfl, gt_1 4 (by decide +kernel) rfl, gt_2 186 (rfl) rfl, by decide +kernel⟩
theorem k_2_34 : vKV GT "MenuScreens$Line" 34 y_String_charAt prog_20_method_56_code 2 (some .char) 1 := ⟨gt_2 211 (by decide +kernel) rfl, gt_2 192 (by decide +kernel) rfl, gt_2 193 (by decide +kernel) rfl, gt_1 4 (by decide +kernel) rfl, gt_2 194 (rfl) rfl, by decide +kernel⟩
theorem k_2_38 : vKV GT "MenuScreens$Line" 38 y_Line_addWord prog_3_method_3_code 3 none 2 := ⟨gt_2 212 (by decide +kernel) rfl, gt_2 214 (by decide +kernel) rfl, gt_p 0 (by decide +kernel) rfl, gt_1 11 (by decide +kernel) rfl, gt_2 215 (rfl) rfl, by decide +kernel⟩
theorem k_2_42 : vKV GT "MenuScreens$Line" 42 y_String_substring prog_20_method_92_code 5 (some (.object "java/lang/String")) 2 := ⟨gt_2 228 (by decide +kernel) rfl, gt_2 229 (by decide +kernel) rfl, gt_2 230 (by decide +kernel) rfl, gt_1 4 (by decide +kernel) rfl, gt_2 231 (rfl) rfl, by decide +kernel⟩
theorem k_3_20 : vKV GT "MenuScreens$Piece" 20 y_Condition_holds prog_2_method_2_code 1 (some .boolean) 0 := ⟨gt_4 177 (by decide +kernel) rfl, gt_4 178 (by decide +kernel) rfl, gt_4 179 (by decide +kernel) rfl, gt_1 26 (by decide +kernel) rfl, gt_4 180 (rfl) rfl, by decide +kernel⟩
theorem k_4_11 : vKI GT "MenuScreens$Plan" 11 y_ArrayList_init prog_27_method_2_code 1 0 := ⟨gt_1 77 (by decide +kernel) rfl, gt_1 78 (by decide +kernel) rfl, gt_1 9 (by decide +kernel) rfl, gt_1 79 (rfl) rfl, rfl, by decide +kernel⟩
theorem k_4_25 : vKV GT "MenuScreens$Plan" 25 y_Plan_clearScreensAndValues prog_5_method_3_code 1 none 0 := ⟨gt_2 171 (by decide +kernel) rfl, gt_2 172 (by decide +kernel) rfl, gt_2 173 (by decide +kernel) rfl, gt_1 6 (by decide +kernel) rfl, gt_2 174 (rfl) rfl, by decide +kernel⟩
theorem k_4_32 : vKV GT "MenuScreens$Plan" 32 y_ArrayList_clear prog_27_method_40_code 4 none 0 := ⟨gt_2 175 (by decide +kernel) rfl, gt_2 176 (by decide +kernel) rfl, gt_2 177 (by decide +kernel) rfl, gt_1 9 (by decide +kernel) rfl, gt_2 178 (rfl) rfl, by decide +kernel⟩
theorem k_4_35 : vKV GT "MenuScreens$Plan" 35 y_ArrayList_size prog_27_method_8_code 1 (some .int) 0 := ⟨gt_3 47 (by decide +kernel) rfl, gt_3 40 (by decide +kernel) rfl, gt_3 41 (by decide +kernel) rfl, gt_1 9 (by decide +kernel) rfl, gt_3 42 (rfl) rfl, by decide +kernel⟩
theorem k_4_39 : vKV GT "MenuScreens$Plan" 39 y_ArrayList_get prog_27_method_20_code 2 (some (.object "java/lang/Object")) 1 := ⟨gt_3 48 (by decide +kernel) rfl, gt_3 49 (by decide +kernel) rfl, gt_3 50 (by decide +kernel) rfl, gt_1 9 (by decide +kernel) rfl, gt_3 51 (rfl) rfl, by decide +kernel⟩
theorem k_4_59 : vKV GT "MenuScreens$Plan" 59 y_Plan_screenNumberOf prog_5_method_7_code 4 (some .int) 1 := ⟨gt_4 76 (by decide +kernel) rfl, gt_3 164 (by decide +kernel) rfl, gt_3 165 (by decide +kernel) rfl, gt_1 6 (by decide +kernel) rfl, gt_3 166 (rfl) rfl, by decide +kernel⟩
theorem k_4_63 : vKV GT "MenuScreens$Plan" 63 y_Plan_markScreensThatLeadHome prog_5_method_11_code 3 none 0 := ⟨gt_4 81 (by decide +kernel) rfl, gt_4 83 (by decide +kernel) rfl, gt_p 17 (by decide +kernel) rfl, gt_1 6 (by decide +kernel) rfl, gt_4 84 (rfl) rfl, by decide +kernel⟩
theorem k_4_70 : vKV GT "MenuScreens$Plan" 70 y_Plan_hasKeyTowardsHome prog_5_method_12_code 4 (some .boolean) 1 := ⟨gt_4 85 (by decide +kernel) rfl, gt_4 87 (by decide +kernel) rfl, gt_p 18 (by decide +kernel) rfl, gt_1 6 (by decide +kernel) rfl, gt_4 88 (rfl) rfl, by decide +kernel⟩
theorem k_4_74 : vKV GT "MenuScreens$Plan" 74 y_Screen_screenBehindKey prog_7_method_3_code 2 (some .int) 1 := ⟨gt_4 89 (by decide +kernel) rfl, gt_4 90 (by decide +kernel) rfl, gt_4 91 (by decide +kernel) rfl, gt_1 22 (by decide +kernel) rfl, gt_4 92 (rfl) rfl, by decide +kernel⟩
theorem k_4_78 : vKV GT "MenuScreens$Plan" 78 y_Plan_screenNumbered prog_5_method_6_code 2 (some (.object "MenuScreens$Screen")) 1 := ⟨gt_4 93 (by decide +kernel) rfl, gt_4 94 (by decide +kernel) rfl, gt_4 95 (by decide +kernel) rfl, gt_1 6 (by decide +kernel) rfl, gt_4 96 (rfl) rfl, by decide +kernel⟩
theorem k_4_82 : vKV GT "MenuScreens$Plan" 82 y_Screen_hasKeyToNowhere prog_7_method_5_code 2 (some .boolean) 0 := ⟨gt_4 101 (by decide +kernel) rfl, gt_4 102 (by decide +kernel) rfl, gt_4 103 (by decide +kernel) rfl, gt_1 22 (by decide +kernel) rfl, gt_4 104 (rfl) rfl, by decide +kernel⟩
theorem k_5_30 : vKV GT "MenuScreens$Reader" 30 y_String_length prog_20_method_54_code 1 (some .int) 0 := ⟨gt_2 183 (by decide +kernel) rfl, gt_2 184 (by decide +kernel) rfl, gt_2 185 (by decide +kernel) rfl, gt_1 4 (by decide +kernel) rfl, gt_2 186 (rfl) rfl, by decide +kernel⟩
theorem k_5_36 : vKV GT "MenuScreens$Reader" 36 y_String_charAt prog_20_method_56_code 2 (some .char) 1 := ⟨gt_2 191 (by decide +kernel) rfl, gt_2 192 (by decide +kernel) rfl, gt_2 193 (by decide +kernel) rfl, gt_1 4 (by decide +kernel) rfl, gt_2 194 (rfl) rfl, by decide +kernel⟩
theorem k_5_40 : vKV GT "MenuScreens$Reader" 40 y_Line_split prog_3_method_2_code 6 none 3 := ⟨gt_2 206 (by decide +kernel) rfl, gt_2 207 (by decide +kernel) rfl, gt_2 208 (by decide +kernel) rfl, gt_1 11 (by decide +kernel) rfl, gt_2 209 (rfl) rfl, by decide +kernel⟩
theorem k_5_44 : vKV GT "MenuScreens$Reader" 44 y_Line_wordCount prog_3_method_4_code 1 (some .int) 0 := ⟨gt_2 216 (by decide +kernel) rfl, gt_2 217 (by decide +kernel) rfl, gt_2 218 (by decide +kernel) rfl, gt_1 11 (by decide +kernel) rfl, gt_2 219 (rfl) rfl, by decide +kernel⟩
theorem k_5_47 : vKV GT "MenuScreens$Reader" 47 y_Reader_takeLine prog_6_method_3_code 3 (some .boolean) 1 := ⟨gt_2 220 (by decide +kernel) rfl, gt_2 222 (by decide +kernel) rfl, gt_p 1 (by decide +kernel) rfl, gt_1 10 (by decide +kernel) rfl, gt_2 223 (rfl) rfl, by decide +kernel⟩
theorem k_5_51 : vKV GT "MenuScreens$Reader" 51 y_Line_wordAt prog_3_method_5_code 2 (some (.object "java/lang/String")) 1 := ⟨gt_2 224 (by decide +kernel) rfl, gt_2 225 (by decide +kernel) rfl, gt_2 226 (by decide +kernel) rfl, gt_1 11 (by decide +kernel) rfl, gt_2 227 (rfl) rfl, by decide +kernel⟩
theorem k_5_57 : vKV GT "MenuScreens$Reader" 57 y_String_equals prog_20_method_66_code 3 (some .boolean) 1 := ⟨gt_3 18 (by decide +kernel) rfl, gt_3 19 (by decide +kernel) rfl, gt_3 20 (by decide +kernel) rfl, gt_1 4 (by decide +kernel) rfl, gt_3 21 (rfl) rfl, by decide +kernel⟩
theorem k_5_61 : vKV GT "MenuScreens$Reader" 61 y_Reader_takeName prog_6_method_5_code 3 (some .boolean) 0 := ⟨gt_3 26 (by decide +kernel) rfl, gt_3 28 (by decide +kernel) rfl, gt_p 2 (by decide +kernel) rfl, gt_1 10 (by decide +kernel) rfl, gt_3 29 (rfl) rfl, by decide +kernel⟩
theorem k_5_67 : vKV GT "MenuScreens$Reader" 67 y_Reader_takeSetting prog_6_method_6_code 6 (some .boolean) 0 := ⟨gt_3 145 (by decide +kernel) rfl, gt_3 147 (by decide +kernel) rfl, gt_p 7 (by decide +kernel) rfl, gt_1 10 (by decide +kernel) rfl, gt_3 148 (rfl) rfl, by decide +kernel⟩
theorem k_5_71 : vKV GT "MenuScreens$Reader" 71 y_Reader_takeScreen prog_6_method_8_code 4 (some .boolean) 1 := ⟨gt_3 159 (by decide +kernel) rfl, gt_3 161 (by decide +kernel) rfl, gt_p 8 (by decide +kernel) rfl, gt_1 10 (by decide +kernel) rfl, gt_3 162 (rfl) rfl, by decide +kernel⟩
theorem k_5_74 : vKV GT "MenuScreens$Reader" 74 y_Reader_takeLineOf prog_6_method_4_code 3 (some .boolean) 2 := ⟨gt_3 205 (by decide +kernel) rfl, gt_3 207 (by decide +kernel) rfl, gt_p 9 (by decide +kernel) rfl, gt_1 10 (by decide +kernel) rfl, gt_3 208 (rfl) rfl, by decide +kernel⟩
theorem k_5_80 : vKV GT "MenuScreens$Reader" 80 y_Reader_takePut prog_6_method_9_code 3 (some .boolean) 1 := ⟨gt_3 210 (by decide +kernel) rfl, gt_3 212 (by decide +kernel) rfl, gt_p 10 (by decide +kernel) rfl, gt_1 10 (by decide +kernel) rfl, gt_3 213 (rfl) rfl, by decide +kernel⟩
theorem k_5_86 : vKV GT "MenuScreens$Reader" 86 y_Reader_takeSay prog_6_method_10_code 4 (some .boolean) 1 := ⟨gt_4 8 (by decide +kernel) rfl, gt_4 10 (by decide +kernel) rfl, gt_p 12 (by decide +kernel) rfl, gt_1 10 (by decide +kernel) rfl, gt_4 11 (rfl) rfl, by decide +kernel⟩
theorem k_5_91 : vKV GT "MenuScreens$Reader" 91 y_Reader_takeShow prog_6_method_11_code 4 (some .boolean) 1 := ⟨gt_4 14 (by decide +kernel) rfl, gt_4 16 (by decide +kernel) rfl, gt_p 13 (by decide +kernel) rfl, gt_1 10 (by decide +kernel) rfl, gt_4 17 (rfl) rfl, by decide +kernel⟩
theorem k_5_96 : vKV GT "MenuScreens$Reader" 96 y_Reader_takeIf prog_6_method_13_code 4 (some .boolean) 0 := ⟨gt_4 35 (by decide +kernel) rfl, gt_4 37 (by decide +kernel) rfl, gt_p 14 (by decide +kernel) rfl, gt_1 10 (by decide +kernel) rfl, gt_4 38 (rfl) rfl, by decide +kernel⟩
theorem k_5_101 : vKV GT "MenuScreens$Reader" 101 y_Reader_takeKey prog_6_method_14_code 5 (some .boolean) 1 := ⟨gt_4 63 (by decide +kernel) rfl, gt_4 65 (by decide +kernel) rfl, gt_p 15 (by decide +kernel) rfl, gt_1 10 (by decide +kernel) rfl, gt_4 66 (rfl) rfl, by decide +kernel⟩
theorem k_5_106 : vKV GT "MenuScreens$Reader" 106 y_Reader_takeBar prog_6_method_15_code 3 (some .boolean) 1 := ⟨gt_4 68 (by decide +kernel) rfl, gt_4 70 (by decide +kernel) rfl, gt_p 16 (by decide +kernel) rfl, gt_1 10 (by decide +kernel) rfl, gt_4 71 (rfl) rfl, by decide +kernel⟩
theorem k_5_109 : vKV GT "MenuScreens$Reader" 109 y_Line_nameAt prog_3_method_6_code 6 (some .long) 1 := ⟨gt_3 30 (by decide +kernel) rfl, gt_3 31 (by decide +kernel) rfl, gt_3 32 (by decide +kernel) rfl, gt_1 11 (by decide +kernel) rfl, gt_3 33 (rfl) rfl, by decide +kernel⟩
theorem k_5_113 : vKV GT "MenuScreens$Reader" 113 y_Reader_isFreeForValue prog_6_method_7_code 3 (some .boolean) 1 := ⟨gt_3 35 (by decide +kernel) rfl, gt_3 37 (by decide +kernel) rfl, gt_p 3 (by decide +kernel) rfl, gt_1 10 (by decide +kernel) rfl, gt_3 38 (rfl) rfl, by decide +kernel⟩
theorem k_5_125 : vKI GT "MenuScreens$Reader" 125 y_Value_init prog_8_method_1_code 3 1 := ⟨gt_3 63 (by decide +kernel) rfl, gt_3 64 (by decide +kernel) rfl, gt_1 21 (by decide +kernel) rfl, gt_3 65 (rfl) rfl, rfl, by decide +kernel⟩
theorem k_5_128 : vKV GT "MenuScreens$Reader" 128 y_ArrayList_add prog_27_method_25_code 2 (some .boolean) 1 := ⟨gt_3 98 (by decide +kernel) rfl, gt_3 99 (by decide +kernel) rfl, gt_3 100 (by decide +kernel) rfl, gt_1 9 (by decide +kernel) rfl, gt_3 101 (rfl) rfl, by decide +kernel⟩
theorem k_5_133 : vKV GT "MenuScreens$Reader" 133 y_Line_numberAt prog_3_method_7_code 8 (some .int) 1 := ⟨gt_3 149 (by decide +kernel) rfl, gt_3 150 (by decide +kernel) rfl, gt_3 151 (by decide +kernel) rfl, gt_1 11 (by decide +kernel) rfl, gt_3 152 (rfl) rfl, by decide +kernel⟩
theorem k_5_138 : vKI GT "MenuScreens$Reader" 138 y_Value_init_2 prog_8_method_2_code 9 4 := ⟨gt_3 155 (by decide +kernel) rfl, gt_3 156 (by decide +kernel) rfl, gt_1 21 (by decide +kernel) rfl, gt_3 157 (rfl) rfl, rfl, by decide +kernel⟩
theorem k_5_141 : vKV GT "MenuScreens$Reader" 141 y_ArrayList_size prog_27_method_8_code 1 (some .int) 0 := ⟨gt_3 39 (by decide +kernel) rfl, gt_3 40 (by decide +kernel) rfl, gt_3 41 (by decide +kernel) rfl, gt_1 9 (by decide +kernel) rfl, gt_3 42 (rfl) rfl, by decide +kernel⟩
theorem k_5_144 : vKV GT "MenuScreens$Reader" 144 y_Plan_valueNamed prog_5_method_5_code 5 (some (.object "MenuScreens$Value")) 1 := ⟨gt_3 43 (by decide +kernel) rfl, gt_3 44 (by decide +kernel) rfl, gt_3 45 (by decide +kernel) rfl, gt_1 6 (by decide +kernel) rfl, gt_3 46 (rfl) rfl, by decide +kernel⟩
theorem k_5_151 : vKV GT "MenuScreens$Reader" 151 y_Plan_screenNumberOf prog_5_method_7_code 4 (some .int) 1 := ⟨gt_3 163 (by decide +kernel) rfl, gt_3 164 (by decide +kernel) rfl, gt_3 165 (by decide +kernel) rfl, gt_1 6 (by decide +kernel) rfl, gt_3 166 (rfl) rfl, by decide +kernel⟩
theorem k_5_157 : vKI GT "MenuScreens$Reader" 157 y_Screen_init prog_7_method_1_code 4 2 := ⟨gt_3 170 (by decide +kernel) rfl, gt_3 171 (by decide +kernel) rfl, gt_1 22 (by decide +kernel) rfl, gt_3 172 (rfl) rfl, rfl, by decide +kernel⟩
theorem k_5_162 : vKI GT "MenuScreens$Reader" 162 y_WordPiece_init prog_11_method_1_code 6 5 := ⟨gt_3 216 (by decide +kernel) rfl, gt_3 217 (by decide +kernel) rfl, gt_1 24 (by decide +kernel) rfl, gt_3 218 (rfl) rfl, rfl, by decide +kernel⟩
theorem k_5_165 : vKV GT "MenuScreens$Reader" 165 y_Reader_takePiece prog_6_method_12_code 3 (some .boolean) 2 := ⟨gt_4 3 (by decide +kernel) rfl, gt_4 5 (by decide +kernel) rfl, gt_p 11 (by decide +kernel) rfl, gt_1 10 (by decide +kernel) rfl, gt_4 6 (rfl) rfl, by decide +kernel⟩
theorem k_5_173 : vKI GT "MenuScreens$Reader" 173 y_ValuePiece_init prog_9_method_1_code 6 5 := ⟨gt_4 20 (by decide +kernel) rfl, gt_4 21 (by decide +kernel) rfl, gt_1 25 (by decide +kernel) rfl, gt_4 22 (rfl) rfl, rfl, by decide +kernel⟩
theorem k_5_196 : vKI GT "MenuScreens$Reader" 196 y_Condition_init prog_2_method_1_code 5 4 := ⟨gt_4 44 (by decide +kernel) rfl, gt_4 45 (by decide +kernel) rfl, gt_1 26 (by decide +kernel) rfl, gt_4 46 (rfl) rfl, rfl, by decide +kernel⟩
theorem k_6_11 : vKI GT "MenuScreens$Screen" 11 y_ArrayList_init prog_27_method_2_code 1 0 := ⟨gt_3 175 (by decide +kernel) rfl, gt_1 78 (by decide +kernel) rfl, gt_1 9 (by decide +kernel) rfl, gt_1 79 (rfl) rfl, rfl, by decide +kernel⟩
theorem k_6_37 : vKV GT "MenuScreens$Screen" 37 y_ArrayList_size prog_27_method_8_code 1 (some .int) 0 := ⟨gt_4 143 (by decide +kernel) rfl, gt_3 40 (by decide +kernel) rfl, gt_3 41 (by decide +kernel) rfl, gt_1 9 (by decide +kernel) rfl, gt_3 42 (rfl) rfl, by decide +kernel⟩
theorem k_6_41 : vKV GT "MenuScreens$Screen" 41 y_ArrayList_get prog_27_method_20_code 2 (some (.object "java/lang/Object")) 1 := ⟨gt_4 144 (by decide +kernel) rfl, gt_3 49 (by decide +kernel) rfl, gt_3 50 (by decide +kernel) rfl, gt_1 9 (by decide +kernel) rfl, gt_3 51 (rfl) rfl, by decide +kernel⟩
theorem ku_6_53_11 : vKU GT "MenuScreens$Screen" 53 R11 "MenuScreens$Piece" ⟨"MenuScreens$Piece", "signAt", "(II)I"⟩ y_ValuePiece_signAt prog_9_method_2_code 3 (some .int) 2 := ⟨gt_4 146 (by decide +kernel) rfl, gt_4 148 (by decide +kernel) rfl, gt_4 149 (by decide +kernel) rfl, gt_4 150 (by decide +kernel) rfl, gt_1 25 (by decide +kernel) rfl, gt_4 151 (rfl) rfl, by decide +kernel⟩
theorem ku_6_53_10 : vKU GT "MenuScreens$Screen" 53 R10 "MenuScreens$Piece" ⟨"MenuScreens$Piece", "signAt", "(II)I"⟩ y_WordPiece_signAt prog_11_method_2_code 4 (some .int) 2 := ⟨gt_4 146 (by decide +kernel) rfl, gt_4 148 (by decide +kernel) rfl, gt_4 166 (by decide +kernel) rfl, gt_4 167 (by decide +kernel) rfl, gt_1 24 (by decide +kernel) rfl, gt_4 168 (rfl) rfl, by decide +kernel⟩
theorem ku_6_57_11 : vKU GT "MenuScreens$Screen" 57 R11 "MenuScreens$Piece" y_Piece_isOn y_Piece_isOn prog_4_method_3_code 2 (some .boolean) 0 := ⟨gt_4 171 (by decide +kernel) rfl, gt_4 173 (by decide +kernel) rfl, gt_4 174 (by decide +kernel) rfl, gt_4 172 (by decide +kernel) rfl, gt_1 23 (by decide +kernel) rfl, gt_4 176 (rfl) rfl, by decide +kernel⟩
theorem ku_6_57_10 : vKU GT "MenuScreens$Screen" 57 R10 "MenuScreens$Piece" y_Piece_isOn y_Piece_isOn prog_4_method_3_code 2 (some .boolean) 0 := ⟨gt_4 171 (by decide +kernel) rfl, gt_4 173 (by decide +kernel) rfl, gt_4 175 (by decide +kernel) rfl, gt_4 172 (by decide +kernel) rfl, gt_1 23 (by decide +kernel) rfl, gt_4 176 (rfl) rfl, by decide +kernel⟩
theorem k_8_3 : vKI GT "MenuScreens$ValuePiece" 3 y_Piece_init prog_4_method_1_code 4 3 := ⟨gt_4 23 (by decide +kernel) rfl, gt_3 220 (by decide +kernel) rfl, gt_1 23 (by decide +kernel) rfl, gt_3 221 (rfl) rfl, rfl, by decide +kernel⟩
theorem k_8_25 : vKV GT "MenuScreens$ValuePiece" 25 y_ValuePiece_signFromRight prog_9_method_3_code 6 (some .int) 1 := ⟨gt_4 152 (by decide +kernel) rfl, gt_4 154 (by decide +kernel) rfl, gt_p 20 (by decide +kernel) rfl, gt_1 25 (by decide +kernel) rfl, gt_4 155 (rfl) rfl, by decide +kernel⟩
theorem k_8_33 : vKS GT "MenuScreens$ValuePiece" 33 y_Math_abs prog_19_method_61_code 2 (some .long) 1 := ⟨gt_4 156 (by decide +kernel) rfl, gt_4 157 (by decide +kernel) rfl, gt_1 15 (by decide +kernel) rfl, gt_4 158 (rfl) rfl, by decide +kernel⟩
theorem k_8_39 : vKS GT "MenuScreens$ValuePiece" 39 y_ValuePiece_digitsOf prog_9_method_4_code 5 (some .int) 1 := ⟨gt_4 159 (by decide +kernel) rfl, gt_4 160 (by decide +kernel) rfl, gt_1 25 (by decide +kernel) rfl, gt_4 161 (rfl) rfl, by decide +kernel⟩
theorem k_8_43 : vKS GT "MenuScreens$ValuePiece" 43 y_ValuePiece_digitFromRight prog_9_method_5_code 6 (some .int) 2 := ⟨gt_4 163 (by decide +kernel) rfl, gt_4 164 (by decide +kernel) rfl, gt_1 25 (by decide +kernel) rfl, gt_4 165 (rfl) rfl, by decide +kernel⟩
theorem k_9_30 : vKV GT "MenuScreens$Warnings" 30 y_Warnings_insertOpen prog_10_method_3_code 4 none 2 := ⟨gt_4 189 (by decide +kernel) rfl, gt_4 191 (by decide +kernel) rfl, gt_p 21 (by decide +kernel) rfl, gt_1 12 (by decide +kernel) rfl, gt_4 192 (rfl) rfl, by decide +kernel⟩
theorem k_9_37 : vKV GT "MenuScreens$Warnings" 37 y_Warnings_rankOf prog_10_method_4_code 2 (some .int) 1 := ⟨gt_4 135 (by decide +kernel) rfl, gt_4 137 (by decide +kernel) rfl, gt_p 19 (by decide +kernel) rfl, gt_1 12 (by decide +kernel) rfl, gt_4 138 (rfl) rfl, by decide +kernel⟩
theorem k_9_41 : vKV GT "MenuScreens$Warnings" 41 y_Warnings_placeInOpen prog_10_method_7_code 3 (some .int) 1 := ⟨gt_4 209 (by decide +kernel) rfl, gt_4 211 (by decide +kernel) rfl, gt_p 22 (by decide +kernel) rfl, gt_1 12 (by decide +kernel) rfl, gt_4 212 (rfl) rfl, by decide +kernel⟩
theorem k_10_3 : vKI GT "MenuScreens$WordPiece" 3 y_Piece_init prog_4_method_1_code 4 3 := ⟨gt_3 219 (by decide +kernel) rfl, gt_3 220 (by decide +kernel) rfl, gt_1 23 (by decide +kernel) rfl, gt_3 221 (rfl) rfl, rfl, by decide +kernel⟩
theorem k_10_18 : vKV GT "MenuScreens$WordPiece" 18 y_String_length prog_20_method_54_code 1 (some .int) 0 := ⟨gt_4 169 (by decide +kernel) rfl, gt_2 184 (by decide +kernel) rfl, gt_2 185 (by decide +kernel) rfl, gt_1 4 (by decide +kernel) rfl, gt_2 186 (rfl) rfl, by decide +kernel⟩
theorem k_10_24 : vKV GT "MenuScreens$WordPiece" 24 y_String_charAt prog_20_method_56_code 2 (some .char) 1 := ⟨gt_4 170 (by decide +kernel) rfl, gt_2 192 (by decide +kernel) rfl, gt_2 193 (by decide +kernel) rfl, gt_1 4 (by decide +kernel) rfl, gt_2 194 (rfl) rfl, by decide +kernel⟩
theorem k_12_145 : vKV GT "MenuScreensModel" 145 y_MenuScreensModel_next prog_13_method_4_code 1 (some .boolean) 0 := ⟨gt_5 219 (by decide +kernel) rfl, gt_5 221 (by decide +kernel) rfl, gt_p 24 (by decide +kernel) rfl, gt_1 13 (by decide +kernel) rfl, gt_5 222 (rfl) rfl, by decide +kernel⟩
theorem k_12_149 : vKV GT "MenuScreensModel" 149 y_MenuScreensModel_isName prog_13_method_6_code 3 (some .boolean) 0 := ⟨gt_6 3 (by decide +kernel) rfl, gt_6 5 (by decide +kernel) rfl, gt_p 29 (by decide +kernel) rfl, gt_1 13 (by decide +kernel) rfl, gt_6 6 (rfl) rfl, by decide +kernel⟩
theorem k_12_165 : vKV GT "MenuScreensModel" 165 y_MenuScreensModel_same prog_13_method_9_code 7 (some .boolean) 4 := ⟨gt_6 11 (by decide +kernel) rfl, gt_6 13 (by decide +kernel) rfl, gt_p 31 (by decide +kernel) rfl, gt_1 13 (by decide +kernel) rfl, gt_6 14 (rfl) rfl, by decide +kernel⟩
theorem k_12_172 : vKV GT "MenuScreensModel" 172 y_MenuScreensModel_word prog_13_method_10_code 4 (some .long) 0 := ⟨gt_5 227 (by decide +kernel) rfl, gt_5 229 (by decide +kernel) rfl, gt_p 26 (by decide +kernel) rfl, gt_1 13 (by decide +kernel) rfl, gt_5 230 (rfl) rfl, by decide +kernel⟩
theorem k_12_176 : vKS GT "MenuScreensModel" 176 y_MenuScreensModel_told prog_13_method_11_code 11 (some .long) 7 := ⟨gt_5 232 (by decide +kernel) rfl, gt_5 233 (by decide +kernel) rfl, gt_1 13 (by decide +kernel) rfl, gt_5 234 (rfl) rfl, by decide +kernel⟩
theorem k_12_180 : vKV GT "MenuScreensModel" 180 y_MenuScreensModel_addValue prog_13_method_15_code 10 (some .boolean) 1 := ⟨gt_5 235 (by decide +kernel) rfl, gt_5 237 (by decide +kernel) rfl, gt_p 27 (by decide +kernel) rfl, gt_1 13 (by decide +kernel) rfl, gt_5 238 (rfl) rfl, by decide +kernel⟩
theorem k_12_184 : vKV GT "MenuScreensModel" 184 y_MenuScreensModel_addScreen prog_13_method_16_code 5 (some .boolean) 1 := ⟨gt_6 27 (by decide +kernel) rfl, gt_6 29 (by decide +kernel) rfl, gt_p 34 (by decide +kernel) rfl, gt_1 13 (by decide +kernel) rfl, gt_6 30 (rfl) rfl, by decide +kernel⟩
theorem k_12_188 : vKV GT "MenuScreensModel" 188 y_MenuScreensModel_addPart prog_13_method_17_code 3 (some .boolean) 1 := ⟨gt_6 36 (by decide +kernel) rfl, gt_6 38 (by decide +kernel) rfl, gt_p 36 (by decide +kernel) rfl, gt_1 13 (by decide +kernel) rfl, gt_6 39 (rfl) rfl, by decide +kernel⟩
theorem k_12_191 : vKV GT "MenuScreensModel" 191 y_MenuScreensModel_addCondition prog_13_method_18_code 3 (some .boolean) 0 := ⟨gt_6 41 (by decide +kernel) rfl, gt_6 43 (by decide +kernel) rfl, gt_p 37 (by decide +kernel) rfl, gt_1 13 (by decide +kernel) rfl, gt_6 44 (rfl) rfl, by decide +kernel⟩
theorem k_12_194 : vKV GT "MenuScreensModel" 194 y_MenuScreensModel_addKey prog_13_method_19_code 4 (some .boolean) 0 := ⟨gt_6 45 (by decide +kernel) rfl, gt_6 47 (by decide +kernel) rfl, gt_p 38 (by decide +kernel) rfl, gt_1 13 (by decide +kernel) rfl, gt_6 48 (rfl) rfl, by decide +kernel⟩
theorem k_12_199 : vKV GT "MenuScreensModel" 199 y_MenuScreensModel_number prog_13_method_8_code 9 (some .boolean) 2 := ⟨gt_6 17 (by decide +kernel) rfl, gt_6 19 (by decide +kernel) rfl, gt_p 32 (by decide +kernel) rfl, gt_1 13 (by decide +kernel) rfl, gt_6 20 (rfl) rfl, by decide +kernel⟩
theorem k_12_202 : vKV GT "MenuScreensModel" 202 y_MenuScreensModel_through prog_13_method_5_code 1 (some .boolean) 0 := ⟨gt_6 23 (by decide +kernel) rfl, gt_6 25 (by decide +kernel) rfl, gt_p 33 (by decide +kernel) rfl, gt_1 13 (by decide +kernel) rfl, gt_6 26 (rfl) rfl, by decide +kernel⟩
theorem k_12_205 : vKV GT "MenuScreensModel" 205 y_MenuScreensModel_name prog_13_method_7_code 1 (some .boolean) 0 := ⟨gt_5 239 (by decide +kernel) rfl, gt_6 1 (by decide +kernel) rfl, gt_p 28 (by decide +kernel) rfl, gt_1 13 (by decide +kernel) rfl, gt_6 2 (rfl) rfl, by decide +kernel⟩
theorem k_12_208 : vKV GT "MenuScreensModel" 208 y_MenuScreensModel_findValue prog_13_method_12_code 2 (some .int) 0 := ⟨gt_6 7 (by decide +kernel) rfl, gt_6 9 (by decide +kernel) rfl, gt_p 30 (by decide +kernel) rfl, gt_1 13 (by decide +kernel) rfl, gt_6 10 (rfl) rfl, by decide +kernel⟩
theorem k_12_216 : vKV GT "MenuScreensModel" 216 y_MenuScreensModel_findScreen prog_13_method_13_code 4 (some .int) 2 := ⟨gt_6 31 (by decide +kernel) rfl, gt_6 33 (by decide +kernel) rfl, gt_p 35 (by decide +kernel) rfl, gt_1 13 (by decide +kernel) rfl, gt_6 34 (rfl) rfl, by decide +kernel⟩
theorem k_12_230 : vKV GT "MenuScreensModel" 230 y_MenuScreensModel_leads prog_13_method_20_code 3 (some .int) 2 := ⟨gt_6 54 (by decide +kernel) rfl, gt_6 56 (by decide +kernel) rfl, gt_p 40 (by decide +kernel) rfl, gt_1 13 (by decide +kernel) rfl, gt_6 57 (rfl) rfl, by decide +kernel⟩
theorem k_12_239 : vKV GT "MenuScreensModel" 239 y_MenuScreensModel_line prog_13_method_14_code 4 (some .boolean) 1 := ⟨gt_5 223 (by decide +kernel) rfl, gt_5 225 (by decide +kernel) rfl, gt_p 25 (by decide +kernel) rfl, gt_1 13 (by decide +kernel) rfl, gt_5 226 (rfl) rfl, by decide +kernel⟩
theorem k_12_242 : vKV GT "MenuScreensModel" 242 y_MenuScreensModel_endLine prog_13_method_21_code 5 (some .int) 0 := ⟨gt_6 50 (by decide +kernel) rfl, gt_6 52 (by decide +kernel) rfl, gt_p 39 (by decide +kernel) rfl, gt_1 13 (by decide +kernel) rfl, gt_6 53 (rfl) rfl, by decide +kernel⟩
theorem k_12_248 : vKV GT "MenuScreensModel" 248 y_MenuScreensModel_wrong prog_13_method_22_code 3 (some .int) 0 := ⟨gt_5 215 (by decide +kernel) rfl, gt_5 217 (by decide +kernel) rfl, gt_p 23 (by decide +kernel) rfl, gt_1 13 (by decide +kernel) rfl, gt_5 218 (rfl) rfl, by decide +kernel⟩
theorem k_12_254 : vKV GT "MenuScreensModel" 254 y_MenuScreensModel_barred prog_13_method_26_code 1 (some .boolean) 0 := ⟨gt_6 70 (by decide +kernel) rfl, gt_6 72 (by decide +kernel) rfl, gt_p 41 (by decide +kernel) rfl, gt_1 13 (by decide +kernel) rfl, gt_6 73 (rfl) rfl, by decide +kernel⟩
theorem k_12_257 : vKV GT "MenuScreensModel" 257 y_MenuScreensModel_holds prog_13_method_28_code 7 (some .boolean) 1 := ⟨gt_6 90 (by decide +kernel) rfl, gt_6 92 (by decide +kernel) rfl, gt_p 45 (by decide +kernel) rfl, gt_1 13 (by decide +kernel) rfl, gt_6 93 (rfl) rfl, by decide +kernel⟩
theorem k_12_260 : vKV GT "MenuScreensModel" 260 y_MenuScreensModel_digit prog_13_method_29_code 12 (some .int) 3 := ⟨gt_6 94 (by decide +kernel) rfl, gt_6 96 (by decide +kernel) rfl, gt_p 46 (by decide +kernel) rfl, gt_1 13 (by decide +kernel) rfl, gt_6 97 (rfl) rfl, by decide +kernel⟩
theorem k_12_267 : vKV GT "MenuScreensModel" 267 y_MenuScreensModel_atHand prog_13_method_37_code 4 (some .int) 0 := ⟨gt_6 78 (by decide +kernel) rfl, gt_6 80 (by decide +kernel) rfl, gt_p 42 (by decide +kernel) rfl, gt_1 13 (by decide +kernel) rfl, gt_6 81 (rfl) rfl, by decide +kernel⟩
theorem k_12_270 : vKV GT "MenuScreensModel" 270 y_MenuScreensModel_partAt prog_13_method_30_code 9 (some .int) 3 := ⟨gt_6 86 (by decide +kernel) rfl, gt_6 88 (by decide +kernel) rfl, gt_p 44 (by decide +kernel) rfl, gt_1 13 (by decide +kernel) rfl, gt_6 89 (rfl) rfl, by decide +kernel⟩
theorem k_12_279 : vKV GT "MenuScreensModel" 279 y_MenuScreensModel_before prog_13_method_36_code 6 (some .int) 2 := ⟨gt_6 82 (by decide +kernel) rfl, gt_6 84 (by decide +kernel) rfl, gt_p 43 (by decide +kernel) rfl, gt_1 13 (by decide +kernel) rfl, gt_6 85 (rfl) rfl, by decide +kernel⟩
theorem k_13_26 : vKS GT "java/lang/AbstractStringBuilder" 26 y_StringUTF16_newBytesFor prog_23_method_2_code 1 (some (.array .byte)) 1 := ⟨gt_1 47 (by decide +kernel) rfl, gt_1 48 (by decide +kernel) rfl, gt_1 5 (by decide +kernel) rfl, gt_1 49 (rfl) rfl, by decide +kernel⟩
theorem ku_13_83_1 : vKU GT "java/lang/AbstractStringBuilder" 83 R1 "java/lang/AbstractStringBuilder" y_AbstractStringBuilder_isLatin1 y_AbstractStringBuilder_isLatin1 prog_15_method_68_code 1 (some .boolean) 0 := ⟨gt_2 36 (by decide +kernel) rfl, gt_2 38 (by decide +kernel) rfl, gt_2 39 (by decide +kernel) rfl, gt_2 37 (by decide +kernel) rfl, gt_1 2 (by decide +kernel) rfl, gt_2 40 (rfl) rfl, by decide +kernel⟩
theorem k_13_108 : vKS GT "java/lang/AbstractStringBuilder" 108 y_Arrays_copyOf prog_28_method_121_code 3 (some (.array .byte)) 2 := ⟨gt_2 20 (by decide +kernel) rfl, gt_2 21 (by decide +kernel) rfl, gt_1 16 (by decide +kernel) rfl, gt_2 22 (rfl) rfl, by decide +kernel⟩
theorem k_13_114 : vKS GT "java/lang/AbstractStringBuilder" 114 y_ArraysSupport_newLength prog_34_method_27_code 4 (some .int) 3 := ⟨gt_2 9 (by decide +kernel) rfl, gt_2 10 (by decide +kernel) rfl, gt_1 14 (by decide +kernel) rfl, gt_2 11 (rfl) rfl, by decide +kernel⟩
theorem k_13_125 : vKS GT "java/lang/AbstractStringBuilder" 125 y_StringLatin1_inflate prog_22_method_50_code 5 none 5 := ⟨gt_2 48 (by decide +kernel) rfl, gt_2 49 (by decide +kernel) rfl, gt_1 18 (by decide +kernel) rfl, gt_2 50 (rfl) rfl, by decide +kernel⟩
theorem k_13_133 : vKS GT "java/lang/AbstractStringBuilder" 133 y_StringLatin1_fillNull prog_22_method_48_code 3 none 3 := ⟨gt_2 154 (by decide +kernel) rfl, gt_2 155 (by decide +kernel) rfl, gt_1 18 (by decide +kernel) rfl, gt_2 156 (rfl) rfl, by decide +kernel⟩
theorem k_13_137 : vKS GT "java/lang/AbstractStringBuilder" 137 y_StringUTF16_fillNull prog_23_method_70_code 3 none 3 := ⟨gt_2 163 (by decide +kernel) rfl, gt_2 164 (by decide +kernel) rfl, gt_1 5 (by decide +kernel) rfl, gt_2 165 (rfl) rfl, by decide +kernel⟩
theorem k_13_191 : vKS GT "java/lang/AbstractStringBuilder" 191 y_StringLatin1_canEncode prog_22_method_3_code 1 (some .boolean) 1 := ⟨gt_2 41 (by decide +kernel) rfl, gt_2 42 (by decide +kernel) rfl, gt_1 18 (by decide +kernel) rfl, gt_2 43 (rfl) rfl, by decide +kernel⟩
theorem k_13_197 : vKS GT "java/lang/AbstractStringBuilder" 197 y_StringUTF16_putCharSB prog_23_method_71_code 3 none 3 := ⟨gt_2 77 (by decide +kernel) rfl, gt_2 78 (by decide +kernel) rfl, gt_1 5 (by decide +kernel) rfl, gt_2 79 (rfl) rfl, by decide +kernel⟩
theorem k_17_47 : vKS GT "java/lang/String" 47 y_StringUTF16_coderFromArrayLen prog_23_method_15_code 2 (some .byte) 2 := ⟨gt_2 133 (by decide +kernel) rfl, gt_2 134 (by decide +kernel) rfl, gt_1 5 (by decide +kernel) rfl, gt_2 135 (rfl) rfl, by decide +kernel⟩
theorem k_17_54 : vKS GT "java/lang/String" 54 y_Arrays_copyOfRange prog_28_method_132_code 3 (some (.array .byte)) 3 := ⟨gt_2 113 (by decide +kernel) rfl, gt_2 114 (by decide +kernel) rfl, gt_1 16 (by decide +kernel) rfl, gt_2 115 (rfl) rfl, by decide +kernel⟩
theorem k_17_335 : vKV GT "java/lang/String" 335 y_String_coder prog_20_method_152_code 1 (some .byte) 0 := ⟨gt_2 187 (by decide +kernel) rfl, gt_2 188 (by decide +kernel) rfl, gt_2 189 (by decide +kernel) rfl, gt_1 4 (by decide +kernel) rfl, gt_2 190 (rfl) rfl, by decide +kernel⟩
theorem k_17_489 : vKI GT "java/lang/String" 489 y_String_init_2 prog_20_method_150_code 5 2 := ⟨gt_2 102 (by decide +kernel) rfl, gt_2 103 (by decide +kernel) rfl, gt_1 4 (by decide +kernel) rfl, gt_2 104 (rfl) rfl, rfl, by decide +kernel⟩
theorem k_17_492 : vKV GT "java/lang/String" 492 y_String_isLatin1 prog_20_method_154_code 1 (some .boolean) 0 := ⟨gt_2 195 (by decide +kernel) rfl, gt_2 196 (by decide +kernel) rfl, gt_2 197 (by decide +kernel) rfl, gt_1 4 (by decide +kernel) rfl, gt_2 198 (rfl) rfl, by decide +kernel⟩
theorem k_17_495 : vKS GT "java/lang/String" 495 y_StringLatin1_charAt prog_22_method_2_code 2 (some .char) 2 := ⟨gt_2 199 (by decide +kernel) rfl, gt_2 200 (by decide +kernel) rfl, gt_1 18 (by decide +kernel) rfl, gt_2 201 (rfl) rfl, by decide +kernel⟩
theorem k_17_498 : vKS GT "java/lang/String" 498 y_StringUTF16_charAt prog_23_method_83_code 2 (some .char) 2 := ⟨gt_2 203 (by decide +kernel) rfl, gt_2 204 (by decide +kernel) rfl, gt_1 5 (by decide +kernel) rfl, gt_2 205 (rfl) rfl, by decide +kernel⟩
theorem k_17_505 : vKV GT "java/lang/String" 505 y_String_length prog_20_method_54_code 1 (some .int) 0 := ⟨gt_2 232 (by decide +kernel) rfl, gt_2 184 (by decide +kernel) rfl, gt_2 185 (by decide +kernel) rfl, gt_1 4 (by decide +kernel) rfl, gt_2 186 (rfl) rfl, by decide +kernel⟩
theorem k_17_521 : vKS GT "java/lang/String" 521 y_String_checkBoundsBeginEnd prog_20_method_158_code 3 none 3 := ⟨gt_2 233 (by decide +kernel) rfl, gt_2 234 (by decide +kernel) rfl, gt_1 4 (by decide +kernel) rfl, gt_2 235 (rfl) rfl, by decide +kernel⟩
theorem k_17_541 : vKS GT "java/lang/String" 541 y_StringLatin1_equals prog_22_method_13_code 3 (some .boolean) 2 := ⟨gt_3 23 (by decide +kernel) rfl, gt_3 24 (by decide +kernel) rfl, gt_1 18 (by decide +kernel) rfl, gt_3 25 (rfl) rfl, by decide +kernel⟩
theorem ku_17_549_1 : vKU GT "java/lang/String" 549 R1 "java/lang/AbstractStringBuilder" y_AbstractStringBuilder_length y_StringBuilder_length prog_21_method_93_code 1 (some .int) 0 := ⟨gt_2 111 (by decide +kernel) rfl, gt_6 138 (by decide +kernel) rfl, gt_6 143 (by decide +kernel) rfl, gt_1 228 (by decide +kernel) rfl, gt_1 3 (by decide +kernel) rfl, gt_1 230 (rfl) rfl, by decide +kernel⟩
theorem ku_17_552_1 : vKU GT "java/lang/String" 552 R1 "java/lang/AbstractStringBuilder" y_AbstractStringBuilder_getValue y_AbstractStringBuilder_getValue prog_15_method_64_code 1 (some (.array .byte)) 0 := ⟨gt_2 106 (by decide +kernel) rfl, gt_2 108 (by decide +kernel) rfl, gt_2 109 (by decide +kernel) rfl, gt_2 107 (by decide +kernel) rfl, gt_1 2 (by decide +kernel) rfl, gt_2 110 (rfl) rfl, by decide +kernel⟩
theorem k_17_685 : vKS GT "java/lang/String" 685 y_StringLatin1_newString prog_22_method_47_code 3 (some (.object "java/lang/String")) 3 := ⟨gt_2 239 (by decide +kernel) rfl, gt_3 0 (by decide +kernel) rfl, gt_1 18 (by decide +kernel) rfl, gt_3 1 (rfl) rfl, by decide +kernel⟩
theorem k_17_689 : vKS GT "java/lang/String" 689 y_StringUTF16_newString prog_23_method_69_code 5 (some (.object "java/lang/String")) 3 := ⟨gt_3 8 (by decide +kernel) rfl, gt_3 9 (by decide +kernel) rfl, gt_1 5 (by decide +kernel) rfl, gt_3 10 (rfl) rfl, by decide +kernel⟩
theorem ku_17_1047_1 : vKU GT "java/lang/String" 1047 R1 "java/lang/AbstractStringBuilder" y_AbstractStringBuilder_isLatin1 y_AbstractStringBuilder_isLatin1 prog_15_method_68_code 1 (some .boolean) 0 := ⟨gt_2 112 (by decide +kernel) rfl, gt_2 38 (by decide +kernel) rfl, gt_2 39 (by decide +kernel) rfl, gt_2 37 (by decide +kernel) rfl, gt_1 2 (by decide +kernel) rfl, gt_2 40 (rfl) rfl, by decide +kernel⟩
theorem k_17_1051 : vKS GT "java/lang/String" 1051 y_StringUTF16_compress prog_23_method_17_code 6 (some (.array .byte)) 3 := ⟨gt_2 123 (by decide +kernel) rfl, gt_2 124 (by decide +kernel) rfl, gt_1 5 (by decide +kernel) rfl, gt_2 125 (rfl) rfl, by decide +kernel⟩
theorem k_17_1059 : vKS GT "java/lang/String" 1059 y_Preconditions_checkIndex prog_35_method_11_code 3 (some .int) 3 := ⟨gt_2 86 (by decide +kernel) rfl, gt_2 87 (by decide +kernel) rfl, gt_1 19 (by decide +kernel) rfl, gt_2 88 (rfl) rfl, by decide +kernel⟩
theorem k_17_1062 : vKS GT "java/lang/String" 1062 y_Preconditions_checkFromToIndex prog_35_method_12_code 4 (some .int) 4 := ⟨gt_2 236 (by decide +kernel) rfl, gt_2 237 (by decide +kernel) rfl, gt_1 19 (by decide +kernel) rfl, gt_2 238 (rfl) rfl, by decide +kernel⟩
theorem k_17_1065 : vKS GT "java/lang/String" 1065 y_Preconditions_checkFromIndexSize prog_35_method_13_code 4 (some .int) 4 := ⟨gt_2 65 (by decide +kernel) rfl, gt_2 66 (by decide +kernel) rfl, gt_1 19 (by decide +kernel) rfl, gt_2 67 (rfl) rfl, by decide +kernel⟩
theorem k_18_1 : vKI GT "java/lang/StringBuilder" 1 y_AbstractStringBuilder_init prog_15_method_2_code 2 1 := ⟨gt_1 41 (by decide +kernel) rfl, gt_1 42 (by decide +kernel) rfl, gt_1 2 (by decide +kernel) rfl, gt_1 43 (rfl) rfl, rfl, by decide +kernel⟩
theorem k_18_137 : vKI GT "java/lang/StringBuilder" 137 y_String_init prog_20_method_53_code 2 1 := ⟨gt_2 99 (by decide +kernel) rfl, gt_2 100 (by decide +kernel) rfl, gt_1 4 (by decide +kernel) rfl, gt_2 101 (rfl) rfl, rfl, by decide +kernel⟩
theorem k_19_9 : vKS GT "java/lang/StringLatin1" 9 y_String_checkIndex prog_20_method_155_code 2 none 2 := ⟨gt_2 202 (by decide +kernel) rfl, gt_2 84 (by decide +kernel) rfl, gt_1 4 (by decide +kernel) rfl, gt_2 85 (rfl) rfl, by decide +kernel⟩
theorem k_19_112 : vKI GT "java/lang/StringLatin1" 112 y_String_init_3 prog_20_method_151_code 3 2 := ⟨gt_3 5 (by decide +kernel) rfl, gt_3 6 (by decide +kernel) rfl, gt_1 4 (by decide +kernel) rfl, gt_3 7 (rfl) rfl, rfl, by decide +kernel⟩
theorem k_19_232 : vKS GT "java/lang/StringLatin1" 232 y_Arrays_copyOfRange prog_28_method_132_code 3 (some (.array .byte)) 3 := ⟨gt_3 4 (by decide +kernel) rfl, gt_2 114 (by decide +kernel) rfl, gt_1 16 (by decide +kernel) rfl, gt_2 115 (rfl) rfl, by decide +kernel⟩
theorem k_19_236 : vKS GT "java/lang/StringLatin1" 236 y_Arrays_fill prog_28_method_110_code 5 none 4 := ⟨gt_2 157 (by decide +kernel) rfl, gt_2 158 (by decide +kernel) rfl, gt_1 16 (by decide +kernel) rfl, gt_2 159 (rfl) rfl, by decide +kernel⟩
theorem k_19_240 : vKS GT "java/lang/StringLatin1" 240 y_StringUTF16_inflate prog_23_method_86_code 6 none 5 := ⟨gt_2 51 (by decide +kernel) rfl, gt_2 52 (by decide +kernel) rfl, gt_1 5 (by decide +kernel) rfl, gt_2 53 (rfl) rfl, by decide +kernel⟩
theorem k_20_11 : vKS GT "java/lang/StringUTF16" 11 y_StringUTF16_newBytesLength prog_23_method_3_code 1 (some .int) 1 := ⟨gt_1 50 (by decide +kernel) rfl, gt_1 51 (by decide +kernel) rfl, gt_1 5 (by decide +kernel) rfl, gt_1 52 (rfl) rfl, by decide +kernel⟩
theorem k_20_48 : vKS GT "java/lang/StringUTF16" 48 y_StringUTF16_length prog_23_method_6_code 1 (some .int) 1 := ⟨gt_2 57 (by decide +kernel) rfl, gt_2 58 (by decide +kernel) rfl, gt_1 5 (by decide +kernel) rfl, gt_2 59 (rfl) rfl, by decide +kernel⟩
theorem k_20_67 : vKS GT "java/lang/StringUTF16" 67 y_StringUTF16_checkIndex prog_23_method_91_code 2 none 2 := ⟨gt_2 80 (by decide +kernel) rfl, gt_2 81 (by decide +kernel) rfl, gt_1 5 (by decide +kernel) rfl, gt_2 82 (rfl) rfl, by decide +kernel⟩
theorem k_20_71 : vKS GT "java/lang/StringUTF16" 71 y_StringUTF16_getChar prog_23_method_5_code 2 (some .char) 2 := ⟨gt_2 129 (by decide +kernel) rfl, gt_2 130 (by decide +kernel) rfl, gt_1 5 (by decide +kernel) rfl, gt_2 131 (rfl) rfl, by decide +kernel⟩
theorem k_20_111 : vKS GT "java/lang/StringUTF16" 111 y_StringUTF16_putChar prog_23_method_4_code 3 none 3 := ⟨gt_2 68 (by decide +kernel) rfl, gt_2 69 (by decide +kernel) rfl, gt_1 5 (by decide +kernel) rfl, gt_2 70 (rfl) rfl, by decide +kernel⟩
theorem k_20_123 : vKS GT "java/lang/StringUTF16" 123 y_StringUTF16_compress_2 prog_23_method_22_code 7 (some .int) 5 := ⟨gt_2 126 (by decide +kernel) rfl, gt_2 127 (by decide +kernel) rfl, gt_1 5 (by decide +kernel) rfl, gt_2 128 (rfl) rfl, by decide +kernel⟩
theorem k_20_126 : vKS GT "java/lang/StringUTF16" 126 y_Arrays_copyOfRange prog_28_method_132_code 3 (some (.array .byte)) 3 := ⟨gt_2 132 (by decide +kernel) rfl, gt_2 114 (by decide +kernel) rfl, gt_1 16 (by decide +kernel) rfl, gt_2 115 (rfl) rfl, by decide +kernel⟩
theorem k_20_173 : vKS GT "java/lang/StringUTF16" 173 y_StringUTF16_checkBoundsOffCount prog_23_method_94_code 3 none 3 := ⟨gt_2 54 (by decide +kernel) rfl, gt_2 55 (by decide +kernel) rfl, gt_1 5 (by decide +kernel) rfl, gt_2 56 (rfl) rfl, by decide +kernel⟩
theorem k_20_257 : vKS GT "java/lang/StringUTF16" 257 y_StringUTF16_compress prog_23_method_17_code 6 (some (.array .byte)) 3 := ⟨gt_3 13 (by decide +kernel) rfl, gt_2 124 (by decide +kernel) rfl, gt_1 5 (by decide +kernel) rfl, gt_2 125 (rfl) rfl, by decide +kernel⟩
theorem k_20_259 : vKS GT "java/lang/StringUTF16" 259 y_StringUTF16_coderFromArrayLen prog_23_method_15_code 2 (some .byte) 2 := ⟨gt_3 14 (by decide +kernel) rfl, gt_2 134 (by decide +kernel) rfl, gt_1 5 (by decide +kernel) rfl, gt_2 135 (rfl) rfl, by decide +kernel⟩
theorem k_20_263 : vKI GT "java/lang/StringUTF16" 263 y_String_init_3 prog_20_method_151_code 3 2 := ⟨gt_3 16 (by decide +kernel) rfl, gt_3 6 (by decide +kernel) rfl, gt_1 4 (by decide +kernel) rfl, gt_3 7 (rfl) rfl, rfl, by decide +kernel⟩
theorem k_20_380 : vKS GT "java/lang/StringUTF16" 380 y_Arrays_fill prog_28_method_110_code 5 none 4 := ⟨gt_2 166 (by decide +kernel) rfl, gt_2 158 (by decide +kernel) rfl, gt_1 16 (by decide +kernel) rfl, gt_2 159 (rfl) rfl, by decide +kernel⟩
theorem k_20_414 : vKS GT "java/lang/StringUTF16" 414 y_String_checkIndex prog_20_method_155_code 2 none 2 := ⟨gt_2 83 (by decide +kernel) rfl, gt_2 84 (by decide +kernel) rfl, gt_1 4 (by decide +kernel) rfl, gt_2 85 (rfl) rfl, by decide +kernel⟩
theorem k_20_419 : vKS GT "java/lang/StringUTF16" 419 y_String_checkBoundsOffCount prog_20_method_157_code 3 (some .int) 3 := ⟨gt_2 60 (by decide +kernel) rfl, gt_2 61 (by decide +kernel) rfl, gt_1 4 (by decide +kernel) rfl, gt_2 62 (rfl) rfl, by decide +kernel⟩
theorem k_22_1 : vKI GT "java/util/AbstractList" 1 y_AbstractCollection_init prog_25_method_1_code 1 0 := ⟨gt_1 83 (by decide +kernel) rfl, gt_1 84 (by decide +kernel) rfl, gt_1 7 (by decide +kernel) rfl, gt_1 85 (rfl) rfl, rfl, by decide +kernel⟩
theorem k_23_1 : vKI GT "java/util/ArrayList" 1 y_AbstractList_init prog_26_method_1_code 1 0 := ⟨gt_1 80 (by decide +kernel) rfl, gt_1 81 (by decide +kernel) rfl, gt_1 8 (by decide +kernel) rfl, gt_1 82 (rfl) rfl, rfl, by decide +kernel⟩
theorem k_23_66 : vKS GT "java/util/ArrayList" 66 y_Arrays_copyOf_2 prog_28_method_119_code 2 (some (.array (.object "java/lang/Object"))) 2 := ⟨gt_3 115 (by decide +kernel) rfl, gt_3 116 (by decide +kernel) rfl, gt_1 16 (by decide +kernel) rfl, gt_3 117 (rfl) rfl, by decide +kernel⟩
theorem k_23_69 : vKV GT "java/util/ArrayList" 69 y_ArrayList_grow_2 prog_27_method_6_code 4 (some (.array (.object "java/lang/Object"))) 1 := ⟨gt_3 110 (by decide +kernel) rfl, gt_3 112 (by decide +kernel) rfl, gt_p 6 (by decide +kernel) rfl, gt_1 9 (by decide +kernel) rfl, gt_3 113 (rfl) rfl, by decide +kernel⟩
theorem k_23_73 : vKS GT "java/util/ArrayList" 73 y_ArraysSupport_newLength prog_34_method_27_code 4 (some .int) 3 := ⟨gt_3 114 (by decide +kernel) rfl, gt_2 10 (by decide +kernel) rfl, gt_1 14 (by decide +kernel) rfl, gt_2 11 (rfl) rfl, by decide +kernel⟩
theorem k_23_79 : vKS GT "java/util/ArrayList" 79 y_Math_max prog_19_method_65_code 2 (some .int) 2 := ⟨gt_3 142 (by decide +kernel) rfl, gt_2 13 (by decide +kernel) rfl, gt_1 15 (by decide +kernel) rfl, gt_2 14 (rfl) rfl, by decide +kernel⟩
theorem k_23_118 : vKS GT "java/util/ArrayList" 118 y_Objects_checkIndex prog_31_method_17_code 2 (some .int) 2 := ⟨gt_3 52 (by decide +kernel) rfl, gt_3 53 (by decide +kernel) rfl, gt_1 20 (by decide +kernel) rfl, gt_3 54 (rfl) rfl, by decide +kernel⟩
theorem k_23_123 : vKV GT "java/util/ArrayList" 123 y_ArrayList_elementData prog_27_method_18_code 2 (some (.object "java/lang/Object")) 1 := ⟨gt_3 56 (by decide +kernel) rfl, gt_3 57 (by decide +kernel) rfl, gt_3 58 (by decide +kernel) rfl, gt_1 9 (by decide +kernel) rfl, gt_3 59 (rfl) rfl, by decide +kernel⟩
theorem k_23_129 : vKV GT "java/util/ArrayList" 129 y_ArrayList_grow prog_27_method_7_code 1 (some (.array (.object "java/lang/Object"))) 0 := ⟨gt_3 106 (by decide +kernel) rfl, gt_3 108 (by decide +kernel) rfl, gt_p 5 (by decide +kernel) rfl, gt_1 9 (by decide +kernel) rfl, gt_3 109 (rfl) rfl, by decide +kernel⟩
theorem k_23_131 : vKV GT "java/util/ArrayList" 131 y_ArrayList_add_2 prog_27_method_24_code 4 none 3 := ⟨gt_3 102 (by decide +kernel) rfl, gt_3 104 (by decide +kernel) rfl, gt_p 4 (by decide +kernel) rfl, gt_1 9 (by decide +kernel) rfl, gt_3 105 (rfl) rfl, by decide +kernel⟩
theorem k_24_13 : vKS GT "java/util/Arrays" 13 y_Arrays_rangeCheck prog_28_method_30_code 3 none 3 := ⟨gt_2 160 (by decide +kernel) rfl, gt_2 161 (by decide +kernel) rfl, gt_1 16 (by decide +kernel) rfl, gt_2 162 (rfl) rfl, by decide +kernel⟩
theorem k_24_300 : vKS GT "java/util/Arrays" 300 y_Arrays_copyOf_3 prog_28_method_120_code 4 (some (.array (.object "java/lang/Object"))) 3 := ⟨gt_3 136 (by decide +kernel) rfl, gt_3 137 (by decide +kernel) rfl, gt_1 16 (by decide +kernel) rfl, gt_3 138 (rfl) rfl, by decide +kernel⟩
theorem k_24_304 : vKS GT "java/util/Arrays" 304 y_Math_min prog_19_method_69_code 2 (some .int) 2 := ⟨gt_2 30 (by decide +kernel) rfl, gt_2 31 (by decide +kernel) rfl, gt_1 15 (by decide +kernel) rfl, gt_2 32 (rfl) rfl, by decide +kernel⟩
theorem k_24_339 : vKS GT "java/util/Arrays" 339 y_Arrays_copyOfRangeByte prog_28_method_133_code 5 (some (.array .byte)) 3 := ⟨gt_2 116 (by decide +kernel) rfl, gt_2 117 (by decide +kernel) rfl, gt_1 16 (by decide +kernel) rfl, gt_2 118 (rfl) rfl, by decide +kernel⟩
theorem k_24_343 : vKS GT "java/util/Arrays" 343 y_Arrays_checkLength prog_28_method_131_code 2 none 2 := ⟨gt_2 119 (by decide +kernel) rfl, gt_2 120 (by decide +kernel) rfl, gt_1 16 (by decide +kernel) rfl, gt_2 121 (rfl) rfl, by decide +kernel⟩
theorem k_25_105 : vKS GT "java/util/Objects" 105 y_Preconditions_checkIndex prog_35_method_11_code 3 (some .int) 3 := ⟨gt_3 55 (by decide +kernel) rfl, gt_2 87 (by decide +kernel) rfl, gt_1 19 (by decide +kernel) rfl, gt_2 88 (rfl) rfl, by decide +kernel⟩
theorem k_26_194 : vKS GT "jdk/internal/util/ArraysSupport" 194 y_Math_max prog_19_method_65_code 2 (some .int) 2 := ⟨gt_2 12 (by decide +kernel) rfl, gt_2 13 (by decide +kernel) rfl, gt_1 15 (by decide +kernel) rfl, gt_2 14 (rfl) rfl, by decide +kernel⟩
theorem k_26_201 : vKS GT "jdk/internal/util/ArraysSupport" 201 y_ArraysSupport_hugeLength prog_34_method_28_code 3 (some .int) 2 := ⟨gt_2 16 (by decide +kernel) rfl, gt_2 17 (by decide +kernel) rfl, gt_1 14 (by decide +kernel) rfl, gt_2 18 (rfl) rfl, by decide +kernel⟩
end
section
/-- what the law's start gives, for all methods: S0 the start, b the script's cell -/
def vEnv (S0 : State) (b : Nat) (D : va_G) (dT : Nat → ClassId) : Prop := va_K D vcl (vty dT) S0 ∧ (∀ w ∈ lw_tbl, w.before #[Value.ref b] S0 = true) ∧ (Jvm.Cond.and given_1 narrow_1).before #[Value.ref b] S0 = true
end
section
/-! small numbers -/
theorem ix_lt {i : Int32} {n : Nat} (h0 : ¬ i < 0) (h1 : i < nI n) (hn : n < 2 ^ 31) : ∃ j : Nat, j < n ∧ i = nI j := by
  rcases pk_ix i hn with h | h | h
  · exact absurd h h0
  · exact absurd h1 (Int32.not_lt.mpr h)
  · exact h
theorem ix_le1 {i : Int32} {n : Nat} (h0 : ¬ i < 1) (h1 : i ≤ nI n) (hn : n < 2 ^ 30) : ∃ j : Nat, 1 ≤ j ∧ j ≤ n ∧ i = nI j := by
  have h1' := Int32.le_iff_toInt_le.mp h1
  have h0' : ¬ i.toInt < 1 := fun q => h0 (Int32.lt_iff_toInt_lt.mpr q)
  rw [nI_toInt (by omega)] at h1'
  rcases pk_ix i (n := n + 1) (by omega) with h | h | ⟨j, hj, e⟩
  · have := Int32.lt_iff_toInt_lt.mp h
    rw [Int32.toInt_zero] at this
    omega
  · have := Int32.le_iff_toInt_le.mp h
    rw [nI_toInt (by omega)] at this
    omega
  · refine ⟨j, ?_, by omega, e⟩
    rw [e, nI_toInt (by omega)] at h0'
    omega
theorem nI_eqI {a b : Nat} (ha : a < 2 ^ 31) (hb : b < 2 ^ 31) (h : nI a = nI b) : a = b := (nI_eq ha hb).mp h
theorem nI_neI {a b : Nat} (ha : a < 2 ^ 31) (hb : b < 2 ^ 31) (h : ¬ nI a = nI b) : a ≠ b := fun q => h (by rw [q])
end
section
/-! THE TEXT: letters f, places; the first place from k on that is no space, the first that is one, before the end e (n = e - k) -/
def skp (f : Nat → Int32) : Nat → Nat → Nat
  | 0, k => k
  | n + 1, k => if f k = 32 then skp f n (k + 1) else k
def wnd (f : Nat → Int32) : Nat → Nat → Nat
  | 0, k => k
  | n + 1, k => if f k = 32 then k else wnd f n (k + 1)
theorem skp_s {f : Nat → Int32} {e k : Nat} (h : k < e) (hf : f k = 32) : skp f (e - k) k = skp f (e - (k + 1)) (k + 1) := by
  rw [show e - k = (e - (k + 1)) + 1 by omega, skp, if_pos hf]
theorem skp_n {f : Nat → Int32} {e k : Nat} (hf : ¬ f k = 32) : skp f (e - k) k = k := by
  rcases Nat.lt_or_ge k e with h | h
  · rw [show e - k = (e - (k + 1)) + 1 by omega, skp, if_neg hf]
  · rw [show e - k = 0 by omega, skp]
theorem skp_e {f : Nat → Int32} {e k : Nat} (h : e ≤ k) : skp f (e - k) k = k := by
  rw [show e - k = 0 by omega, skp]
theorem wnd_s {f : Nat → Int32} {e k : Nat} (h : k < e) (hf : ¬ f k = 32) : wnd f (e - k) k = wnd f (e - (k + 1)) (k + 1) := by
  rw [show e - k = (e - (k + 1)) + 1 by omega, wnd, if_neg hf]
theorem wnd_n {f : Nat → Int32} {e k : Nat} (hf : f k = 32) : wnd f (e - k) k = k := by
  rcases Nat.lt_or_ge k e with h | h
  · rw [show e - k = (e - (k + 1)) + 1 by omega, wnd, if_pos hf]
  · rw [show e - k = 0 by omega, wnd]
theorem wnd_e {f : Nat → Int32} {e k : Nat} (h : e ≤ k) : wnd f (e - k) k = k := by
  rw [show e - k = 0 by omega, wnd]
theorem skp_in (f : Nat → Int32) (e : Nat) : ∀ n k, n = e - k → k ≤ e → k ≤ skp f n k ∧ skp f n k ≤ e ∧ (skp f n k < e → ¬ f (skp f n k) = 32) ∧ ∀ j, k ≤ j → j < skp f n k → f j = 32 := by
  intro n
  induction n with
  | zero =>
    intro k h1 h2
    refine ⟨Nat.le_refl _, h2, fun h => ?_, fun j h3 h4 => ?_⟩
    · exfalso; simp only [skp] at h; omega
    · exfalso; simp only [skp] at h4; omega
  | succ n ih =>
    intro k h1 h2
    rw [skp]
    split
    · next hf =>
      obtain ⟨a1, a2, a3, a4⟩ := ih (k + 1) (by omega) (by omega)
      refine ⟨by omega, a2, a3, fun j h3 h4 => ?_⟩
      rcases Nat.eq_or_lt_of_le h3 with q | q
      · rw [← q]; exact hf
      · exact a4 j q h4
    · next hf => exact ⟨Nat.le_refl _, h2, fun _ => hf, fun j h3 h4 => by omega⟩
theorem wnd_in (f : Nat → Int32) (e : Nat) : ∀ n k, n = e - k → k ≤ e → k ≤ wnd f n k ∧ wnd f n k ≤ e ∧ (wnd f n k < e → f (wnd f n k) = 32) ∧ ∀ j, k ≤ j → j < wnd f n k → ¬ f j = 32 := by
  intro n
  induction n with
  | zero =>
    intro k h1 h2
    refine ⟨Nat.le_refl _, h2, fun h => ?_, fun j h3 h4 => ?_⟩
    · exfalso; simp only [wnd] at h; omega
    · exfalso; simp only [wnd] at h4; omega
  | succ n ih =>
    intro k h1 h2
    rw [wnd]
    split
    · next hf => exact ⟨Nat.le_refl _, h2, fun _ => hf, fun j h3 h4 => by omega⟩
    · next hf =>
      obtain ⟨a1, a2, a3, a4⟩ := ih (k + 1) (by omega) (by omega)
      refine ⟨by omega, a2, a3, fun j h3 h4 => ?_⟩
      rcases Nat.eq_or_lt_of_le h3 with q | q
      · rw [← q]; exact hf
      · exact a4 j q h4
end
section
/-! WORDS: f the letters -/
def bI (b : Bool) : Int32 := if b then 1 else 0
theorem bI_t : bI true = 1 := rfl
theorem bI_f : bI false = 0 := rfl
theorem bI_0 {b : Bool} (h : bI b = 0) : b = false := by cases b; rfl; exact absurd h (by decide)
theorem bI_n {b : Bool} (h : ¬ bI b = 0) : b = true := by cases b; exact absurd rfl h; rfl
theorem bI_nar (b : Bool) : narrow .boolean (.int (bI b)) = .int (bI b) := by cases b <;> rfl
/-- n letters from F on are a to z -/
def nmB (f : Nat → Int32) (F : Nat) : Nat → Bool
  | 0 => true
  | n + 1 => nmB f F n && (decide (97 ≤ f (F + n)) && decide (f (F + n) ≤ 122))
/-- a NAME -/
def isNm (f : Nat → Int32) (F T : Nat) : Bool := (decide (0 < T - F) && decide (T - F ≤ 8)) && nmB f F (T - F)
/-- n letters from a on and from c on are the same -/
def smB (f : Nat → Int32) (a c : Nat) : Nat → Bool
  | 0 => true
  | n + 1 => smB f a c n && decide (f (a + n) = f (c + n))
def smW (f : Nat → Int32) (a b c d : Nat) : Bool := decide (b - a = d - c) && smB f a c (b - a)
/-- n digits from a on -/
def dgB (f : Nat → Int32) (a : Nat) : Nat → Bool
  | 0 => true
  | n + 1 => dgB f a n && (decide (48 ≤ f (a + n)) && decide (f (a + n) ≤ 57))
/-- their number, as the sum goes -/
def dvL (f : Nat → Int32) (a : Nat) : Nat → Int64
  | 0 => 0
  | n + 1 => dvL f a n * 10 + (f (a + n)).toInt64 - 48
/-- where the digits begin -/
def dg1 (f : Nat → Int32) (F : Nat) : Nat := if f F = 45 then F + 1 else F
/-- a NUMBER -/
def isNu (f : Nat → Int32) (F T : Nat) : Bool := (decide (dg1 f F < T) && decide (T - dg1 f F < 7)) && dgB f (dg1 f F) (T - dg1 f F)
def nuV (f : Nat → Int32) (F T : Nat) : Int64 := if f F = 45 then - dvL f (F + 1) (T - (F + 1)) else dvL f F (T - F)
/-- next word from i on, before the end e -/
def nF (f : Nat → Int32) (e i : Nat) : Nat := skp f (e - i) i
def nT (f : Nat → Int32) (e i : Nat) : Nat := wnd f (e - nF f e i) (nF f e i)
theorem nF_in (f : Nat → Int32) {e i : Nat} (h : i ≤ e) : i ≤ nF f e i ∧ nF f e i ≤ e := ⟨(skp_in f e _ i rfl h).1, (skp_in f e _ i rfl h).2.1⟩
theorem nT_in (f : Nat → Int32) {e i : Nat} (h : i ≤ e) : nF f e i ≤ nT f e i ∧ nT f e i ≤ e := ⟨(wnd_in f e _ _ rfl (nF_in f h).2).1, (wnd_in f e _ _ rfl (nF_in f h).2).2.1⟩
theorem nmB_s {f : Nat → Int32} {F k : Nat} (h : F ≤ k) : nmB f F (k + 1 - F) = (nmB f F (k - F) && (decide (97 ≤ f k) && decide (f k ≤ 122))) := by
  rw [show k + 1 - F = (k - F) + 1 by omega, nmB, show F + (k - F) = k by omega]
theorem dgB_s {f : Nat → Int32} {F k : Nat} (h : F ≤ k) : dgB f F (k + 1 - F) = (dgB f F (k - F) && (decide (48 ≤ f k) && decide (f k ≤ 57))) := by
  rw [show k + 1 - F = (k - F) + 1 by omega, dgB, show F + (k - F) = k by omega]
theorem dvL_s {f : Nat → Int32} {F k : Nat} (h : F ≤ k) : dvL f F (k + 1 - F) = dvL f F (k - F) * 10 + (f k).toInt64 - 48 := by
  rw [show k + 1 - F = (k - F) + 1 by omega, dvL, show F + (k - F) = k by omega]
theorem dgB_mono {f : Nat → Int32} {F : Nat} : ∀ {n m : Nat}, n ≤ m → dgB f F n = false → dgB f F m = false := by
  intro n m h
  induction m with
  | zero => intro h1; rw [show n = 0 by omega] at h1; exact h1
  | succ m ih =>
    intro h1
    rcases Nat.eq_or_lt_of_le h with q | q
    · rw [← q]; exact h1
    · rw [dgB, ih (by omega) h1]; rfl
theorem smB_mono {f : Nat → Int32} {a c : Nat} : ∀ {n m : Nat}, n ≤ m → smB f a c n = false → smB f a c m = false := by
  intro n m h
  induction m with
  | zero => intro h1; rw [show n = 0 by omega] at h1; exact h1
  | succ m ih =>
    intro h1
    rcases Nat.eq_or_lt_of_le h with q | q
    · rw [← q]; exact h1
    · rw [smB, ih (by omega) h1]; rfl
/-- differences of small numbers -/
theorem nI_sub {a b : Nat} (h : b ≤ a) : nI a - nI b = nI (a - b) := pk_sub h
end
section
/-- the first v from v on, of n of them, for which g holds; 0 if none -/
def fnd (g : Nat → Bool) : Nat → Nat → Nat
  | 0, _ => 0
  | n + 1, v => if g v = true then v else fnd g n (v + 1)
theorem fnd_s {g : Nat → Bool} {n k : Nat} (h : k < n) (hg : g k = false) : fnd g (n - k) k = fnd g (n - (k + 1)) (k + 1) := by
  rw [show n - k = (n - (k + 1)) + 1 by omega, fnd, if_neg (by rw [hg]; decide)]
theorem fnd_f {g : Nat → Bool} {n k : Nat} (h : k < n) (hg : g k = true) : fnd g (n - k) k = k := by
  rw [show n - k = (n - (k + 1)) + 1 by omega, fnd, if_pos hg]
theorem fnd_in (g : Nat → Bool) : ∀ n k, fnd g n k = 0 ∨ (k ≤ fnd g n k ∧ fnd g n k < k + n ∧ g (fnd g n k) = true ∧ ∀ j, k ≤ j → j < fnd g n k → g j = false) := by
  intro n
  induction n with
  | zero => intro k; exact Or.inl rfl
  | succ n ih =>
    intro k
    rw [fnd]
    split
    · next h => exact Or.inr ⟨Nat.le_refl _, by omega, h, fun j h1 h2 => by omega⟩
    · next h =>
      rcases ih (k + 1) with q | ⟨q1, q2, q3, q4⟩
      · exact Or.inl q
      · refine Or.inr ⟨by omega, by omega, q3, fun j h1 h2 => ?_⟩
        rcases Nat.eq_or_lt_of_le h1 with z | z
        · rw [← z]; simpa using h
        · exact q4 j z h2
end
section
/-- how many j below n have g -/
def cnt (g : Nat → Bool) : Nat → Nat
  | 0 => 0
  | n + 1 => if g n = true then cnt g n + 1 else cnt g n
theorem cnt_t {g : Nat → Bool} {n : Nat} (h : g n = true) : cnt g (n + 1) = cnt g n + 1 := by rw [cnt, if_pos h]
theorem cnt_f {g : Nat → Bool} {n : Nat} (h : g n = false) : cnt g (n + 1) = cnt g n := by rw [cnt, if_neg (by rw [h]; decide)]
theorem cnt_le (g : Nat → Bool) : ∀ n, cnt g n ≤ n := by
  intro n
  induction n with
  | zero => exact Nat.le_refl _
  | succ n ih => rw [cnt]; split <;> omega
/-- k stands before w -/
def fstB (rk : Nat → Int32) (tm : Nat → Int64) (w : Nat) (own : Int32) (k : Nat) : Bool := if rk w < rk k then decide (own = 0) else decide (rk k = rk w) && (decide (tm k < tm w) || (decide (tm k = tm w) && decide (k < w)))
def befN (rk : Nat → Int32) (tm : Nat → Int64) (ac : Nat → Int32) (n w : Nat) (own : Int32) : Nat := cnt (fun j => fstB rk tm w own (j + 1) && decide (ac (j + 1) = 0)) n
/-- the screen that a key's place leads to -/
def ldS (A : Nat → Nat → Int32) (n q : Nat) : Nat := if A 27 q = 0 then 0 else fnd (fun v => smW (A 6) (A 21 v).toNatClampNeg (A 22 v).toNatClampNeg (A 26 q).toNatClampNeg (A 27 q).toNatClampNeg) n 1
theorem ldS_le (A : Nat → Nat → Int32) (n q : Nat) : ldS A n q ≤ n := by
  unfold ldS
  split
  · exact Nat.zero_le _
  · rcases fnd_in (fun v => smW (A 6) (A 21 v).toNatClampNeg (A 22 v).toNatClampNeg (A 26 q).toNatClampNeg (A 27 q).toNatClampNeg) n 1 with h | ⟨h1, h2, -⟩
    · rw [h]; exact Nat.zero_le _
    · omega
theorem lN_0 : lN 0 = 0 := rfl
end
section
/-- all c below n have g -/
def allB (g : Nat → Bool) : Nat → Bool
  | 0 => true
  | n + 1 => allB g n && g n
/-- the k-th byte, from the highest on -/
def byt (c : Int32) (k : Nat) : Int32 := (c >>> ((24 - 8 * nI k) &&& 31)) &&& 255
/-- a text of n0 signs t0, behind k bytes -/
def sgN (c : Int32) (n0 : Nat) (t0 : Nat → Int32) : Nat → Nat × (Nat → Int32)
  | 0 => (n0, t0)
  | k + 1 => if byt c k = 0 ∨ 127 < byt c k ∨ (sgN c n0 t0 k).1 = 4000 then sgN c n0 t0 k else ((sgN c n0 t0 k).1 + 1, upd (sgN c n0 t0 k).2 (sgN c n0 t0 k).1 (byt c k))
/-- the condition c holds -/
def cnB (A : Nat → Nat → Int32) (B : Nat → Nat → Int64) (c : Nat) : Bool := decide (¬ A 19 (A 42 c).toNatClampNeg = 0) && (if A 43 c = 61 then decide (B 18 (A 42 c).toNatClampNeg = B 44 c) else if A 43 c = 60 then decide (B 18 (A 42 c).toNatClampNeg < B 44 c) else decide (B 44 c < B 18 (A 42 c).toNatClampNeg))
/-- words as numbers -/
def wv (f : Nat → Int32) (F : Nat) : Nat → Int64
  | 0 => 0
  | n + 1 => wv f F n * 128 + (f (F + n)).toInt64
theorem wv_s {f : Nat → Int32} {F k : Nat} (h : F ≤ k) : wv f F (k + 1 - F) = wv f F (k - F) * 128 + (f k).toInt64 := by
  rw [show k + 1 - F = (k - F) + 1 by omega, wv, show F + (k - F) = k by omega]
def tl (q : Nat → Int32) : Nat → Int64
  | 0 => 0
  | n + 1 => if q n = 0 then tl q n else tl q n * 128 + (q n).toInt64
theorem gcd_st (p q : Nat) : Nat.gcd q (p % q) = Nat.gcd p q := by
  rw [Nat.gcd_comm q (p % q), ← Nat.gcd_rec, Nat.gcd_comm]
theorem va_up_id {α : Type} (f : Nat → α) (k : Nat) : va_up f k (f k) = f := funext (fun j => by
  by_cases h : j = k
  · rw [h, va_up_self]
  · rw [va_up_ne _ _ h])
theorem va_up_comm {α : Type} (f : Nat → α) {j k : Nat} (v w : α) (h : j ≠ k) : va_up (va_up f j v) k w = va_up (va_up f k w) j v := funext (fun i => by
  by_cases h1 : i = j
  · subst h1; rw [va_up_ne _ _ h, va_up_self, va_up_self]
  · by_cases h2 : i = k
    · subst h2; rw [va_up_self, va_up_ne _ _ h1, va_up_self]
    · rw [va_up_ne _ _ h2, va_up_ne _ _ h1, va_up_ne _ _ h1, va_up_ne _ _ h2])
end
section
/-! DIGITS of a value of at most six -/
def smL (z : Int64) : Prop := -999999 ≤ z.toInt ∧ z.toInt ≤ 999999
def dgc (m : Nat) : Nat := if m < 10 then 1 else if m < 100 then 2 else if m < 1000 then 3 else if m < 10000 then 4 else if m < 100000 then 5 else 6
def isD (m d : Nat) : Prop := 1 ≤ d ∧ d ≤ 6 ∧ m < 10 ^ d ∧ (d = 1 ∨ 10 ^ d ≤ 10 * m)
theorem isD_dgc {m d : Nat} (h : isD m d) : d = dgc m := by
  obtain ⟨h1, h2, h3, h4⟩ := h
  unfold dgc
  rcases (show d = 1 ∨ d = 2 ∨ d = 3 ∨ d = 4 ∨ d = 5 ∨ d = 6 by omega) with rfl | rfl | rfl | rfl | rfl | rfl
  · rw [if_pos (by omega)]
  · have : ¬ m < 10 := by omega
    rw [if_neg this, if_pos (by omega)]
  · rw [if_neg (by omega), if_neg (by omega), if_pos (by omega)]
  · rw [if_neg (by omega), if_neg (by omega), if_neg (by omega), if_pos (by omega)]
  · rw [if_neg (by omega), if_neg (by omega), if_neg (by omega), if_neg (by omega), if_pos (by omega)]
  · rw [if_neg (by omega), if_neg (by omega), if_neg (by omega), if_neg (by omega), if_neg (by omega)]
/-- the sign at place k of n, of a value -/
def dgF (valid : Int32) (now : Int64) (n k : Nat) : Int32 := if valid = 0 then 45 else if n < (if now < 0 then dgc now.toInt.natAbs + 1 else dgc now.toInt.natAbs) then 35 else if dgc now.toInt.natAbs ≤ n - 1 - k then (if n - 1 - k = dgc now.toInt.natAbs ∧ now < 0 then 45 else 32) else nI (48 + now.toInt.natAbs / 10 ^ (n - 1 - k) % 10)
theorem negL {z : Int64} {m : Nat} (h : z.toInt = -(m : Int)) (hm : m < 2 ^ 62) : -z = lN m := by
  apply Int64.toInt_inj.mp
  rw [Int64.toInt_neg, h, pk_lT (by omega), Int.neg_neg]
  exact Int.bmod_eq_of_le (by omega) (by omega)
theorem posL {z : Int64} {m : Nat} (h : z.toInt = (m : Int)) (hm : m < 2 ^ 62) : z = lN m := by
  apply Int64.toInt_inj.mp
  rw [h, pk_lT (by omega)]
theorem lt0L {z : Int64} : z < 0 ↔ z.toInt < 0 := by
  rw [Int64.lt_iff_toInt_lt, Int64.toInt_zero]
theorem absN {z : Int64} (h : z < 0) (hs : smL z) : -z = lN z.toInt.natAbs := negL (by have := lt0L.mp h; omega) (by have := hs.1; have := lt0L.mp h; omega)
theorem absP {z : Int64} (h : ¬ z < 0) (hs : smL z) : z = lN z.toInt.natAbs := by
  have h9 : ¬ z.toInt < 0 := fun q => h (lt0L.mpr q)
  obtain ⟨s1, s2⟩ := hs
  exact posL (by omega) (by omega)
theorem abs6 {z : Int64} (hs : smL z) : z.toInt.natAbs ≤ 999999 := by obtain ⟨h1, h2⟩ := hs; omega
theorem p10_6 {d : Nat} (h : d ≤ 6) : 10 ^ d ≤ 1000000 := Nat.pow_le_pow_right (n := 10) (by decide) h
end
section
/-! PARTS of a screen, and the WARNING at hand -/
def scB (A : Nat → Nat → Int32) (lang : Int32) (p : Nat) : Bool := decide (A 30 p = 1) && (decide (lang = 1) && !(decide ((A 38 p).toNatClampNeg - (A 37 p).toNatClampNeg = 1) && decide (A 6 (A 37 p).toNatClampNeg = 45)))
def wdV (A : Nat → Nat → Int32) (lang : Int32) (p k : Nat) : Int32 := if scB A lang p = true then (if k < (A 38 p).toNatClampNeg - (A 37 p).toNatClampNeg then A 6 ((A 37 p).toNatClampNeg + k) else -1) else (if k < (A 36 p).toNatClampNeg - (A 35 p).toNatClampNeg then A 6 ((A 35 p).toNatClampNeg + k) else -1)
/-- the sign of part p at a row and a column, -1 if it has none there -/
def ptV (A : Nat → Nat → Int32) (B : Nat → Nat → Int64) (pr lang : Int32) (nc p : Nat) (row : Int32) (col : Nat) : Int32 :=
  if (A 29 p = pr ∧ A 31 p = row ∧ (A 32 p).toNatClampNeg ≤ col) ∧ allB (fun c => decide (¬ A 41 c = nI p) || cnB A B c) nc = true then
    (if A 30 p = 2 then (if col - (A 32 p).toNatClampNeg < (A 34 p).toNatClampNeg then dgF (A 19 (A 33 p).toNatClampNeg) (B 18 (A 33 p).toNatClampNeg) (A 34 p).toNatClampNeg (col - (A 32 p).toNatClampNeg) else -1) else wdV A lang p (col - (A 32 p).toNatClampNeg)) else -1
def ptOK (A : Nat → Nat → Int32) (B : Nat → Nat → Int64) (p : Nat) : Prop := (∃ c0, A 32 p = nI c0 ∧ c0 ≤ 999999) ∧ (A 30 p = 2 → ∃ w v, A 34 p = nI w ∧ 1 ≤ w ∧ w ≤ 9 ∧ A 33 p = nI v ∧ v ≤ 40 ∧ smL (B 18 v)) ∧ (¬ A 30 p = 2 → ∃ q1 q2 q3 q4, A 35 p = nI q1 ∧ A 36 p = nI q2 ∧ q1 ≤ q2 ∧ q2 ≤ 4000 ∧ A 37 p = nI q3 ∧ A 38 p = nI q4 ∧ q3 ≤ q4 ∧ q4 ≤ 4000)
/-- the last part that has a sign there -/
def scn (g : Nat → Int32) : Nat → Int32
  | 0 => 32
  | n + 1 => if g n < 0 then scn g n else g n
theorem cnt_ext {g g' : Nat → Bool} : ∀ n, (∀ j, j < n → g j = g' j) → cnt g n = cnt g' n := by
  intro n
  induction n with
  | zero => intro _; rfl
  | succ n ih => intro h; rw [cnt, cnt, h n (by omega), ih (fun j hj => h j (by omega))]
theorem cnt_tail {g : Nat → Bool} {m : Nat} : ∀ n, m ≤ n → (∀ j, m ≤ j → j < n → g j = false) → cnt g n = cnt g m := by
  intro n
  induction n with
  | zero => intro h _; rw [show m = 0 by omega]
  | succ n ih =>
    intro h h1
    rcases Nat.eq_or_lt_of_le h with q | q
    · rw [q]
    · rw [cnt_f (h1 n (by omega) (by omega))]; exact ih (by omega) (fun j a b => h1 j a (by omega))
theorem cnt_hit {g : Nat → Bool} {t : Nat} : ∀ n, t < cnt g n → ∃ j, j < n ∧ g j = true ∧ cnt g j = t := by
  intro n
  induction n with
  | zero => intro h; exact absurd h (Nat.not_lt_zero _)
  | succ n ih =>
    intro h
    rcases Nat.lt_or_ge t (cnt g n) with q | q
    · obtain ⟨j, a, b⟩ := ih q; exact ⟨j, by omega, b⟩
    · cases hg : g n with
      | false => rw [cnt_f hg] at h; omega
      | true => rw [cnt_t hg] at h; exact ⟨n, by omega, hg, by omega⟩
theorem cnt_pos {g : Nat → Bool} {j : Nat} : ∀ n, j < n → g j = true → 0 < cnt g n := by
  intro n
  induction n with
  | zero => intro h; exact absurd h (Nat.not_lt_zero _)
  | succ n ih =>
    intro h hg
    rcases Nat.eq_or_lt_of_le (Nat.le_of_lt_succ h) with q | q
    · rw [q] at hg; rw [cnt_t hg]; omega
    · rw [cnt]; split
      · omega
      · exact ih q hg
/-- those of the same rank that stand before w, when times don't fall -/
theorem befN_own {rk : Nat → Int32} {tm : Nat → Int64} {ac : Nat → Int32} {n w : Nat} (hw1 : 1 ≤ w) (hw2 : w ≤ n) (hm : ∀ i j, 1 ≤ i → i ≤ j → j ≤ n → tm i ≤ tm j) : befN rk tm ac n w 1 = cnt (fun j => decide (ac (j + 1) = 0) && decide (rk (j + 1) = rk w)) (w - 1) := by
  unfold befN
  rw [cnt_tail (m := w - 1) n (by omega) (fun j h1 h2 => ?_)]
  · refine cnt_ext _ (fun j hj => ?_)
    show (fstB rk tm w 1 (j + 1) && decide (ac (j + 1) = 0)) = _
    rw [Bool.and_comm]
    congr 1
    unfold fstB
    split
    · next h => rw [decide_eq_false (by decide), decide_eq_false (fun e => by rw [e] at h; exact Int32.lt_irrefl h)]
    · have h3 : tm (j + 1) ≤ tm w := hm _ _ (by omega) (by omega) hw2
      have h4 : (decide (tm (j + 1) < tm w) || (decide (tm (j + 1) = tm w) && decide (j + 1 < w))) = true := by
        rw [decide_eq_true (show j + 1 < w by omega), Bool.and_true]
        rcases Int64.lt_or_eq_of_le h3 with q | q
        · rw [decide_eq_true q]; rfl
        · rw [decide_eq_true q, Bool.or_true]
      rw [h4, Bool.and_true]
  · show (fstB rk tm w 1 (j + 1) && decide (ac (j + 1) = 0)) = false
    have h3 : tm w ≤ tm (j + 1) := hm _ _ hw1 (by omega) (by omega)
    have h4 : fstB rk tm w 1 (j + 1) = false := by
      unfold fstB
      split
      · exact decide_eq_false (by decide)
      · rw [decide_eq_false (Int64.not_lt.mpr h3), decide_eq_false (show ¬ j + 1 < w by omega), Bool.and_false, Bool.or_false, Bool.and_false]
    rw [h4]; rfl
end
section
/-! LINES: what the reference asks of the words from i on, before the end e -/
def q7 (p0 p1 p2 p3 p4 p5 p6 : Int32) (k : Nat) : Int32 := if k = 0 then p0 else if k = 1 then p1 else if k = 2 then p2 else if k = 3 then p3 else if k = 4 then p4 else if k = 5 then p5 else p6
def cNm (f : Nat → Int32) (e i : Nat) : Bool := decide (nF f e i < nT f e i) && isNm f (nF f e i) (nT f e i)
def cNu (f : Nat → Int32) (e i : Nat) (lo hi : Int64) : Bool := decide (nF f e i < nT f e i) && (isNu f (nF f e i) (nT f e i) && (decide (lo ≤ nuV f (nF f e i) (nT f e i)) && decide (nuV f (nF f e i) (nT f e i) ≤ hi)))
/-- the number of the word there -/
def vNu (f : Nat → Int32) (e i : Nat) : Int64 := nuV f (nF f e i) (nT f e i)
def cEnd (f : Nat → Int32) (e i : Nat) : Bool := decide (¬ nF f e i < nT f e i)
/-- the value, the screen of that name -/
def fV (A : Nat → Nat → Int32) (n F T : Nat) : Nat := fnd (fun v => smW (A 6) (A 13 v).toNatClampNeg (A 14 v).toNatClampNeg F T) n 1
def fS (A : Nat → Nat → Int32) (n F T : Nat) : Nat := fnd (fun v => smW (A 6) (A 21 v).toNatClampNeg (A 22 v).toNatClampNeg F T) n 1
/-- what no line changes -/
def lKeep (A A' : Nat → Nat → Int32) (B B' : Nat → Nat → Int64) : Prop := (∀ k, (k = 4 ∨ k = 6 ∨ k = 51 ∨ k = 53 ∨ k = 58) → A' k = A k) ∧ B' 52 = B 52
theorem lKeep.rf {A : Nat → Nat → Int32} {B : Nat → Nat → Int64} : lKeep A A B B := ⟨fun _ _ => rfl, rfl⟩
/-- k places from q on made 0 -/
def kz (f : Nat → Int32) (q : Nat) : Nat → (Nat → Int32)
  | 0 => f
  | k + 1 => upd (kz f q k) (q + k) 0
/-- a screen's line is right -/
def okSc (A : Nat → Nat → Int32) (e i ns : Nat) : Bool := cNm (A 6) e i && (decide (fS A ns (nF (A 6) e i) (nT (A 6) e i) = 0) && (decide (ns ≠ 30) && cEnd (A 6) e (nT (A 6) e i)))
/-- a key's line -/
def okKe (A : Nat → Nat → Int32) (e i ns : Nat) : Bool := cNu (A 6) e i 1 9 && (cNm (A 6) e (nT (A 6) e i) && (cEnd (A 6) e (nT (A 6) e (nT (A 6) e i)) && decide (A 27 (10 * ns + (vNu (A 6) e i).toInt32.toNatClampNeg) ≤ 0)))
/-- an if line -/
def okIf (A : Nat → Nat → Int32) (e i nv : Nat) : Bool := cNm (A 6) e i && (decide (fV A nv (nF (A 6) e i) (nT (A 6) e i) ≠ 0) && ((decide (nF (A 6) e (nT (A 6) e i) < nT (A 6) e (nT (A 6) e i)) && decide (nT (A 6) e (nT (A 6) e i) - nF (A 6) e (nT (A 6) e i) = 1)) && ((decide (A 6 (nF (A 6) e (nT (A 6) e i)) = 61) || (decide (A 6 (nF (A 6) e (nT (A 6) e i)) = 60) || decide (A 6 (nF (A 6) e (nT (A 6) e i)) = 62))) && (cNu (A 6) e (nT (A 6) e (nT (A 6) e i)) (-999999) 999999 && cEnd (A 6) e (nT (A 6) e (nT (A 6) e (nT (A 6) e i)))))))
theorem fnd_le (g : Nat → Bool) (n k : Nat) : fnd g n k ≤ k + n := by
  rcases fnd_in g n k with h | ⟨-, h, -⟩
  · rw [h]; exact Nat.zero_le _
  · omega
theorem l64_in {z : Int64} {lo hi : Nat} (h1 : lN lo ≤ z) (h2 : z ≤ lN hi) (hl : lo < 2 ^ 62) (hh : hi < 2 ^ 62) : ∃ K : Nat, lo ≤ K ∧ K ≤ hi ∧ z = lN K := by
  have a1 := Int64.le_iff_toInt_le.mp h1
  have a2 := Int64.le_iff_toInt_le.mp h2
  rw [pk_lT (by omega)] at a1 a2
  refine ⟨z.toInt.toNat, by omega, by omega, posL (by omega) (by omega)⟩
theorem cNu_in {f : Nat → Int32} {e i : Nat} {lo hi : Int64} (h : cNu f e i lo hi = true) : lo ≤ vNu f e i ∧ vNu f e i ≤ hi := by
  unfold cNu at h
  rw [Bool.and_eq_true, Bool.and_eq_true, Bool.and_eq_true] at h
  exact ⟨of_decide_eq_true h.2.2.1, of_decide_eq_true h.2.2.2⟩
end
section
/-! THE REFERENCE: its fields by their numbers: x the ints, y the longs, ar the arrays' addresses; A, B what the arrays hold -/
def mf (ar : Nat → Nat) (x : Nat → Int32) (y : Nat → Int64) : List Value := [.int (x 0), .int (x 1), .int (x 2), .int (x 3), .ref (ar 4), .int (x 5), .ref (ar 6), .int (x 7), .int (x 8), .int (x 9), .int (x 10), .long (y 11), .int (x 12), .ref (ar 13), .ref (ar 14), .ref (ar 15), .ref (ar 16), .ref (ar 17), .ref (ar 18), .ref (ar 19), .int (x 20), .ref (ar 21), .ref (ar 22), .ref (ar 23), .ref (ar 24), .ref (ar 25), .ref (ar 26), .ref (ar 27), .int (x 28), .ref (ar 29), .ref (ar 30), .ref (ar 31), .ref (ar 32), .ref (ar 33), .ref (ar 34), .ref (ar 35), .ref (ar 36), .ref (ar 37), .ref (ar 38), .int (x 39), .ref (ar 40), .ref (ar 41), .ref (ar 42), .ref (ar 43), .ref (ar 44), .int (x 45), .int (x 46), .long (y 47), .int (x 48), .ref (ar 49), .int (x 50), .ref (ar 51), .ref (ar 52), .ref (ar 53), .long (y 54), .int (x 55), .long (y 56), .long (y 57), .ref (ar 58)]
def mAr : Nat → Bool
  | 4 => true
  | 6 => true
  | 13 => true
  | 14 => true
  | 15 => true
  | 16 => true
  | 17 => true
  | 18 => true
  | 19 => true
  | 21 => true
  | 22 => true
  | 23 => true
  | 24 => true
  | 25 => true
  | 26 => true
  | 27 => true
  | 29 => true
  | 30 => true
  | 31 => true
  | 32 => true
  | 33 => true
  | 34 => true
  | 35 => true
  | 36 => true
  | 37 => true
  | 38 => true
  | 40 => true
  | 41 => true
  | 42 => true
  | 43 => true
  | 44 => true
  | 49 => true
  | 51 => true
  | 52 => true
  | 53 => true
  | 58 => true
  | _ => false
def mTy : Nat → Nat
  | 15 => 3
  | 16 => 1
  | 17 => 1
  | 18 => 1
  | 19 => 3
  | 24 => 1
  | 25 => 3
  | 44 => 1
  | 52 => 1
  | 53 => 3
  | 58 => 3
  | _ => 0
def mLen : Nat → Nat
  | 4 => 4000
  | 6 => 4000
  | 13 => 41
  | 14 => 41
  | 15 => 41
  | 16 => 41
  | 17 => 41
  | 18 => 41
  | 19 => 41
  | 21 => 31
  | 22 => 31
  | 23 => 31
  | 24 => 31
  | 25 => 31
  | 26 => 310
  | 27 => 310
  | 29 => 512
  | 30 => 512
  | 31 => 512
  | 32 => 512
  | 33 => 512
  | 34 => 512
  | 35 => 512
  | 36 => 512
  | 37 => 512
  | 38 => 512
  | 40 => 512
  | 41 => 512
  | 42 => 512
  | 43 => 512
  | 44 => 512
  | 49 => 30
  | 51 => 201
  | 52 => 201
  | 53 => 201
  | 58 => 16
  | _ => 0
def mcell (dT : Nat → ClassId) (k : Nat) (f : Nat → Int32) (g : Nat → Int64) : va_E := match mTy k with
  | 1 => .inl (dT 1, mLen k, .inr (.inl g))
  | t => .inl (dT t, mLen k, .inl f)
theorem mcell_inl (dT : Nat → ClassId) (k : Nat) (f : Nat → Int32) (g : Nat → Int64) : ∃ z, mcell dT k f g = .inl z := by
  unfold mcell
  split <;> exact ⟨_, rfl⟩
theorem mf_len (ar : Nat → Nat) (x : Nat → Int32) (y : Nat → Int64) : (mf ar x y).length = 59 := rfl
def MV (S0 : State) (dT : Nat → ClassId) (h : vH) (a : Nat) (ar : Nat → Nat) (x : Nat → Int32) (y : Nat → Int64) (A : Nat → Nat → Int32) (B : Nat → Nat → Int64) : Prop :=
  h a = some (.inr (13, mf ar x y)) ∧ (∀ k, mAr k = true → h (ar k) = some (mcell dT k (A k) (B k))) ∧ (∀ j k, mAr j = true → mAr k = true → ar j = ar k → j = k) ∧ S0.heap.size ≤ a ∧ ∀ k, mAr k = true → S0.heap.size ≤ ar k
/-- outside the reference nothing has changed -/
def vfr (a : Nat) (ar : Nat → Nat) (h h' : vH) : Prop := ∀ b, b ≠ a → (∀ k, mAr k = true → b ≠ ar k) → h' b = h b
/-- since h0 -/
def MR (S0 : State) (dT : Nat → ClassId) (h0 h : vH) (a : Nat) (ar : Nat → Nat) (x : Nat → Int32) (y : Nat → Int64) (A : Nat → Nat → Int32) (B : Nat → Nat → Int64) : Prop := MV S0 dT h a ar x y A B ∧ vfr a ar h0 h
theorem MR.of {S0 : State} {dT : Nat → ClassId} {h : vH} {a : Nat} {ar : Nat → Nat} {x : Nat → Int32} {y : Nat → Int64} {A : Nat → Nat → Int32} {B : Nat → Nat → Int64} (M : MV S0 dT h a ar x y A B) : MR S0 dT h h a ar x y A B := ⟨M, fun _ _ _ => rfl⟩
theorem MR.trans {S0 : State} {dT : Nat → ClassId} {h0 h h' : vH} {a : Nat} {ar : Nat → Nat} {x x' : Nat → Int32} {y y' : Nat → Int64} {A A' : Nat → Nat → Int32} {B B' : Nat → Nat → Int64} (M : MR S0 dT h0 h a ar x y A B) (M' : MR S0 dT h h' a ar x' y' A' B') : MR S0 dT h0 h' a ar x' y' A' B' := ⟨M'.1, fun b h1 h2 => (M'.2 b h1 h2).trans (M.2 b h1 h2)⟩
theorem MV.na {S0 : State} {dT : Nat → ClassId} {h : vH} {a : Nat} {ar : Nat → Nat} {x : Nat → Int32} {y : Nat → Int64} {A : Nat → Nat → Int32} {B : Nat → Nat → Int64} (M : MV S0 dT h a ar x y A B) {k : Nat} (hk : mAr k = true) : ar k ≠ a := by
  intro q
  have h1 := M.2.1 k hk
  obtain ⟨z, hz⟩ := mcell_inl dT k (A k) (B k)
  rw [q, M.1, hz] at h1
  cases h1
theorem MR.put {S0 : State} {dT : Nat → ClassId} {h0 h : vH} {a : Nat} {ar : Nat → Nat} {x x' : Nat → Int32} {y y' : Nat → Int64} {A : Nat → Nat → Int32} {B : Nat → Nat → Int64} (M : MR S0 dT h0 h a ar x y A B) {k : Nat} {v : Value} (e : (mf ar x y).set k v = mf ar x' y') : MR S0 dT h0 (vup h a (.inr (13, (mf ar x y).set k v))) a ar x' y' A B := by
  refine ⟨⟨by rw [vup_s, e], fun j hj => ?_, M.1.2.2⟩, fun b h1 h2 => ?_⟩
  · rw [vup_n h _ (M.1.na hj)]; exact M.1.2.1 j hj
  · rw [vup_n h _ h1]; exact M.2 b h1 h2
theorem MR.ari {S0 : State} {dT : Nat → ClassId} {h0 h : vH} {a : Nat} {ar : Nat → Nat} {x : Nat → Int32} {y : Nat → Int64} {A : Nat → Nat → Int32} {B : Nat → Nat → Int64} (M : MR S0 dT h0 h a ar x y A B) {k : Nat} (hk : mAr k = true) {f : Nat → Int32} {z : va_E} (e : mcell dT k f (B k) = z) : MR S0 dT h0 (vup h (ar k) z) a ar x y (va_up A k f) B := by
  refine ⟨⟨?_, fun j hj => ?_, M.1.2.2⟩, fun b h1 h2 => ?_⟩
  · rw [vup_n h _ (Ne.symm (M.1.na hk))]; exact M.1.1
  · by_cases hjk : j = k
    · subst hjk
      rw [vup_s, va_up_self, e]
    · rw [vup_n h _ (fun q => hjk (M.1.2.2.1 j k hj hk q)), va_up_ne _ _ hjk]; exact M.1.2.1 j hj
  · rw [vup_n h _ (h2 k hk)]; exact M.2 b h1 h2
theorem MR.arl {S0 : State} {dT : Nat → ClassId} {h0 h : vH} {a : Nat} {ar : Nat → Nat} {x : Nat → Int32} {y : Nat → Int64} {A : Nat → Nat → Int32} {B : Nat → Nat → Int64} (M : MR S0 dT h0 h a ar x y A B) {k : Nat} (hk : mAr k = true) {g : Nat → Int64} {z : va_E} (e : mcell dT k (A k) g = z) : MR S0 dT h0 (vup h (ar k) z) a ar x y A (va_up B k g) := by
  refine ⟨⟨?_, fun j hj => ?_, M.1.2.2⟩, fun b h1 h2 => ?_⟩
  · rw [vup_n h _ (Ne.symm (M.1.na hk))]; exact M.1.1
  · by_cases hjk : j = k
    · subst hjk
      rw [vup_s, va_up_self, e]
    · rw [vup_n h _ (fun q => hjk (M.1.2.2.1 j k hj hk q)), va_up_ne _ _ hjk]; exact M.1.2.1 j hj
  · rw [vup_n h _ (h2 k hk)]; exact M.2 b h1 h2
section MROWS
variable {p : Program} {l : Launch} {e : Env} {R : Room} {s : State} {m : MethodId} {args : Array Value} {below : List Frame} {meth : Method} {c : Code} {H : Heap} {locs : List Loc} {cells slots : Nat} {Q : State → Prop}
variable {cc : ByteArray} {pc nL : Nat} {ls : Array Slot} {rest : List Value} {D : va_G} {dT : Nat → ClassId} {S0 : State} {h h0 : vH} {a : Nat} {ar : Nat → Nat} {x x' : Nat → Int32} {y y' : Nat → Int64} {A : Nat → Nat → Int32} {B : Nat → Nat → Int64}
theorem mm_get (C : vC p s m args c cc nL "MenuScreensModel" GT D vcl (vty dT)) (X : vO S0 D vcl h s H locs) (M : MR S0 dT h0 h a ar x y A B) (k : Nat) {index : Nat} (hf : vFl GT vcl "MenuScreensModel" index 13 k) (v : Value) (hv : (mf ar x y)[k]? = some v) (hdg : decode cc pc = .ok (.getfield index, 3))
    (kk : W p l e R s m args below meth c H locs cells slots Q (F0 m (pc + 3) ls (v :: rest))) : W p l e R s m args below meth c H locs cells slots Q (F0 m pc ls (.ref a :: rest)) := mv_get C X M.1.1 k hf hv hdg kk
theorem mm_put (C : vC p s m args c cc nL "MenuScreensModel" GT D vcl (vty dT)) (X : vO S0 D vcl h s H locs) (M : MR S0 dT h0 h a ar x y A B) (k : Nat) {index : Nat} {ty : FieldType} {v : Value} (hf : vFp GT vcl "MenuScreensModel" index 13 k ty false) (x' : Nat → Int32) (y' : Nat → Int64) (hs : (mf ar x y).set k v = mf ar x' y') (hn : narrow ty v = v) (hfit : fits ty v = true) (hk : k < 59) (hdg : decode cc pc = .ok (.putfield index, 3))
    (kk : ∀ (h1 : vH) (H1 : Heap) (locs1 : List Loc), vO S0 D vcl h1 s H1 locs1 → MR S0 dT h0 h1 a ar x' y' A B → W p l e R s m args below meth c H1 locs1 cells slots Q (F0 m (pc + 3) ls rest)) : W p l e R s m args below meth c H locs cells slots Q (F0 m pc ls (v :: .ref a :: rest)) :=
  mv_put C X M.1.1 M.1.2.2.2.1 k hf hn hfit hk hdg (fun H1 l1 X1 => kk _ H1 l1 X1 (M.put hs))
theorem mm_iald (C : vC p s m args c cc nL "MenuScreensModel" GT D vcl (vty dT)) (X : vO S0 D vcl h s H locs) (M : MR S0 dT h0 h a ar x y A B) (k N : Nat) (hk : mAr k = true) (f : Nat → Int32) (hc : mcell dT k (A k) (B k) = .inl (dT 0, N, .inl f)) (hN : N < 2 ^ 31) {i : Int32} (j : Nat) (hi : i = nI j) (hj : j < N) (hdg : decode cc pc = .ok (.iaload, 1))
    (kk : W p l e R s m args below meth c H locs cells slots Q (F0 m (pc + 1) ls (.int (f j) :: rest))) : W p l e R s m args below meth c H locs cells slots Q (F0 m pc ls (.int i :: .ref (ar k) :: rest)) := mv_iald C X ((M.1.2.1 k hk).trans (congrArg some hc)) 0 rfl j hi hj hN hdg kk
theorem mm_zald (C : vC p s m args c cc nL "MenuScreensModel" GT D vcl (vty dT)) (X : vO S0 D vcl h s H locs) (M : MR S0 dT h0 h a ar x y A B) (k N : Nat) (hk : mAr k = true) (f : Nat → Int32) (hc : mcell dT k (A k) (B k) = .inl (dT 3, N, .inl f)) (hN : N < 2 ^ 31) {i : Int32} (j : Nat) (hi : i = nI j) (hj : j < N) (hdg : decode cc pc = .ok (.baload, 1))
    (kk : W p l e R s m args below meth c H locs cells slots Q (F0 m (pc + 1) ls (.int (f j) :: rest))) : W p l e R s m args below meth c H locs cells slots Q (F0 m pc ls (.int i :: .ref (ar k) :: rest)) := mv_zald C X ((M.1.2.1 k hk).trans (congrArg some hc)) 3 rfl j hi hj hN hdg kk
theorem mm_lald (C : vC p s m args c cc nL "MenuScreensModel" GT D vcl (vty dT)) (X : vO S0 D vcl h s H locs) (M : MR S0 dT h0 h a ar x y A B) (k N : Nat) (hk : mAr k = true) (f : Nat → Int64) (hc : mcell dT k (A k) (B k) = .inl (dT 1, N, .inr (.inl f))) (hN : N < 2 ^ 31) {i : Int32} (j : Nat) (hi : i = nI j) (hj : j < N) (hdg : decode cc pc = .ok (.laload, 1))
    (kk : W p l e R s m args below meth c H locs cells slots Q (F0 m (pc + 1) ls (.long (f j) :: rest))) : W p l e R s m args below meth c H locs cells slots Q (F0 m pc ls (.int i :: .ref (ar k) :: rest)) := mv_lald C X ((M.1.2.1 k hk).trans (congrArg some hc)) 1 rfl j hi hj hN hdg kk
theorem mm_iast (C : vC p s m args c cc nL "MenuScreensModel" GT D vcl (vty dT)) (X : vO S0 D vcl h s H locs) (M : MR S0 dT h0 h a ar x y A B) (k N : Nat) (hk : mAr k = true) (f : Nat → Int32) (hc : mcell dT k (A k) (B k) = .inl (dT 0, N, .inl f)) (hc2 : ∀ f', mcell dT k f' (B k) = .inl (dT 0, N, .inl f')) (hN : N < 2 ^ 31) {i v : Int32} (j : Nat) (hi : i = nI j) (hj : j < N) (hdg : decode cc pc = .ok (.iastore, 1))
    (kk : ∀ (h1 : vH) (H1 : Heap) (locs1 : List Loc), vO S0 D vcl h1 s H1 locs1 → MR S0 dT h0 h1 a ar x y (va_up A k (upd f j v)) B → W p l e R s m args below meth c H1 locs1 cells slots Q (F0 m (pc + 1) ls rest)) : W p l e R s m args below meth c H locs cells slots Q (F0 m pc ls (.int v :: .int i :: .ref (ar k) :: rest)) :=
  mv_iast C X ((M.1.2.1 k hk).trans (congrArg some hc)) (M.1.2.2.2.2 k hk) 0 rfl j hi hj hN hdg (fun H1 l1 X1 => kk _ H1 l1 X1 (M.ari hk (hc2 _)))
theorem mm_zast (C : vC p s m args c cc nL "MenuScreensModel" GT D vcl (vty dT)) (X : vO S0 D vcl h s H locs) (M : MR S0 dT h0 h a ar x y A B) (k N : Nat) (hk : mAr k = true) (f : Nat → Int32) (hc : mcell dT k (A k) (B k) = .inl (dT 3, N, .inl f)) (hc2 : ∀ f', mcell dT k f' (B k) = .inl (dT 3, N, .inl f')) (hN : N < 2 ^ 31) {i v : Int32} (hv : vp_nar .boolean v = v) (j : Nat) (hi : i = nI j) (hj : j < N) (hdg : decode cc pc = .ok (.bastore, 1))
    (kk : ∀ (h1 : vH) (H1 : Heap) (locs1 : List Loc), vO S0 D vcl h1 s H1 locs1 → MR S0 dT h0 h1 a ar x y (va_up A k (upd f j v)) B → W p l e R s m args below meth c H1 locs1 cells slots Q (F0 m (pc + 1) ls rest)) : W p l e R s m args below meth c H locs cells slots Q (F0 m pc ls (.int v :: .int i :: .ref (ar k) :: rest)) :=
  mv_zast C X ((M.1.2.1 k hk).trans (congrArg some hc)) (M.1.2.2.2.2 k hk) 3 rfl hv j hi hj hN hdg (fun H1 l1 X1 => kk _ H1 l1 X1 (M.ari hk (hc2 _)))
theorem mm_last (C : vC p s m args c cc nL "MenuScreensModel" GT D vcl (vty dT)) (X : vO S0 D vcl h s H locs) (M : MR S0 dT h0 h a ar x y A B) (k N : Nat) (hk : mAr k = true) (f : Nat → Int64) (hc : mcell dT k (A k) (B k) = .inl (dT 1, N, .inr (.inl f))) (hc2 : ∀ f', mcell dT k (A k) f' = .inl (dT 1, N, .inr (.inl f'))) (hN : N < 2 ^ 31) {i : Int32} {v : Int64} (j : Nat) (hi : i = nI j) (hj : j < N) (hdg : decode cc pc = .ok (.lastore, 1))
    (kk : ∀ (h1 : vH) (H1 : Heap) (locs1 : List Loc), vO S0 D vcl h1 s H1 locs1 → MR S0 dT h0 h1 a ar x y A (va_up B k (vp_updL f j v)) → W p l e R s m args below meth c H1 locs1 cells slots Q (F0 m (pc + 1) ls rest)) : W p l e R s m args below meth c H locs cells slots Q (F0 m pc ls (.long v :: .int i :: .ref (ar k) :: rest)) :=
  mv_last C X ((M.1.2.1 k hk).trans (congrArg some hc)) (M.1.2.2.2.2 k hk) 1 rfl j hi hj hN hdg (fun H1 l1 X1 => kk _ H1 l1 X1 (M.arl hk (hc2 _)))
end MROWS
end
section
theorem d_MenuScreensModel_language_0 : decode prog_13_method_33_code 0 = .ok (.aload_n 0, 1) := by decide +kernel
theorem d_MenuScreensModel_language_1 : decode prog_13_method_33_code 1 = .ok (.iconst 0, 1) := by decide +kernel
theorem d_MenuScreensModel_language_2 : decode prog_13_method_33_code 2 = .ok (.putfield 127, 3) := by decide +kernel
theorem d_MenuScreensModel_language_5 : decode prog_13_method_33_code 5 = .ok (.iload_n 1, 1) := by decide +kernel
theorem d_MenuScreensModel_language_6 : decode prog_13_method_33_code 6 = .ok (.ifCond .lt 8, 3) := by decide +kernel
theorem d_MenuScreensModel_language_9 : decode prog_13_method_33_code 9 = .ok (.iload_n 1, 1) := by decide +kernel
theorem d_MenuScreensModel_language_10 : decode prog_13_method_33_code 10 = .ok (.iconst 1, 1) := by decide +kernel
theorem d_MenuScreensModel_language_11 : decode prog_13_method_33_code 11 = .ok (.if_icmp .le 6, 3) := by decide +kernel
theorem d_MenuScreensModel_language_14 : decode prog_13_method_33_code 14 = .ok (.bipush (-2), 2) := by decide +kernel
theorem d_MenuScreensModel_language_16 : decode prog_13_method_33_code 16 = .ok (.ireturn, 1) := by decide +kernel
theorem d_MenuScreensModel_language_17 : decode prog_13_method_33_code 17 = .ok (.aload_n 0, 1) := by decide +kernel
theorem d_MenuScreensModel_language_18 : decode prog_13_method_33_code 18 = .ok (.getfield 264, 3) := by decide +kernel
theorem d_MenuScreensModel_language_21 : decode prog_13_method_33_code 21 = .ok (.istore_n 2, 1) := by decide +kernel
theorem d_MenuScreensModel_language_22 : decode prog_13_method_33_code 22 = .ok (.aload_n 0, 1) := by decide +kernel
theorem d_MenuScreensModel_language_23 : decode prog_13_method_33_code 23 = .ok (.iload_n 1, 1) := by decide +kernel
theorem d_MenuScreensModel_language_24 : decode prog_13_method_33_code 24 = .ok (.putfield 264, 3) := by decide +kernel
theorem d_MenuScreensModel_language_27 : decode prog_13_method_33_code 27 = .ok (.iload_n 2, 1) := by decide +kernel
theorem d_MenuScreensModel_language_28 : decode prog_13_method_33_code 28 = .ok (.ireturn, 1) := by decide +kernel
set_option maxRecDepth 100000 in
set_option maxHeartbeats 4000000 in
theorem cm_MenuScreensModel_language {l : Launch} {S0 : State} {b : Nat} {D : va_G} {dT : Nat → ClassId} (hE : vEnv S0 b D dT) {h0 : vH} {a : Nat} {ar : Nat → Nat} {x : Nat → Int32} {y : Nat → Int64} {A : Nat → Nat → Int32} {B : Nat → Nat → Int64} (M : MV S0 dT h0 a ar x y A B) (p1 : Int32) : vMi l S0 D vcl GT y_MenuScreensModel_language prog_13_method_33_code 3 (some .int) 0 0 0 0 [.ref a, .int p1] h0 (fun r h' => ∃ x' y' A' B', MR S0 dT h0 h' a ar x' y' A' B' ∧ (y' = y ∧ A' = A ∧ B' = B ∧ ((p1 < 0 ∨ 1 < p1) ∧ r = -2 ∧ x' = upd x 0 0 ∨ ¬ p1 < 0 ∧ ¬ 1 < p1 ∧ r = x 46 ∧ x' = upd (upd x 0 0) 46 p1))) := by
  unfold vMi
  refine vM_ofQ hE.1 (by decide) (Nat.le_of_ble_eq_true rfl) (fun p e s m args below meth c ls Q hQ C hr hlk hnm X hl => ?_)
  have C : vC p s m _ c _ _ "MenuScreensModel" GT D vcl (vty dT) := C
  have hx := C.1.1
  have hb := C.1.2.1
  replace M := MR.of M
  obtain ⟨H, eH⟩ : ∃ z, z = s.heap := ⟨_, rfl⟩
  obtain ⟨locs, elocs⟩ : ∃ z : List Loc, z = [] := ⟨_, rfl⟩
  rw [← eH, ← elocs] at X
  rw [← eH, ← elocs]
  clear eH elocs
  have hl : lv_has ls 3 [(0, .ref a), (1, .int p1)] := hl
  refine lv_aload_n hx hb d_MenuScreensModel_language_0 rfl (lv_at hl 0 rfl) ?_
  refine lv_iconst (v := 0) hx hb d_MenuScreensModel_language_1 (by decide) ?_
  refine mm_put C X M 0 p_12_127_13 (upd x 0 0) y rfl rfl rfl (by decide) d_MenuScreensModel_language_2 (fun h H locs X M => ?_)
  refine lv_iload_n hx hb d_MenuScreensModel_language_5 rfl (lv_at hl 1 rfl) ?_
  refine lv_if_lt (tgt := 14) hx hb d_MenuScreensModel_language_6 (by decide) (fun c1 => ?_) (fun c1 => ?_)
  · skip
    refine lv_bipush (v := (-2)) hx hb d_MenuScreensModel_language_14 (by decide) ?_
    exact mq_iret hQ C X hr rfl hlk (⟨(upd x 0 0), y, A, B, M, (by clear X C hl hr; simp_all [lg_cmp_lt, lg_cmp_ge, lg_cmp_gt, lg_cmp_le, lg_cmp_eq])⟩) (Nat.le_refl _) (Nat.le_refl _) d_MenuScreensModel_language_16
  · skip
    refine lv_iload_n hx hb d_MenuScreensModel_language_9 rfl (lv_at hl 1 rfl) ?_
    refine lv_iconst (v := 1) hx hb d_MenuScreensModel_language_10 (by decide) ?_
    refine lv_icmp_le (tgt := 17) hx hb d_MenuScreensModel_language_11 (by decide) (fun c2 => ?_) (fun c2 => ?_)
    · skip
      refine lv_aload_n hx hb d_MenuScreensModel_language_17 rfl (lv_at hl 0 rfl) ?_
      refine mm_get C X M 46 f_12_264_13 (.int (x 46)) rfl d_MenuScreensModel_language_18 ?_
      refine lv_istore_n (lv' := [(2, .int (x 46)), (0, .ref a), (1, .int p1)]) hx hb d_MenuScreensModel_language_21 rfl hl (by decide) rfl (fun ls hl => ?_)
      refine lv_aload_n hx hb d_MenuScreensModel_language_22 rfl (lv_at hl 1 rfl) ?_
      refine lv_iload_n hx hb d_MenuScreensModel_language_23 rfl (lv_at hl 2 rfl) ?_
      refine mm_put C X M 46 p_12_264_13 (upd (upd x 0 0) 46 p1) y rfl rfl rfl (by decide) d_MenuScreensModel_language_24 (fun h H locs X M => ?_)
      refine lv_iload_n hx hb d_MenuScreensModel_language_27 rfl (lv_at hl 0 rfl) ?_
      exact mq_iret hQ C X hr rfl hlk (⟨(upd (upd x 0 0) 46 p1), y, A, B, M, (by clear X C hl hr; simp_all [lg_cmp_lt, lg_cmp_ge, lg_cmp_gt, lg_cmp_le, lg_cmp_eq])⟩) (Nat.le_refl _) (Nat.le_refl _) d_MenuScreensModel_language_28
    · skip
      refine lv_bipush (v := (-2)) hx hb d_MenuScreensModel_language_14 (by decide) ?_
      exact mq_iret hQ C X hr rfl hlk (⟨(upd x 0 0), y, A, B, M, (by clear X C hl hr; simp_all [lg_cmp_lt, lg_cmp_ge, lg_cmp_gt, lg_cmp_le, lg_cmp_eq])⟩) (Nat.le_refl _) (Nat.le_refl _) d_MenuScreensModel_language_16
theorem d_MenuScreensModel_ring_0 : decode prog_13_method_34_code 0 = .ok (.aload_n 0, 1) := by decide +kernel
theorem d_MenuScreensModel_ring_1 : decode prog_13_method_34_code 1 = .ok (.iconst 0, 1) := by decide +kernel
theorem d_MenuScreensModel_ring_2 : decode prog_13_method_34_code 2 = .ok (.putfield 127, 3) := by decide +kernel
theorem d_MenuScreensModel_ring_5 : decode prog_13_method_34_code 5 = .ok (.iload_n 1, 1) := by decide +kernel
theorem d_MenuScreensModel_ring_6 : decode prog_13_method_34_code 6 = .ok (.ifCond .lt 11, 3) := by decide +kernel
theorem d_MenuScreensModel_ring_9 : decode prog_13_method_34_code 9 = .ok (.iload_n 1, 1) := by decide +kernel
theorem d_MenuScreensModel_ring_10 : decode prog_13_method_34_code 10 = .ok (.aload_n 0, 1) := by decide +kernel
theorem d_MenuScreensModel_ring_11 : decode prog_13_method_34_code 11 = .ok (.getfield 233, 3) := by decide +kernel
theorem d_MenuScreensModel_ring_14 : decode prog_13_method_34_code 14 = .ok (.if_icmp .lt 7, 3) := by decide +kernel
theorem d_MenuScreensModel_ring_17 : decode prog_13_method_34_code 17 = .ok (.iconst 0, 1) := by decide +kernel
theorem d_MenuScreensModel_ring_18 : decode prog_13_method_34_code 18 = .ok (.goto 9, 3) := by decide +kernel
theorem d_MenuScreensModel_ring_21 : decode prog_13_method_34_code 21 = .ok (.aload_n 0, 1) := by decide +kernel
theorem d_MenuScreensModel_ring_22 : decode prog_13_method_34_code 22 = .ok (.getfield 105, 3) := by decide +kernel
theorem d_MenuScreensModel_ring_25 : decode prog_13_method_34_code 25 = .ok (.iload_n 1, 1) := by decide +kernel
theorem d_MenuScreensModel_ring_26 : decode prog_13_method_34_code 26 = .ok (.iaload, 1) := by decide +kernel
theorem d_MenuScreensModel_ring_27 : decode prog_13_method_34_code 27 = .ok (.ireturn, 1) := by decide +kernel
set_option maxRecDepth 100000 in
set_option maxHeartbeats 4000000 in
theorem cm_MenuScreensModel_ring {l : Launch} {S0 : State} {b : Nat} {D : va_G} {dT : Nat → ClassId} (hE : vEnv S0 b D dT) {h0 : vH} {a : Nat} {ar : Nat → Nat} {x : Nat → Int32} {y : Nat → Int64} {A : Nat → Nat → Int32} {B : Nat → Nat → Int64} (M : MV S0 dT h0 a ar x y A B) (p1 : Int32) {nr : Nat} (hnr : x 48 = nI nr) (hnr2 : nr ≤ 30) : vMi l S0 D vcl GT y_MenuScreensModel_ring prog_13_method_34_code 2 (some .int) 0 0 0 0 [.ref a, .int p1] h0 (fun r h' => ∃ x' y' A' B', MR S0 dT h0 h' a ar x' y' A' B' ∧ (x' = upd x 0 0 ∧ y' = y ∧ A' = A ∧ B' = B ∧ ((p1 < 0 ∨ x 48 ≤ p1) ∧ r = 0 ∨ ∃ j, j < nr ∧ p1 = nI j ∧ r = A 49 j))) := by
  unfold vMi
  refine vM_ofQ hE.1 (by decide) (Nat.le_of_ble_eq_true rfl) (fun p e s m args below meth c ls Q hQ C hr hlk hnm X hl => ?_)
  have C : vC p s m _ c _ _ "MenuScreensModel" GT D vcl (vty dT) := C
  have hx := C.1.1
  have hb := C.1.2.1
  replace M := MR.of M
  obtain ⟨H, eH⟩ : ∃ z, z = s.heap := ⟨_, rfl⟩
  obtain ⟨locs, elocs⟩ : ∃ z : List Loc, z = [] := ⟨_, rfl⟩
  rw [← eH, ← elocs] at X
  rw [← eH, ← elocs]
  clear eH elocs
  have hl : lv_has ls 2 [(0, .ref a), (1, .int p1)] := hl
  refine lv_aload_n hx hb d_MenuScreensModel_ring_0 rfl (lv_at hl 0 rfl) ?_
  refine lv_iconst (v := 0) hx hb d_MenuScreensModel_ring_1 (by decide) ?_
  refine mm_put C X M 0 p_12_127_13 (upd x 0 0) y rfl rfl rfl (by decide) d_MenuScreensModel_ring_2 (fun h H locs X M => ?_)
  refine lv_iload_n hx hb d_MenuScreensModel_ring_5 rfl (lv_at hl 1 rfl) ?_
  refine lv_if_lt (tgt := 17) hx hb d_MenuScreensModel_ring_6 (by decide) (fun c1 => ?_) (fun c1 => ?_)
  · skip
    refine lv_iconst (v := 0) hx hb d_MenuScreensModel_ring_17 (by decide) ?_
    refine lv_goto (tgt := 27) hx hb d_MenuScreensModel_ring_18 (by decide) ?_
    exact mq_iret hQ C X hr rfl hlk (⟨(upd x 0 0), y, A, B, M, ⟨rfl, rfl, rfl, rfl, Or.inl ⟨by clear X C hl hr; simp_all, rfl⟩⟩⟩) (Nat.le_refl _) (Nat.le_refl _) d_MenuScreensModel_ring_27
  · skip
    refine lv_iload_n hx hb d_MenuScreensModel_ring_9 rfl (lv_at hl 1 rfl) ?_
    refine lv_aload_n hx hb d_MenuScreensModel_ring_10 rfl (lv_at hl 0 rfl) ?_
    refine mm_get C X M 48 f_12_233_13 (.int (x 48)) rfl d_MenuScreensModel_ring_11 ?_
    refine lv_icmp_lt (tgt := 21) hx hb d_MenuScreensModel_ring_14 (by decide) (fun c2 => ?_) (fun c2 => ?_)
    · skip
      obtain ⟨j, hj, ej⟩ := ix_lt c1 (by rw [← hnr]; exact c2) (by omega)
      refine lv_aload_n hx hb d_MenuScreensModel_ring_21 rfl (lv_at hl 0 rfl) ?_
      refine mm_get C X M 49 f_12_105_13 (.ref (ar 49)) rfl d_MenuScreensModel_ring_22 ?_
      refine lv_iload_n hx hb d_MenuScreensModel_ring_25 rfl (lv_at hl 1 rfl) ?_
      refine mm_iald C X M 49 30 rfl (A 49) rfl (by decide) j ej (by omega) d_MenuScreensModel_ring_26 ?_
      exact mq_iret hQ C X hr rfl hlk (⟨(upd x 0 0), y, A, B, M, ⟨rfl, rfl, rfl, rfl, Or.inr ⟨j, hj, ej, rfl⟩⟩⟩) (Nat.le_refl _) (Nat.le_refl _) d_MenuScreensModel_ring_27
    · skip
      refine lv_iconst (v := 0) hx hb d_MenuScreensModel_ring_17 (by decide) ?_
      refine lv_goto (tgt := 27) hx hb d_MenuScreensModel_ring_18 (by decide) ?_
      exact mq_iret hQ C X hr rfl hlk (⟨(upd x 0 0), y, A, B, M, ⟨rfl, rfl, rfl, rfl, Or.inl ⟨by clear X C hl hr; simp_all, rfl⟩⟩⟩) (Nat.le_refl _) (Nat.le_refl _) d_MenuScreensModel_ring_27
theorem d_MenuScreensModel_warn_0 : decode prog_13_method_35_code 0 = .ok (.aload_n 0, 1) := by decide +kernel
theorem d_MenuScreensModel_warn_1 : decode prog_13_method_35_code 1 = .ok (.iconst 0, 1) := by decide +kernel
theorem d_MenuScreensModel_warn_2 : decode prog_13_method_35_code 2 = .ok (.putfield 127, 3) := by decide +kernel
theorem d_MenuScreensModel_warn_5 : decode prog_13_method_35_code 5 = .ok (.iload_n 1, 1) := by decide +kernel
theorem d_MenuScreensModel_warn_6 : decode prog_13_method_35_code 6 = .ok (.ifCond .lt 18, 3) := by decide +kernel
theorem d_MenuScreensModel_warn_9 : decode prog_13_method_35_code 9 = .ok (.iload_n 1, 1) := by decide +kernel
theorem d_MenuScreensModel_warn_10 : decode prog_13_method_35_code 10 = .ok (.bipush 99, 2) := by decide +kernel
theorem d_MenuScreensModel_warn_12 : decode prog_13_method_35_code 12 = .ok (.if_icmp .gt 12, 3) := by decide +kernel
theorem d_MenuScreensModel_warn_15 : decode prog_13_method_35_code 15 = .ok (.lload_n 2, 1) := by decide +kernel
theorem d_MenuScreensModel_warn_16 : decode prog_13_method_35_code 16 = .ok (.aload_n 0, 1) := by decide +kernel
theorem d_MenuScreensModel_warn_17 : decode prog_13_method_35_code 17 = .ok (.getfield 273, 3) := by decide +kernel
theorem d_MenuScreensModel_warn_20 : decode prog_13_method_35_code 20 = .ok (.lcmp, 1) := by decide +kernel
theorem d_MenuScreensModel_warn_21 : decode prog_13_method_35_code 21 = .ok (.ifCond .ge 6, 3) := by decide +kernel
theorem d_MenuScreensModel_warn_24 : decode prog_13_method_35_code 24 = .ok (.bipush (-2), 2) := by decide +kernel
theorem d_MenuScreensModel_warn_26 : decode prog_13_method_35_code 26 = .ok (.ireturn, 1) := by decide +kernel
theorem d_MenuScreensModel_warn_27 : decode prog_13_method_35_code 27 = .ok (.aload_n 0, 1) := by decide +kernel
theorem d_MenuScreensModel_warn_28 : decode prog_13_method_35_code 28 = .ok (.getfield 276, 3) := by decide +kernel
theorem d_MenuScreensModel_warn_31 : decode prog_13_method_35_code 31 = .ok (.sipush 200, 3) := by decide +kernel
theorem d_MenuScreensModel_warn_34 : decode prog_13_method_35_code 34 = .ok (.if_icmp .ne 6, 3) := by decide +kernel
theorem d_MenuScreensModel_warn_37 : decode prog_13_method_35_code 37 = .ok (.bipush (-4), 2) := by decide +kernel
theorem d_MenuScreensModel_warn_39 : decode prog_13_method_35_code 39 = .ok (.ireturn, 1) := by decide +kernel
theorem d_MenuScreensModel_warn_40 : decode prog_13_method_35_code 40 = .ok (.aload_n 0, 1) := by decide +kernel
theorem d_MenuScreensModel_warn_41 : decode prog_13_method_35_code 41 = .ok (.lload_n 2, 1) := by decide +kernel
theorem d_MenuScreensModel_warn_42 : decode prog_13_method_35_code 42 = .ok (.putfield 273, 3) := by decide +kernel
theorem d_MenuScreensModel_warn_45 : decode prog_13_method_35_code 45 = .ok (.aload_n 0, 1) := by decide +kernel
theorem d_MenuScreensModel_warn_46 : decode prog_13_method_35_code 46 = .ok (.dup, 1) := by decide +kernel
theorem d_MenuScreensModel_warn_47 : decode prog_13_method_35_code 47 = .ok (.getfield 276, 3) := by decide +kernel
theorem d_MenuScreensModel_warn_50 : decode prog_13_method_35_code 50 = .ok (.iconst 1, 1) := by decide +kernel
theorem d_MenuScreensModel_warn_51 : decode prog_13_method_35_code 51 = .ok (.iadd, 1) := by decide +kernel
theorem d_MenuScreensModel_warn_52 : decode prog_13_method_35_code 52 = .ok (.putfield 276, 3) := by decide +kernel
theorem d_MenuScreensModel_warn_55 : decode prog_13_method_35_code 55 = .ok (.aload_n 0, 1) := by decide +kernel
theorem d_MenuScreensModel_warn_56 : decode prog_13_method_35_code 56 = .ok (.getfield 108, 3) := by decide +kernel
theorem d_MenuScreensModel_warn_59 : decode prog_13_method_35_code 59 = .ok (.aload_n 0, 1) := by decide +kernel
theorem d_MenuScreensModel_warn_60 : decode prog_13_method_35_code 60 = .ok (.getfield 276, 3) := by decide +kernel
theorem d_MenuScreensModel_warn_63 : decode prog_13_method_35_code 63 = .ok (.iload_n 1, 1) := by decide +kernel
theorem d_MenuScreensModel_warn_64 : decode prog_13_method_35_code 64 = .ok (.iastore, 1) := by decide +kernel
theorem d_MenuScreensModel_warn_65 : decode prog_13_method_35_code 65 = .ok (.aload_n 0, 1) := by decide +kernel
theorem d_MenuScreensModel_warn_66 : decode prog_13_method_35_code 66 = .ok (.getfield 111, 3) := by decide +kernel
theorem d_MenuScreensModel_warn_69 : decode prog_13_method_35_code 69 = .ok (.aload_n 0, 1) := by decide +kernel
theorem d_MenuScreensModel_warn_70 : decode prog_13_method_35_code 70 = .ok (.getfield 276, 3) := by decide +kernel
theorem d_MenuScreensModel_warn_73 : decode prog_13_method_35_code 73 = .ok (.lload_n 2, 1) := by decide +kernel
theorem d_MenuScreensModel_warn_74 : decode prog_13_method_35_code 74 = .ok (.lastore, 1) := by decide +kernel
theorem d_MenuScreensModel_warn_75 : decode prog_13_method_35_code 75 = .ok (.aload_n 0, 1) := by decide +kernel
theorem d_MenuScreensModel_warn_76 : decode prog_13_method_35_code 76 = .ok (.getfield 276, 3) := by decide +kernel
theorem d_MenuScreensModel_warn_79 : decode prog_13_method_35_code 79 = .ok (.ireturn, 1) := by decide +kernel
set_option maxRecDepth 100000 in
set_option maxHeartbeats 4000000 in
theorem cm_MenuScreensModel_warn {l : Launch} {S0 : State} {b : Nat} {D : va_G} {dT : Nat → ClassId} (hE : vEnv S0 b D dT) {h0 : vH} {a : Nat} {ar : Nat → Nat} {x : Nat → Int32} {y : Nat → Int64} {A : Nat → Nat → Int32} {B : Nat → Nat → Int64} (M : MV S0 dT h0 a ar x y A B) (p1 : Int32) (p2 : Int64) {n : Nat} (hn : x 50 = nI n) (hn2 : n ≤ 200) : vMi l S0 D vcl GT y_MenuScreensModel_warn prog_13_method_35_code 4 (some .int) 0 0 0 0 [.ref a, .int p1, .long p2] h0 (fun r h' => ∃ x' y' A' B', MR S0 dT h0 h' a ar x' y' A' B' ∧ (((p1 < 0 ∨ 99 < p1 ∨ p2 < y 54) ∧ r = -2 ∧ x' = upd x 0 0 ∧ y' = y ∧ A' = A ∧ B' = B) ∨ (¬ p1 < 0 ∧ ¬ 99 < p1 ∧ ¬ p2 < y 54 ∧ n = 200 ∧ r = -4 ∧ x' = upd x 0 0 ∧ y' = y ∧ A' = A ∧ B' = B) ∨ (¬ p1 < 0 ∧ ¬ 99 < p1 ∧ ¬ p2 < y 54 ∧ n < 200 ∧ r = nI (n + 1) ∧ x' = upd (upd x 0 0) 50 (nI (n + 1)) ∧ y' = vp_updL y 54 p2 ∧ A' = va_up A 51 (upd (A 51) (n + 1) p1) ∧ B' = va_up B 52 (vp_updL (B 52) (n + 1) p2)))) := by
  unfold vMi
  refine vM_ofQ hE.1 (by decide) (Nat.le_of_ble_eq_true rfl) (fun p e s m args below meth c ls Q hQ C hr hlk hnm X hl => ?_)
  have C : vC p s m _ c _ _ "MenuScreensModel" GT D vcl (vty dT) := C
  have hx := C.1.1
  have hb := C.1.2.1
  replace M := MR.of M
  obtain ⟨H, eH⟩ : ∃ z, z = s.heap := ⟨_, rfl⟩
  obtain ⟨locs, elocs⟩ : ∃ z : List Loc, z = [] := ⟨_, rfl⟩
  rw [← eH, ← elocs] at X
  rw [← eH, ← elocs]
  clear eH elocs
  have hl : lv_has ls 4 [(0, .ref a), (1, .int p1), (2, .long p2)] := hl
  refine lv_aload_n hx hb d_MenuScreensModel_warn_0 rfl (lv_at hl 0 rfl) ?_
  refine lv_iconst (v := 0) hx hb d_MenuScreensModel_warn_1 (by decide) ?_
  refine mm_put C X M 0 p_12_127_13 (upd x 0 0) y rfl rfl rfl (by decide) d_MenuScreensModel_warn_2 (fun h H locs X M => ?_)
  refine lv_iload_n hx hb d_MenuScreensModel_warn_5 rfl (lv_at hl 1 rfl) ?_
  refine lv_if_lt (tgt := 24) hx hb d_MenuScreensModel_warn_6 (by decide) (fun c1 => ?_) (fun c1 => ?_)
  · skip
    refine lv_bipush (v := (-2)) hx hb d_MenuScreensModel_warn_24 (by decide) ?_
    exact mq_iret hQ C X hr rfl hlk (⟨(upd x 0 0), y, A, B, M, Or.inl ⟨by clear X C hl hr; simp_all [lg_cmp_lt, lg_cmp_ge, lg_cmp_gt, lg_cmp_le, lg_cmp_eq], rfl, rfl, rfl, rfl, rfl⟩⟩) (Nat.le_refl _) (Nat.le_refl _) d_MenuScreensModel_warn_26
  · skip
    refine lv_iload_n hx hb d_MenuScreensModel_warn_9 rfl (lv_at hl 1 rfl) ?_
    refine lv_bipush (v := 99) hx hb d_MenuScreensModel_warn_10 (by decide) ?_
    refine lv_icmp_gt (tgt := 24) hx hb d_MenuScreensModel_warn_12 (by decide) (fun c2 => ?_) (fun c2 => ?_)
    · skip
      refine lv_bipush (v := (-2)) hx hb d_MenuScreensModel_warn_24 (by decide) ?_
      exact mq_iret hQ C X hr rfl hlk (⟨(upd x 0 0), y, A, B, M, Or.inl ⟨by clear X C hl hr; simp_all [lg_cmp_lt, lg_cmp_ge, lg_cmp_gt, lg_cmp_le, lg_cmp_eq], rfl, rfl, rfl, rfl, rfl⟩⟩) (Nat.le_refl _) (Nat.le_refl _) d_MenuScreensModel_warn_26
    · skip
      refine lv_lload_n hx hb d_MenuScreensModel_warn_15 rfl (lv_at hl 2 rfl) ?_
      refine lv_aload_n hx hb d_MenuScreensModel_warn_16 rfl (lv_at hl 0 rfl) ?_
      refine mm_get C X M 54 f_12_273_13 (.long (y 54)) rfl d_MenuScreensModel_warn_17 ?_
      refine W.lcmp hx hb d_MenuScreensModel_warn_20 ?_
      refine lv_if_ge (tgt := 27) hx hb d_MenuScreensModel_warn_21 (by decide) (fun c3 => ?_) (fun c3 => ?_)
      · skip
        refine lv_aload_n hx hb d_MenuScreensModel_warn_27 rfl (lv_at hl 0 rfl) ?_
        refine mm_get C X M 50 f_12_276_13 (.int (x 50)) rfl d_MenuScreensModel_warn_28 ?_
        refine lv_sipush (v := 200) hx hb d_MenuScreensModel_warn_31 (by decide) ?_
        refine lv_icmp_ne (tgt := 40) hx hb d_MenuScreensModel_warn_34 (by decide) (fun c4 => ?_) (fun c4 => ?_)
        · skip
          have hlt : n < 200 := by
            have := nI_neI (a := n) (b := 200) (by omega) (by decide) (fun q => c4 (by rw [hn]; exact q))
            omega
          have e50 : x 50 + 1 = nI (n + 1) := by rw [hn]; exact nI_1 n
          refine lv_aload_n hx hb d_MenuScreensModel_warn_40 rfl (lv_at hl 0 rfl) ?_
          refine lv_lload_n hx hb d_MenuScreensModel_warn_41 rfl (lv_at hl 2 rfl) ?_
          refine mm_put C X M 54 p_12_273_13 (upd x 0 0) (vp_updL y 54 p2) rfl rfl rfl (by decide) d_MenuScreensModel_warn_42 (fun h H locs X M => ?_)
          refine lv_aload_n hx hb d_MenuScreensModel_warn_45 rfl (lv_at hl 0 rfl) ?_
          refine lv_dup hx hb d_MenuScreensModel_warn_46 rfl ?_
          refine mm_get C X M 50 f_12_276_13 (.int (x 50)) rfl d_MenuScreensModel_warn_47 ?_
          refine lv_iconst (v := 1) hx hb d_MenuScreensModel_warn_50 (by decide) ?_
          refine lv_iadd hx hb d_MenuScreensModel_warn_51 ?_
          refine mm_put C X M 50 p_12_276_13 (upd (upd x 0 0) 50 ((x 50) + 1)) (vp_updL y 54 p2) rfl rfl rfl (by decide) d_MenuScreensModel_warn_52 (fun h H locs X M => ?_)
          refine lv_aload_n hx hb d_MenuScreensModel_warn_55 rfl (lv_at hl 0 rfl) ?_
          refine mm_get C X M 51 f_12_108_13 (.ref (ar 51)) rfl d_MenuScreensModel_warn_56 ?_
          refine lv_aload_n hx hb d_MenuScreensModel_warn_59 rfl (lv_at hl 0 rfl) ?_
          refine mm_get C X M 50 f_12_276_13 (.int ((x 50) + 1)) rfl d_MenuScreensModel_warn_60 ?_
          refine lv_iload_n hx hb d_MenuScreensModel_warn_63 rfl (lv_at hl 1 rfl) ?_
          refine mm_iast C X M 51 201 rfl (A 51) rfl (fun _ => rfl) (by decide) (n + 1) e50 (by omega) d_MenuScreensModel_warn_64 (fun h H locs X M => ?_)
          refine lv_aload_n hx hb d_MenuScreensModel_warn_65 rfl (lv_at hl 0 rfl) ?_
          refine mm_get C X M 52 f_12_111_13 (.ref (ar 52)) rfl d_MenuScreensModel_warn_66 ?_
          refine lv_aload_n hx hb d_MenuScreensModel_warn_69 rfl (lv_at hl 0 rfl) ?_
          refine mm_get C X M 50 f_12_276_13 (.int ((x 50) + 1)) rfl d_MenuScreensModel_warn_70 ?_
          refine lv_lload_n hx hb d_MenuScreensModel_warn_73 rfl (lv_at hl 2 rfl) ?_
          refine mm_last C X M 52 201 rfl (B 52) rfl (fun _ => rfl) (by decide) (n + 1) e50 (by omega) d_MenuScreensModel_warn_74 (fun h H locs X M => ?_)
          refine lv_aload_n hx hb d_MenuScreensModel_warn_75 rfl (lv_at hl 0 rfl) ?_
          refine mm_get C X M 50 f_12_276_13 (.int ((x 50) + 1)) rfl d_MenuScreensModel_warn_76 ?_
          exact mq_iret hQ C X hr rfl hlk (⟨(upd (upd x 0 0) 50 ((x 50) + 1)), (vp_updL y 54 p2), (va_up A 51 (upd (A 51) (n + 1) p1)), (va_up B 52 (vp_updL (B 52) (n + 1) p2)), M, Or.inr (Or.inr ⟨c1, c2, by have := (lg_cmp_ge _ _).mp c3; exact Int64.not_lt.mpr this, hlt, e50, by rw [← e50], rfl, rfl, rfl⟩)⟩) (Nat.le_refl _) (Nat.le_refl _) d_MenuScreensModel_warn_79
        · skip
          refine lv_bipush (v := (-4)) hx hb d_MenuScreensModel_warn_37 (by decide) ?_
          exact mq_iret hQ C X hr rfl hlk (⟨(upd x 0 0), y, A, B, M, Or.inr (Or.inl ⟨c1, c2, by have := (lg_cmp_ge _ _).mp c3; exact Int64.not_lt.mpr this, nI_eqI (by omega) (by decide) (by rw [← hn]; exact c4), rfl, rfl, rfl, rfl, rfl⟩)⟩) (Nat.le_refl _) (Nat.le_refl _) d_MenuScreensModel_warn_39
      · skip
        refine lv_bipush (v := (-2)) hx hb d_MenuScreensModel_warn_24 (by decide) ?_
        exact mq_iret hQ C X hr rfl hlk (⟨(upd x 0 0), y, A, B, M, Or.inl ⟨by clear X C hl hr; simp_all [lg_cmp_lt, lg_cmp_ge, lg_cmp_gt, lg_cmp_le, lg_cmp_eq], rfl, rfl, rfl, rfl, rfl⟩⟩) (Nat.le_refl _) (Nat.le_refl _) d_MenuScreensModel_warn_26
theorem d_MenuScreensModel_trip_0 : decode prog_13_method_40_code 0 = .ok (.aload_n 0, 1) := by decide +kernel
theorem d_MenuScreensModel_trip_1 : decode prog_13_method_40_code 1 = .ok (.iconst 0, 1) := by decide +kernel
theorem d_MenuScreensModel_trip_2 : decode prog_13_method_40_code 2 = .ok (.putfield 127, 3) := by decide +kernel
theorem d_MenuScreensModel_trip_5 : decode prog_13_method_40_code 5 = .ok (.lload_n 1, 1) := by decide +kernel
theorem d_MenuScreensModel_trip_6 : decode prog_13_method_40_code 6 = .ok (.lconst 0, 1) := by decide +kernel
theorem d_MenuScreensModel_trip_7 : decode prog_13_method_40_code 7 = .ok (.lcmp, 1) := by decide +kernel
theorem d_MenuScreensModel_trip_8 : decode prog_13_method_40_code 8 = .ok (.ifCond .lt 25, 3) := by decide +kernel
theorem d_MenuScreensModel_trip_11 : decode prog_13_method_40_code 11 = .ok (.lload_n 1, 1) := by decide +kernel
theorem d_MenuScreensModel_trip_12 : decode prog_13_method_40_code 12 = .ok (.ldc2_w 285, 3) := by decide +kernel
theorem d_MenuScreensModel_trip_15 : decode prog_13_method_40_code 15 = .ok (.lcmp, 1) := by decide +kernel
theorem d_MenuScreensModel_trip_16 : decode prog_13_method_40_code 16 = .ok (.ifCond .gt 17, 3) := by decide +kernel
theorem d_MenuScreensModel_trip_19 : decode prog_13_method_40_code 19 = .ok (.lload_n 3, 1) := by decide +kernel
theorem d_MenuScreensModel_trip_20 : decode prog_13_method_40_code 20 = .ok (.lconst 0, 1) := by decide +kernel
theorem d_MenuScreensModel_trip_21 : decode prog_13_method_40_code 21 = .ok (.lcmp, 1) := by decide +kernel
theorem d_MenuScreensModel_trip_22 : decode prog_13_method_40_code 22 = .ok (.ifCond .lt 11, 3) := by decide +kernel
theorem d_MenuScreensModel_trip_25 : decode prog_13_method_40_code 25 = .ok (.lload_n 3, 1) := by decide +kernel
theorem d_MenuScreensModel_trip_26 : decode prog_13_method_40_code 26 = .ok (.ldc2_w 285, 3) := by decide +kernel
theorem d_MenuScreensModel_trip_29 : decode prog_13_method_40_code 29 = .ok (.lcmp, 1) := by decide +kernel
theorem d_MenuScreensModel_trip_30 : decode prog_13_method_40_code 30 = .ok (.ifCond .le 6, 3) := by decide +kernel
theorem d_MenuScreensModel_trip_33 : decode prog_13_method_40_code 33 = .ok (.bipush (-2), 2) := by decide +kernel
theorem d_MenuScreensModel_trip_35 : decode prog_13_method_40_code 35 = .ok (.ireturn, 1) := by decide +kernel
theorem d_MenuScreensModel_trip_36 : decode prog_13_method_40_code 36 = .ok (.aload_n 0, 1) := by decide +kernel
theorem d_MenuScreensModel_trip_37 : decode prog_13_method_40_code 37 = .ok (.aload_n 0, 1) := by decide +kernel
theorem d_MenuScreensModel_trip_38 : decode prog_13_method_40_code 38 = .ok (.getfield 287, 3) := by decide +kernel
theorem d_MenuScreensModel_trip_41 : decode prog_13_method_40_code 41 = .ok (.lload_n 1, 1) := by decide +kernel
theorem d_MenuScreensModel_trip_42 : decode prog_13_method_40_code 42 = .ok (.ladd, 1) := by decide +kernel
theorem d_MenuScreensModel_trip_43 : decode prog_13_method_40_code 43 = .ok (.putfield 287, 3) := by decide +kernel
theorem d_MenuScreensModel_trip_46 : decode prog_13_method_40_code 46 = .ok (.aload_n 0, 1) := by decide +kernel
theorem d_MenuScreensModel_trip_47 : decode prog_13_method_40_code 47 = .ok (.aload_n 0, 1) := by decide +kernel
theorem d_MenuScreensModel_trip_48 : decode prog_13_method_40_code 48 = .ok (.getfield 290, 3) := by decide +kernel
theorem d_MenuScreensModel_trip_51 : decode prog_13_method_40_code 51 = .ok (.lload_n 3, 1) := by decide +kernel
theorem d_MenuScreensModel_trip_52 : decode prog_13_method_40_code 52 = .ok (.ladd, 1) := by decide +kernel
theorem d_MenuScreensModel_trip_53 : decode prog_13_method_40_code 53 = .ok (.putfield 290, 3) := by decide +kernel
theorem d_MenuScreensModel_trip_56 : decode prog_13_method_40_code 56 = .ok (.aload_n 0, 1) := by decide +kernel
theorem d_MenuScreensModel_trip_57 : decode prog_13_method_40_code 57 = .ok (.dup, 1) := by decide +kernel
theorem d_MenuScreensModel_trip_58 : decode prog_13_method_40_code 58 = .ok (.getfield 293, 3) := by decide +kernel
theorem d_MenuScreensModel_trip_61 : decode prog_13_method_40_code 61 = .ok (.iconst 1, 1) := by decide +kernel
theorem d_MenuScreensModel_trip_62 : decode prog_13_method_40_code 62 = .ok (.iadd, 1) := by decide +kernel
theorem d_MenuScreensModel_trip_63 : decode prog_13_method_40_code 63 = .ok (.putfield 293, 3) := by decide +kernel
theorem d_MenuScreensModel_trip_66 : decode prog_13_method_40_code 66 = .ok (.aload_n 0, 1) := by decide +kernel
theorem d_MenuScreensModel_trip_67 : decode prog_13_method_40_code 67 = .ok (.getfield 293, 3) := by decide +kernel
theorem d_MenuScreensModel_trip_70 : decode prog_13_method_40_code 70 = .ok (.ireturn, 1) := by decide +kernel
set_option maxRecDepth 100000 in
set_option maxHeartbeats 4000000 in
theorem cm_MenuScreensModel_trip {l : Launch} {S0 : State} {b : Nat} {D : va_G} {dT : Nat → ClassId} (hE : vEnv S0 b D dT) {h0 : vH} {a : Nat} {ar : Nat → Nat} {x : Nat → Int32} {y : Nat → Int64} {A : Nat → Nat → Int32} {B : Nat → Nat → Int64} (M : MV S0 dT h0 a ar x y A B) (p1 : Int64) (p2 : Int64) : vMi l S0 D vcl GT y_MenuScreensModel_trip prog_13_method_40_code 5 (some .int) 0 0 0 0 [.ref a, .long p1, .long p2] h0 (fun r h' => ∃ x' y' A' B', MR S0 dT h0 h' a ar x' y' A' B' ∧ (A' = A ∧ B' = B ∧ ((p1 < 0 ∨ 1000000000 < p1 ∨ p2 < 0 ∨ 1000000000 < p2) ∧ r = -2 ∧ x' = upd x 0 0 ∧ y' = y ∨ (¬ p1 < 0 ∧ ¬ 1000000000 < p1 ∧ ¬ p2 < 0 ∧ ¬ 1000000000 < p2) ∧ r = x 55 + 1 ∧ x' = upd (upd x 0 0) 55 (x 55 + 1) ∧ y' = vp_updL (vp_updL y 56 (y 56 + p1)) 57 (y 57 + p2)))) := by
  unfold vMi
  refine vM_ofQ hE.1 (by decide) (Nat.le_of_ble_eq_true rfl) (fun p e s m args below meth c ls Q hQ C hr hlk hnm X hl => ?_)
  have C : vC p s m _ c _ _ "MenuScreensModel" GT D vcl (vty dT) := C
  have hx := C.1.1
  have hb := C.1.2.1
  replace M := MR.of M
  obtain ⟨H, eH⟩ : ∃ z, z = s.heap := ⟨_, rfl⟩
  obtain ⟨locs, elocs⟩ : ∃ z : List Loc, z = [] := ⟨_, rfl⟩
  rw [← eH, ← elocs] at X
  rw [← eH, ← elocs]
  clear eH elocs
  have hl : lv_has ls 5 [(0, .ref a), (1, .long p1), (3, .long p2)] := hl
  refine lv_aload_n hx hb d_MenuScreensModel_trip_0 rfl (lv_at hl 0 rfl) ?_
  refine lv_iconst (v := 0) hx hb d_MenuScreensModel_trip_1 (by decide) ?_
  refine mm_put C X M 0 p_12_127_13 (upd x 0 0) y rfl rfl rfl (by decide) d_MenuScreensModel_trip_2 (fun h H locs X M => ?_)
  refine lv_lload_n hx hb d_MenuScreensModel_trip_5 rfl (lv_at hl 1 rfl) ?_
  refine lv_lconst (v := 0) hx hb d_MenuScreensModel_trip_6 (by decide) ?_
  refine W.lcmp hx hb d_MenuScreensModel_trip_7 ?_
  refine lv_if_lt (tgt := 33) hx hb d_MenuScreensModel_trip_8 (by decide) (fun c1 => ?_) (fun c1 => ?_)
  · skip
    refine lv_bipush (v := (-2)) hx hb d_MenuScreensModel_trip_33 (by decide) ?_
    exact mq_iret hQ C X hr rfl hlk (⟨(upd x 0 0), y, A, B, M, (by clear X C hl hr; simp_all [lg_cmp_lt, lg_cmp_ge, lg_cmp_gt, lg_cmp_le, lg_cmp_eq])⟩) (Nat.le_refl _) (Nat.le_refl _) d_MenuScreensModel_trip_35
  · skip
    refine lv_lload_n hx hb d_MenuScreensModel_trip_11 rfl (lv_at hl 1 rfl) ?_
    refine lv_ldc2 (v := 1000000000) hx hb C.1.2.2.2.1 (C.1.2.2.2.2 _ (gt_6 127 (by decide +kernel) rfl)) d_MenuScreensModel_trip_12 ?_
    refine W.lcmp hx hb d_MenuScreensModel_trip_15 ?_
    refine lv_if_gt (tgt := 33) hx hb d_MenuScreensModel_trip_16 (by decide) (fun c2 => ?_) (fun c2 => ?_)
    · skip
      refine lv_bipush (v := (-2)) hx hb d_MenuScreensModel_trip_33 (by decide) ?_
      exact mq_iret hQ C X hr rfl hlk (⟨(upd x 0 0), y, A, B, M, (by clear X C hl hr; simp_all [lg_cmp_lt, lg_cmp_ge, lg_cmp_gt, lg_cmp_le, lg_cmp_eq])⟩) (Nat.le_refl _) (Nat.le_refl _) d_MenuScreensModel_trip_35
    · skip
      refine lv_lload_n hx hb d_MenuScreensModel_trip_19 rfl (lv_at hl 2 rfl) ?_
      refine lv_lconst (v := 0) hx hb d_MenuScreensModel_trip_20 (by decide) ?_
      refine W.lcmp hx hb d_MenuScreensModel_trip_21 ?_
      refine lv_if_lt (tgt := 33) hx hb d_MenuScreensModel_trip_22 (by decide) (fun c3 => ?_) (fun c3 => ?_)
      · skip
        refine lv_bipush (v := (-2)) hx hb d_MenuScreensModel_trip_33 (by decide) ?_
        exact mq_iret hQ C X hr rfl hlk (⟨(upd x 0 0), y, A, B, M, (by clear X C hl hr; simp_all [lg_cmp_lt, lg_cmp_ge, lg_cmp_gt, lg_cmp_le, lg_cmp_eq])⟩) (Nat.le_refl _) (Nat.le_refl _) d_MenuScreensModel_trip_35
      · skip
        refine lv_lload_n hx hb d_MenuScreensModel_trip_25 rfl (lv_at hl 2 rfl) ?_
        refine lv_ldc2 (v := 1000000000) hx hb C.1.2.2.2.1 (C.1.2.2.2.2 _ (gt_6 127 (by decide +kernel) rfl)) d_MenuScreensModel_trip_26 ?_
        refine W.lcmp hx hb d_MenuScreensModel_trip_29 ?_
        refine lv_if_le (tgt := 36) hx hb d_MenuScreensModel_trip_30 (by decide) (fun c4 => ?_) (fun c4 => ?_)
        · skip
          refine lv_aload_n hx hb d_MenuScreensModel_trip_36 rfl (lv_at hl 0 rfl) ?_
          refine lv_aload_n hx hb d_MenuScreensModel_trip_37 rfl (lv_at hl 0 rfl) ?_
          refine mm_get C X M 56 f_12_287_13 (.long (y 56)) rfl d_MenuScreensModel_trip_38 ?_
          refine lv_lload_n hx hb d_MenuScreensModel_trip_41 rfl (lv_at hl 1 rfl) ?_
          refine lv_ladd hx hb d_MenuScreensModel_trip_42 ?_
          refine mm_put C X M 56 p_12_287_13 (upd x 0 0) (vp_updL y 56 ((y 56) + p1)) rfl rfl rfl (by decide) d_MenuScreensModel_trip_43 (fun h H locs X M => ?_)
          refine lv_aload_n hx hb d_MenuScreensModel_trip_46 rfl (lv_at hl 0 rfl) ?_
          refine lv_aload_n hx hb d_MenuScreensModel_trip_47 rfl (lv_at hl 0 rfl) ?_
          refine mm_get C X M 57 f_12_290_13 (.long (y 57)) rfl d_MenuScreensModel_trip_48 ?_
          refine lv_lload_n hx hb d_MenuScreensModel_trip_51 rfl (lv_at hl 2 rfl) ?_
          refine lv_ladd hx hb d_MenuScreensModel_trip_52 ?_
          refine mm_put C X M 57 p_12_290_13 (upd x 0 0) (vp_updL (vp_updL y 56 ((y 56) + p1)) 57 ((y 57) + p2)) rfl rfl rfl (by decide) d_MenuScreensModel_trip_53 (fun h H locs X M => ?_)
          refine lv_aload_n hx hb d_MenuScreensModel_trip_56 rfl (lv_at hl 0 rfl) ?_
          refine lv_dup hx hb d_MenuScreensModel_trip_57 rfl ?_
          refine mm_get C X M 55 f_12_293_13 (.int (x 55)) rfl d_MenuScreensModel_trip_58 ?_
          refine lv_iconst (v := 1) hx hb d_MenuScreensModel_trip_61 (by decide) ?_
          refine lv_iadd hx hb d_MenuScreensModel_trip_62 ?_
          refine mm_put C X M 55 p_12_293_13 (upd (upd x 0 0) 55 ((x 55) + 1)) (vp_updL (vp_updL y 56 ((y 56) + p1)) 57 ((y 57) + p2)) rfl rfl rfl (by decide) d_MenuScreensModel_trip_63 (fun h H locs X M => ?_)
          refine lv_aload_n hx hb d_MenuScreensModel_trip_66 rfl (lv_at hl 0 rfl) ?_
          refine mm_get C X M 55 f_12_293_13 (.int ((x 55) + 1)) rfl d_MenuScreensModel_trip_67 ?_
          exact mq_iret hQ C X hr rfl hlk (⟨(upd (upd x 0 0) 55 ((x 55) + 1)), (vp_updL (vp_updL y 56 ((y 56) + p1)) 57 ((y 57) + p2)), A, B, M, (by clear X C hl hr; simp_all [lg_cmp_lt, lg_cmp_ge, lg_cmp_gt, lg_cmp_le, lg_cmp_eq])⟩) (Nat.le_refl _) (Nat.le_refl _) d_MenuScreensModel_trip_70
        · skip
          refine lv_bipush (v := (-2)) hx hb d_MenuScreensModel_trip_33 (by decide) ?_
          exact mq_iret hQ C X hr rfl hlk (⟨(upd x 0 0), y, A, B, M, (by clear X C hl hr; simp_all [lg_cmp_lt, lg_cmp_ge, lg_cmp_gt, lg_cmp_le, lg_cmp_eq])⟩) (Nat.le_refl _) (Nat.le_refl _) d_MenuScreensModel_trip_35
theorem d_MenuScreensModel_value_0 : decode prog_13_method_24_code 0 = .ok (.aload_n 0, 1) := by decide +kernel
theorem d_MenuScreensModel_value_1 : decode prog_13_method_24_code 1 = .ok (.iconst 0, 1) := by decide +kernel
theorem d_MenuScreensModel_value_2 : decode prog_13_method_24_code 2 = .ok (.putfield 127, 3) := by decide +kernel
theorem d_MenuScreensModel_value_5 : decode prog_13_method_24_code 5 = .ok (.iload_n 1, 1) := by decide +kernel
theorem d_MenuScreensModel_value_6 : decode prog_13_method_24_code 6 = .ok (.iconst 1, 1) := by decide +kernel
theorem d_MenuScreensModel_value_7 : decode prog_13_method_24_code 7 = .ok (.if_icmp .lt 11, 3) := by decide +kernel
theorem d_MenuScreensModel_value_10 : decode prog_13_method_24_code 10 = .ok (.iload_n 1, 1) := by decide +kernel
theorem d_MenuScreensModel_value_11 : decode prog_13_method_24_code 11 = .ok (.aload_n 0, 1) := by decide +kernel
theorem d_MenuScreensModel_value_12 : decode prog_13_method_24_code 12 = .ok (.getfield 162, 3) := by decide +kernel
theorem d_MenuScreensModel_value_15 : decode prog_13_method_24_code 15 = .ok (.if_icmp .le 5, 3) := by decide +kernel
theorem d_MenuScreensModel_value_18 : decode prog_13_method_24_code 18 = .ok (.iconst (-1), 1) := by decide +kernel
theorem d_MenuScreensModel_value_19 : decode prog_13_method_24_code 19 = .ok (.ireturn, 1) := by decide +kernel
theorem d_MenuScreensModel_value_20 : decode prog_13_method_24_code 20 = .ok (.lload_n 2, 1) := by decide +kernel
theorem d_MenuScreensModel_value_21 : decode prog_13_method_24_code 21 = .ok (.ldc2_w 212, 3) := by decide +kernel
theorem d_MenuScreensModel_value_24 : decode prog_13_method_24_code 24 = .ok (.lcmp, 1) := by decide +kernel
theorem d_MenuScreensModel_value_25 : decode prog_13_method_24_code 25 = .ok (.ifCond .lt 11, 3) := by decide +kernel
theorem d_MenuScreensModel_value_28 : decode prog_13_method_24_code 28 = .ok (.lload_n 2, 1) := by decide +kernel
theorem d_MenuScreensModel_value_29 : decode prog_13_method_24_code 29 = .ok (.ldc2_w 214, 3) := by decide +kernel
theorem d_MenuScreensModel_value_32 : decode prog_13_method_24_code 32 = .ok (.lcmp, 1) := by decide +kernel
theorem d_MenuScreensModel_value_33 : decode prog_13_method_24_code 33 = .ok (.ifCond .le 6, 3) := by decide +kernel
theorem d_MenuScreensModel_value_36 : decode prog_13_method_24_code 36 = .ok (.bipush (-2), 2) := by decide +kernel
theorem d_MenuScreensModel_value_38 : decode prog_13_method_24_code 38 = .ok (.ireturn, 1) := by decide +kernel
theorem d_MenuScreensModel_value_39 : decode prog_13_method_24_code 39 = .ok (.aload_n 0, 1) := by decide +kernel
theorem d_MenuScreensModel_value_40 : decode prog_13_method_24_code 40 = .ok (.getfield 22, 3) := by decide +kernel
theorem d_MenuScreensModel_value_43 : decode prog_13_method_24_code 43 = .ok (.iload_n 1, 1) := by decide +kernel
theorem d_MenuScreensModel_value_44 : decode prog_13_method_24_code 44 = .ok (.baload, 1) := by decide +kernel
theorem d_MenuScreensModel_value_45 : decode prog_13_method_24_code 45 = .ok (.ifCond .eq 6, 3) := by decide +kernel
theorem d_MenuScreensModel_value_48 : decode prog_13_method_24_code 48 = .ok (.bipush (-3), 2) := by decide +kernel
theorem d_MenuScreensModel_value_50 : decode prog_13_method_24_code 50 = .ok (.ireturn, 1) := by decide +kernel
theorem d_MenuScreensModel_value_51 : decode prog_13_method_24_code 51 = .ok (.aload_n 0, 1) := by decide +kernel
theorem d_MenuScreensModel_value_52 : decode prog_13_method_24_code 52 = .ok (.getfield 33, 3) := by decide +kernel
theorem d_MenuScreensModel_value_55 : decode prog_13_method_24_code 55 = .ok (.iload_n 1, 1) := by decide +kernel
theorem d_MenuScreensModel_value_56 : decode prog_13_method_24_code 56 = .ok (.lload_n 2, 1) := by decide +kernel
theorem d_MenuScreensModel_value_57 : decode prog_13_method_24_code 57 = .ok (.lastore, 1) := by decide +kernel
theorem d_MenuScreensModel_value_58 : decode prog_13_method_24_code 58 = .ok (.aload_n 0, 1) := by decide +kernel
theorem d_MenuScreensModel_value_59 : decode prog_13_method_24_code 59 = .ok (.getfield 36, 3) := by decide +kernel
theorem d_MenuScreensModel_value_62 : decode prog_13_method_24_code 62 = .ok (.iload_n 1, 1) := by decide +kernel
theorem d_MenuScreensModel_value_63 : decode prog_13_method_24_code 63 = .ok (.iload 4, 2) := by decide +kernel
theorem d_MenuScreensModel_value_65 : decode prog_13_method_24_code 65 = .ok (.bastore, 1) := by decide +kernel
theorem d_MenuScreensModel_value_66 : decode prog_13_method_24_code 66 = .ok (.iconst 1, 1) := by decide +kernel
theorem d_MenuScreensModel_value_67 : decode prog_13_method_24_code 67 = .ok (.ireturn, 1) := by decide +kernel
set_option maxRecDepth 100000 in
set_option maxHeartbeats 4000000 in
theorem cm_MenuScreensModel_value {l : Launch} {S0 : State} {b : Nat} {D : va_G} {dT : Nat → ClassId} (hE : vEnv S0 b D dT) {h0 : vH} {a : Nat} {ar : Nat → Nat} {x : Nat → Int32} {y : Nat → Int64} {A : Nat → Nat → Int32} {B : Nat → Nat → Int64} (M : MV S0 dT h0 a ar x y A B) (p1 : Int32) (p2 : Int64) (p3 : Int32) {nv : Nat} (hv : x 12 = nI nv) (hv2 : nv ≤ 40) (hb3 : vp_nar .boolean p3 = p3) : vMi l S0 D vcl GT y_MenuScreensModel_value prog_13_method_24_code 5 (some .int) 0 0 0 0 [.ref a, .int p1, .long p2, .int p3] h0 (fun r h' => ∃ x' y' A' B', MR S0 dT h0 h' a ar x' y' A' B' ∧ (x' = upd x 0 0 ∧ y' = y ∧ ((p1 < 1 ∨ x 12 < p1) ∧ r = -1 ∧ A' = A ∧ B' = B ∨ ∃ j, 1 ≤ j ∧ j ≤ nv ∧ p1 = nI j ∧ ((p2 < -999999 ∨ 999999 < p2) ∧ r = -2 ∧ A' = A ∧ B' = B ∨ ¬ p2 < -999999 ∧ ¬ 999999 < p2 ∧ ¬ A 15 j = 0 ∧ r = -3 ∧ A' = A ∧ B' = B ∨ ¬ p2 < -999999 ∧ ¬ 999999 < p2 ∧ A 15 j = 0 ∧ r = 1 ∧ A' = va_up A 19 (upd (A 19) j p3) ∧ B' = va_up B 18 (vp_updL (B 18) j p2))))) := by
  unfold vMi
  refine vM_ofQ hE.1 (by decide) (Nat.le_of_ble_eq_true rfl) (fun p e s m args below meth c ls Q hQ C hr hlk hnm X hl => ?_)
  have C : vC p s m _ c _ _ "MenuScreensModel" GT D vcl (vty dT) := C
  have hx := C.1.1
  have hb := C.1.2.1
  replace M := MR.of M
  obtain ⟨H, eH⟩ : ∃ z, z = s.heap := ⟨_, rfl⟩
  obtain ⟨locs, elocs⟩ : ∃ z : List Loc, z = [] := ⟨_, rfl⟩
  rw [← eH, ← elocs] at X
  rw [← eH, ← elocs]
  clear eH elocs
  have hl : lv_has ls 5 [(0, .ref a), (1, .int p1), (2, .long p2), (4, .int p3)] := hl
  refine lv_aload_n hx hb d_MenuScreensModel_value_0 rfl (lv_at hl 0 rfl) ?_
  refine lv_iconst (v := 0) hx hb d_MenuScreensModel_value_1 (by decide) ?_
  refine mm_put C X M 0 p_12_127_13 (upd x 0 0) y rfl rfl rfl (by decide) d_MenuScreensModel_value_2 (fun h H locs X M => ?_)
  refine lv_iload_n hx hb d_MenuScreensModel_value_5 rfl (lv_at hl 1 rfl) ?_
  refine lv_iconst (v := 1) hx hb d_MenuScreensModel_value_6 (by decide) ?_
  refine lv_icmp_lt (tgt := 18) hx hb d_MenuScreensModel_value_7 (by decide) (fun c1 => ?_) (fun c1 => ?_)
  · skip
    refine lv_iconst (v := (-1)) hx hb d_MenuScreensModel_value_18 (by decide) ?_
    exact mq_iret hQ C X hr rfl hlk (⟨(upd x 0 0), y, A, B, M, ⟨rfl, rfl, Or.inl (by clear X C hl hr; simp_all [lg_cmp_lt, lg_cmp_ge, lg_cmp_gt, lg_cmp_le, lg_cmp_eq])⟩⟩) (Nat.le_refl _) (Nat.le_refl _) d_MenuScreensModel_value_19
  · skip
    refine lv_iload_n hx hb d_MenuScreensModel_value_10 rfl (lv_at hl 1 rfl) ?_
    refine lv_aload_n hx hb d_MenuScreensModel_value_11 rfl (lv_at hl 0 rfl) ?_
    refine mm_get C X M 12 f_12_162_13 (.int (x 12)) rfl d_MenuScreensModel_value_12 ?_
    refine lv_icmp_le (tgt := 20) hx hb d_MenuScreensModel_value_15 (by decide) (fun c2 => ?_) (fun c2 => ?_)
    · skip
      obtain ⟨j, hj1, hj2, ej⟩ := ix_le1 c1 (by rw [← hv]; exact c2) (by omega)
      refine lv_lload_n hx hb d_MenuScreensModel_value_20 rfl (lv_at hl 2 rfl) ?_
      refine lv_ldc2 (v := (-999999)) hx hb C.1.2.2.2.1 (C.1.2.2.2.2 _ (gt_6 15 (by decide +kernel) rfl)) d_MenuScreensModel_value_21 ?_
      refine W.lcmp hx hb d_MenuScreensModel_value_24 ?_
      refine lv_if_lt (tgt := 36) hx hb d_MenuScreensModel_value_25 (by decide) (fun c3 => ?_) (fun c3 => ?_)
      · skip
        refine lv_bipush (v := (-2)) hx hb d_MenuScreensModel_value_36 (by decide) ?_
        exact mq_iret hQ C X hr rfl hlk (⟨(upd x 0 0), y, A, B, M, ⟨rfl, rfl, Or.inr ⟨j, hj1, hj2, ej, (by clear X C hl hr; simp_all [lg_cmp_lt, lg_cmp_ge, lg_cmp_gt, lg_cmp_le, lg_cmp_eq])⟩⟩⟩) (Nat.le_refl _) (Nat.le_refl _) d_MenuScreensModel_value_38
      · skip
        refine lv_lload_n hx hb d_MenuScreensModel_value_28 rfl (lv_at hl 2 rfl) ?_
        refine lv_ldc2 (v := 999999) hx hb C.1.2.2.2.1 (C.1.2.2.2.2 _ (gt_6 16 (by decide +kernel) rfl)) d_MenuScreensModel_value_29 ?_
        refine W.lcmp hx hb d_MenuScreensModel_value_32 ?_
        refine lv_if_le (tgt := 39) hx hb d_MenuScreensModel_value_33 (by decide) (fun c4 => ?_) (fun c4 => ?_)
        · skip
          refine lv_aload_n hx hb d_MenuScreensModel_value_39 rfl (lv_at hl 0 rfl) ?_
          refine mm_get C X M 15 f_12_22_13 (.ref (ar 15)) rfl d_MenuScreensModel_value_40 ?_
          refine lv_iload_n hx hb d_MenuScreensModel_value_43 rfl (lv_at hl 1 rfl) ?_
          refine mm_zald C X M 15 41 rfl (A 15) rfl (by decide) j ej (by omega) d_MenuScreensModel_value_44 ?_
          refine lv_if_eq (tgt := 51) hx hb d_MenuScreensModel_value_45 (by decide) (fun c5 => ?_) (fun c5 => ?_)
          · skip
            refine lv_aload_n hx hb d_MenuScreensModel_value_51 rfl (lv_at hl 0 rfl) ?_
            refine mm_get C X M 18 f_12_33_13 (.ref (ar 18)) rfl d_MenuScreensModel_value_52 ?_
            refine lv_iload_n hx hb d_MenuScreensModel_value_55 rfl (lv_at hl 1 rfl) ?_
            refine lv_lload_n hx hb d_MenuScreensModel_value_56 rfl (lv_at hl 2 rfl) ?_
            refine mm_last C X M 18 41 rfl (B 18) rfl (fun _ => rfl) (by decide) j ej (by omega) d_MenuScreensModel_value_57 (fun h H locs X M => ?_)
            refine lv_aload_n hx hb d_MenuScreensModel_value_58 rfl (lv_at hl 0 rfl) ?_
            refine mm_get C X M 19 f_12_36_13 (.ref (ar 19)) rfl d_MenuScreensModel_value_59 ?_
            refine lv_iload_n hx hb d_MenuScreensModel_value_62 rfl (lv_at hl 1 rfl) ?_
            refine lv_iload hx hb d_MenuScreensModel_value_63 (lv_at hl 3 rfl) ?_
            refine mm_zast C X M 19 41 rfl (A 19) rfl (fun _ => rfl) (by decide) hb3 j ej (by omega) d_MenuScreensModel_value_65 (fun h H locs X M => ?_)
            refine lv_iconst (v := 1) hx hb d_MenuScreensModel_value_66 (by decide) ?_
            exact mq_iret hQ C X hr rfl hlk (⟨(upd x 0 0), y, (va_up A 19 (upd (A 19) j p3)), (va_up B 18 (vp_updL (B 18) j p2)), M, ⟨rfl, rfl, Or.inr ⟨j, hj1, hj2, ej, (by clear X C hl hr; simp_all [lg_cmp_lt, lg_cmp_ge, lg_cmp_gt, lg_cmp_le, lg_cmp_eq])⟩⟩⟩) (Nat.le_refl _) (Nat.le_refl _) d_MenuScreensModel_value_67
          · skip
            refine lv_bipush (v := (-3)) hx hb d_MenuScreensModel_value_48 (by decide) ?_
            exact mq_iret hQ C X hr rfl hlk (⟨(upd x 0 0), y, A, B, M, ⟨rfl, rfl, Or.inr ⟨j, hj1, hj2, ej, (by clear X C hl hr; simp_all [lg_cmp_lt, lg_cmp_ge, lg_cmp_gt, lg_cmp_le, lg_cmp_eq])⟩⟩⟩) (Nat.le_refl _) (Nat.le_refl _) d_MenuScreensModel_value_50
        · skip
          refine lv_bipush (v := (-2)) hx hb d_MenuScreensModel_value_36 (by decide) ?_
          exact mq_iret hQ C X hr rfl hlk (⟨(upd x 0 0), y, A, B, M, ⟨rfl, rfl, Or.inr ⟨j, hj1, hj2, ej, (by clear X C hl hr; simp_all [lg_cmp_lt, lg_cmp_ge, lg_cmp_gt, lg_cmp_le, lg_cmp_eq])⟩⟩⟩) (Nat.le_refl _) (Nat.le_refl _) d_MenuScreensModel_value_38
    · skip
      refine lv_iconst (v := (-1)) hx hb d_MenuScreensModel_value_18 (by decide) ?_
      exact mq_iret hQ C X hr rfl hlk (⟨(upd x 0 0), y, A, B, M, ⟨rfl, rfl, Or.inl (by clear X C hl hr; simp_all [lg_cmp_lt, lg_cmp_ge, lg_cmp_gt, lg_cmp_le, lg_cmp_eq])⟩⟩) (Nat.le_refl _) (Nat.le_refl _) d_MenuScreensModel_value_19
theorem d_MenuScreensModel_setting_0 : decode prog_13_method_25_code 0 = .ok (.aload_n 0, 1) := by decide +kernel
theorem d_MenuScreensModel_setting_1 : decode prog_13_method_25_code 1 = .ok (.iconst 0, 1) := by decide +kernel
theorem d_MenuScreensModel_setting_2 : decode prog_13_method_25_code 2 = .ok (.putfield 127, 3) := by decide +kernel
theorem d_MenuScreensModel_setting_5 : decode prog_13_method_25_code 5 = .ok (.iload_n 1, 1) := by decide +kernel
theorem d_MenuScreensModel_setting_6 : decode prog_13_method_25_code 6 = .ok (.iconst 1, 1) := by decide +kernel
theorem d_MenuScreensModel_setting_7 : decode prog_13_method_25_code 7 = .ok (.if_icmp .lt 11, 3) := by decide +kernel
theorem d_MenuScreensModel_setting_10 : decode prog_13_method_25_code 10 = .ok (.iload_n 1, 1) := by decide +kernel
theorem d_MenuScreensModel_setting_11 : decode prog_13_method_25_code 11 = .ok (.aload_n 0, 1) := by decide +kernel
theorem d_MenuScreensModel_setting_12 : decode prog_13_method_25_code 12 = .ok (.getfield 162, 3) := by decide +kernel
theorem d_MenuScreensModel_setting_15 : decode prog_13_method_25_code 15 = .ok (.if_icmp .le 5, 3) := by decide +kernel
theorem d_MenuScreensModel_setting_18 : decode prog_13_method_25_code 18 = .ok (.iconst (-1), 1) := by decide +kernel
theorem d_MenuScreensModel_setting_19 : decode prog_13_method_25_code 19 = .ok (.ireturn, 1) := by decide +kernel
theorem d_MenuScreensModel_setting_20 : decode prog_13_method_25_code 20 = .ok (.aload_n 0, 1) := by decide +kernel
theorem d_MenuScreensModel_setting_21 : decode prog_13_method_25_code 21 = .ok (.getfield 22, 3) := by decide +kernel
theorem d_MenuScreensModel_setting_24 : decode prog_13_method_25_code 24 = .ok (.iload_n 1, 1) := by decide +kernel
theorem d_MenuScreensModel_setting_25 : decode prog_13_method_25_code 25 = .ok (.baload, 1) := by decide +kernel
theorem d_MenuScreensModel_setting_26 : decode prog_13_method_25_code 26 = .ok (.ifCond .ne 6, 3) := by decide +kernel
theorem d_MenuScreensModel_setting_29 : decode prog_13_method_25_code 29 = .ok (.bipush (-3), 2) := by decide +kernel
theorem d_MenuScreensModel_setting_31 : decode prog_13_method_25_code 31 = .ok (.ireturn, 1) := by decide +kernel
theorem d_MenuScreensModel_setting_32 : decode prog_13_method_25_code 32 = .ok (.lload_n 2, 1) := by decide +kernel
theorem d_MenuScreensModel_setting_33 : decode prog_13_method_25_code 33 = .ok (.aload_n 0, 1) := by decide +kernel
theorem d_MenuScreensModel_setting_34 : decode prog_13_method_25_code 34 = .ok (.getfield 26, 3) := by decide +kernel
theorem d_MenuScreensModel_setting_37 : decode prog_13_method_25_code 37 = .ok (.iload_n 1, 1) := by decide +kernel
theorem d_MenuScreensModel_setting_38 : decode prog_13_method_25_code 38 = .ok (.laload, 1) := by decide +kernel
theorem d_MenuScreensModel_setting_39 : decode prog_13_method_25_code 39 = .ok (.lcmp, 1) := by decide +kernel
theorem d_MenuScreensModel_setting_40 : decode prog_13_method_25_code 40 = .ok (.ifCond .lt 14, 3) := by decide +kernel
theorem d_MenuScreensModel_setting_43 : decode prog_13_method_25_code 43 = .ok (.lload_n 2, 1) := by decide +kernel
theorem d_MenuScreensModel_setting_44 : decode prog_13_method_25_code 44 = .ok (.aload_n 0, 1) := by decide +kernel
theorem d_MenuScreensModel_setting_45 : decode prog_13_method_25_code 45 = .ok (.getfield 30, 3) := by decide +kernel
theorem d_MenuScreensModel_setting_48 : decode prog_13_method_25_code 48 = .ok (.iload_n 1, 1) := by decide +kernel
theorem d_MenuScreensModel_setting_49 : decode prog_13_method_25_code 49 = .ok (.laload, 1) := by decide +kernel
theorem d_MenuScreensModel_setting_50 : decode prog_13_method_25_code 50 = .ok (.lcmp, 1) := by decide +kernel
theorem d_MenuScreensModel_setting_51 : decode prog_13_method_25_code 51 = .ok (.ifCond .le 5, 3) := by decide +kernel
theorem d_MenuScreensModel_setting_54 : decode prog_13_method_25_code 54 = .ok (.iconst 0, 1) := by decide +kernel
theorem d_MenuScreensModel_setting_55 : decode prog_13_method_25_code 55 = .ok (.ireturn, 1) := by decide +kernel
theorem d_MenuScreensModel_setting_56 : decode prog_13_method_25_code 56 = .ok (.aload_n 0, 1) := by decide +kernel
theorem d_MenuScreensModel_setting_57 : decode prog_13_method_25_code 57 = .ok (.getfield 33, 3) := by decide +kernel
theorem d_MenuScreensModel_setting_60 : decode prog_13_method_25_code 60 = .ok (.iload_n 1, 1) := by decide +kernel
theorem d_MenuScreensModel_setting_61 : decode prog_13_method_25_code 61 = .ok (.lload_n 2, 1) := by decide +kernel
theorem d_MenuScreensModel_setting_62 : decode prog_13_method_25_code 62 = .ok (.lastore, 1) := by decide +kernel
theorem d_MenuScreensModel_setting_63 : decode prog_13_method_25_code 63 = .ok (.iconst 1, 1) := by decide +kernel
theorem d_MenuScreensModel_setting_64 : decode prog_13_method_25_code 64 = .ok (.ireturn, 1) := by decide +kernel
set_option maxRecDepth 100000 in
set_option maxHeartbeats 4000000 in
theorem cm_MenuScreensModel_setting {l : Launch} {S0 : State} {b : Nat} {D : va_G} {dT : Nat → ClassId} (hE : vEnv S0 b D dT) {h0 : vH} {a : Nat} {ar : Nat → Nat} {x : Nat → Int32} {y : Nat → Int64} {A : Nat → Nat → Int32} {B : Nat → Nat → Int64} (M : MV S0 dT h0 a ar x y A B) (p1 : Int32) (p2 : Int64) {nv : Nat} (hv : x 12 = nI nv) (hv2 : nv ≤ 40) : vMi l S0 D vcl GT y_MenuScreensModel_setting prog_13_method_25_code 4 (some .int) 0 0 0 0 [.ref a, .int p1, .long p2] h0 (fun r h' => ∃ x' y' A' B', MR S0 dT h0 h' a ar x' y' A' B' ∧ (x' = upd x 0 0 ∧ y' = y ∧ A' = A ∧ ((p1 < 1 ∨ x 12 < p1) ∧ r = -1 ∧ B' = B ∨ ∃ j, 1 ≤ j ∧ j ≤ nv ∧ p1 = nI j ∧ (A 15 j = 0 ∧ r = -3 ∧ B' = B ∨ ¬ A 15 j = 0 ∧ (p2 < B 16 j ∨ B 17 j < p2) ∧ r = 0 ∧ B' = B ∨ ¬ A 15 j = 0 ∧ ¬ p2 < B 16 j ∧ ¬ B 17 j < p2 ∧ r = 1 ∧ B' = va_up B 18 (vp_updL (B 18) j p2))))) := by
  unfold vMi
  refine vM_ofQ hE.1 (by decide) (Nat.le_of_ble_eq_true rfl) (fun p e s m args below meth c ls Q hQ C hr hlk hnm X hl => ?_)
  have C : vC p s m _ c _ _ "MenuScreensModel" GT D vcl (vty dT) := C
  have hx := C.1.1
  have hb := C.1.2.1
  replace M := MR.of M
  obtain ⟨H, eH⟩ : ∃ z, z = s.heap := ⟨_, rfl⟩
  obtain ⟨locs, elocs⟩ : ∃ z : List Loc, z = [] := ⟨_, rfl⟩
  rw [← eH, ← elocs] at X
  rw [← eH, ← elocs]
  clear eH elocs
  have hl : lv_has ls 4 [(0, .ref a), (1, .int p1), (2, .long p2)] := hl
  refine lv_aload_n hx hb d_MenuScreensModel_setting_0 rfl (lv_at hl 0 rfl) ?_
  refine lv_iconst (v := 0) hx hb d_MenuScreensModel_setting_1 (by decide) ?_
  refine mm_put C X M 0 p_12_127_13 (upd x 0 0) y rfl rfl rfl (by decide) d_MenuScreensModel_setting_2 (fun h H locs X M => ?_)
  refine lv_iload_n hx hb d_MenuScreensModel_setting_5 rfl (lv_at hl 1 rfl) ?_
  refine lv_iconst (v := 1) hx hb d_MenuScreensModel_setting_6 (by decide) ?_
  refine lv_icmp_lt (tgt := 18) hx hb d_MenuScreensModel_setting_7 (by decide) (fun c1 => ?_) (fun c1 => ?_)
  · skip
    refine lv_iconst (v := (-1)) hx hb d_MenuScreensModel_setting_18 (by decide) ?_
    exact mq_iret hQ C X hr rfl hlk (⟨(upd x 0 0), y, A, B, M, ⟨rfl, rfl, rfl, Or.inl (by clear X C hl hr; simp_all [lg_cmp_lt, lg_cmp_ge, lg_cmp_gt, lg_cmp_le, lg_cmp_eq])⟩⟩) (Nat.le_refl _) (Nat.le_refl _) d_MenuScreensModel_setting_19
  · skip
    refine lv_iload_n hx hb d_MenuScreensModel_setting_10 rfl (lv_at hl 1 rfl) ?_
    refine lv_aload_n hx hb d_MenuScreensModel_setting_11 rfl (lv_at hl 0 rfl) ?_
    refine mm_get C X M 12 f_12_162_13 (.int (x 12)) rfl d_MenuScreensModel_setting_12 ?_
    refine lv_icmp_le (tgt := 20) hx hb d_MenuScreensModel_setting_15 (by decide) (fun c2 => ?_) (fun c2 => ?_)
    · skip
      obtain ⟨j, hj1, hj2, ej⟩ := ix_le1 c1 (by rw [← hv]; exact c2) (by omega)
      refine lv_aload_n hx hb d_MenuScreensModel_setting_20 rfl (lv_at hl 0 rfl) ?_
      refine mm_get C X M 15 f_12_22_13 (.ref (ar 15)) rfl d_MenuScreensModel_setting_21 ?_
      refine lv_iload_n hx hb d_MenuScreensModel_setting_24 rfl (lv_at hl 1 rfl) ?_
      refine mm_zald C X M 15 41 rfl (A 15) rfl (by decide) j ej (by omega) d_MenuScreensModel_setting_25 ?_
      refine lv_if_ne (tgt := 32) hx hb d_MenuScreensModel_setting_26 (by decide) (fun c3 => ?_) (fun c3 => ?_)
      · skip
        refine lv_lload_n hx hb d_MenuScreensModel_setting_32 rfl (lv_at hl 2 rfl) ?_
        refine lv_aload_n hx hb d_MenuScreensModel_setting_33 rfl (lv_at hl 0 rfl) ?_
        refine mm_get C X M 16 f_12_26_13 (.ref (ar 16)) rfl d_MenuScreensModel_setting_34 ?_
        refine lv_iload_n hx hb d_MenuScreensModel_setting_37 rfl (lv_at hl 1 rfl) ?_
        refine mm_lald C X M 16 41 rfl (B 16) rfl (by decide) j ej (by omega) d_MenuScreensModel_setting_38 ?_
        refine W.lcmp hx hb d_MenuScreensModel_setting_39 ?_
        refine lv_if_lt (tgt := 54) hx hb d_MenuScreensModel_setting_40 (by decide) (fun c4 => ?_) (fun c4 => ?_)
        · skip
          refine lv_iconst (v := 0) hx hb d_MenuScreensModel_setting_54 (by decide) ?_
          exact mq_iret hQ C X hr rfl hlk (⟨(upd x 0 0), y, A, B, M, ⟨rfl, rfl, rfl, Or.inr ⟨j, hj1, hj2, ej, (by clear X C hl hr; simp_all [lg_cmp_lt, lg_cmp_ge, lg_cmp_gt, lg_cmp_le, lg_cmp_eq])⟩⟩⟩) (Nat.le_refl _) (Nat.le_refl _) d_MenuScreensModel_setting_55
        · skip
          refine lv_lload_n hx hb d_MenuScreensModel_setting_43 rfl (lv_at hl 2 rfl) ?_
          refine lv_aload_n hx hb d_MenuScreensModel_setting_44 rfl (lv_at hl 0 rfl) ?_
          refine mm_get C X M 17 f_12_30_13 (.ref (ar 17)) rfl d_MenuScreensModel_setting_45 ?_
          refine lv_iload_n hx hb d_MenuScreensModel_setting_48 rfl (lv_at hl 1 rfl) ?_
          refine mm_lald C X M 17 41 rfl (B 17) rfl (by decide) j ej (by omega) d_MenuScreensModel_setting_49 ?_
          refine W.lcmp hx hb d_MenuScreensModel_setting_50 ?_
          refine lv_if_le (tgt := 56) hx hb d_MenuScreensModel_setting_51 (by decide) (fun c5 => ?_) (fun c5 => ?_)
          · skip
            refine lv_aload_n hx hb d_MenuScreensModel_setting_56 rfl (lv_at hl 0 rfl) ?_
            refine mm_get C X M 18 f_12_33_13 (.ref (ar 18)) rfl d_MenuScreensModel_setting_57 ?_
            refine lv_iload_n hx hb d_MenuScreensModel_setting_60 rfl (lv_at hl 1 rfl) ?_
            refine lv_lload_n hx hb d_MenuScreensModel_setting_61 rfl (lv_at hl 2 rfl) ?_
            refine mm_last C X M 18 41 rfl (B 18) rfl (fun _ => rfl) (by decide) j ej (by omega) d_MenuScreensModel_setting_62 (fun h H locs X M => ?_)
            refine lv_iconst (v := 1) hx hb d_MenuScreensModel_setting_63 (by decide) ?_
            exact mq_iret hQ C X hr rfl hlk (⟨(upd x 0 0), y, A, (va_up B 18 (vp_updL (B 18) j p2)), M, ⟨rfl, rfl, rfl, Or.inr ⟨j, hj1, hj2, ej, (by clear X C hl hr; simp_all [lg_cmp_lt, lg_cmp_ge, lg_cmp_gt, lg_cmp_le, lg_cmp_eq])⟩⟩⟩) (Nat.le_refl _) (Nat.le_refl _) d_MenuScreensModel_setting_64
          · skip
            refine lv_iconst (v := 0) hx hb d_MenuScreensModel_setting_54 (by decide) ?_
            exact mq_iret hQ C X hr rfl hlk (⟨(upd x 0 0), y, A, B, M, ⟨rfl, rfl, rfl, Or.inr ⟨j, hj1, hj2, ej, (by clear X C hl hr; simp_all [lg_cmp_lt, lg_cmp_ge, lg_cmp_gt, lg_cmp_le, lg_cmp_eq])⟩⟩⟩) (Nat.le_refl _) (Nat.le_refl _) d_MenuScreensModel_setting_55
      · skip
        refine lv_bipush (v := (-3)) hx hb d_MenuScreensModel_setting_29 (by decide) ?_
        exact mq_iret hQ C X hr rfl hlk (⟨(upd x 0 0), y, A, B, M, ⟨rfl, rfl, rfl, Or.inr ⟨j, hj1, hj2, ej, (by clear X C hl hr; simp_all [lg_cmp_lt, lg_cmp_ge, lg_cmp_gt, lg_cmp_le, lg_cmp_eq])⟩⟩⟩) (Nat.le_refl _) (Nat.le_refl _) d_MenuScreensModel_setting_31
    · skip
      refine lv_iconst (v := (-1)) hx hb d_MenuScreensModel_setting_18 (by decide) ?_
      exact mq_iret hQ C X hr rfl hlk (⟨(upd x 0 0), y, A, B, M, ⟨rfl, rfl, rfl, Or.inl (by clear X C hl hr; simp_all [lg_cmp_lt, lg_cmp_ge, lg_cmp_gt, lg_cmp_le, lg_cmp_eq])⟩⟩) (Nat.le_refl _) (Nat.le_refl _) d_MenuScreensModel_setting_19
theorem d_MenuScreensModel_barred_0 : decode prog_13_method_26_code 0 = .ok (.aload_n 0, 1) := by decide +kernel
theorem d_MenuScreensModel_barred_1 : decode prog_13_method_26_code 1 = .ok (.getfield 245, 3) := by decide +kernel
theorem d_MenuScreensModel_barred_4 : decode prog_13_method_26_code 4 = .ok (.ifCond .le 24, 3) := by decide +kernel
theorem d_MenuScreensModel_barred_7 : decode prog_13_method_26_code 7 = .ok (.aload_n 0, 1) := by decide +kernel
theorem d_MenuScreensModel_barred_8 : decode prog_13_method_26_code 8 = .ok (.getfield 251, 3) := by decide +kernel
theorem d_MenuScreensModel_barred_11 : decode prog_13_method_26_code 11 = .ok (.aload_n 0, 1) := by decide +kernel
theorem d_MenuScreensModel_barred_12 : decode prog_13_method_26_code 12 = .ok (.getfield 48, 3) := by decide +kernel
theorem d_MenuScreensModel_barred_15 : decode prog_13_method_26_code 15 = .ok (.aload_n 0, 1) := by decide +kernel
theorem d_MenuScreensModel_barred_16 : decode prog_13_method_26_code 16 = .ok (.getfield 245, 3) := by decide +kernel
theorem d_MenuScreensModel_barred_19 : decode prog_13_method_26_code 19 = .ok (.laload, 1) := by decide +kernel
theorem d_MenuScreensModel_barred_20 : decode prog_13_method_26_code 20 = .ok (.lcmp, 1) := by decide +kernel
theorem d_MenuScreensModel_barred_21 : decode prog_13_method_26_code 21 = .ok (.ifCond .le 7, 3) := by decide +kernel
theorem d_MenuScreensModel_barred_24 : decode prog_13_method_26_code 24 = .ok (.iconst 1, 1) := by decide +kernel
theorem d_MenuScreensModel_barred_25 : decode prog_13_method_26_code 25 = .ok (.goto 4, 3) := by decide +kernel
theorem d_MenuScreensModel_barred_28 : decode prog_13_method_26_code 28 = .ok (.iconst 0, 1) := by decide +kernel
theorem d_MenuScreensModel_barred_29 : decode prog_13_method_26_code 29 = .ok (.ireturn, 1) := by decide +kernel
set_option maxRecDepth 100000 in
set_option maxHeartbeats 4000000 in
theorem cm_MenuScreensModel_barred {l : Launch} {S0 : State} {b : Nat} {D : va_G} {dT : Nat → ClassId} (hE : vEnv S0 b D dT) {h0 : vH} {a : Nat} {ar : Nat → Nat} {x : Nat → Int32} {y : Nat → Int64} {A : Nat → Nat → Int32} {B : Nat → Nat → Int64} (M : MV S0 dT h0 a ar x y A B) {pr : Nat} (hpr : x 45 = nI pr) (hpr2 : pr ≤ 30) : vMi l S0 D vcl GT y_MenuScreensModel_barred prog_13_method_26_code 1 (some .boolean) 0 0 0 0 [.ref a] h0 (fun r h' => h' = h0 ∧ r = (if 0 < pr ∧ B 24 pr < y 47 then 1 else 0)) := by
  unfold vMi
  refine vM_ofQ hE.1 (by decide) (Nat.le_of_ble_eq_true rfl) (fun p e s m args below meth c ls Q hQ C hr hlk hnm X hl => ?_)
  have C : vC p s m _ c _ _ "MenuScreensModel" GT D vcl (vty dT) := C
  have hx := C.1.1
  have hb := C.1.2.1
  replace M := MR.of M
  obtain ⟨H, eH⟩ : ∃ z, z = s.heap := ⟨_, rfl⟩
  obtain ⟨locs, elocs⟩ : ∃ z : List Loc, z = [] := ⟨_, rfl⟩
  rw [← eH, ← elocs] at X
  rw [← eH, ← elocs]
  clear eH elocs
  have hl : lv_has ls 1 [(0, .ref a)] := hl
  refine lv_aload_n hx hb d_MenuScreensModel_barred_0 rfl (lv_at hl 0 rfl) ?_
  refine mm_get C X M 45 f_12_245_13 (.int (x 45)) rfl d_MenuScreensModel_barred_1 ?_
  refine lv_if_le (tgt := 28) hx hb d_MenuScreensModel_barred_4 (by decide) (fun c1 => ?_) (fun c1 => ?_)
  · skip
    refine lv_iconst (v := 0) hx hb d_MenuScreensModel_barred_28 (by decide) ?_
    exact mq_iret hQ C X hr rfl hlk (⟨rfl, (if_neg (fun q => nI_nle q.1 (by omega) (by rw [← hpr]; exact c1))).symm⟩) (Nat.le_refl _) (Nat.le_refl _) d_MenuScreensModel_barred_29
  · skip
    have hp0 : 0 < pr := by
      rcases Nat.eq_zero_or_pos pr with q | q
      · exact absurd (by rw [hpr, q]; decide) c1
      · exact q
    refine lv_aload_n hx hb d_MenuScreensModel_barred_7 rfl (lv_at hl 0 rfl) ?_
    refine mm_get C X M 47 f_12_251_13 (.long (y 47)) rfl d_MenuScreensModel_barred_8 ?_
    refine lv_aload_n hx hb d_MenuScreensModel_barred_11 rfl (lv_at hl 0 rfl) ?_
    refine mm_get C X M 24 f_12_48_13 (.ref (ar 24)) rfl d_MenuScreensModel_barred_12 ?_
    refine lv_aload_n hx hb d_MenuScreensModel_barred_15 rfl (lv_at hl 0 rfl) ?_
    refine mm_get C X M 45 f_12_245_13 (.int (x 45)) rfl d_MenuScreensModel_barred_16 ?_
    refine mm_lald C X M 24 31 rfl (B 24) rfl (by decide) pr hpr (by omega) d_MenuScreensModel_barred_19 ?_
    refine W.lcmp hx hb d_MenuScreensModel_barred_20 ?_
    refine lv_if_le (tgt := 28) hx hb d_MenuScreensModel_barred_21 (by decide) (fun c2 => ?_) (fun c2 => ?_)
    · skip
      refine lv_iconst (v := 0) hx hb d_MenuScreensModel_barred_28 (by decide) ?_
      exact mq_iret hQ C X hr rfl hlk (⟨rfl, (if_neg (fun q => by have := (lg_cmp_le _ _).mp c2; exact absurd q.2 (Int64.not_lt.mpr this))).symm⟩) (Nat.le_refl _) (Nat.le_refl _) d_MenuScreensModel_barred_29
    · skip
      refine lv_iconst (v := 1) hx hb d_MenuScreensModel_barred_24 (by decide) ?_
      refine lv_goto (tgt := 29) hx hb d_MenuScreensModel_barred_25 (by decide) ?_
      exact mq_iret hQ C X hr rfl hlk (⟨rfl, (if_pos ⟨hp0, (lg_cmp_gt _ _).mp (Int32.not_le.mp c2)⟩).symm⟩) (Nat.le_refl _) (Nat.le_refl _) d_MenuScreensModel_barred_29
end
section
theorem d_MenuScreensModel_next_0 : decode prog_13_method_4_code 0 = .ok (.aload_n 0, 1) := by decide +kernel
theorem d_MenuScreensModel_next_1 : decode prog_13_method_4_code 1 = .ok (.getfield 133, 3) := by decide +kernel
theorem d_MenuScreensModel_next_4 : decode prog_13_method_4_code 4 = .ok (.aload_n 0, 1) := by decide +kernel
theorem d_MenuScreensModel_next_5 : decode prog_13_method_4_code 5 = .ok (.getfield 136, 3) := by decide +kernel
theorem d_MenuScreensModel_next_8 : decode prog_13_method_4_code 8 = .ok (.if_icmp .ge 30, 3) := by decide +kernel
theorem d_MenuScreensModel_next_11 : decode prog_13_method_4_code 11 = .ok (.aload_n 0, 1) := by decide +kernel
theorem d_MenuScreensModel_next_12 : decode prog_13_method_4_code 12 = .ok (.getfield 13, 3) := by decide +kernel
theorem d_MenuScreensModel_next_15 : decode prog_13_method_4_code 15 = .ok (.aload_n 0, 1) := by decide +kernel
theorem d_MenuScreensModel_next_16 : decode prog_13_method_4_code 16 = .ok (.getfield 133, 3) := by decide +kernel
theorem d_MenuScreensModel_next_19 : decode prog_13_method_4_code 19 = .ok (.iaload, 1) := by decide +kernel
theorem d_MenuScreensModel_next_20 : decode prog_13_method_4_code 20 = .ok (.bipush 32, 2) := by decide +kernel
theorem d_MenuScreensModel_next_22 : decode prog_13_method_4_code 22 = .ok (.if_icmp .ne 16, 3) := by decide +kernel
theorem d_MenuScreensModel_next_25 : decode prog_13_method_4_code 25 = .ok (.aload_n 0, 1) := by decide +kernel
theorem d_MenuScreensModel_next_26 : decode prog_13_method_4_code 26 = .ok (.dup, 1) := by decide +kernel
theorem d_MenuScreensModel_next_27 : decode prog_13_method_4_code 27 = .ok (.getfield 133, 3) := by decide +kernel
theorem d_MenuScreensModel_next_30 : decode prog_13_method_4_code 30 = .ok (.iconst 1, 1) := by decide +kernel
theorem d_MenuScreensModel_next_31 : decode prog_13_method_4_code 31 = .ok (.iadd, 1) := by decide +kernel
theorem d_MenuScreensModel_next_32 : decode prog_13_method_4_code 32 = .ok (.putfield 133, 3) := by decide +kernel
theorem d_MenuScreensModel_next_35 : decode prog_13_method_4_code 35 = .ok (.goto (-35), 3) := by decide +kernel
theorem d_MenuScreensModel_next_38 : decode prog_13_method_4_code 38 = .ok (.aload_n 0, 1) := by decide +kernel
theorem d_MenuScreensModel_next_39 : decode prog_13_method_4_code 39 = .ok (.aload_n 0, 1) := by decide +kernel
theorem d_MenuScreensModel_next_40 : decode prog_13_method_4_code 40 = .ok (.getfield 133, 3) := by decide +kernel
theorem d_MenuScreensModel_next_43 : decode prog_13_method_4_code 43 = .ok (.putfield 139, 3) := by decide +kernel
theorem d_MenuScreensModel_next_46 : decode prog_13_method_4_code 46 = .ok (.aload_n 0, 1) := by decide +kernel
theorem d_MenuScreensModel_next_47 : decode prog_13_method_4_code 47 = .ok (.getfield 133, 3) := by decide +kernel
theorem d_MenuScreensModel_next_50 : decode prog_13_method_4_code 50 = .ok (.aload_n 0, 1) := by decide +kernel
theorem d_MenuScreensModel_next_51 : decode prog_13_method_4_code 51 = .ok (.getfield 136, 3) := by decide +kernel
theorem d_MenuScreensModel_next_54 : decode prog_13_method_4_code 54 = .ok (.if_icmp .ge 30, 3) := by decide +kernel
theorem d_MenuScreensModel_next_57 : decode prog_13_method_4_code 57 = .ok (.aload_n 0, 1) := by decide +kernel
theorem d_MenuScreensModel_next_58 : decode prog_13_method_4_code 58 = .ok (.getfield 13, 3) := by decide +kernel
theorem d_MenuScreensModel_next_61 : decode prog_13_method_4_code 61 = .ok (.aload_n 0, 1) := by decide +kernel
theorem d_MenuScreensModel_next_62 : decode prog_13_method_4_code 62 = .ok (.getfield 133, 3) := by decide +kernel
theorem d_MenuScreensModel_next_65 : decode prog_13_method_4_code 65 = .ok (.iaload, 1) := by decide +kernel
theorem d_MenuScreensModel_next_66 : decode prog_13_method_4_code 66 = .ok (.bipush 32, 2) := by decide +kernel
theorem d_MenuScreensModel_next_68 : decode prog_13_method_4_code 68 = .ok (.if_icmp .eq 16, 3) := by decide +kernel
theorem d_MenuScreensModel_next_71 : decode prog_13_method_4_code 71 = .ok (.aload_n 0, 1) := by decide +kernel
theorem d_MenuScreensModel_next_72 : decode prog_13_method_4_code 72 = .ok (.dup, 1) := by decide +kernel
theorem d_MenuScreensModel_next_73 : decode prog_13_method_4_code 73 = .ok (.getfield 133, 3) := by decide +kernel
theorem d_MenuScreensModel_next_76 : decode prog_13_method_4_code 76 = .ok (.iconst 1, 1) := by decide +kernel
theorem d_MenuScreensModel_next_77 : decode prog_13_method_4_code 77 = .ok (.iadd, 1) := by decide +kernel
theorem d_MenuScreensModel_next_78 : decode prog_13_method_4_code 78 = .ok (.putfield 133, 3) := by decide +kernel
theorem d_MenuScreensModel_next_81 : decode prog_13_method_4_code 81 = .ok (.goto (-35), 3) := by decide +kernel
theorem d_MenuScreensModel_next_84 : decode prog_13_method_4_code 84 = .ok (.aload_n 0, 1) := by decide +kernel
theorem d_MenuScreensModel_next_85 : decode prog_13_method_4_code 85 = .ok (.aload_n 0, 1) := by decide +kernel
theorem d_MenuScreensModel_next_86 : decode prog_13_method_4_code 86 = .ok (.getfield 133, 3) := by decide +kernel
theorem d_MenuScreensModel_next_89 : decode prog_13_method_4_code 89 = .ok (.putfield 142, 3) := by decide +kernel
theorem d_MenuScreensModel_next_92 : decode prog_13_method_4_code 92 = .ok (.aload_n 0, 1) := by decide +kernel
theorem d_MenuScreensModel_next_93 : decode prog_13_method_4_code 93 = .ok (.getfield 142, 3) := by decide +kernel
theorem d_MenuScreensModel_next_96 : decode prog_13_method_4_code 96 = .ok (.aload_n 0, 1) := by decide +kernel
theorem d_MenuScreensModel_next_97 : decode prog_13_method_4_code 97 = .ok (.getfield 139, 3) := by decide +kernel
theorem d_MenuScreensModel_next_100 : decode prog_13_method_4_code 100 = .ok (.if_icmp .le 7, 3) := by decide +kernel
theorem d_MenuScreensModel_next_103 : decode prog_13_method_4_code 103 = .ok (.iconst 1, 1) := by decide +kernel
theorem d_MenuScreensModel_next_104 : decode prog_13_method_4_code 104 = .ok (.goto 4, 3) := by decide +kernel
theorem d_MenuScreensModel_next_107 : decode prog_13_method_4_code 107 = .ok (.iconst 0, 1) := by decide +kernel
theorem d_MenuScreensModel_next_108 : decode prog_13_method_4_code 108 = .ok (.ireturn, 1) := by decide +kernel
set_option maxRecDepth 100000 in
set_option maxHeartbeats 4000000 in
theorem cm_MenuScreensModel_next {l : Launch} {S0 : State} {b : Nat} {D : va_G} {dT : Nat → ClassId} (hE : vEnv S0 b D dT) {h0 : vH} {a : Nat} {ar : Nat → Nat} {x : Nat → Int32} {y : Nat → Int64} {A : Nat → Nat → Int32} {B : Nat → Nat → Int64} (M : MV S0 dT h0 a ar x y A B) {i0 e0 F T : Nat} (hat : x 7 = nI i0) (hend : x 8 = nI e0) (hle : i0 ≤ e0) (he : e0 ≤ 4000) (hF : skp (A 6) (e0 - i0) i0 = F) (hT : wnd (A 6) (e0 - F) F = T) : vMi l S0 D vcl GT y_MenuScreensModel_next prog_13_method_4_code 1 (some .boolean) 0 0 0 0 [.ref a] h0 (fun r h' => ∃ x', MR S0 dT h0 h' a ar x' y A B ∧ x' = upd (upd (upd x 7 (nI T)) 9 (nI F)) 10 (nI T) ∧ r = if F < T then 1 else 0) := by
  unfold vMi
  refine vM_ofQ hE.1 (by decide) (Nat.le_of_ble_eq_true rfl) (fun p e s m args below meth c ls Q hQ C hr hlk hnm X hl => ?_)
  have C : vC p s m _ c _ _ "MenuScreensModel" GT D vcl (vty dT) := C
  have hx := C.1.1
  have hb := C.1.2.1
  replace M := MR.of M
  obtain ⟨H, eH⟩ : ∃ z, z = s.heap := ⟨_, rfl⟩
  obtain ⟨locs, elocs⟩ : ∃ z : List Loc, z = [] := ⟨_, rfl⟩
  rw [← eH, ← elocs] at X
  rw [← eH, ← elocs]
  clear eH elocs
  have hl : lv_has ls 1 [(0, .ref a)] := hl
  have hFe : F ≤ e0 := by rw [← hF]; exact (skp_in (A 6) e0 _ i0 rfl hle).2.1
  have hTe : T ≤ e0 := by rw [← hT]; exact (wnd_in (A 6) e0 _ F rfl hFe).2.1
  have jn : ∀ (i1 : Int32) (ls : Array Slot) (h : vH) (H : Heap) (locs : List Loc), (i1 = nI F) → vO S0 D vcl h s H locs → MR S0 dT h0 h a ar (upd x 7 i1) y A B → lv_has ls 1 [(0, .ref a)] → W p l e (vRm 0 0 0 0) s m args below meth c H locs 0 0 Q (F0 m 38 ls []) := by
    intro i1 ls h H locs e1 X M hl
    refine lv_aload_n hx hb d_MenuScreensModel_next_38 rfl (lv_at hl 0 rfl) ?_
    refine lv_aload_n hx hb d_MenuScreensModel_next_39 rfl (lv_at hl 0 rfl) ?_
    refine mm_get C X M 7 f_12_133_13 (.int i1) rfl d_MenuScreensModel_next_40 ?_
    refine mm_put C X M 9 p_12_139_13 (upd (upd x 7 i1) 9 i1) y rfl rfl rfl (by decide) d_MenuScreensModel_next_43 (fun h H locs X M => ?_)
    have j84 : ∀ (i2 : Int32) (ls : Array Slot) (h : vH) (H : Heap) (locs : List Loc), (i2 = nI T) → vO S0 D vcl h s H locs → MR S0 dT h0 h a ar (upd (upd x 7 i2) 9 i1) y A B → lv_has ls 1 [(0, .ref a)] → W p l e (vRm 0 0 0 0) s m args below meth c H locs 0 0 Q (F0 m 84 ls []) := by
      intro i2 ls h H locs e2 X M hl
      refine lv_aload_n hx hb d_MenuScreensModel_next_84 rfl (lv_at hl 0 rfl) ?_
      refine lv_aload_n hx hb d_MenuScreensModel_next_85 rfl (lv_at hl 0 rfl) ?_
      refine mm_get C X M 7 f_12_133_13 (.int i2) rfl d_MenuScreensModel_next_86 ?_
      refine mm_put C X M 10 p_12_142_13 (upd (upd (upd x 7 i2) 9 i1) 10 i2) y rfl rfl rfl (by decide) d_MenuScreensModel_next_89 (fun h H locs X M => ?_)
      refine lv_aload_n hx hb d_MenuScreensModel_next_92 rfl (lv_at hl 0 rfl) ?_
      refine mm_get C X M 10 f_12_142_13 (.int i2) rfl d_MenuScreensModel_next_93 ?_
      refine lv_aload_n hx hb d_MenuScreensModel_next_96 rfl (lv_at hl 0 rfl) ?_
      refine mm_get C X M 9 f_12_139_13 (.int i1) rfl d_MenuScreensModel_next_97 ?_
      refine lv_icmp_le (tgt := 107) hx hb d_MenuScreensModel_next_100 (by decide) (fun c1 => ?_) (fun c1 => ?_)
      · skip
        refine lv_iconst (v := 0) hx hb d_MenuScreensModel_next_107 (by decide) ?_
        exact mq_iret hQ C X hr rfl hlk (⟨(upd (upd (upd x 7 i2) 9 i1) 10 i2), M, by rw [e1, e2], (if_neg (fun q => absurd (by rw [e1, e2]; exact nI_lt q (by omega)) (Int32.not_lt.mpr c1))).symm⟩) (Nat.le_refl _) (Nat.le_refl _) d_MenuScreensModel_next_108
      · skip
        refine lv_iconst (v := 1) hx hb d_MenuScreensModel_next_103 (by decide) ?_
        refine lv_goto (tgt := 108) hx hb d_MenuScreensModel_next_104 (by decide) ?_
        exact mq_iret hQ C X hr rfl hlk (⟨(upd (upd (upd x 7 i2) 9 i1) 10 i2), M, by rw [e1, e2], (if_pos (by
            rcases Nat.lt_or_ge F T with q | q
            · exact q
            · exact absurd (by rw [e1, e2]; exact nI_le q (by omega)) c1)).symm⟩) (Nat.le_refl _) (Nat.le_refl _) d_MenuScreensModel_next_108
    have lp2 : ∀ (n_lp2 : Nat) (k : Nat) (i : Int32) (ls : Array Slot) (h : vH) (H : Heap) (locs : List Loc), (i = nI k) → (k ≤ e0) → (wnd (A 6) (e0 - k) k = T) → (e0 - k) < n_lp2 → vO S0 D vcl h s H locs → MR S0 dT h0 h a ar (upd (upd x 7 i) 9 i1) y A B → lv_has ls 1 [(0, .ref a)] → W p l e (vRm 0 0 0 0) s m args below meth c H locs 0 0 Q (F0 m 46 ls []) := by
      intro n_lp2
      induction n_lp2 with
      | zero => intros; exact absurd (by assumption) (Nat.not_lt_zero _)
      | succ n_lp2 ih_lp2 =>
        intro k i ls h H locs ei hk hs hmu_lp2 X M hl
        refine lv_aload_n hx hb d_MenuScreensModel_next_46 rfl (lv_at hl 0 rfl) ?_
        refine mm_get C X M 7 f_12_133_13 (.int i) rfl d_MenuScreensModel_next_47 ?_
        refine lv_aload_n hx hb d_MenuScreensModel_next_50 rfl (lv_at hl 0 rfl) ?_
        refine mm_get C X M 8 f_12_136_13 (.int (x 8)) rfl d_MenuScreensModel_next_51 ?_
        refine lv_icmp_ge (tgt := 84) hx hb d_MenuScreensModel_next_54 (by decide) (fun c2 => ?_) (fun c2 => ?_)
        · skip
          have hke : e0 ≤ k := (nI_leI (by omega) (by omega)).mp (by rw [← ei, ← hend]; exact c2)
          exact j84 i ls _ _ _ (by rw [ei]; exact congrArg nI ((wnd_e hke).symm.trans hs)) X M (lv_sub hl [0] rfl)
        · skip
          have hlt : k < e0 := by
            rcases Nat.lt_or_ge k e0 with q | q
            · exact q
            · exact absurd (by rw [hend, ei]; exact nI_le q (by omega)) c2
          refine lv_aload_n hx hb d_MenuScreensModel_next_57 rfl (lv_at hl 0 rfl) ?_
          refine mm_get C X M 6 f_12_13_13 (.ref (ar 6)) rfl d_MenuScreensModel_next_58 ?_
          refine lv_aload_n hx hb d_MenuScreensModel_next_61 rfl (lv_at hl 0 rfl) ?_
          refine mm_get C X M 7 f_12_133_13 (.int i) rfl d_MenuScreensModel_next_62 ?_
          refine mm_iald C X M 6 4000 rfl (A 6) rfl (by decide) k ei (by omega) d_MenuScreensModel_next_65 ?_
          refine lv_bipush (v := 32) hx hb d_MenuScreensModel_next_66 (by decide) ?_
          refine lv_icmp_eq (tgt := 84) hx hb d_MenuScreensModel_next_68 (by decide) (fun c3 => ?_) (fun c3 => ?_)
          · skip
            exact j84 i ls _ _ _ (by rw [ei]; exact congrArg nI ((wnd_n c3).symm.trans hs)) X M (lv_sub hl [0] rfl)
          · skip
            refine lv_aload_n hx hb d_MenuScreensModel_next_71 rfl (lv_at hl 0 rfl) ?_
            refine lv_dup hx hb d_MenuScreensModel_next_72 rfl ?_
            refine mm_get C X M 7 f_12_133_13 (.int i) rfl d_MenuScreensModel_next_73 ?_
            refine lv_iconst (v := 1) hx hb d_MenuScreensModel_next_76 (by decide) ?_
            refine lv_iadd hx hb d_MenuScreensModel_next_77 ?_
            refine mm_put C X M 7 p_12_133_13 (upd (upd x 7 (i + 1)) 9 i1) y rfl rfl rfl (by decide) d_MenuScreensModel_next_78 (fun h H locs X M => ?_)
            refine lv_goto (tgt := 46) hx hb d_MenuScreensModel_next_81 (by decide) ?_
            exact ih_lp2 (k + 1) (i + 1) ls _ _ _ (by rw [ei]; exact nI_1 k) (by omega) ((wnd_s hlt c3).symm.trans hs) (by omega) X M (lv_sub hl [0] rfl)
    exact lp2 (e0 - F + 1) F i1 ls _ _ _ e1 hFe hT (Nat.lt_succ_self _) X M (lv_sub hl [0] rfl)
  have lp1 : ∀ (n_lp1 : Nat) (k : Nat) (i : Int32) (ls : Array Slot) (h : vH) (H : Heap) (locs : List Loc), (i = nI k) → (k ≤ e0) → (skp (A 6) (e0 - k) k = F) → (e0 - k) < n_lp1 → vO S0 D vcl h s H locs → MR S0 dT h0 h a ar (upd x 7 i) y A B → lv_has ls 1 [(0, .ref a)] → W p l e (vRm 0 0 0 0) s m args below meth c H locs 0 0 Q (F0 m 0 ls []) := by
    intro n_lp1
    induction n_lp1 with
    | zero => intros; exact absurd (by assumption) (Nat.not_lt_zero _)
    | succ n_lp1 ih_lp1 =>
      intro k i ls h H locs ei hk hs hmu_lp1 X M hl
      refine lv_aload_n hx hb d_MenuScreensModel_next_0 rfl (lv_at hl 0 rfl) ?_
      refine mm_get C X M 7 f_12_133_13 (.int i) rfl d_MenuScreensModel_next_1 ?_
      refine lv_aload_n hx hb d_MenuScreensModel_next_4 rfl (lv_at hl 0 rfl) ?_
      refine mm_get C X M 8 f_12_136_13 (.int (x 8)) rfl d_MenuScreensModel_next_5 ?_
      refine lv_icmp_ge (tgt := 38) hx hb d_MenuScreensModel_next_8 (by decide) (fun c4 => ?_) (fun c4 => ?_)
      · skip
        have hke : e0 ≤ k := (nI_leI (by omega) (by omega)).mp (by rw [← ei, ← hend]; exact c4)
        exact jn i ls _ _ _ (by rw [ei]; exact congrArg nI ((skp_e hke).symm.trans hs)) X M (lv_sub hl [0] rfl)
      · skip
        have hlt : k < e0 := by
          rcases Nat.lt_or_ge k e0 with q | q
          · exact q
          · exact absurd (by rw [hend, ei]; exact nI_le q (by omega)) c4
        refine lv_aload_n hx hb d_MenuScreensModel_next_11 rfl (lv_at hl 0 rfl) ?_
        refine mm_get C X M 6 f_12_13_13 (.ref (ar 6)) rfl d_MenuScreensModel_next_12 ?_
        refine lv_aload_n hx hb d_MenuScreensModel_next_15 rfl (lv_at hl 0 rfl) ?_
        refine mm_get C X M 7 f_12_133_13 (.int i) rfl d_MenuScreensModel_next_16 ?_
        refine mm_iald C X M 6 4000 rfl (A 6) rfl (by decide) k ei (by omega) d_MenuScreensModel_next_19 ?_
        refine lv_bipush (v := 32) hx hb d_MenuScreensModel_next_20 (by decide) ?_
        refine lv_icmp_ne (tgt := 38) hx hb d_MenuScreensModel_next_22 (by decide) (fun c5 => ?_) (fun c5 => ?_)
        · skip
          exact jn i ls _ _ _ (by rw [ei]; exact congrArg nI ((skp_n c5).symm.trans hs)) X M (lv_sub hl [0] rfl)
        · skip
          refine lv_aload_n hx hb d_MenuScreensModel_next_25 rfl (lv_at hl 0 rfl) ?_
          refine lv_dup hx hb d_MenuScreensModel_next_26 rfl ?_
          refine mm_get C X M 7 f_12_133_13 (.int i) rfl d_MenuScreensModel_next_27 ?_
          refine lv_iconst (v := 1) hx hb d_MenuScreensModel_next_30 (by decide) ?_
          refine lv_iadd hx hb d_MenuScreensModel_next_31 ?_
          refine mm_put C X M 7 p_12_133_13 (upd x 7 (i + 1)) y rfl rfl rfl (by decide) d_MenuScreensModel_next_32 (fun h H locs X M => ?_)
          refine lv_goto (tgt := 0) hx hb d_MenuScreensModel_next_35 (by decide) ?_
          exact ih_lp1 (k + 1) (i + 1) ls _ _ _ (by rw [ei]; exact nI_1 k) (by omega) ((skp_s hlt c5).symm.trans hs) (by omega) X M (lv_sub hl [0] rfl)
  exact lp1 (e0 - i0 + 1) i0 (x 7) ls _ _ _ hat hle hF (Nat.lt_succ_self _) X M (lv_sub hl [0] rfl)
end
section
theorem d_MenuScreensModel_through_0 : decode prog_13_method_5_code 0 = .ok (.aload_n 0, 1) := by decide +kernel
theorem d_MenuScreensModel_through_1 : decode prog_13_method_5_code 1 = .ok (.invokevirtual 145, 3) := by decide +kernel
theorem d_MenuScreensModel_through_4 : decode prog_13_method_5_code 4 = .ok (.ifCond .ne 7, 3) := by decide +kernel
theorem d_MenuScreensModel_through_7 : decode prog_13_method_5_code 7 = .ok (.iconst 1, 1) := by decide +kernel
theorem d_MenuScreensModel_through_8 : decode prog_13_method_5_code 8 = .ok (.goto 4, 3) := by decide +kernel
theorem d_MenuScreensModel_through_11 : decode prog_13_method_5_code 11 = .ok (.iconst 0, 1) := by decide +kernel
theorem d_MenuScreensModel_through_12 : decode prog_13_method_5_code 12 = .ok (.ireturn, 1) := by decide +kernel
set_option maxRecDepth 100000 in
set_option maxHeartbeats 4000000 in
theorem cm_MenuScreensModel_through {l : Launch} {S0 : State} {b : Nat} {D : va_G} {dT : Nat → ClassId} (hE : vEnv S0 b D dT) {h0 : vH} {a : Nat} {ar : Nat → Nat} {x : Nat → Int32} {y : Nat → Int64} {A : Nat → Nat → Int32} {B : Nat → Nat → Int64} (M : MV S0 dT h0 a ar x y A B) {i0 e0 : Nat} (hat : x 7 = nI i0) (hend : x 8 = nI e0) (hle : i0 ≤ e0) (he : e0 ≤ 4000) : vMi l S0 D vcl GT y_MenuScreensModel_through prog_13_method_5_code 1 (some .boolean) 1 20 0 0 [.ref a] h0 (fun r h' => ∃ x', MR S0 dT h0 h' a ar x' y A B ∧ x' = upd (upd (upd x 7 (nI (nT (A 6) e0 i0))) 9 (nI (nF (A 6) e0 i0))) 10 (nI (nT (A 6) e0 i0)) ∧ r = bI (decide (¬ nF (A 6) e0 i0 < nT (A 6) e0 i0))) := by
  unfold vMi
  refine vM_ofQ hE.1 (by decide) (Nat.le_of_ble_eq_true rfl) (fun p e s m args below meth c ls Q hQ C hr hlk hnm X hl => ?_)
  have C : vC p s m _ c _ _ "MenuScreensModel" GT D vcl (vty dT) := C
  have hx := C.1.1
  have hb := C.1.2.1
  replace M := MR.of M
  obtain ⟨H, eH⟩ : ∃ z, z = s.heap := ⟨_, rfl⟩
  obtain ⟨locs, elocs⟩ : ∃ z : List Loc, z = [] := ⟨_, rfl⟩
  rw [← eH, ← elocs] at X
  rw [← eH, ← elocs]
  clear eH elocs
  have hl : lv_has ls 1 [(0, .ref a)] := hl
  refine lv_aload_n hx hb d_MenuScreensModel_through_0 rfl (lv_at hl 0 rfl) ?_
  refine mv_bi X (mv_rV (rest := []) (As := []) gt_good C X k_12_145 (cm_MenuScreensModel_next hE M.1 (i0 := i0) (e0 := e0) (F := nF (A 6) e0 i0) (T := nT (A 6) e0 i0) hat hend hle he rfl rfl) M.1.1 rfl rfl ⟨by decide, by decide⟩ rfl hl.1 rfl (by decide) d_MenuScreensModel_through_1 ⟨Nat.le_refl _, Nat.le_refl _⟩) (fun r1 hN H locs hp X => ?_)
  obtain ⟨x1, M1, rfl, er1⟩ := hp
  replace M := M.trans M1
  refine lv_if_ne (tgt := 11) hx hb d_MenuScreensModel_through_4 (by decide) (fun c2 => ?_) (fun c2 => ?_)
  · skip
    refine lv_iconst (v := 0) hx hb d_MenuScreensModel_through_11 (by decide) ?_
    exact mq_iret hQ C X hr rfl hlk (⟨_, M, rfl, by
        by_cases q : nF (A 6) e0 i0 < nT (A 6) e0 i0
        · simp [bI, q]
        · exact absurd (er1.trans (if_neg q)) c2⟩) (Nat.le_refl _) (Nat.le_refl _) d_MenuScreensModel_through_12
  · skip
    refine lv_iconst (v := 1) hx hb d_MenuScreensModel_through_7 (by decide) ?_
    refine lv_goto (tgt := 12) hx hb d_MenuScreensModel_through_8 (by decide) ?_
    exact mq_iret hQ C X hr rfl hlk (⟨_, M, rfl, by
        by_cases q : nF (A 6) e0 i0 < nT (A 6) e0 i0
        · exact absurd ((er1.trans (if_pos q)).symm.trans c2) (by decide)
        · simp [bI, q]⟩) (Nat.le_refl _) (Nat.le_refl _) d_MenuScreensModel_through_12
theorem d_MenuScreensModel_isName_0 : decode prog_13_method_6_code 0 = .ok (.aload_n 0, 1) := by decide +kernel
theorem d_MenuScreensModel_isName_1 : decode prog_13_method_6_code 1 = .ok (.getfield 142, 3) := by decide +kernel
theorem d_MenuScreensModel_isName_4 : decode prog_13_method_6_code 4 = .ok (.aload_n 0, 1) := by decide +kernel
theorem d_MenuScreensModel_isName_5 : decode prog_13_method_6_code 5 = .ok (.getfield 139, 3) := by decide +kernel
theorem d_MenuScreensModel_isName_8 : decode prog_13_method_6_code 8 = .ok (.isub, 1) := by decide +kernel
theorem d_MenuScreensModel_isName_9 : decode prog_13_method_6_code 9 = .ok (.ifCond .le 21, 3) := by decide +kernel
theorem d_MenuScreensModel_isName_12 : decode prog_13_method_6_code 12 = .ok (.aload_n 0, 1) := by decide +kernel
theorem d_MenuScreensModel_isName_13 : decode prog_13_method_6_code 13 = .ok (.getfield 142, 3) := by decide +kernel
theorem d_MenuScreensModel_isName_16 : decode prog_13_method_6_code 16 = .ok (.aload_n 0, 1) := by decide +kernel
theorem d_MenuScreensModel_isName_17 : decode prog_13_method_6_code 17 = .ok (.getfield 139, 3) := by decide +kernel
theorem d_MenuScreensModel_isName_20 : decode prog_13_method_6_code 20 = .ok (.isub, 1) := by decide +kernel
theorem d_MenuScreensModel_isName_21 : decode prog_13_method_6_code 21 = .ok (.bipush 8, 2) := by decide +kernel
theorem d_MenuScreensModel_isName_23 : decode prog_13_method_6_code 23 = .ok (.if_icmp .gt 7, 3) := by decide +kernel
theorem d_MenuScreensModel_isName_26 : decode prog_13_method_6_code 26 = .ok (.iconst 1, 1) := by decide +kernel
theorem d_MenuScreensModel_isName_27 : decode prog_13_method_6_code 27 = .ok (.goto 4, 3) := by decide +kernel
theorem d_MenuScreensModel_isName_30 : decode prog_13_method_6_code 30 = .ok (.iconst 0, 1) := by decide +kernel
theorem d_MenuScreensModel_isName_31 : decode prog_13_method_6_code 31 = .ok (.istore_n 1, 1) := by decide +kernel
theorem d_MenuScreensModel_isName_32 : decode prog_13_method_6_code 32 = .ok (.aload_n 0, 1) := by decide +kernel
theorem d_MenuScreensModel_isName_33 : decode prog_13_method_6_code 33 = .ok (.getfield 139, 3) := by decide +kernel
theorem d_MenuScreensModel_isName_36 : decode prog_13_method_6_code 36 = .ok (.istore_n 2, 1) := by decide +kernel
theorem d_MenuScreensModel_isName_37 : decode prog_13_method_6_code 37 = .ok (.iload_n 2, 1) := by decide +kernel
theorem d_MenuScreensModel_isName_38 : decode prog_13_method_6_code 38 = .ok (.aload_n 0, 1) := by decide +kernel
theorem d_MenuScreensModel_isName_39 : decode prog_13_method_6_code 39 = .ok (.getfield 142, 3) := by decide +kernel
theorem d_MenuScreensModel_isName_42 : decode prog_13_method_6_code 42 = .ok (.if_icmp .ge 41, 3) := by decide +kernel
theorem d_MenuScreensModel_isName_45 : decode prog_13_method_6_code 45 = .ok (.iload_n 1, 1) := by decide +kernel
theorem d_MenuScreensModel_isName_46 : decode prog_13_method_6_code 46 = .ok (.ifCond .eq 29, 3) := by decide +kernel
theorem d_MenuScreensModel_isName_49 : decode prog_13_method_6_code 49 = .ok (.aload_n 0, 1) := by decide +kernel
theorem d_MenuScreensModel_isName_50 : decode prog_13_method_6_code 50 = .ok (.getfield 13, 3) := by decide +kernel
theorem d_MenuScreensModel_isName_53 : decode prog_13_method_6_code 53 = .ok (.iload_n 2, 1) := by decide +kernel
theorem d_MenuScreensModel_isName_54 : decode prog_13_method_6_code 54 = .ok (.iaload, 1) := by decide +kernel
theorem d_MenuScreensModel_isName_55 : decode prog_13_method_6_code 55 = .ok (.bipush 97, 2) := by decide +kernel
theorem d_MenuScreensModel_isName_57 : decode prog_13_method_6_code 57 = .ok (.if_icmp .lt 18, 3) := by decide +kernel
theorem d_MenuScreensModel_isName_60 : decode prog_13_method_6_code 60 = .ok (.aload_n 0, 1) := by decide +kernel
theorem d_MenuScreensModel_isName_61 : decode prog_13_method_6_code 61 = .ok (.getfield 13, 3) := by decide +kernel
theorem d_MenuScreensModel_isName_64 : decode prog_13_method_6_code 64 = .ok (.iload_n 2, 1) := by decide +kernel
theorem d_MenuScreensModel_isName_65 : decode prog_13_method_6_code 65 = .ok (.iaload, 1) := by decide +kernel
theorem d_MenuScreensModel_isName_66 : decode prog_13_method_6_code 66 = .ok (.bipush 122, 2) := by decide +kernel
theorem d_MenuScreensModel_isName_68 : decode prog_13_method_6_code 68 = .ok (.if_icmp .gt 7, 3) := by decide +kernel
theorem d_MenuScreensModel_isName_71 : decode prog_13_method_6_code 71 = .ok (.iconst 1, 1) := by decide +kernel
theorem d_MenuScreensModel_isName_72 : decode prog_13_method_6_code 72 = .ok (.goto 4, 3) := by decide +kernel
theorem d_MenuScreensModel_isName_75 : decode prog_13_method_6_code 75 = .ok (.iconst 0, 1) := by decide +kernel
theorem d_MenuScreensModel_isName_76 : decode prog_13_method_6_code 76 = .ok (.istore_n 1, 1) := by decide +kernel
theorem d_MenuScreensModel_isName_77 : decode prog_13_method_6_code 77 = .ok (.iinc 2 1, 3) := by decide +kernel
theorem d_MenuScreensModel_isName_80 : decode prog_13_method_6_code 80 = .ok (.goto (-43), 3) := by decide +kernel
theorem d_MenuScreensModel_isName_83 : decode prog_13_method_6_code 83 = .ok (.iload_n 1, 1) := by decide +kernel
theorem d_MenuScreensModel_isName_84 : decode prog_13_method_6_code 84 = .ok (.ireturn, 1) := by decide +kernel
set_option maxRecDepth 100000 in
set_option maxHeartbeats 4000000 in
theorem cm_MenuScreensModel_isName {l : Launch} {S0 : State} {b : Nat} {D : va_G} {dT : Nat → ClassId} (hE : vEnv S0 b D dT) {h0 : vH} {a : Nat} {ar : Nat → Nat} {x : Nat → Int32} {y : Nat → Int64} {A : Nat → Nat → Int32} {B : Nat → Nat → Int64} (M : MV S0 dT h0 a ar x y A B) {F T : Nat} (hF : x 9 = nI F) (hT : x 10 = nI T) (hFT : F ≤ T) (hT4 : T ≤ 4000) : vMi l S0 D vcl GT y_MenuScreensModel_isName prog_13_method_6_code 3 (some .boolean) 0 0 0 0 [.ref a] h0 (fun r h' => h' = h0 ∧ r = bI (isNm (A 6) F T)) := by
  unfold vMi
  refine vM_ofQ hE.1 (by decide) (Nat.le_of_ble_eq_true rfl) (fun p e s m args below meth c ls Q hQ C hr hlk hnm X hl => ?_)
  have C : vC p s m _ c _ _ "MenuScreensModel" GT D vcl (vty dT) := C
  have hx := C.1.1
  have hb := C.1.2.1
  replace M := MR.of M
  obtain ⟨H, eH⟩ : ∃ z, z = s.heap := ⟨_, rfl⟩
  obtain ⟨locs, elocs⟩ : ∃ z : List Loc, z = [] := ⟨_, rfl⟩
  rw [← eH, ← elocs] at X
  rw [← eH, ← elocs]
  clear eH elocs
  have hl : lv_has ls 3 [(0, .ref a)] := hl
  obtain ⟨b0, hb0⟩ : ∃ z, z = (decide (0 < T - F) && decide (T - F ≤ 8)) := ⟨_, rfl⟩
  have hTF : x 10 - x 9 = nI (T - F) := by rw [hT, hF]; exact nI_sub hFT
  have j31 : ∀ (ls : Array Slot), lv_has ls 3 [(0, .ref a)] → W p l e (vRm 0 0 0 0) s m args below meth c H locs 0 0 Q (F0 m 31 ls [.int (bI b0)]) := by
    intro  ls  hl
    refine lv_istore_n (lv' := [(1, .int (bI b0)), (0, .ref a)]) hx hb d_MenuScreensModel_isName_31 rfl hl (by decide) rfl (fun ls hl => ?_)
    refine lv_aload_n hx hb d_MenuScreensModel_isName_32 rfl (lv_at hl 1 rfl) ?_
    refine mm_get C X M 9 f_12_139_13 (.int (x 9)) rfl d_MenuScreensModel_isName_33 ?_
    refine lv_istore_n (lv' := [(2, .int (x 9)), (1, .int (bI b0)), (0, .ref a)]) hx hb d_MenuScreensModel_isName_36 rfl hl (by decide) rfl (fun ls hl => ?_)
    have lp : ∀ (n_lp : Nat) (k : Nat) (g : Int32) (i : Int32) (ls : Array Slot), (i = nI k) → (F ≤ k) → (k ≤ T) → (g = bI (b0 && nmB (A 6) F (k - F))) → (T - k) < n_lp → lv_has ls 3 [(0, .ref a), (1, .int g), (2, .int i)] → W p l e (vRm 0 0 0 0) s m args below meth c H locs 0 0 Q (F0 m 37 ls []) := by
      intro n_lp
      induction n_lp with
      | zero => intros; exact absurd (by assumption) (Nat.not_lt_zero _)
      | succ n_lp ih_lp =>
        intro k g i ls ei hk1 hk2 eg hmu_lp hl
        refine lv_iload_n hx hb d_MenuScreensModel_isName_37 rfl (lv_at hl 2 rfl) ?_
        refine lv_aload_n hx hb d_MenuScreensModel_isName_38 rfl (lv_at hl 0 rfl) ?_
        refine mm_get C X M 10 f_12_142_13 (.int (x 10)) rfl d_MenuScreensModel_isName_39 ?_
        refine lv_icmp_ge (tgt := 83) hx hb d_MenuScreensModel_isName_42 (by decide) (fun c1 => ?_) (fun c1 => ?_)
        · skip
          refine lv_iload_n hx hb d_MenuScreensModel_isName_83 rfl (lv_at hl 1 rfl) ?_
          exact mq_iret hQ C X hr (by rw [eg]; exact bI_nar _) hlk (⟨rfl, by
              have hkT : k = T := by
                have := (nI_leI (a := T) (b := k) (by omega) (by omega)).mp (by rw [← ei, ← hT]; exact c1)
                omega
              rw [eg, hkT, hb0]; rfl⟩) (Nat.le_refl _) (Nat.le_refl _) d_MenuScreensModel_isName_84
        · skip
          have hlt : k < T := by
            rcases Nat.lt_or_ge k T with q | q
            · exact q
            · exact absurd (by rw [hT, ei]; exact nI_le q (by omega)) c1
          refine lv_iload_n hx hb d_MenuScreensModel_isName_45 rfl (lv_at hl 1 rfl) ?_
          refine lv_if_eq (tgt := 75) hx hb d_MenuScreensModel_isName_46 (by decide) (fun c2 => ?_) (fun c2 => ?_)
          · skip
            refine lv_iconst (v := 0) hx hb d_MenuScreensModel_isName_75 (by decide) ?_
            have eg1 : (0 : Int32) = bI (b0 && nmB (A 6) F (k + 1 - F)) := by
              have q0 : (b0 && nmB (A 6) F (k - F)) = false := bI_0 (eg.symm.trans c2)
              rw [nmB_s hk1, ← Bool.and_assoc, q0, Bool.false_and]; rfl
            refine lv_istore_n (lv' := [(1, .int 0), (0, .ref a), (2, .int i)]) hx hb d_MenuScreensModel_isName_76 rfl hl (by decide) rfl (fun ls hl => ?_)
            refine lv_iinc (v := (i + 1)) (lv' := [(2, .int (i + 1)), (1, .int 0), (0, .ref a)]) hx hb d_MenuScreensModel_isName_77 hl (k := 2) rfl rfl (by decide) rfl (fun ls hl => ?_)
            refine lv_goto (tgt := 37) hx hb d_MenuScreensModel_isName_80 (by decide) ?_
            exact ih_lp (k + 1) 0 (i + 1) ls  (by rw [ei]; exact nI_1 k) (by omega) (by omega) eg1 (by omega) (lv_sub hl [2, 1, 0] rfl)
          · skip
            refine lv_aload_n hx hb d_MenuScreensModel_isName_49 rfl (lv_at hl 0 rfl) ?_
            refine mm_get C X M 6 f_12_13_13 (.ref (ar 6)) rfl d_MenuScreensModel_isName_50 ?_
            refine lv_iload_n hx hb d_MenuScreensModel_isName_53 rfl (lv_at hl 2 rfl) ?_
            refine mm_iald C X M 6 4000 rfl (A 6) rfl (by decide) k ei (by omega) d_MenuScreensModel_isName_54 ?_
            refine lv_bipush (v := 97) hx hb d_MenuScreensModel_isName_55 (by decide) ?_
            refine lv_icmp_lt (tgt := 75) hx hb d_MenuScreensModel_isName_57 (by decide) (fun c3 => ?_) (fun c3 => ?_)
            · skip
              refine lv_iconst (v := 0) hx hb d_MenuScreensModel_isName_75 (by decide) ?_
              have eg1 : (0 : Int32) = bI (b0 && nmB (A 6) F (k + 1 - F)) := by
                rw [nmB_s hk1, decide_eq_false (Int32.not_le.mpr c3), Bool.false_and, Bool.and_false, Bool.and_false]; rfl
              refine lv_istore_n (lv' := [(1, .int 0), (0, .ref a), (2, .int i)]) hx hb d_MenuScreensModel_isName_76 rfl hl (by decide) rfl (fun ls hl => ?_)
              refine lv_iinc (v := (i + 1)) (lv' := [(2, .int (i + 1)), (1, .int 0), (0, .ref a)]) hx hb d_MenuScreensModel_isName_77 hl (k := 2) rfl rfl (by decide) rfl (fun ls hl => ?_)
              refine lv_goto (tgt := 37) hx hb d_MenuScreensModel_isName_80 (by decide) ?_
              exact ih_lp (k + 1) 0 (i + 1) ls  (by rw [ei]; exact nI_1 k) (by omega) (by omega) eg1 (by omega) (lv_sub hl [2, 1, 0] rfl)
            · skip
              refine lv_aload_n hx hb d_MenuScreensModel_isName_60 rfl (lv_at hl 0 rfl) ?_
              refine mm_get C X M 6 f_12_13_13 (.ref (ar 6)) rfl d_MenuScreensModel_isName_61 ?_
              refine lv_iload_n hx hb d_MenuScreensModel_isName_64 rfl (lv_at hl 2 rfl) ?_
              refine mm_iald C X M 6 4000 rfl (A 6) rfl (by decide) k ei (by omega) d_MenuScreensModel_isName_65 ?_
              refine lv_bipush (v := 122) hx hb d_MenuScreensModel_isName_66 (by decide) ?_
              refine lv_icmp_gt (tgt := 75) hx hb d_MenuScreensModel_isName_68 (by decide) (fun c4 => ?_) (fun c4 => ?_)
              · skip
                refine lv_iconst (v := 0) hx hb d_MenuScreensModel_isName_75 (by decide) ?_
                have eg1 : (0 : Int32) = bI (b0 && nmB (A 6) F (k + 1 - F)) := by
                  rw [nmB_s hk1, decide_eq_false (Int32.not_le.mpr c4), Bool.and_false, Bool.and_false, Bool.and_false]; rfl
                refine lv_istore_n (lv' := [(1, .int 0), (0, .ref a), (2, .int i)]) hx hb d_MenuScreensModel_isName_76 rfl hl (by decide) rfl (fun ls hl => ?_)
                refine lv_iinc (v := (i + 1)) (lv' := [(2, .int (i + 1)), (1, .int 0), (0, .ref a)]) hx hb d_MenuScreensModel_isName_77 hl (k := 2) rfl rfl (by decide) rfl (fun ls hl => ?_)
                refine lv_goto (tgt := 37) hx hb d_MenuScreensModel_isName_80 (by decide) ?_
                exact ih_lp (k + 1) 0 (i + 1) ls  (by rw [ei]; exact nI_1 k) (by omega) (by omega) eg1 (by omega) (lv_sub hl [2, 1, 0] rfl)
              · skip
                refine lv_iconst (v := 1) hx hb d_MenuScreensModel_isName_71 (by decide) ?_
                refine lv_goto (tgt := 76) hx hb d_MenuScreensModel_isName_72 (by decide) ?_
                have eg1 : (1 : Int32) = bI (b0 && nmB (A 6) F (k + 1 - F)) := by
                  have q0 : (b0 && nmB (A 6) F (k - F)) = true := bI_n (fun q => c2 (eg.trans q))
                  rw [nmB_s hk1, ← Bool.and_assoc, q0, decide_eq_true (Int32.not_lt.mp c3), decide_eq_true (Int32.not_lt.mp c4)]; rfl
                refine lv_istore_n (lv' := [(1, .int 1), (0, .ref a), (2, .int i)]) hx hb d_MenuScreensModel_isName_76 rfl hl (by decide) rfl (fun ls hl => ?_)
                refine lv_iinc (v := (i + 1)) (lv' := [(2, .int (i + 1)), (1, .int 1), (0, .ref a)]) hx hb d_MenuScreensModel_isName_77 hl (k := 2) rfl rfl (by decide) rfl (fun ls hl => ?_)
                refine lv_goto (tgt := 37) hx hb d_MenuScreensModel_isName_80 (by decide) ?_
                exact ih_lp (k + 1) 1 (i + 1) ls  (by rw [ei]; exact nI_1 k) (by omega) (by omega) eg1 (by omega) (lv_sub hl [2, 1, 0] rfl)
    exact lp (T - F + 1) F (bI b0) (x 9) ls  hF (Nat.le_refl _) hFT (by rw [Nat.sub_self]; simp [nmB]) (Nat.lt_succ_self _) (lv_sub hl [2, 1, 0] rfl)
  refine lv_aload_n hx hb d_MenuScreensModel_isName_0 rfl (lv_at hl 0 rfl) ?_
  refine mm_get C X M 10 f_12_142_13 (.int (x 10)) rfl d_MenuScreensModel_isName_1 ?_
  refine lv_aload_n hx hb d_MenuScreensModel_isName_4 rfl (lv_at hl 0 rfl) ?_
  refine mm_get C X M 9 f_12_139_13 (.int (x 9)) rfl d_MenuScreensModel_isName_5 ?_
  refine lv_isub hx hb d_MenuScreensModel_isName_8 ?_
  refine lv_if_le (tgt := 30) hx hb d_MenuScreensModel_isName_9 (by decide) (fun c5 => ?_) (fun c5 => ?_)
  · skip
    refine lv_iconst (v := 0) hx hb d_MenuScreensModel_isName_30 (by decide) ?_
    have eb : b0 = false := by
      rw [hb0]
      have : ¬ 0 < T - F := fun q => absurd (by rw [← hTF]; exact c5) (nI_nle q (by omega))
      simp [this]
    rw [show (0 : Int32) = bI b0 by rw [eb]; rfl]
    exact j31 ls (lv_sub hl [0] rfl)
  · skip
    refine lv_aload_n hx hb d_MenuScreensModel_isName_12 rfl (lv_at hl 0 rfl) ?_
    refine mm_get C X M 10 f_12_142_13 (.int (x 10)) rfl d_MenuScreensModel_isName_13 ?_
    refine lv_aload_n hx hb d_MenuScreensModel_isName_16 rfl (lv_at hl 0 rfl) ?_
    refine mm_get C X M 9 f_12_139_13 (.int (x 9)) rfl d_MenuScreensModel_isName_17 ?_
    refine lv_isub hx hb d_MenuScreensModel_isName_20 ?_
    refine lv_bipush (v := 8) hx hb d_MenuScreensModel_isName_21 (by decide) ?_
    refine lv_icmp_gt (tgt := 30) hx hb d_MenuScreensModel_isName_23 (by decide) (fun c6 => ?_) (fun c6 => ?_)
    · skip
      refine lv_iconst (v := 0) hx hb d_MenuScreensModel_isName_30 (by decide) ?_
      have eb : b0 = false := by
        rw [hb0]
        have : ¬ T - F ≤ 8 := fun q => absurd (by rw [hTF]; exact nI_le q (by decide)) (Int32.not_le.mpr c6)
        simp [this]
      rw [show (0 : Int32) = bI b0 by rw [eb]; rfl]
      exact j31 ls (lv_sub hl [0] rfl)
    · skip
      refine lv_iconst (v := 1) hx hb d_MenuScreensModel_isName_26 (by decide) ?_
      refine lv_goto (tgt := 31) hx hb d_MenuScreensModel_isName_27 (by decide) ?_
      have eb : b0 = true := by
        rw [hb0, Bool.and_eq_true, decide_eq_true_eq, decide_eq_true_eq]
        refine ⟨?_, ?_⟩
        · rcases Nat.eq_zero_or_pos (T - F) with q | q
          · exact absurd (by rw [hTF, q]; decide) c5
          · exact q
        · exact (nI_leI (a := T - F) (b := 8) (by omega) (by decide)).mp (by rw [← hTF]; exact Int32.not_lt.mp c6)
      rw [show (1 : Int32) = bI b0 by rw [eb]; rfl]
      exact j31 ls (lv_sub hl [0] rfl)
end
section
theorem d_MenuScreensModel_name_0 : decode prog_13_method_7_code 0 = .ok (.aload_n 0, 1) := by decide +kernel
theorem d_MenuScreensModel_name_1 : decode prog_13_method_7_code 1 = .ok (.invokevirtual 145, 3) := by decide +kernel
theorem d_MenuScreensModel_name_4 : decode prog_13_method_7_code 4 = .ok (.ifCond .eq 14, 3) := by decide +kernel
theorem d_MenuScreensModel_name_7 : decode prog_13_method_7_code 7 = .ok (.aload_n 0, 1) := by decide +kernel
theorem d_MenuScreensModel_name_8 : decode prog_13_method_7_code 8 = .ok (.invokevirtual 149, 3) := by decide +kernel
theorem d_MenuScreensModel_name_11 : decode prog_13_method_7_code 11 = .ok (.ifCond .eq 7, 3) := by decide +kernel
theorem d_MenuScreensModel_name_14 : decode prog_13_method_7_code 14 = .ok (.iconst 1, 1) := by decide +kernel
theorem d_MenuScreensModel_name_15 : decode prog_13_method_7_code 15 = .ok (.goto 4, 3) := by decide +kernel
theorem d_MenuScreensModel_name_18 : decode prog_13_method_7_code 18 = .ok (.iconst 0, 1) := by decide +kernel
theorem d_MenuScreensModel_name_19 : decode prog_13_method_7_code 19 = .ok (.ireturn, 1) := by decide +kernel
set_option maxRecDepth 100000 in
set_option maxHeartbeats 4000000 in
theorem cm_MenuScreensModel_name {l : Launch} {S0 : State} {b : Nat} {D : va_G} {dT : Nat → ClassId} (hE : vEnv S0 b D dT) {h0 : vH} {a : Nat} {ar : Nat → Nat} {x : Nat → Int32} {y : Nat → Int64} {A : Nat → Nat → Int32} {B : Nat → Nat → Int64} (M : MV S0 dT h0 a ar x y A B) {i0 e0 : Nat} (hat : x 7 = nI i0) (hend : x 8 = nI e0) (hle : i0 ≤ e0) (he : e0 ≤ 4000) : vMi l S0 D vcl GT y_MenuScreensModel_name prog_13_method_7_code 1 (some .boolean) 2 60 0 0 [.ref a] h0 (fun r h' => ∃ x', MR S0 dT h0 h' a ar x' y A B ∧ x' = upd (upd (upd x 7 (nI (nT (A 6) e0 i0))) 9 (nI (nF (A 6) e0 i0))) 10 (nI (nT (A 6) e0 i0)) ∧ r = bI (decide ((nF (A 6) e0 i0) < (nT (A 6) e0 i0)) && isNm (A 6) (nF (A 6) e0 i0) (nT (A 6) e0 i0))) := by
  unfold vMi
  refine vM_ofQ hE.1 (by decide) (Nat.le_of_ble_eq_true rfl) (fun p e s m args below meth c ls Q hQ C hr hlk hnm X hl => ?_)
  have C : vC p s m _ c _ _ "MenuScreensModel" GT D vcl (vty dT) := C
  have hx := C.1.1
  have hb := C.1.2.1
  replace M := MR.of M
  obtain ⟨H, eH⟩ : ∃ z, z = s.heap := ⟨_, rfl⟩
  obtain ⟨locs, elocs⟩ : ∃ z : List Loc, z = [] := ⟨_, rfl⟩
  rw [← eH, ← elocs] at X
  rw [← eH, ← elocs]
  clear eH elocs
  have hl : lv_has ls 1 [(0, .ref a)] := hl
  refine lv_aload_n hx hb d_MenuScreensModel_name_0 rfl (lv_at hl 0 rfl) ?_
  refine mv_bi X (mv_rV (rest := []) (As := []) gt_good C X k_12_145 (cm_MenuScreensModel_next hE M.1 (i0 := i0) (e0 := e0) (F := nF (A 6) e0 i0) (T := nT (A 6) e0 i0) hat hend hle he rfl rfl) M.1.1 rfl rfl ⟨by decide, by decide⟩ rfl hl.1 rfl (by decide) d_MenuScreensModel_name_1 ⟨Nat.le_refl _, Nat.le_refl _⟩) (fun r1 hN H locs hp X => ?_)
  obtain ⟨x1, M1, rfl, er1⟩ := hp
  replace M := M.trans M1
  refine lv_if_eq (tgt := 18) hx hb d_MenuScreensModel_name_4 (by decide) (fun c2 => ?_) (fun c2 => ?_)
  · skip
    refine lv_iconst (v := 0) hx hb d_MenuScreensModel_name_18 (by decide) ?_
    exact mq_iret hQ C X hr rfl hlk (⟨_, M, rfl, by
        have q : ¬ (nF (A 6) e0 i0) < (nT (A 6) e0 i0) := fun q => absurd ((er1.trans (if_pos q)).symm.trans c2) (by decide)
        rw [decide_eq_false q]; rfl⟩) (Nat.le_refl _) (Nat.le_refl _) d_MenuScreensModel_name_19
  · skip
    refine lv_aload_n hx hb d_MenuScreensModel_name_7 rfl (lv_at hl 0 rfl) ?_
    refine mv_bi X (mv_rV (rest := []) (As := []) gt_good C X k_12_149 (cm_MenuScreensModel_isName hE M.1 (F := (nF (A 6) e0 i0)) (T := (nT (A 6) e0 i0)) rfl rfl (nT_in _ hle).1 (Nat.le_trans (nT_in _ hle).2 he)) M.1.1 rfl rfl ⟨by decide, by decide⟩ rfl hl.1 rfl (by decide) d_MenuScreensModel_name_8 ⟨Nat.le_refl _, Nat.le_refl _⟩) (fun r3 hN H locs hp X => ?_)
    obtain ⟨ehr3, er3⟩ := hp
    rw [ehr3] at X
    refine lv_if_eq (tgt := 18) hx hb d_MenuScreensModel_name_11 (by decide) (fun c4 => ?_) (fun c4 => ?_)
    · skip
      refine lv_iconst (v := 0) hx hb d_MenuScreensModel_name_18 (by decide) ?_
      exact mq_iret hQ C X hr rfl hlk (⟨_, M, rfl, by
          have q : (nF (A 6) e0 i0) < (nT (A 6) e0 i0) := by
            apply Classical.byContradiction
            intro q
            exact c2 (er1.trans (if_neg q))
          rw [decide_eq_true q]
          rw [bI_0 (er3.symm.trans c4)]; rfl⟩) (Nat.le_refl _) (Nat.le_refl _) d_MenuScreensModel_name_19
    · skip
      refine lv_iconst (v := 1) hx hb d_MenuScreensModel_name_14 (by decide) ?_
      refine lv_goto (tgt := 19) hx hb d_MenuScreensModel_name_15 (by decide) ?_
      exact mq_iret hQ C X hr rfl hlk (⟨_, M, rfl, by
          have q : (nF (A 6) e0 i0) < (nT (A 6) e0 i0) := by
            apply Classical.byContradiction
            intro q
            exact c2 (er1.trans (if_neg q))
          rw [decide_eq_true q]
          rw [bI_n (fun z => c4 (er3.trans z))]; rfl⟩) (Nat.le_refl _) (Nat.le_refl _) d_MenuScreensModel_name_19
theorem d_MenuScreensModel_number_0 : decode prog_13_method_8_code 0 = .ok (.aload_n 0, 1) := by decide +kernel
theorem d_MenuScreensModel_number_1 : decode prog_13_method_8_code 1 = .ok (.invokevirtual 145, 3) := by decide +kernel
theorem d_MenuScreensModel_number_4 : decode prog_13_method_8_code 4 = .ok (.ifCond .ne 5, 3) := by decide +kernel
theorem d_MenuScreensModel_number_7 : decode prog_13_method_8_code 7 = .ok (.iconst 0, 1) := by decide +kernel
theorem d_MenuScreensModel_number_8 : decode prog_13_method_8_code 8 = .ok (.ireturn, 1) := by decide +kernel
theorem d_MenuScreensModel_number_9 : decode prog_13_method_8_code 9 = .ok (.aload_n 0, 1) := by decide +kernel
theorem d_MenuScreensModel_number_10 : decode prog_13_method_8_code 10 = .ok (.getfield 13, 3) := by decide +kernel
theorem d_MenuScreensModel_number_13 : decode prog_13_method_8_code 13 = .ok (.aload_n 0, 1) := by decide +kernel
theorem d_MenuScreensModel_number_14 : decode prog_13_method_8_code 14 = .ok (.getfield 139, 3) := by decide +kernel
theorem d_MenuScreensModel_number_17 : decode prog_13_method_8_code 17 = .ok (.iaload, 1) := by decide +kernel
theorem d_MenuScreensModel_number_18 : decode prog_13_method_8_code 18 = .ok (.bipush 45, 2) := by decide +kernel
theorem d_MenuScreensModel_number_20 : decode prog_13_method_8_code 20 = .ok (.if_icmp .ne 7, 3) := by decide +kernel
theorem d_MenuScreensModel_number_23 : decode prog_13_method_8_code 23 = .ok (.iconst 1, 1) := by decide +kernel
theorem d_MenuScreensModel_number_24 : decode prog_13_method_8_code 24 = .ok (.goto 4, 3) := by decide +kernel
theorem d_MenuScreensModel_number_27 : decode prog_13_method_8_code 27 = .ok (.iconst 0, 1) := by decide +kernel
theorem d_MenuScreensModel_number_28 : decode prog_13_method_8_code 28 = .ok (.istore 5, 2) := by decide +kernel
theorem d_MenuScreensModel_number_30 : decode prog_13_method_8_code 30 = .ok (.iload 5, 2) := by decide +kernel
theorem d_MenuScreensModel_number_32 : decode prog_13_method_8_code 32 = .ok (.ifCond .eq 12, 3) := by decide +kernel
theorem d_MenuScreensModel_number_35 : decode prog_13_method_8_code 35 = .ok (.aload_n 0, 1) := by decide +kernel
theorem d_MenuScreensModel_number_36 : decode prog_13_method_8_code 36 = .ok (.getfield 139, 3) := by decide +kernel
theorem d_MenuScreensModel_number_39 : decode prog_13_method_8_code 39 = .ok (.iconst 1, 1) := by decide +kernel
theorem d_MenuScreensModel_number_40 : decode prog_13_method_8_code 40 = .ok (.iadd, 1) := by decide +kernel
theorem d_MenuScreensModel_number_41 : decode prog_13_method_8_code 41 = .ok (.goto 7, 3) := by decide +kernel
theorem d_MenuScreensModel_number_44 : decode prog_13_method_8_code 44 = .ok (.aload_n 0, 1) := by decide +kernel
theorem d_MenuScreensModel_number_45 : decode prog_13_method_8_code 45 = .ok (.getfield 139, 3) := by decide +kernel
theorem d_MenuScreensModel_number_48 : decode prog_13_method_8_code 48 = .ok (.istore 6, 2) := by decide +kernel
theorem d_MenuScreensModel_number_50 : decode prog_13_method_8_code 50 = .ok (.aload_n 0, 1) := by decide +kernel
theorem d_MenuScreensModel_number_51 : decode prog_13_method_8_code 51 = .ok (.getfield 142, 3) := by decide +kernel
theorem d_MenuScreensModel_number_54 : decode prog_13_method_8_code 54 = .ok (.iload 6, 2) := by decide +kernel
theorem d_MenuScreensModel_number_56 : decode prog_13_method_8_code 56 = .ok (.if_icmp .le 19, 3) := by decide +kernel
theorem d_MenuScreensModel_number_59 : decode prog_13_method_8_code 59 = .ok (.aload_n 0, 1) := by decide +kernel
theorem d_MenuScreensModel_number_60 : decode prog_13_method_8_code 60 = .ok (.getfield 142, 3) := by decide +kernel
theorem d_MenuScreensModel_number_63 : decode prog_13_method_8_code 63 = .ok (.iload 6, 2) := by decide +kernel
theorem d_MenuScreensModel_number_65 : decode prog_13_method_8_code 65 = .ok (.isub, 1) := by decide +kernel
theorem d_MenuScreensModel_number_66 : decode prog_13_method_8_code 66 = .ok (.bipush 7, 2) := by decide +kernel
theorem d_MenuScreensModel_number_68 : decode prog_13_method_8_code 68 = .ok (.if_icmp .ge 7, 3) := by decide +kernel
theorem d_MenuScreensModel_number_71 : decode prog_13_method_8_code 71 = .ok (.iconst 1, 1) := by decide +kernel
theorem d_MenuScreensModel_number_72 : decode prog_13_method_8_code 72 = .ok (.goto 4, 3) := by decide +kernel
theorem d_MenuScreensModel_number_75 : decode prog_13_method_8_code 75 = .ok (.iconst 0, 1) := by decide +kernel
theorem d_MenuScreensModel_number_76 : decode prog_13_method_8_code 76 = .ok (.istore 7, 2) := by decide +kernel
theorem d_MenuScreensModel_number_78 : decode prog_13_method_8_code 78 = .ok (.aload_n 0, 1) := by decide +kernel
theorem d_MenuScreensModel_number_79 : decode prog_13_method_8_code 79 = .ok (.lconst 0, 1) := by decide +kernel
theorem d_MenuScreensModel_number_80 : decode prog_13_method_8_code 80 = .ok (.putfield 152, 3) := by decide +kernel
theorem d_MenuScreensModel_number_83 : decode prog_13_method_8_code 83 = .ok (.iload 6, 2) := by decide +kernel
theorem d_MenuScreensModel_number_85 : decode prog_13_method_8_code 85 = .ok (.istore 8, 2) := by decide +kernel
theorem d_MenuScreensModel_number_87 : decode prog_13_method_8_code 87 = .ok (.iload 8, 2) := by decide +kernel
theorem d_MenuScreensModel_number_89 : decode prog_13_method_8_code 89 = .ok (.aload_n 0, 1) := by decide +kernel
theorem d_MenuScreensModel_number_90 : decode prog_13_method_8_code 90 = .ok (.getfield 142, 3) := by decide +kernel
theorem d_MenuScreensModel_number_93 : decode prog_13_method_8_code 93 = .ok (.if_icmp .ge 70, 3) := by decide +kernel
theorem d_MenuScreensModel_number_96 : decode prog_13_method_8_code 96 = .ok (.iload 7, 2) := by decide +kernel
theorem d_MenuScreensModel_number_98 : decode prog_13_method_8_code 98 = .ok (.ifCond .eq 65, 3) := by decide +kernel
theorem d_MenuScreensModel_number_101 : decode prog_13_method_8_code 101 = .ok (.aload_n 0, 1) := by decide +kernel
theorem d_MenuScreensModel_number_102 : decode prog_13_method_8_code 102 = .ok (.getfield 13, 3) := by decide +kernel
theorem d_MenuScreensModel_number_105 : decode prog_13_method_8_code 105 = .ok (.iload 8, 2) := by decide +kernel
theorem d_MenuScreensModel_number_107 : decode prog_13_method_8_code 107 = .ok (.iaload, 1) := by decide +kernel
theorem d_MenuScreensModel_number_108 : decode prog_13_method_8_code 108 = .ok (.bipush 48, 2) := by decide +kernel
theorem d_MenuScreensModel_number_110 : decode prog_13_method_8_code 110 = .ok (.if_icmp .lt 19, 3) := by decide +kernel
theorem d_MenuScreensModel_number_113 : decode prog_13_method_8_code 113 = .ok (.aload_n 0, 1) := by decide +kernel
theorem d_MenuScreensModel_number_114 : decode prog_13_method_8_code 114 = .ok (.getfield 13, 3) := by decide +kernel
theorem d_MenuScreensModel_number_117 : decode prog_13_method_8_code 117 = .ok (.iload 8, 2) := by decide +kernel
theorem d_MenuScreensModel_number_119 : decode prog_13_method_8_code 119 = .ok (.iaload, 1) := by decide +kernel
theorem d_MenuScreensModel_number_120 : decode prog_13_method_8_code 120 = .ok (.bipush 57, 2) := by decide +kernel
theorem d_MenuScreensModel_number_122 : decode prog_13_method_8_code 122 = .ok (.if_icmp .gt 7, 3) := by decide +kernel
theorem d_MenuScreensModel_number_125 : decode prog_13_method_8_code 125 = .ok (.iconst 1, 1) := by decide +kernel
theorem d_MenuScreensModel_number_126 : decode prog_13_method_8_code 126 = .ok (.goto 4, 3) := by decide +kernel
theorem d_MenuScreensModel_number_129 : decode prog_13_method_8_code 129 = .ok (.iconst 0, 1) := by decide +kernel
theorem d_MenuScreensModel_number_130 : decode prog_13_method_8_code 130 = .ok (.istore 7, 2) := by decide +kernel
theorem d_MenuScreensModel_number_132 : decode prog_13_method_8_code 132 = .ok (.aload_n 0, 1) := by decide +kernel
theorem d_MenuScreensModel_number_133 : decode prog_13_method_8_code 133 = .ok (.aload_n 0, 1) := by decide +kernel
theorem d_MenuScreensModel_number_134 : decode prog_13_method_8_code 134 = .ok (.getfield 152, 3) := by decide +kernel
theorem d_MenuScreensModel_number_137 : decode prog_13_method_8_code 137 = .ok (.ldc2_w 156, 3) := by decide +kernel
theorem d_MenuScreensModel_number_140 : decode prog_13_method_8_code 140 = .ok (.lmul, 1) := by decide +kernel
theorem d_MenuScreensModel_number_141 : decode prog_13_method_8_code 141 = .ok (.aload_n 0, 1) := by decide +kernel
theorem d_MenuScreensModel_number_142 : decode prog_13_method_8_code 142 = .ok (.getfield 13, 3) := by decide +kernel
theorem d_MenuScreensModel_number_145 : decode prog_13_method_8_code 145 = .ok (.iload 8, 2) := by decide +kernel
theorem d_MenuScreensModel_number_147 : decode prog_13_method_8_code 147 = .ok (.iaload, 1) := by decide +kernel
theorem d_MenuScreensModel_number_148 : decode prog_13_method_8_code 148 = .ok (.i2l, 1) := by decide +kernel
theorem d_MenuScreensModel_number_149 : decode prog_13_method_8_code 149 = .ok (.ladd, 1) := by decide +kernel
theorem d_MenuScreensModel_number_150 : decode prog_13_method_8_code 150 = .ok (.ldc2_w 158, 3) := by decide +kernel
theorem d_MenuScreensModel_number_153 : decode prog_13_method_8_code 153 = .ok (.lsub, 1) := by decide +kernel
theorem d_MenuScreensModel_number_154 : decode prog_13_method_8_code 154 = .ok (.putfield 152, 3) := by decide +kernel
theorem d_MenuScreensModel_number_157 : decode prog_13_method_8_code 157 = .ok (.iinc 8 1, 3) := by decide +kernel
theorem d_MenuScreensModel_number_160 : decode prog_13_method_8_code 160 = .ok (.goto (-73), 3) := by decide +kernel
theorem d_MenuScreensModel_number_163 : decode prog_13_method_8_code 163 = .ok (.aload_n 0, 1) := by decide +kernel
theorem d_MenuScreensModel_number_164 : decode prog_13_method_8_code 164 = .ok (.iload 5, 2) := by decide +kernel
theorem d_MenuScreensModel_number_166 : decode prog_13_method_8_code 166 = .ok (.ifCond .eq 11, 3) := by decide +kernel
theorem d_MenuScreensModel_number_169 : decode prog_13_method_8_code 169 = .ok (.aload_n 0, 1) := by decide +kernel
theorem d_MenuScreensModel_number_170 : decode prog_13_method_8_code 170 = .ok (.getfield 152, 3) := by decide +kernel
theorem d_MenuScreensModel_number_173 : decode prog_13_method_8_code 173 = .ok (.lneg, 1) := by decide +kernel
theorem d_MenuScreensModel_number_174 : decode prog_13_method_8_code 174 = .ok (.goto 7, 3) := by decide +kernel
theorem d_MenuScreensModel_number_177 : decode prog_13_method_8_code 177 = .ok (.aload_n 0, 1) := by decide +kernel
theorem d_MenuScreensModel_number_178 : decode prog_13_method_8_code 178 = .ok (.getfield 152, 3) := by decide +kernel
theorem d_MenuScreensModel_number_181 : decode prog_13_method_8_code 181 = .ok (.putfield 152, 3) := by decide +kernel
theorem d_MenuScreensModel_number_184 : decode prog_13_method_8_code 184 = .ok (.iload 7, 2) := by decide +kernel
theorem d_MenuScreensModel_number_186 : decode prog_13_method_8_code 186 = .ok (.ifCond .eq 25, 3) := by decide +kernel
theorem d_MenuScreensModel_number_189 : decode prog_13_method_8_code 189 = .ok (.aload_n 0, 1) := by decide +kernel
theorem d_MenuScreensModel_number_190 : decode prog_13_method_8_code 190 = .ok (.getfield 152, 3) := by decide +kernel
theorem d_MenuScreensModel_number_193 : decode prog_13_method_8_code 193 = .ok (.lload_n 1, 1) := by decide +kernel
theorem d_MenuScreensModel_number_194 : decode prog_13_method_8_code 194 = .ok (.lcmp, 1) := by decide +kernel
theorem d_MenuScreensModel_number_195 : decode prog_13_method_8_code 195 = .ok (.ifCond .lt 16, 3) := by decide +kernel
theorem d_MenuScreensModel_number_198 : decode prog_13_method_8_code 198 = .ok (.aload_n 0, 1) := by decide +kernel
theorem d_MenuScreensModel_number_199 : decode prog_13_method_8_code 199 = .ok (.getfield 152, 3) := by decide +kernel
theorem d_MenuScreensModel_number_202 : decode prog_13_method_8_code 202 = .ok (.lload_n 3, 1) := by decide +kernel
theorem d_MenuScreensModel_number_203 : decode prog_13_method_8_code 203 = .ok (.lcmp, 1) := by decide +kernel
theorem d_MenuScreensModel_number_204 : decode prog_13_method_8_code 204 = .ok (.ifCond .gt 7, 3) := by decide +kernel
theorem d_MenuScreensModel_number_207 : decode prog_13_method_8_code 207 = .ok (.iconst 1, 1) := by decide +kernel
theorem d_MenuScreensModel_number_208 : decode prog_13_method_8_code 208 = .ok (.goto 4, 3) := by decide +kernel
theorem d_MenuScreensModel_number_211 : decode prog_13_method_8_code 211 = .ok (.iconst 0, 1) := by decide +kernel
theorem d_MenuScreensModel_number_212 : decode prog_13_method_8_code 212 = .ok (.ireturn, 1) := by decide +kernel
set_option maxRecDepth 100000 in
set_option maxHeartbeats 4000000 in
theorem cm_MenuScreensModel_number {l : Launch} {S0 : State} {b : Nat} {D : va_G} {dT : Nat → ClassId} (hE : vEnv S0 b D dT) {h0 : vH} {a : Nat} {ar : Nat → Nat} {x : Nat → Int32} {y : Nat → Int64} {A : Nat → Nat → Int32} {B : Nat → Nat → Int64} (M : MV S0 dT h0 a ar x y A B) (p1 : Int64) (p2 : Int64) {i0 e0 : Nat} (hat : x 7 = nI i0) (hend : x 8 = nI e0) (hle : i0 ≤ e0) (he : e0 ≤ 4000) : vMi l S0 D vcl GT y_MenuScreensModel_number prog_13_method_8_code 9 (some .boolean) 1 20 0 0 [.ref a, .long p1, .long p2] h0 (fun r h' => ∃ x' y', MR S0 dT h0 h' a ar x' y' A B ∧ x' = upd (upd (upd x 7 (nI (nT (A 6) e0 i0))) 9 (nI (nF (A 6) e0 i0))) 10 (nI (nT (A 6) e0 i0)) ∧ (∀ k, k ≠ 11 → y' k = y k) ∧ (r = 1 → y' 11 = nuV (A 6) (nF (A 6) e0 i0) (nT (A 6) e0 i0)) ∧ r = bI (decide ((nF (A 6) e0 i0) < (nT (A 6) e0 i0)) && (isNu (A 6) (nF (A 6) e0 i0) (nT (A 6) e0 i0) && (decide (p1 ≤ nuV (A 6) (nF (A 6) e0 i0) (nT (A 6) e0 i0)) && decide (nuV (A 6) (nF (A 6) e0 i0) (nT (A 6) e0 i0) ≤ p2))))) := by
  unfold vMi
  refine vM_ofQ hE.1 (by decide) (Nat.le_of_ble_eq_true rfl) (fun p e s m args below meth c ls Q hQ C hr hlk hnm X hl => ?_)
  have C : vC p s m _ c _ _ "MenuScreensModel" GT D vcl (vty dT) := C
  have hx := C.1.1
  have hb := C.1.2.1
  replace M := MR.of M
  obtain ⟨H, eH⟩ : ∃ z, z = s.heap := ⟨_, rfl⟩
  obtain ⟨locs, elocs⟩ : ∃ z : List Loc, z = [] := ⟨_, rfl⟩
  rw [← eH, ← elocs] at X
  rw [← eH, ← elocs]
  clear eH elocs
  have hl : lv_has ls 9 [(0, .ref a), (1, .long p1), (3, .long p2)] := hl
  refine lv_aload_n hx hb d_MenuScreensModel_number_0 rfl (lv_at hl 0 rfl) ?_
  refine mv_bi X (mv_rV (rest := []) (As := []) gt_good C X k_12_145 (cm_MenuScreensModel_next hE M.1 (i0 := i0) (e0 := e0) (F := nF (A 6) e0 i0) (T := nT (A 6) e0 i0) hat hend hle he rfl rfl) M.1.1 rfl rfl ⟨by decide, by decide⟩ rfl hl.1 rfl (by decide) d_MenuScreensModel_number_1 ⟨Nat.le_refl _, Nat.le_refl _⟩) (fun r1 hN H locs hp X => ?_)
  obtain ⟨x1, M1, rfl, er1⟩ := hp
  replace M := M.trans M1
  refine lv_if_ne (tgt := 9) hx hb d_MenuScreensModel_number_4 (by decide) (fun c2 => ?_) (fun c2 => ?_)
  · skip
    have hlt : (nF (A 6) e0 i0) < (nT (A 6) e0 i0) := by
      apply Classical.byContradiction
      intro q
      exact c2 (er1.trans (if_neg q))
    have hFT := hlt
    have hTe := (nT_in (A 6) hle).2
    obtain ⟨F, hF⟩ : ∃ z, z = (nF (A 6) e0 i0) := ⟨_, rfl⟩
    obtain ⟨T, hT⟩ : ∃ z, z = (nT (A 6) e0 i0) := ⟨_, rfl⟩
    rw [← hF, ← hT] at hFT
    rw [← hT] at hTe
    rw [← hF, ← hT] at M
    rw [← hF, ← hT] at er1
    obtain ⟨d, hd⟩ : ∃ z, z = dg1 (A 6) F := ⟨_, rfl⟩
    have hd1 : F ≤ d ∧ d ≤ F + 1 := by rw [hd]; unfold dg1; split <;> omega
    have j50 : ∀ (bl : Int32) (i1 : Int32) (ls : Array Slot), (bl = bI (decide (A 6 F = 45))) → (i1 = nI d) → lv_has ls 9 [(0, .ref a), (1, .long p1), (3, .long p2), (5, .int bl), (6, .int i1)] → W p l e (vRm 1 20 0 0) s m args below meth c H locs 0 0 Q (F0 m 50 ls []) := by
      intro bl i1 ls ebl e1 hl
      obtain ⟨g0, hg0⟩ : ∃ z, z = (decide (d < T) && decide (T - d < 7)) := ⟨_, rfl⟩
      have hTd : d ≤ T → nI T - i1 = nI (T - d) := fun q => by rw [e1]; exact nI_sub q
      have j76 : ∀ (ls : Array Slot), lv_has ls 9 [(0, .ref a), (1, .long p1), (3, .long p2), (5, .int bl), (6, .int i1)] → W p l e (vRm 1 20 0 0) s m args below meth c H locs 0 0 Q (F0 m 76 ls [.int (bI g0)]) := by
        intro  ls  hl
        refine lv_istore (lv' := [(7, .int (bI g0)), (0, .ref a), (1, .long p1), (3, .long p2), (5, .int bl), (6, .int i1)]) hx hb d_MenuScreensModel_number_76 hl (by decide) rfl (fun ls hl => ?_)
        refine lv_aload_n hx hb d_MenuScreensModel_number_78 rfl (lv_at hl 1 rfl) ?_
        refine lv_lconst (v := 0) hx hb d_MenuScreensModel_number_79 (by decide) ?_
        refine mm_put C X M 11 p_12_152_13 (upd (upd (upd x 7 (nI T)) 9 (nI F)) 10 (nI T)) (vp_updL y 11 0) rfl rfl rfl (by decide) d_MenuScreensModel_number_80 (fun h H locs X M => ?_)
        refine lv_iload hx hb d_MenuScreensModel_number_83 (lv_at hl 5 rfl) ?_
        refine lv_istore (lv' := [(8, .int i1), (7, .int (bI g0)), (0, .ref a), (1, .long p1), (3, .long p2), (5, .int bl), (6, .int i1)]) hx hb d_MenuScreensModel_number_85 hl (by decide) rfl (fun ls hl => ?_)
        have j163 : ∀ (g : Int32) (v : Int64) (ls : Array Slot) (h : vH) (H : Heap) (locs : List Loc), (g = bI (isNu (A 6) F T)) → (isNu (A 6) F T = true → v = dvL (A 6) d (T - d)) → vO S0 D vcl h s H locs → MR S0 dT h0 h a ar (upd (upd (upd x 7 (nI T)) 9 (nI F)) 10 (nI T)) (vp_updL y 11 v) A B → lv_has ls 9 [(0, .ref a), (1, .long p1), (3, .long p2), (5, .int bl), (7, .int g)] → W p l e (vRm 1 20 0 0) s m args below meth c H locs 0 0 Q (F0 m 163 ls []) := by
          intro g v ls h H locs eg hv X M hl
          have j184 : ∀ (v : Int64) (ls : Array Slot) (h : vH) (H : Heap) (locs : List Loc), (isNu (A 6) F T = true → v = nuV (A 6) F T) → vO S0 D vcl h s H locs → MR S0 dT h0 h a ar (upd (upd (upd x 7 (nI T)) 9 (nI F)) 10 (nI T)) (vp_updL y 11 v) A B → lv_has ls 9 [(0, .ref a), (1, .long p1), (3, .long p2), (7, .int g)] → W p l e (vRm 1 20 0 0) s m args below meth c H locs 0 0 Q (F0 m 184 ls []) := by
            intro v ls h H locs hv X M hl
            refine lv_iload hx hb d_MenuScreensModel_number_184 (lv_at hl 3 rfl) ?_
            refine lv_if_eq (tgt := 211) hx hb d_MenuScreensModel_number_186 (by decide) (fun c3 => ?_) (fun c3 => ?_)
            · skip
              refine lv_iconst (v := 0) hx hb d_MenuScreensModel_number_211 (by decide) ?_
              exact mq_iret hQ C X hr rfl hlk (⟨_, _, M, by rw [← hF, ← hT], fun k hk => if_neg hk, fun z => absurd z (by decide), by
                  rw [← hF, ← hT, decide_eq_true hFT, Bool.true_and]
                  rw [bI_0 (eg.symm.trans c3)]; rfl⟩) (Nat.le_refl _) (Nat.le_refl _) d_MenuScreensModel_number_212
            · skip
              refine lv_aload_n hx hb d_MenuScreensModel_number_189 rfl (lv_at hl 0 rfl) ?_
              refine mm_get C X M 11 f_12_152_13 (.long v) rfl d_MenuScreensModel_number_190 ?_
              refine lv_lload_n hx hb d_MenuScreensModel_number_193 rfl (lv_at hl 1 rfl) ?_
              refine W.lcmp hx hb d_MenuScreensModel_number_194 ?_
              refine lv_if_lt (tgt := 211) hx hb d_MenuScreensModel_number_195 (by decide) (fun c4 => ?_) (fun c4 => ?_)
              · skip
                refine lv_iconst (v := 0) hx hb d_MenuScreensModel_number_211 (by decide) ?_
                exact mq_iret hQ C X hr rfl hlk (⟨_, _, M, by rw [← hF, ← hT], fun k hk => if_neg hk, fun z => absurd z (by decide), by
                    rw [← hF, ← hT, decide_eq_true hFT, Bool.true_and]
                    have q0 : isNu (A 6) F T = true := bI_n (fun z => c3 (eg.trans z))
                    rw [q0, ← hv q0, decide_eq_false (Int64.not_le.mpr ((lg_cmp_lt _ _).mp c4))]; rfl⟩) (Nat.le_refl _) (Nat.le_refl _) d_MenuScreensModel_number_212
              · skip
                refine lv_aload_n hx hb d_MenuScreensModel_number_198 rfl (lv_at hl 0 rfl) ?_
                refine mm_get C X M 11 f_12_152_13 (.long v) rfl d_MenuScreensModel_number_199 ?_
                refine lv_lload_n hx hb d_MenuScreensModel_number_202 rfl (lv_at hl 2 rfl) ?_
                refine W.lcmp hx hb d_MenuScreensModel_number_203 ?_
                refine lv_if_gt (tgt := 211) hx hb d_MenuScreensModel_number_204 (by decide) (fun c5 => ?_) (fun c5 => ?_)
                · skip
                  refine lv_iconst (v := 0) hx hb d_MenuScreensModel_number_211 (by decide) ?_
                  exact mq_iret hQ C X hr rfl hlk (⟨_, _, M, by rw [← hF, ← hT], fun k hk => if_neg hk, fun z => absurd z (by decide), by
                      rw [← hF, ← hT, decide_eq_true hFT, Bool.true_and]
                      have q0 : isNu (A 6) F T = true := bI_n (fun z => c3 (eg.trans z))
                      rw [q0, ← hv q0, decide_eq_false (Int64.not_le.mpr ((lg_cmp_gt _ _).mp c5)), Bool.and_false, Bool.and_false]; rfl⟩) (Nat.le_refl _) (Nat.le_refl _) d_MenuScreensModel_number_212
                · skip
                  refine lv_iconst (v := 1) hx hb d_MenuScreensModel_number_207 (by decide) ?_
                  refine lv_goto (tgt := 212) hx hb d_MenuScreensModel_number_208 (by decide) ?_
                  exact mq_iret hQ C X hr rfl hlk (⟨_, _, M, by rw [← hF, ← hT], fun k hk => if_neg hk, fun _ => by
                      rw [← hF, ← hT]; exact hv (bI_n (fun z => c3 (eg.trans z))), by
                      rw [← hF, ← hT, decide_eq_true hFT, Bool.true_and]
                      have q0 : isNu (A 6) F T = true := bI_n (fun z => c3 (eg.trans z))
                      rw [q0, ← hv q0, decide_eq_true (Int64.not_lt.mp (fun z => c4 ((lg_cmp_lt _ _).mpr z))), decide_eq_true (Int64.not_lt.mp (fun z => c5 ((lg_cmp_gt _ _).mpr z)))]; rfl⟩) (Nat.le_refl _) (Nat.le_refl _) d_MenuScreensModel_number_212
          refine lv_aload_n hx hb d_MenuScreensModel_number_163 rfl (lv_at hl 0 rfl) ?_
          refine lv_iload hx hb d_MenuScreensModel_number_164 (lv_at hl 3 rfl) ?_
          refine lv_if_eq (tgt := 177) hx hb d_MenuScreensModel_number_166 (by decide) (fun c6 => ?_) (fun c6 => ?_)
          · skip
            refine lv_aload_n hx hb d_MenuScreensModel_number_177 rfl (lv_at hl 0 rfl) ?_
            refine mm_get C X M 11 f_12_152_13 (.long v) rfl d_MenuScreensModel_number_178 ?_
            refine mm_put C X M 11 p_12_152_13 (upd (upd (upd x 7 (nI T)) 9 (nI F)) 10 (nI T)) (vp_updL y 11 v) rfl rfl rfl (by decide) d_MenuScreensModel_number_181 (fun h H locs X M => ?_)
            have hv2 : isNu (A 6) F T = true → v = nuV (A 6) F T := fun q => by
              have q1 : (decide (A 6 F = 45)) = false := bI_0 (ebl.symm.trans c6)
              unfold nuV
              rw [if_neg (of_decide_eq_false q1), hv q, hd, dg1, if_neg (of_decide_eq_false q1)]
            exact j184 v ls _ _ _ hv2 X M (lv_sub hl [0, 1, 2, 4] rfl)
          · skip
            refine lv_aload_n hx hb d_MenuScreensModel_number_169 rfl (lv_at hl 0 rfl) ?_
            refine mm_get C X M 11 f_12_152_13 (.long v) rfl d_MenuScreensModel_number_170 ?_
            refine lv_lneg hx hb d_MenuScreensModel_number_173 ?_
            refine lv_goto (tgt := 181) hx hb d_MenuScreensModel_number_174 (by decide) ?_
            refine mm_put C X M 11 p_12_152_13 (upd (upd (upd x 7 (nI T)) 9 (nI F)) 10 (nI T)) (vp_updL y 11 (-v)) rfl rfl rfl (by decide) d_MenuScreensModel_number_181 (fun h H locs X M => ?_)
            have hv2 : isNu (A 6) F T = true → (-v) = nuV (A 6) F T := fun q => by
              have q1 : (decide (A 6 F = 45)) = true := bI_n (fun z => c6 (ebl.trans z))
              unfold nuV
              rw [if_pos (of_decide_eq_true q1), hv q, hd, dg1, if_pos (of_decide_eq_true q1)]
            exact j184 (-v) ls _ _ _ hv2 X M (lv_sub hl [0, 1, 2, 4] rfl)
        have lp : ∀ (n_lp : Nat) (k : Nat) (g : Int32) (i : Int32) (v : Int64) (ls : Array Slot) (h : vH) (H : Heap) (locs : List Loc), (i = nI k) → (d ≤ k) → (k ≤ T) → (g = bI (g0 && dgB (A 6) d (k - d))) → ((g0 && dgB (A 6) d (k - d)) = true → v = dvL (A 6) d (k - d)) → (T - k) < n_lp → vO S0 D vcl h s H locs → MR S0 dT h0 h a ar (upd (upd (upd x 7 (nI T)) 9 (nI F)) 10 (nI T)) (vp_updL y 11 v) A B → lv_has ls 9 [(0, .ref a), (1, .long p1), (3, .long p2), (5, .int bl), (6, .int i1), (7, .int g), (8, .int i)] → W p l e (vRm 1 20 0 0) s m args below meth c H locs 0 0 Q (F0 m 87 ls []) := by
          intro n_lp
          induction n_lp with
          | zero => intros; exact absurd (by assumption) (Nat.not_lt_zero _)
          | succ n_lp ih_lp =>
            intro k g i v ls h H locs ei hk1 hk2 eg hv hmu_lp X M hl
            refine lv_iload hx hb d_MenuScreensModel_number_87 (lv_at hl 6 rfl) ?_
            refine lv_aload_n hx hb d_MenuScreensModel_number_89 rfl (lv_at hl 0 rfl) ?_
            refine mm_get C X M 10 f_12_142_13 (.int (nI T)) rfl d_MenuScreensModel_number_90 ?_
            refine lv_icmp_ge (tgt := 163) hx hb d_MenuScreensModel_number_93 (by decide) (fun c7 => ?_) (fun c7 => ?_)
            · skip
              have hkT : k = T := by
                have := (nI_leI (a := T) (b := k) (by omega) (by omega)).mp (by rw [← ei]; exact c7)
                omega
              have qn : isNu (A 6) F T = (g0 && dgB (A 6) d (k - d)) := by
                unfold isNu
                rw [← hd, ← hg0, hkT]
              have eg2 : g = bI (isNu (A 6) F T) := by rw [qn]; exact eg
              have hv2 : isNu (A 6) F T = true → v = dvL (A 6) d (T - d) := fun q => by rw [qn] at q; rw [hv q, hkT]
              exact j163 g v ls _ _ _ eg2 hv2 X M (lv_sub hl [0, 1, 2, 3, 5] rfl)
            · skip
              have hlt : k < T := by
                rcases Nat.lt_or_ge k T with q | q
                · exact q
                · exact absurd (by rw [ei]; exact nI_le q (by omega)) c7
              refine lv_iload hx hb d_MenuScreensModel_number_96 (lv_at hl 5 rfl) ?_
              refine lv_if_eq (tgt := 163) hx hb d_MenuScreensModel_number_98 (by decide) (fun c8 => ?_) (fun c8 => ?_)
              · skip
                have q0 : (g0 && dgB (A 6) d (k - d)) = false := bI_0 (eg.symm.trans c8)
                have qn : isNu (A 6) F T = false := by
                  unfold isNu
                  rw [← hd, ← hg0]
                  rcases Bool.and_eq_false_iff.mp q0 with q | q
                  · rw [q]; rfl
                  · rw [dgB_mono (by omega) q, Bool.and_false]
                have eg2 : g = bI (isNu (A 6) F T) := by rw [qn]; exact c8
                have hv2 : isNu (A 6) F T = true → v = dvL (A 6) d (T - d) := fun q => by rw [qn] at q; cases q
                exact j163 g v ls _ _ _ eg2 hv2 X M (lv_sub hl [0, 1, 2, 3, 5] rfl)
              · skip
                have q0 : (g0 && dgB (A 6) d (k - d)) = true := bI_n (fun q => c8 (eg.trans q))
                refine lv_aload_n hx hb d_MenuScreensModel_number_101 rfl (lv_at hl 0 rfl) ?_
                refine mm_get C X M 6 f_12_13_13 (.ref (ar 6)) rfl d_MenuScreensModel_number_102 ?_
                refine lv_iload hx hb d_MenuScreensModel_number_105 (lv_at hl 6 rfl) ?_
                refine mm_iald C X M 6 4000 rfl (A 6) rfl (by decide) k ei (by omega) d_MenuScreensModel_number_107 ?_
                refine lv_bipush (v := 48) hx hb d_MenuScreensModel_number_108 (by decide) ?_
                refine lv_icmp_lt (tgt := 129) hx hb d_MenuScreensModel_number_110 (by decide) (fun c9 => ?_) (fun c9 => ?_)
                · skip
                  refine lv_iconst (v := 0) hx hb d_MenuScreensModel_number_129 (by decide) ?_
                  refine lv_istore (lv' := [(7, .int 0), (0, .ref a), (1, .long p1), (3, .long p2), (5, .int bl), (6, .int i1), (8, .int i)]) hx hb d_MenuScreensModel_number_130 hl (by decide) rfl (fun ls hl => ?_)
                  refine lv_aload_n hx hb d_MenuScreensModel_number_132 rfl (lv_at hl 1 rfl) ?_
                  refine lv_aload_n hx hb d_MenuScreensModel_number_133 rfl (lv_at hl 1 rfl) ?_
                  refine mm_get C X M 11 f_12_152_13 (.long v) rfl d_MenuScreensModel_number_134 ?_
                  refine lv_ldc2 (v := 10) hx hb C.1.2.2.2.1 (C.1.2.2.2.2 _ (gt_6 21 (by decide +kernel) rfl)) d_MenuScreensModel_number_137 ?_
                  refine lv_lmul hx hb d_MenuScreensModel_number_140 ?_
                  refine lv_aload_n hx hb d_MenuScreensModel_number_141 rfl (lv_at hl 1 rfl) ?_
                  refine mm_get C X M 6 f_12_13_13 (.ref (ar 6)) rfl d_MenuScreensModel_number_142 ?_
                  refine lv_iload hx hb d_MenuScreensModel_number_145 (lv_at hl 6 rfl) ?_
                  refine mm_iald C X M 6 4000 rfl (A 6) rfl (by decide) k ei (by omega) d_MenuScreensModel_number_147 ?_
                  refine lv_i2l (v := (((A 6) k) : Int32).toInt64) hx hb d_MenuScreensModel_number_148 rfl ?_
                  refine lv_ladd hx hb d_MenuScreensModel_number_149 ?_
                  refine lv_ldc2 (v := 48) hx hb C.1.2.2.2.1 (C.1.2.2.2.2 _ (gt_6 22 (by decide +kernel) rfl)) d_MenuScreensModel_number_150 ?_
                  refine lv_lsub hx hb d_MenuScreensModel_number_153 ?_
                  refine mm_put C X M 11 p_12_152_13 (upd (upd (upd x 7 (nI T)) 9 (nI F)) 10 (nI T)) (vp_updL y 11 (((v * 10) + ((((A 6) k) : Int32).toInt64)) - 48)) rfl rfl rfl (by decide) d_MenuScreensModel_number_154 (fun h H locs X M => ?_)
                  have eg1 : (0 : Int32) = bI (g0 && dgB (A 6) d (k + 1 - d)) := by
                    rw [dgB_s hk1, decide_eq_false (Int32.not_le.mpr c9), Bool.false_and, Bool.and_false, Bool.and_false]; rfl
                  have hv1 : (g0 && dgB (A 6) d (k + 1 - d)) = true → (((v * 10) + ((((A 6) k) : Int32).toInt64)) - 48) = dvL (A 6) d (k + 1 - d) := fun _ => by rw [dvL_s hk1, hv q0]
                  refine lv_iinc (v := (i + 1)) (lv' := [(8, .int (i + 1)), (7, .int 0), (0, .ref a), (1, .long p1), (3, .long p2), (5, .int bl), (6, .int i1)]) hx hb d_MenuScreensModel_number_157 hl (k := 6) rfl rfl (by decide) rfl (fun ls hl => ?_)
                  refine lv_goto (tgt := 87) hx hb d_MenuScreensModel_number_160 (by decide) ?_
                  exact ih_lp (k + 1) 0 (i + 1) (((v * 10) + ((((A 6) k) : Int32).toInt64)) - 48) ls _ _ _ (by rw [ei]; exact nI_1 k) (by omega) (by omega) eg1 hv1 (by omega) X M (lv_sub hl [2, 3, 4, 5, 6, 1, 0] rfl)
                · skip
                  refine lv_aload_n hx hb d_MenuScreensModel_number_113 rfl (lv_at hl 0 rfl) ?_
                  refine mm_get C X M 6 f_12_13_13 (.ref (ar 6)) rfl d_MenuScreensModel_number_114 ?_
                  refine lv_iload hx hb d_MenuScreensModel_number_117 (lv_at hl 6 rfl) ?_
                  refine mm_iald C X M 6 4000 rfl (A 6) rfl (by decide) k ei (by omega) d_MenuScreensModel_number_119 ?_
                  refine lv_bipush (v := 57) hx hb d_MenuScreensModel_number_120 (by decide) ?_
                  refine lv_icmp_gt (tgt := 129) hx hb d_MenuScreensModel_number_122 (by decide) (fun c10 => ?_) (fun c10 => ?_)
                  · skip
                    refine lv_iconst (v := 0) hx hb d_MenuScreensModel_number_129 (by decide) ?_
                    refine lv_istore (lv' := [(7, .int 0), (0, .ref a), (1, .long p1), (3, .long p2), (5, .int bl), (6, .int i1), (8, .int i)]) hx hb d_MenuScreensModel_number_130 hl (by decide) rfl (fun ls hl => ?_)
                    refine lv_aload_n hx hb d_MenuScreensModel_number_132 rfl (lv_at hl 1 rfl) ?_
                    refine lv_aload_n hx hb d_MenuScreensModel_number_133 rfl (lv_at hl 1 rfl) ?_
                    refine mm_get C X M 11 f_12_152_13 (.long v) rfl d_MenuScreensModel_number_134 ?_
                    refine lv_ldc2 (v := 10) hx hb C.1.2.2.2.1 (C.1.2.2.2.2 _ (gt_6 21 (by decide +kernel) rfl)) d_MenuScreensModel_number_137 ?_
                    refine lv_lmul hx hb d_MenuScreensModel_number_140 ?_
                    refine lv_aload_n hx hb d_MenuScreensModel_number_141 rfl (lv_at hl 1 rfl) ?_
                    refine mm_get C X M 6 f_12_13_13 (.ref (ar 6)) rfl d_MenuScreensModel_number_142 ?_
                    refine lv_iload hx hb d_MenuScreensModel_number_145 (lv_at hl 6 rfl) ?_
                    refine mm_iald C X M 6 4000 rfl (A 6) rfl (by decide) k ei (by omega) d_MenuScreensModel_number_147 ?_
                    refine lv_i2l (v := (((A 6) k) : Int32).toInt64) hx hb d_MenuScreensModel_number_148 rfl ?_
                    refine lv_ladd hx hb d_MenuScreensModel_number_149 ?_
                    refine lv_ldc2 (v := 48) hx hb C.1.2.2.2.1 (C.1.2.2.2.2 _ (gt_6 22 (by decide +kernel) rfl)) d_MenuScreensModel_number_150 ?_
                    refine lv_lsub hx hb d_MenuScreensModel_number_153 ?_
                    refine mm_put C X M 11 p_12_152_13 (upd (upd (upd x 7 (nI T)) 9 (nI F)) 10 (nI T)) (vp_updL y 11 (((v * 10) + ((((A 6) k) : Int32).toInt64)) - 48)) rfl rfl rfl (by decide) d_MenuScreensModel_number_154 (fun h H locs X M => ?_)
                    have eg1 : (0 : Int32) = bI (g0 && dgB (A 6) d (k + 1 - d)) := by
                      rw [dgB_s hk1, decide_eq_false (Int32.not_le.mpr c10), Bool.and_false, Bool.and_false, Bool.and_false]; rfl
                    have hv1 : (g0 && dgB (A 6) d (k + 1 - d)) = true → (((v * 10) + ((((A 6) k) : Int32).toInt64)) - 48) = dvL (A 6) d (k + 1 - d) := fun _ => by rw [dvL_s hk1, hv q0]
                    refine lv_iinc (v := (i + 1)) (lv' := [(8, .int (i + 1)), (7, .int 0), (0, .ref a), (1, .long p1), (3, .long p2), (5, .int bl), (6, .int i1)]) hx hb d_MenuScreensModel_number_157 hl (k := 6) rfl rfl (by decide) rfl (fun ls hl => ?_)
                    refine lv_goto (tgt := 87) hx hb d_MenuScreensModel_number_160 (by decide) ?_
                    exact ih_lp (k + 1) 0 (i + 1) (((v * 10) + ((((A 6) k) : Int32).toInt64)) - 48) ls _ _ _ (by rw [ei]; exact nI_1 k) (by omega) (by omega) eg1 hv1 (by omega) X M (lv_sub hl [2, 3, 4, 5, 6, 1, 0] rfl)
                  · skip
                    refine lv_iconst (v := 1) hx hb d_MenuScreensModel_number_125 (by decide) ?_
                    refine lv_goto (tgt := 130) hx hb d_MenuScreensModel_number_126 (by decide) ?_
                    refine lv_istore (lv' := [(7, .int 1), (0, .ref a), (1, .long p1), (3, .long p2), (5, .int bl), (6, .int i1), (8, .int i)]) hx hb d_MenuScreensModel_number_130 hl (by decide) rfl (fun ls hl => ?_)
                    refine lv_aload_n hx hb d_MenuScreensModel_number_132 rfl (lv_at hl 1 rfl) ?_
                    refine lv_aload_n hx hb d_MenuScreensModel_number_133 rfl (lv_at hl 1 rfl) ?_
                    refine mm_get C X M 11 f_12_152_13 (.long v) rfl d_MenuScreensModel_number_134 ?_
                    refine lv_ldc2 (v := 10) hx hb C.1.2.2.2.1 (C.1.2.2.2.2 _ (gt_6 21 (by decide +kernel) rfl)) d_MenuScreensModel_number_137 ?_
                    refine lv_lmul hx hb d_MenuScreensModel_number_140 ?_
                    refine lv_aload_n hx hb d_MenuScreensModel_number_141 rfl (lv_at hl 1 rfl) ?_
                    refine mm_get C X M 6 f_12_13_13 (.ref (ar 6)) rfl d_MenuScreensModel_number_142 ?_
                    refine lv_iload hx hb d_MenuScreensModel_number_145 (lv_at hl 6 rfl) ?_
                    refine mm_iald C X M 6 4000 rfl (A 6) rfl (by decide) k ei (by omega) d_MenuScreensModel_number_147 ?_
                    refine lv_i2l (v := (((A 6) k) : Int32).toInt64) hx hb d_MenuScreensModel_number_148 rfl ?_
                    refine lv_ladd hx hb d_MenuScreensModel_number_149 ?_
                    refine lv_ldc2 (v := 48) hx hb C.1.2.2.2.1 (C.1.2.2.2.2 _ (gt_6 22 (by decide +kernel) rfl)) d_MenuScreensModel_number_150 ?_
                    refine lv_lsub hx hb d_MenuScreensModel_number_153 ?_
                    refine mm_put C X M 11 p_12_152_13 (upd (upd (upd x 7 (nI T)) 9 (nI F)) 10 (nI T)) (vp_updL y 11 (((v * 10) + ((((A 6) k) : Int32).toInt64)) - 48)) rfl rfl rfl (by decide) d_MenuScreensModel_number_154 (fun h H locs X M => ?_)
                    have eg1 : (1 : Int32) = bI (g0 && dgB (A 6) d (k + 1 - d)) := by
                      rw [dgB_s hk1, ← Bool.and_assoc, q0, decide_eq_true (Int32.not_lt.mp c9), decide_eq_true (Int32.not_lt.mp c10)]; rfl
                    have hv1 : (g0 && dgB (A 6) d (k + 1 - d)) = true → (((v * 10) + ((((A 6) k) : Int32).toInt64)) - 48) = dvL (A 6) d (k + 1 - d) := fun _ => by rw [dvL_s hk1, hv q0]
                    refine lv_iinc (v := (i + 1)) (lv' := [(8, .int (i + 1)), (7, .int 1), (0, .ref a), (1, .long p1), (3, .long p2), (5, .int bl), (6, .int i1)]) hx hb d_MenuScreensModel_number_157 hl (k := 6) rfl rfl (by decide) rfl (fun ls hl => ?_)
                    refine lv_goto (tgt := 87) hx hb d_MenuScreensModel_number_160 (by decide) ?_
                    exact ih_lp (k + 1) 1 (i + 1) (((v * 10) + ((((A 6) k) : Int32).toInt64)) - 48) ls _ _ _ (by rw [ei]; exact nI_1 k) (by omega) (by omega) eg1 hv1 (by omega) X M (lv_sub hl [2, 3, 4, 5, 6, 1, 0] rfl)
        exact lp (T - d + 1) d (bI g0) i1 0 ls _ _ _ e1 (Nat.le_refl _) (by omega) (by rw [Nat.sub_self]; simp [dgB]) (fun _ => by rw [Nat.sub_self]; rfl) (Nat.lt_succ_self _) X M (lv_sub hl [2, 3, 4, 5, 6, 1, 0] rfl)
      refine lv_aload_n hx hb d_MenuScreensModel_number_50 rfl (lv_at hl 0 rfl) ?_
      refine mm_get C X M 10 f_12_142_13 (.int (nI T)) rfl d_MenuScreensModel_number_51 ?_
      refine lv_iload hx hb d_MenuScreensModel_number_54 (lv_at hl 4 rfl) ?_
      refine lv_icmp_le (tgt := 75) hx hb d_MenuScreensModel_number_56 (by decide) (fun c11 => ?_) (fun c11 => ?_)
      · skip
        refine lv_iconst (v := 0) hx hb d_MenuScreensModel_number_75 (by decide) ?_
        have eb : g0 = false := by
          have : ¬ d < T := fun q => absurd (by rw [e1]; exact nI_lt q (by omega)) (Int32.not_lt.mpr c11)
          rw [hg0, decide_eq_false this]; rfl
        rw [show (0 : Int32) = bI g0 by rw [eb]; rfl]
        exact j76 ls (lv_sub hl [0, 1, 2, 3, 4] rfl)
      · skip
        refine lv_aload_n hx hb d_MenuScreensModel_number_59 rfl (lv_at hl 0 rfl) ?_
        refine mm_get C X M 10 f_12_142_13 (.int (nI T)) rfl d_MenuScreensModel_number_60 ?_
        refine lv_iload hx hb d_MenuScreensModel_number_63 (lv_at hl 4 rfl) ?_
        refine lv_isub hx hb d_MenuScreensModel_number_65 ?_
        refine lv_bipush (v := 7) hx hb d_MenuScreensModel_number_66 (by decide) ?_
        refine lv_icmp_ge (tgt := 75) hx hb d_MenuScreensModel_number_68 (by decide) (fun c12 => ?_) (fun c12 => ?_)
        · skip
          refine lv_iconst (v := 0) hx hb d_MenuScreensModel_number_75 (by decide) ?_
          have hdT : d < T := by
            rcases Nat.lt_or_ge d T with q | q
            · exact q
            · exact absurd (by rw [e1]; exact nI_le q (by omega)) c11
          have eb : g0 = false := by
            rw [hg0, decide_eq_true hdT, Bool.true_and, decide_eq_false_iff_not]
            intro q
            exact absurd (by rw [hTd (by omega)]; exact nI_lt (b := 7) q (by decide)) (Int32.not_lt.mpr c12)
          rw [show (0 : Int32) = bI g0 by rw [eb]; rfl]
          exact j76 ls (lv_sub hl [0, 1, 2, 3, 4] rfl)
        · skip
          refine lv_iconst (v := 1) hx hb d_MenuScreensModel_number_71 (by decide) ?_
          refine lv_goto (tgt := 76) hx hb d_MenuScreensModel_number_72 (by decide) ?_
          have hdT : d < T := by
            rcases Nat.lt_or_ge d T with q | q
            · exact q
            · exact absurd (by rw [e1]; exact nI_le q (by omega)) c11
          have eb : g0 = true := by
            rw [hg0, decide_eq_true hdT, Bool.true_and, decide_eq_true_eq]
            rcases Nat.lt_or_ge (T - d) 7 with q | q
            · exact q
            · exact absurd (by rw [hTd (by omega)]; exact nI_le (a := 7) q (by omega)) c12
          rw [show (1 : Int32) = bI g0 by rw [eb]; rfl]
          exact j76 ls (lv_sub hl [0, 1, 2, 3, 4] rfl)
    refine lv_aload_n hx hb d_MenuScreensModel_number_9 rfl (lv_at hl 0 rfl) ?_
    refine mm_get C X M 6 f_12_13_13 (.ref (ar 6)) rfl d_MenuScreensModel_number_10 ?_
    refine lv_aload_n hx hb d_MenuScreensModel_number_13 rfl (lv_at hl 0 rfl) ?_
    refine mm_get C X M 9 f_12_139_13 (.int (nI F)) rfl d_MenuScreensModel_number_14 ?_
    refine mm_iald C X M 6 4000 rfl (A 6) rfl (by decide) F rfl (by omega) d_MenuScreensModel_number_17 ?_
    refine lv_bipush (v := 45) hx hb d_MenuScreensModel_number_18 (by decide) ?_
    refine lv_icmp_ne (tgt := 27) hx hb d_MenuScreensModel_number_20 (by decide) (fun c13 => ?_) (fun c13 => ?_)
    · skip
      refine lv_iconst (v := 0) hx hb d_MenuScreensModel_number_27 (by decide) ?_
      refine lv_istore (lv' := [(5, .int 0), (0, .ref a), (1, .long p1), (3, .long p2)]) hx hb d_MenuScreensModel_number_28 hl (by decide) rfl (fun ls hl => ?_)
      refine lv_iload hx hb d_MenuScreensModel_number_30 (lv_at hl 0 rfl) ?_
      refine lv_if_eq (tgt := 44) hx hb d_MenuScreensModel_number_32 (by decide) (fun c14 => ?_) (fun z => absurd rfl z)
      refine lv_aload_n hx hb d_MenuScreensModel_number_44 rfl (lv_at hl 1 rfl) ?_
      refine mm_get C X M 9 f_12_139_13 (.int (nI F)) rfl d_MenuScreensModel_number_45 ?_
      refine lv_istore (lv' := [(6, .int (nI F)), (5, .int 0), (0, .ref a), (1, .long p1), (3, .long p2)]) hx hb d_MenuScreensModel_number_48 hl (by decide) rfl (fun ls hl => ?_)
      exact j50 0 (nI F) ls  (by rw [decide_eq_false c13]; rfl) (by rw [hd, dg1, if_neg c13]) (lv_sub hl [2, 3, 4, 1, 0] rfl)
    · skip
      refine lv_iconst (v := 1) hx hb d_MenuScreensModel_number_23 (by decide) ?_
      refine lv_goto (tgt := 28) hx hb d_MenuScreensModel_number_24 (by decide) ?_
      refine lv_istore (lv' := [(5, .int 1), (0, .ref a), (1, .long p1), (3, .long p2)]) hx hb d_MenuScreensModel_number_28 hl (by decide) rfl (fun ls hl => ?_)
      refine lv_iload hx hb d_MenuScreensModel_number_30 (lv_at hl 0 rfl) ?_
      refine lv_if_eq (tgt := 44) hx hb d_MenuScreensModel_number_32 (by decide) (fun z => absurd z (by decide)) (fun c15 => ?_)
      refine lv_aload_n hx hb d_MenuScreensModel_number_35 rfl (lv_at hl 1 rfl) ?_
      refine mm_get C X M 9 f_12_139_13 (.int (nI F)) rfl d_MenuScreensModel_number_36 ?_
      refine lv_iconst (v := 1) hx hb d_MenuScreensModel_number_39 (by decide) ?_
      refine lv_iadd hx hb d_MenuScreensModel_number_40 ?_
      refine lv_goto (tgt := 48) hx hb d_MenuScreensModel_number_41 (by decide) ?_
      refine lv_istore (lv' := [(6, .int ((nI F) + 1)), (5, .int 1), (0, .ref a), (1, .long p1), (3, .long p2)]) hx hb d_MenuScreensModel_number_48 hl (by decide) rfl (fun ls hl => ?_)
      exact j50 1 ((nI F) + 1) ls  (by rw [decide_eq_true c13]; rfl) (by rw [hd, dg1, if_pos c13]; exact nI_1 F) (lv_sub hl [2, 3, 4, 1, 0] rfl)
  · skip
    refine lv_iconst (v := 0) hx hb d_MenuScreensModel_number_7 (by decide) ?_
    exact mq_iret hQ C X hr rfl hlk (⟨_, _, M, rfl, fun k hk => rfl, fun z => absurd z (by decide), by
        have q : ¬ (nF (A 6) e0 i0) < (nT (A 6) e0 i0) := fun q => absurd ((er1.trans (if_pos q)).symm.trans c2) (by decide)
        rw [decide_eq_false q]; rfl⟩) (Nat.le_refl _) (Nat.le_refl _) d_MenuScreensModel_number_8
end
section
theorem d_MenuScreensModel_same_0 : decode prog_13_method_9_code 0 = .ok (.iload_n 2, 1) := by decide +kernel
theorem d_MenuScreensModel_same_1 : decode prog_13_method_9_code 1 = .ok (.iload_n 1, 1) := by decide +kernel
theorem d_MenuScreensModel_same_2 : decode prog_13_method_9_code 2 = .ok (.isub, 1) := by decide +kernel
theorem d_MenuScreensModel_same_3 : decode prog_13_method_9_code 3 = .ok (.iload 4, 2) := by decide +kernel
theorem d_MenuScreensModel_same_5 : decode prog_13_method_9_code 5 = .ok (.iload_n 3, 1) := by decide +kernel
theorem d_MenuScreensModel_same_6 : decode prog_13_method_9_code 6 = .ok (.isub, 1) := by decide +kernel
theorem d_MenuScreensModel_same_7 : decode prog_13_method_9_code 7 = .ok (.if_icmp .ne 7, 3) := by decide +kernel
theorem d_MenuScreensModel_same_10 : decode prog_13_method_9_code 10 = .ok (.iconst 1, 1) := by decide +kernel
theorem d_MenuScreensModel_same_11 : decode prog_13_method_9_code 11 = .ok (.goto 4, 3) := by decide +kernel
theorem d_MenuScreensModel_same_14 : decode prog_13_method_9_code 14 = .ok (.iconst 0, 1) := by decide +kernel
theorem d_MenuScreensModel_same_15 : decode prog_13_method_9_code 15 = .ok (.istore 5, 2) := by decide +kernel
theorem d_MenuScreensModel_same_17 : decode prog_13_method_9_code 17 = .ok (.iconst 0, 1) := by decide +kernel
theorem d_MenuScreensModel_same_18 : decode prog_13_method_9_code 18 = .ok (.istore 6, 2) := by decide +kernel
theorem d_MenuScreensModel_same_20 : decode prog_13_method_9_code 20 = .ok (.iload 6, 2) := by decide +kernel
theorem d_MenuScreensModel_same_22 : decode prog_13_method_9_code 22 = .ok (.iload_n 2, 1) := by decide +kernel
theorem d_MenuScreensModel_same_23 : decode prog_13_method_9_code 23 = .ok (.iload_n 1, 1) := by decide +kernel
theorem d_MenuScreensModel_same_24 : decode prog_13_method_9_code 24 = .ok (.isub, 1) := by decide +kernel
theorem d_MenuScreensModel_same_25 : decode prog_13_method_9_code 25 = .ok (.if_icmp .ge 42, 3) := by decide +kernel
theorem d_MenuScreensModel_same_28 : decode prog_13_method_9_code 28 = .ok (.iload 5, 2) := by decide +kernel
theorem d_MenuScreensModel_same_30 : decode prog_13_method_9_code 30 = .ok (.ifCond .eq 37, 3) := by decide +kernel
theorem d_MenuScreensModel_same_33 : decode prog_13_method_9_code 33 = .ok (.aload_n 0, 1) := by decide +kernel
theorem d_MenuScreensModel_same_34 : decode prog_13_method_9_code 34 = .ok (.getfield 13, 3) := by decide +kernel
theorem d_MenuScreensModel_same_37 : decode prog_13_method_9_code 37 = .ok (.iload_n 1, 1) := by decide +kernel
theorem d_MenuScreensModel_same_38 : decode prog_13_method_9_code 38 = .ok (.iload 6, 2) := by decide +kernel
theorem d_MenuScreensModel_same_40 : decode prog_13_method_9_code 40 = .ok (.iadd, 1) := by decide +kernel
theorem d_MenuScreensModel_same_41 : decode prog_13_method_9_code 41 = .ok (.iaload, 1) := by decide +kernel
theorem d_MenuScreensModel_same_42 : decode prog_13_method_9_code 42 = .ok (.aload_n 0, 1) := by decide +kernel
theorem d_MenuScreensModel_same_43 : decode prog_13_method_9_code 43 = .ok (.getfield 13, 3) := by decide +kernel
theorem d_MenuScreensModel_same_46 : decode prog_13_method_9_code 46 = .ok (.iload_n 3, 1) := by decide +kernel
theorem d_MenuScreensModel_same_47 : decode prog_13_method_9_code 47 = .ok (.iload 6, 2) := by decide +kernel
theorem d_MenuScreensModel_same_49 : decode prog_13_method_9_code 49 = .ok (.iadd, 1) := by decide +kernel
theorem d_MenuScreensModel_same_50 : decode prog_13_method_9_code 50 = .ok (.iaload, 1) := by decide +kernel
theorem d_MenuScreensModel_same_51 : decode prog_13_method_9_code 51 = .ok (.if_icmp .ne 7, 3) := by decide +kernel
theorem d_MenuScreensModel_same_54 : decode prog_13_method_9_code 54 = .ok (.iconst 1, 1) := by decide +kernel
theorem d_MenuScreensModel_same_55 : decode prog_13_method_9_code 55 = .ok (.goto 4, 3) := by decide +kernel
theorem d_MenuScreensModel_same_58 : decode prog_13_method_9_code 58 = .ok (.iconst 0, 1) := by decide +kernel
theorem d_MenuScreensModel_same_59 : decode prog_13_method_9_code 59 = .ok (.istore 5, 2) := by decide +kernel
theorem d_MenuScreensModel_same_61 : decode prog_13_method_9_code 61 = .ok (.iinc 6 1, 3) := by decide +kernel
theorem d_MenuScreensModel_same_64 : decode prog_13_method_9_code 64 = .ok (.goto (-44), 3) := by decide +kernel
theorem d_MenuScreensModel_same_67 : decode prog_13_method_9_code 67 = .ok (.iload 5, 2) := by decide +kernel
theorem d_MenuScreensModel_same_69 : decode prog_13_method_9_code 69 = .ok (.ireturn, 1) := by decide +kernel
set_option maxRecDepth 100000 in
set_option maxHeartbeats 4000000 in
theorem cm_MenuScreensModel_same {l : Launch} {S0 : State} {b : Nat} {D : va_G} {dT : Nat → ClassId} (hE : vEnv S0 b D dT) {h0 : vH} {a : Nat} {ar : Nat → Nat} {x : Nat → Int32} {y : Nat → Int64} {A : Nat → Nat → Int32} {B : Nat → Nat → Int64} (M : MV S0 dT h0 a ar x y A B) (p1 : Int32) (p2 : Int32) (p3 : Int32) (p4 : Int32) {q1 q2 q3 q4 : Nat} (h1 : p1 = nI q1) (h2 : p2 = nI q2) (h3 : p3 = nI q3) (h4 : p4 = nI q4) (h12 : q1 ≤ q2) (h34 : q3 ≤ q4) (h24 : q2 ≤ 4000) (h44 : q4 ≤ 4000) : vMi l S0 D vcl GT y_MenuScreensModel_same prog_13_method_9_code 7 (some .boolean) 0 0 0 0 [.ref a, .int p1, .int p2, .int p3, .int p4] h0 (fun r h' => h' = h0 ∧ r = bI (smW (A 6) q1 q2 q3 q4)) := by
  unfold vMi
  refine vM_ofQ hE.1 (by decide) (Nat.le_of_ble_eq_true rfl) (fun p e s m args below meth c ls Q hQ C hr hlk hnm X hl => ?_)
  have C : vC p s m _ c _ _ "MenuScreensModel" GT D vcl (vty dT) := C
  have hx := C.1.1
  have hb := C.1.2.1
  replace M := MR.of M
  obtain ⟨H, eH⟩ : ∃ z, z = s.heap := ⟨_, rfl⟩
  obtain ⟨locs, elocs⟩ : ∃ z : List Loc, z = [] := ⟨_, rfl⟩
  rw [← eH, ← elocs] at X
  rw [← eH, ← elocs]
  clear eH elocs
  have hl : lv_has ls 7 [(0, .ref a), (1, .int p1), (2, .int p2), (3, .int p3), (4, .int p4)] := hl
  obtain ⟨b0, hb0⟩ : ∃ z, z = decide (q2 - q1 = q4 - q3) := ⟨_, rfl⟩
  have d1 : p2 - p1 = nI (q2 - q1) := by rw [h1, h2]; exact nI_sub h12
  have d2 : p4 - p3 = nI (q4 - q3) := by rw [h3, h4]; exact nI_sub h34
  have j15 : ∀ (ls : Array Slot), lv_has ls 7 [(0, .ref a), (1, .int p1), (2, .int p2), (3, .int p3), (4, .int p4)] → W p l e (vRm 0 0 0 0) s m args below meth c H locs 0 0 Q (F0 m 15 ls [.int (bI b0)]) := by
    intro  ls  hl
    refine lv_istore (lv' := [(5, .int (bI b0)), (0, .ref a), (1, .int p1), (2, .int p2), (3, .int p3), (4, .int p4)]) hx hb d_MenuScreensModel_same_15 hl (by decide) rfl (fun ls hl => ?_)
    refine lv_iconst (v := 0) hx hb d_MenuScreensModel_same_17 (by decide) ?_
    refine lv_istore (lv' := [(6, .int 0), (5, .int (bI b0)), (0, .ref a), (1, .int p1), (2, .int p2), (3, .int p3), (4, .int p4)]) hx hb d_MenuScreensModel_same_18 hl (by decide) rfl (fun ls hl => ?_)
    have lp : ∀ (n_lp : Nat) (k : Nat) (g : Int32) (i : Int32) (ls : Array Slot), (i = nI k) → (k ≤ q2 - q1) → (g = bI (b0 && smB (A 6) q1 q3 k)) → (q2 - q1 - k) < n_lp → lv_has ls 7 [(0, .ref a), (1, .int p1), (2, .int p2), (3, .int p3), (4, .int p4), (5, .int g), (6, .int i)] → W p l e (vRm 0 0 0 0) s m args below meth c H locs 0 0 Q (F0 m 20 ls []) := by
      intro n_lp
      induction n_lp with
      | zero => intros; exact absurd (by assumption) (Nat.not_lt_zero _)
      | succ n_lp ih_lp =>
        intro k g i ls ei hk eg hmu_lp hl
        refine lv_iload hx hb d_MenuScreensModel_same_20 (lv_at hl 6 rfl) ?_
        refine lv_iload_n hx hb d_MenuScreensModel_same_22 rfl (lv_at hl 2 rfl) ?_
        refine lv_iload_n hx hb d_MenuScreensModel_same_23 rfl (lv_at hl 1 rfl) ?_
        refine lv_isub hx hb d_MenuScreensModel_same_24 ?_
        refine lv_icmp_ge (tgt := 67) hx hb d_MenuScreensModel_same_25 (by decide) (fun c1 => ?_) (fun c1 => ?_)
        · skip
          refine lv_iload hx hb d_MenuScreensModel_same_67 (lv_at hl 5 rfl) ?_
          exact mq_iret hQ C X hr (by rw [eg]; exact bI_nar _) hlk (⟨rfl, by
              have : k = q2 - q1 := by
                have := (nI_leI (a := q2 - q1) (b := k) (by omega) (by omega)).mp (by rw [← ei, ← d1]; exact c1)
                omega
              rw [eg, this, hb0]; rfl⟩) (Nat.le_refl _) (Nat.le_refl _) d_MenuScreensModel_same_69
        · skip
          have hlt : k < q2 - q1 := by
            rcases Nat.lt_or_ge k (q2 - q1) with q | q
            · exact q
            · exact absurd (by rw [d1, ei]; exact nI_le q (by omega)) c1
          refine lv_iload hx hb d_MenuScreensModel_same_28 (lv_at hl 5 rfl) ?_
          refine lv_if_eq (tgt := 67) hx hb d_MenuScreensModel_same_30 (by decide) (fun c2 => ?_) (fun c2 => ?_)
          · skip
            refine lv_iload hx hb d_MenuScreensModel_same_67 (lv_at hl 5 rfl) ?_
            exact mq_iret hQ C X hr (by rw [eg]; exact bI_nar _) hlk (⟨rfl, by
                have q0 : (b0 && smB (A 6) q1 q3 k) = false := bI_0 (eg.symm.trans c2)
                have : smW (A 6) q1 q2 q3 q4 = false := by
                  unfold smW
                  rw [← hb0]
                  rcases Bool.and_eq_false_iff.mp q0 with q | q
                  · rw [q]; rfl
                  · rw [smB_mono hk q, Bool.and_false]
                rw [this]; exact c2⟩) (Nat.le_refl _) (Nat.le_refl _) d_MenuScreensModel_same_69
          · skip
            have q0 : (b0 && smB (A 6) q1 q3 k) = true := bI_n (fun q => c2 (eg.trans q))
            have hq : b0 = true := (Bool.and_eq_true_iff.mp q0).1
            have hq : q2 - q1 = q4 - q3 := by rw [hb0] at hq; exact of_decide_eq_true hq
            have i1 : p1 + i = nI (q1 + k) := by rw [h1, ei]; exact nI_add _ _
            have i2 : p3 + i = nI (q3 + k) := by rw [h3, ei]; exact nI_add _ _
            refine lv_aload_n hx hb d_MenuScreensModel_same_33 rfl (lv_at hl 0 rfl) ?_
            refine mm_get C X M 6 f_12_13_13 (.ref (ar 6)) rfl d_MenuScreensModel_same_34 ?_
            refine lv_iload_n hx hb d_MenuScreensModel_same_37 rfl (lv_at hl 1 rfl) ?_
            refine lv_iload hx hb d_MenuScreensModel_same_38 (lv_at hl 6 rfl) ?_
            refine lv_iadd hx hb d_MenuScreensModel_same_40 ?_
            refine mm_iald C X M 6 4000 rfl (A 6) rfl (by decide) (q1 + k) i1 (by omega) d_MenuScreensModel_same_41 ?_
            refine lv_aload_n hx hb d_MenuScreensModel_same_42 rfl (lv_at hl 0 rfl) ?_
            refine mm_get C X M 6 f_12_13_13 (.ref (ar 6)) rfl d_MenuScreensModel_same_43 ?_
            refine lv_iload_n hx hb d_MenuScreensModel_same_46 rfl (lv_at hl 3 rfl) ?_
            refine lv_iload hx hb d_MenuScreensModel_same_47 (lv_at hl 6 rfl) ?_
            refine lv_iadd hx hb d_MenuScreensModel_same_49 ?_
            refine mm_iald C X M 6 4000 rfl (A 6) rfl (by decide) (q3 + k) i2 (by omega) d_MenuScreensModel_same_50 ?_
            refine lv_icmp_ne (tgt := 58) hx hb d_MenuScreensModel_same_51 (by decide) (fun c3 => ?_) (fun c3 => ?_)
            · skip
              refine lv_iconst (v := 0) hx hb d_MenuScreensModel_same_58 (by decide) ?_
              refine lv_istore (lv' := [(5, .int 0), (0, .ref a), (1, .int p1), (2, .int p2), (3, .int p3), (4, .int p4), (6, .int i)]) hx hb d_MenuScreensModel_same_59 hl (by decide) rfl (fun ls hl => ?_)
              have eg1 : (0 : Int32) = bI (b0 && smB (A 6) q1 q3 (k + 1)) := by
                rw [smB, ← Bool.and_assoc, q0, decide_eq_false c3]; rfl
              refine lv_iinc (v := (i + 1)) (lv' := [(6, .int (i + 1)), (5, .int 0), (0, .ref a), (1, .int p1), (2, .int p2), (3, .int p3), (4, .int p4)]) hx hb d_MenuScreensModel_same_61 hl (k := 6) rfl rfl (by decide) rfl (fun ls hl => ?_)
              refine lv_goto (tgt := 20) hx hb d_MenuScreensModel_same_64 (by decide) ?_
              exact ih_lp (k + 1) 0 (i + 1) ls  (by rw [ei]; exact nI_1 k) (by omega) eg1 (by omega) (lv_sub hl [2, 3, 4, 5, 6, 1, 0] rfl)
            · skip
              refine lv_iconst (v := 1) hx hb d_MenuScreensModel_same_54 (by decide) ?_
              refine lv_goto (tgt := 59) hx hb d_MenuScreensModel_same_55 (by decide) ?_
              refine lv_istore (lv' := [(5, .int 1), (0, .ref a), (1, .int p1), (2, .int p2), (3, .int p3), (4, .int p4), (6, .int i)]) hx hb d_MenuScreensModel_same_59 hl (by decide) rfl (fun ls hl => ?_)
              have eg1 : (1 : Int32) = bI (b0 && smB (A 6) q1 q3 (k + 1)) := by
                rw [smB, ← Bool.and_assoc, q0, decide_eq_true c3]; rfl
              refine lv_iinc (v := (i + 1)) (lv' := [(6, .int (i + 1)), (5, .int 1), (0, .ref a), (1, .int p1), (2, .int p2), (3, .int p3), (4, .int p4)]) hx hb d_MenuScreensModel_same_61 hl (k := 6) rfl rfl (by decide) rfl (fun ls hl => ?_)
              refine lv_goto (tgt := 20) hx hb d_MenuScreensModel_same_64 (by decide) ?_
              exact ih_lp (k + 1) 1 (i + 1) ls  (by rw [ei]; exact nI_1 k) (by omega) eg1 (by omega) (lv_sub hl [2, 3, 4, 5, 6, 1, 0] rfl)
    exact lp (q2 - q1 - 0 + 1) 0 (bI b0) 0 ls  nI_0.symm (by omega) (by simp [smB]) (Nat.lt_succ_self _) (lv_sub hl [2, 3, 4, 5, 6, 1, 0] rfl)
  refine lv_iload_n hx hb d_MenuScreensModel_same_0 rfl (lv_at hl 2 rfl) ?_
  refine lv_iload_n hx hb d_MenuScreensModel_same_1 rfl (lv_at hl 1 rfl) ?_
  refine lv_isub hx hb d_MenuScreensModel_same_2 ?_
  refine lv_iload hx hb d_MenuScreensModel_same_3 (lv_at hl 4 rfl) ?_
  refine lv_iload_n hx hb d_MenuScreensModel_same_5 rfl (lv_at hl 3 rfl) ?_
  refine lv_isub hx hb d_MenuScreensModel_same_6 ?_
  refine lv_icmp_ne (tgt := 14) hx hb d_MenuScreensModel_same_7 (by decide) (fun c4 => ?_) (fun c4 => ?_)
  · skip
    refine lv_iconst (v := 0) hx hb d_MenuScreensModel_same_14 (by decide) ?_
    have eb : b0 = false := by
      rw [hb0, decide_eq_false_iff_not]
      intro q
      exact c4 (by rw [d1, d2, q])
    rw [show (0 : Int32) = bI b0 by rw [eb]; rfl]
    exact j15 ls (lv_sub hl [0, 1, 2, 3, 4] rfl)
  · skip
    refine lv_iconst (v := 1) hx hb d_MenuScreensModel_same_10 (by decide) ?_
    refine lv_goto (tgt := 15) hx hb d_MenuScreensModel_same_11 (by decide) ?_
    have eb : b0 = true := by
      rw [hb0, decide_eq_true_eq]
      exact nI_eqI (by omega) (by omega) (by rw [← d1, ← d2]; exact c4)
    rw [show (1 : Int32) = bI b0 by rw [eb]; rfl]
    exact j15 ls (lv_sub hl [0, 1, 2, 3, 4] rfl)
theorem d_MenuScreensModel_findValue_0 : decode prog_13_method_12_code 0 = .ok (.iconst 1, 1) := by decide +kernel
theorem d_MenuScreensModel_findValue_1 : decode prog_13_method_12_code 1 = .ok (.istore_n 1, 1) := by decide +kernel
theorem d_MenuScreensModel_findValue_2 : decode prog_13_method_12_code 2 = .ok (.iload_n 1, 1) := by decide +kernel
theorem d_MenuScreensModel_findValue_3 : decode prog_13_method_12_code 3 = .ok (.aload_n 0, 1) := by decide +kernel
theorem d_MenuScreensModel_findValue_4 : decode prog_13_method_12_code 4 = .ok (.getfield 162, 3) := by decide +kernel
theorem d_MenuScreensModel_findValue_7 : decode prog_13_method_12_code 7 = .ok (.if_icmp .gt 38, 3) := by decide +kernel
theorem d_MenuScreensModel_findValue_10 : decode prog_13_method_12_code 10 = .ok (.aload_n 0, 1) := by decide +kernel
theorem d_MenuScreensModel_findValue_11 : decode prog_13_method_12_code 11 = .ok (.aload_n 0, 1) := by decide +kernel
theorem d_MenuScreensModel_findValue_12 : decode prog_13_method_12_code 12 = .ok (.getfield 16, 3) := by decide +kernel
theorem d_MenuScreensModel_findValue_15 : decode prog_13_method_12_code 15 = .ok (.iload_n 1, 1) := by decide +kernel
theorem d_MenuScreensModel_findValue_16 : decode prog_13_method_12_code 16 = .ok (.iaload, 1) := by decide +kernel
theorem d_MenuScreensModel_findValue_17 : decode prog_13_method_12_code 17 = .ok (.aload_n 0, 1) := by decide +kernel
theorem d_MenuScreensModel_findValue_18 : decode prog_13_method_12_code 18 = .ok (.getfield 19, 3) := by decide +kernel
theorem d_MenuScreensModel_findValue_21 : decode prog_13_method_12_code 21 = .ok (.iload_n 1, 1) := by decide +kernel
theorem d_MenuScreensModel_findValue_22 : decode prog_13_method_12_code 22 = .ok (.iaload, 1) := by decide +kernel
theorem d_MenuScreensModel_findValue_23 : decode prog_13_method_12_code 23 = .ok (.aload_n 0, 1) := by decide +kernel
theorem d_MenuScreensModel_findValue_24 : decode prog_13_method_12_code 24 = .ok (.getfield 139, 3) := by decide +kernel
theorem d_MenuScreensModel_findValue_27 : decode prog_13_method_12_code 27 = .ok (.aload_n 0, 1) := by decide +kernel
theorem d_MenuScreensModel_findValue_28 : decode prog_13_method_12_code 28 = .ok (.getfield 142, 3) := by decide +kernel
theorem d_MenuScreensModel_findValue_31 : decode prog_13_method_12_code 31 = .ok (.invokevirtual 165, 3) := by decide +kernel
theorem d_MenuScreensModel_findValue_34 : decode prog_13_method_12_code 34 = .ok (.ifCond .eq 5, 3) := by decide +kernel
theorem d_MenuScreensModel_findValue_37 : decode prog_13_method_12_code 37 = .ok (.iload_n 1, 1) := by decide +kernel
theorem d_MenuScreensModel_findValue_38 : decode prog_13_method_12_code 38 = .ok (.ireturn, 1) := by decide +kernel
theorem d_MenuScreensModel_findValue_39 : decode prog_13_method_12_code 39 = .ok (.iinc 1 1, 3) := by decide +kernel
theorem d_MenuScreensModel_findValue_42 : decode prog_13_method_12_code 42 = .ok (.goto (-40), 3) := by decide +kernel
theorem d_MenuScreensModel_findValue_45 : decode prog_13_method_12_code 45 = .ok (.iconst 0, 1) := by decide +kernel
theorem d_MenuScreensModel_findValue_46 : decode prog_13_method_12_code 46 = .ok (.ireturn, 1) := by decide +kernel
set_option maxRecDepth 100000 in
set_option maxHeartbeats 4000000 in
theorem cm_MenuScreensModel_findValue {l : Launch} {S0 : State} {b : Nat} {D : va_G} {dT : Nat → ClassId} (hE : vEnv S0 b D dT) {h0 : vH} {a : Nat} {ar : Nat → Nat} {x : Nat → Int32} {y : Nat → Int64} {A : Nat → Nat → Int32} {B : Nat → Nat → Int64} (M : MV S0 dT h0 a ar x y A B) {n : Nat} (hn : x 12 = nI n) (hn2 : n ≤ 40) (hR : ∀ v, 1 ≤ v → v ≤ n → ∃ p q, A 13 v = nI p ∧ A 14 v = nI q ∧ p ≤ q ∧ q ≤ 4000) {F T : Nat} (hF : x 9 = nI F) (hT : x 10 = nI T) (hFT : F ≤ T) (hT4 : T ≤ 4000) : vMi l S0 D vcl GT y_MenuScreensModel_findValue prog_13_method_12_code 2 (some .int) 1 30 0 0 [.ref a] h0 (fun r h' => h' = h0 ∧ r = nI (fnd (fun v => smW (A 6) (A 13 v).toNatClampNeg (A 14 v).toNatClampNeg F T) n 1)) := by
  unfold vMi
  refine vM_ofQ hE.1 (by decide) (Nat.le_of_ble_eq_true rfl) (fun p e s m args below meth c ls Q hQ C hr hlk hnm X hl => ?_)
  have C : vC p s m _ c _ _ "MenuScreensModel" GT D vcl (vty dT) := C
  have hx := C.1.1
  have hb := C.1.2.1
  replace M := MR.of M
  obtain ⟨H, eH⟩ : ∃ z, z = s.heap := ⟨_, rfl⟩
  obtain ⟨locs, elocs⟩ : ∃ z : List Loc, z = [] := ⟨_, rfl⟩
  rw [← eH, ← elocs] at X
  rw [← eH, ← elocs]
  clear eH elocs
  have hl : lv_has ls 2 [(0, .ref a)] := hl
  refine lv_iconst (v := 1) hx hb d_MenuScreensModel_findValue_0 (by decide) ?_
  refine lv_istore_n (lv' := [(1, .int 1), (0, .ref a)]) hx hb d_MenuScreensModel_findValue_1 rfl hl (by decide) rfl (fun ls hl => ?_)
  have lp : ∀ (n_lp : Nat) (k : Nat) (i : Int32) (ls : Array Slot) (H : Heap) (locs : List Loc), (i = nI k) → (1 ≤ k) → (k ≤ n + 1) → (fnd (fun v => smW (A 6) (A 13 v).toNatClampNeg (A 14 v).toNatClampNeg F T) (n + 1 - k) k = fnd (fun v => smW (A 6) (A 13 v).toNatClampNeg (A 14 v).toNatClampNeg F T) n 1) → (n + 1 - k) < n_lp → vO S0 D vcl h0 s H locs → lv_has ls 2 [(0, .ref a), (1, .int i)] → W p l e (vRm 1 30 0 0) s m args below meth c H locs 0 0 Q (F0 m 2 ls []) := by
    intro n_lp
    induction n_lp with
    | zero => intros; exact absurd (by assumption) (Nat.not_lt_zero _)
    | succ n_lp ih_lp =>
      intro k i ls H locs ei hk1 hk hs hmu_lp X hl
      refine lv_iload_n hx hb d_MenuScreensModel_findValue_2 rfl (lv_at hl 1 rfl) ?_
      refine lv_aload_n hx hb d_MenuScreensModel_findValue_3 rfl (lv_at hl 0 rfl) ?_
      refine mm_get C X M 12 f_12_162_13 (.int (x 12)) rfl d_MenuScreensModel_findValue_4 ?_
      refine lv_icmp_gt (tgt := 45) hx hb d_MenuScreensModel_findValue_7 (by decide) (fun c1 => ?_) (fun c1 => ?_)
      · skip
        refine lv_iconst (v := 0) hx hb d_MenuScreensModel_findValue_45 (by decide) ?_
        exact mq_iret hQ C X hr rfl hlk (⟨rfl, by
            have : k = n + 1 := by
              have := (nI_ltI (a := n) (b := k) (by omega) (by omega)).mp (by rw [← ei, ← hn]; exact c1)
              omega
            rw [this, Nat.sub_self, fnd] at hs
            rw [← hs]; rfl⟩) (Nat.le_refl _) (Nat.le_refl _) d_MenuScreensModel_findValue_46
      · skip
        have hkn : k ≤ n := by
          rcases Nat.lt_or_ge n k with q | q
          · exact absurd (by rw [hn, ei]; exact nI_lt q (by omega)) c1
          · exact q
        obtain ⟨v1, v2, ev1, ev2, hv12, hv2⟩ := hR k hk1 hkn
        refine lv_aload_n hx hb d_MenuScreensModel_findValue_10 rfl (lv_at hl 0 rfl) ?_
        refine lv_aload_n hx hb d_MenuScreensModel_findValue_11 rfl (lv_at hl 0 rfl) ?_
        refine mm_get C X M 13 f_12_16_13 (.ref (ar 13)) rfl d_MenuScreensModel_findValue_12 ?_
        refine lv_iload_n hx hb d_MenuScreensModel_findValue_15 rfl (lv_at hl 1 rfl) ?_
        refine mm_iald C X M 13 41 rfl (A 13) rfl (by decide) k ei (by omega) d_MenuScreensModel_findValue_16 ?_
        refine lv_aload_n hx hb d_MenuScreensModel_findValue_17 rfl (lv_at hl 0 rfl) ?_
        refine mm_get C X M 14 f_12_19_13 (.ref (ar 14)) rfl d_MenuScreensModel_findValue_18 ?_
        refine lv_iload_n hx hb d_MenuScreensModel_findValue_21 rfl (lv_at hl 1 rfl) ?_
        refine mm_iald C X M 14 41 rfl (A 14) rfl (by decide) k ei (by omega) d_MenuScreensModel_findValue_22 ?_
        refine lv_aload_n hx hb d_MenuScreensModel_findValue_23 rfl (lv_at hl 0 rfl) ?_
        refine mm_get C X M 9 f_12_139_13 (.int (x 9)) rfl d_MenuScreensModel_findValue_24 ?_
        refine lv_aload_n hx hb d_MenuScreensModel_findValue_27 rfl (lv_at hl 0 rfl) ?_
        refine mm_get C X M 10 f_12_142_13 (.int (x 10)) rfl d_MenuScreensModel_findValue_28 ?_
        refine mv_bi X (mv_rV (rest := []) (As := [.int ((A 13) k), .int ((A 14) k), .int (x 9), .int (x 10)]) gt_good C X k_12_165 (cm_MenuScreensModel_same hE M.1 (q1 := v1) (q2 := v2) (q3 := F) (q4 := T) _ _ _ _ ev1 ev2 hF hT hv12 hFT hv2 hT4) M.1.1 rfl rfl ⟨by decide, by decide⟩ rfl hl.1 rfl (by decide) d_MenuScreensModel_findValue_31 ⟨Nat.le_refl _, Nat.le_refl _⟩) (fun r2 hN H locs hp X => ?_)
        obtain ⟨ehr2, er2⟩ := hp
        rw [ehr2] at X
        replace er2 : r2 = bI ((fun v => smW (A 6) (A 13 v).toNatClampNeg (A 14 v).toNatClampNeg F T) k) := by rw [er2]; show _ = bI (smW _ _ _ _ _); rw [ev1, ev2, nI_clamp (by omega), nI_clamp (by omega)]
        refine lv_if_eq (tgt := 39) hx hb d_MenuScreensModel_findValue_34 (by decide) (fun c3 => ?_) (fun c3 => ?_)
        · skip
          refine lv_iinc (v := (i + 1)) (lv' := [(1, .int (i + 1)), (0, .ref a)]) hx hb d_MenuScreensModel_findValue_39 hl (k := 1) rfl rfl (by decide) rfl (fun ls hl => ?_)
          refine lv_goto (tgt := 2) hx hb d_MenuScreensModel_findValue_42 (by decide) ?_
          exact ih_lp (k + 1) (i + 1) ls _ _ (by rw [ei]; exact nI_1 k) (by omega) (by omega) ((fnd_s (g := (fun v => smW (A 6) (A 13 v).toNatClampNeg (A 14 v).toNatClampNeg F T)) (by omega) (bI_0 (er2.symm.trans c3))).symm.trans hs) (by omega) X (lv_sub hl [1, 0] rfl)
        · skip
          refine lv_iload_n hx hb d_MenuScreensModel_findValue_37 rfl (lv_at hl 1 rfl) ?_
          exact mq_iret hQ C X hr rfl hlk (⟨rfl, by rw [← hs, fnd_f (g := (fun v => smW (A 6) (A 13 v).toNatClampNeg (A 14 v).toNatClampNeg F T)) (by omega) (bI_n (fun z => c3 (er2.trans z)))]; exact ei⟩) (Nat.le_refl _) (Nat.le_refl _) d_MenuScreensModel_findValue_38
  exact lp (n + 1 - 1 + 1) 1 1 ls _ _ rfl (Nat.le_refl _) (by omega) (by rw [Nat.add_sub_cancel]) (Nat.lt_succ_self _) X (lv_sub hl [1, 0] rfl)
theorem d_MenuScreensModel_findScreen_0 : decode prog_13_method_13_code 0 = .ok (.iconst 1, 1) := by decide +kernel
theorem d_MenuScreensModel_findScreen_1 : decode prog_13_method_13_code 1 = .ok (.istore_n 3, 1) := by decide +kernel
theorem d_MenuScreensModel_findScreen_2 : decode prog_13_method_13_code 2 = .ok (.iload_n 3, 1) := by decide +kernel
theorem d_MenuScreensModel_findScreen_3 : decode prog_13_method_13_code 3 = .ok (.aload_n 0, 1) := by decide +kernel
theorem d_MenuScreensModel_findScreen_4 : decode prog_13_method_13_code 4 = .ok (.getfield 169, 3) := by decide +kernel
theorem d_MenuScreensModel_findScreen_7 : decode prog_13_method_13_code 7 = .ok (.if_icmp .gt 32, 3) := by decide +kernel
theorem d_MenuScreensModel_findScreen_10 : decode prog_13_method_13_code 10 = .ok (.aload_n 0, 1) := by decide +kernel
theorem d_MenuScreensModel_findScreen_11 : decode prog_13_method_13_code 11 = .ok (.aload_n 0, 1) := by decide +kernel
theorem d_MenuScreensModel_findScreen_12 : decode prog_13_method_13_code 12 = .ok (.getfield 39, 3) := by decide +kernel
theorem d_MenuScreensModel_findScreen_15 : decode prog_13_method_13_code 15 = .ok (.iload_n 3, 1) := by decide +kernel
theorem d_MenuScreensModel_findScreen_16 : decode prog_13_method_13_code 16 = .ok (.iaload, 1) := by decide +kernel
theorem d_MenuScreensModel_findScreen_17 : decode prog_13_method_13_code 17 = .ok (.aload_n 0, 1) := by decide +kernel
theorem d_MenuScreensModel_findScreen_18 : decode prog_13_method_13_code 18 = .ok (.getfield 42, 3) := by decide +kernel
theorem d_MenuScreensModel_findScreen_21 : decode prog_13_method_13_code 21 = .ok (.iload_n 3, 1) := by decide +kernel
theorem d_MenuScreensModel_findScreen_22 : decode prog_13_method_13_code 22 = .ok (.iaload, 1) := by decide +kernel
theorem d_MenuScreensModel_findScreen_23 : decode prog_13_method_13_code 23 = .ok (.iload_n 1, 1) := by decide +kernel
theorem d_MenuScreensModel_findScreen_24 : decode prog_13_method_13_code 24 = .ok (.iload_n 2, 1) := by decide +kernel
theorem d_MenuScreensModel_findScreen_25 : decode prog_13_method_13_code 25 = .ok (.invokevirtual 165, 3) := by decide +kernel
theorem d_MenuScreensModel_findScreen_28 : decode prog_13_method_13_code 28 = .ok (.ifCond .eq 5, 3) := by decide +kernel
theorem d_MenuScreensModel_findScreen_31 : decode prog_13_method_13_code 31 = .ok (.iload_n 3, 1) := by decide +kernel
theorem d_MenuScreensModel_findScreen_32 : decode prog_13_method_13_code 32 = .ok (.ireturn, 1) := by decide +kernel
theorem d_MenuScreensModel_findScreen_33 : decode prog_13_method_13_code 33 = .ok (.iinc 3 1, 3) := by decide +kernel
theorem d_MenuScreensModel_findScreen_36 : decode prog_13_method_13_code 36 = .ok (.goto (-34), 3) := by decide +kernel
theorem d_MenuScreensModel_findScreen_39 : decode prog_13_method_13_code 39 = .ok (.iconst 0, 1) := by decide +kernel
theorem d_MenuScreensModel_findScreen_40 : decode prog_13_method_13_code 40 = .ok (.ireturn, 1) := by decide +kernel
set_option maxRecDepth 100000 in
set_option maxHeartbeats 4000000 in
theorem cm_MenuScreensModel_findScreen {l : Launch} {S0 : State} {b : Nat} {D : va_G} {dT : Nat → ClassId} (hE : vEnv S0 b D dT) {h0 : vH} {a : Nat} {ar : Nat → Nat} {x : Nat → Int32} {y : Nat → Int64} {A : Nat → Nat → Int32} {B : Nat → Nat → Int64} (M : MV S0 dT h0 a ar x y A B) (p1 : Int32) (p2 : Int32) {n : Nat} (hn : x 20 = nI n) (hn2 : n ≤ 30) (hR : ∀ v, 1 ≤ v → v ≤ n → ∃ p q, A 21 v = nI p ∧ A 22 v = nI q ∧ p ≤ q ∧ q ≤ 4000) {F T : Nat} (hF : p1 = nI F) (hT : p2 = nI T) (hFT : F ≤ T) (hT4 : T ≤ 4000) : vMi l S0 D vcl GT y_MenuScreensModel_findScreen prog_13_method_13_code 4 (some .int) 1 30 0 0 [.ref a, .int p1, .int p2] h0 (fun r h' => h' = h0 ∧ r = nI (fnd (fun v => smW (A 6) (A 21 v).toNatClampNeg (A 22 v).toNatClampNeg F T) n 1)) := by
  unfold vMi
  refine vM_ofQ hE.1 (by decide) (Nat.le_of_ble_eq_true rfl) (fun p e s m args below meth c ls Q hQ C hr hlk hnm X hl => ?_)
  have C : vC p s m _ c _ _ "MenuScreensModel" GT D vcl (vty dT) := C
  have hx := C.1.1
  have hb := C.1.2.1
  replace M := MR.of M
  obtain ⟨H, eH⟩ : ∃ z, z = s.heap := ⟨_, rfl⟩
  obtain ⟨locs, elocs⟩ : ∃ z : List Loc, z = [] := ⟨_, rfl⟩
  rw [← eH, ← elocs] at X
  rw [← eH, ← elocs]
  clear eH elocs
  have hl : lv_has ls 4 [(0, .ref a), (1, .int p1), (2, .int p2)] := hl
  refine lv_iconst (v := 1) hx hb d_MenuScreensModel_findScreen_0 (by decide) ?_
  refine lv_istore_n (lv' := [(3, .int 1), (0, .ref a), (1, .int p1), (2, .int p2)]) hx hb d_MenuScreensModel_findScreen_1 rfl hl (by decide) rfl (fun ls hl => ?_)
  have lp : ∀ (n_lp : Nat) (k : Nat) (i : Int32) (ls : Array Slot) (H : Heap) (locs : List Loc), (i = nI k) → (1 ≤ k) → (k ≤ n + 1) → (fnd (fun v => smW (A 6) (A 21 v).toNatClampNeg (A 22 v).toNatClampNeg F T) (n + 1 - k) k = fnd (fun v => smW (A 6) (A 21 v).toNatClampNeg (A 22 v).toNatClampNeg F T) n 1) → (n + 1 - k) < n_lp → vO S0 D vcl h0 s H locs → lv_has ls 4 [(0, .ref a), (1, .int p1), (2, .int p2), (3, .int i)] → W p l e (vRm 1 30 0 0) s m args below meth c H locs 0 0 Q (F0 m 2 ls []) := by
    intro n_lp
    induction n_lp with
    | zero => intros; exact absurd (by assumption) (Nat.not_lt_zero _)
    | succ n_lp ih_lp =>
      intro k i ls H locs ei hk1 hk hs hmu_lp X hl
      refine lv_iload_n hx hb d_MenuScreensModel_findScreen_2 rfl (lv_at hl 3 rfl) ?_
      refine lv_aload_n hx hb d_MenuScreensModel_findScreen_3 rfl (lv_at hl 0 rfl) ?_
      refine mm_get C X M 20 f_12_169_13 (.int (x 20)) rfl d_MenuScreensModel_findScreen_4 ?_
      refine lv_icmp_gt (tgt := 39) hx hb d_MenuScreensModel_findScreen_7 (by decide) (fun c1 => ?_) (fun c1 => ?_)
      · skip
        refine lv_iconst (v := 0) hx hb d_MenuScreensModel_findScreen_39 (by decide) ?_
        exact mq_iret hQ C X hr rfl hlk (⟨rfl, by
            have : k = n + 1 := by
              have := (nI_ltI (a := n) (b := k) (by omega) (by omega)).mp (by rw [← ei, ← hn]; exact c1)
              omega
            rw [this, Nat.sub_self, fnd] at hs
            rw [← hs]; rfl⟩) (Nat.le_refl _) (Nat.le_refl _) d_MenuScreensModel_findScreen_40
      · skip
        have hkn : k ≤ n := by
          rcases Nat.lt_or_ge n k with q | q
          · exact absurd (by rw [hn, ei]; exact nI_lt q (by omega)) c1
          · exact q
        obtain ⟨v1, v2, ev1, ev2, hv12, hv2⟩ := hR k hk1 hkn
        refine lv_aload_n hx hb d_MenuScreensModel_findScreen_10 rfl (lv_at hl 0 rfl) ?_
        refine lv_aload_n hx hb d_MenuScreensModel_findScreen_11 rfl (lv_at hl 0 rfl) ?_
        refine mm_get C X M 21 f_12_39_13 (.ref (ar 21)) rfl d_MenuScreensModel_findScreen_12 ?_
        refine lv_iload_n hx hb d_MenuScreensModel_findScreen_15 rfl (lv_at hl 3 rfl) ?_
        refine mm_iald C X M 21 31 rfl (A 21) rfl (by decide) k ei (by omega) d_MenuScreensModel_findScreen_16 ?_
        refine lv_aload_n hx hb d_MenuScreensModel_findScreen_17 rfl (lv_at hl 0 rfl) ?_
        refine mm_get C X M 22 f_12_42_13 (.ref (ar 22)) rfl d_MenuScreensModel_findScreen_18 ?_
        refine lv_iload_n hx hb d_MenuScreensModel_findScreen_21 rfl (lv_at hl 3 rfl) ?_
        refine mm_iald C X M 22 31 rfl (A 22) rfl (by decide) k ei (by omega) d_MenuScreensModel_findScreen_22 ?_
        refine lv_iload_n hx hb d_MenuScreensModel_findScreen_23 rfl (lv_at hl 1 rfl) ?_
        refine lv_iload_n hx hb d_MenuScreensModel_findScreen_24 rfl (lv_at hl 2 rfl) ?_
        refine mv_bi X (mv_rV (rest := []) (As := [.int ((A 21) k), .int ((A 22) k), .int p1, .int p2]) gt_good C X k_12_165 (cm_MenuScreensModel_same hE M.1 (q1 := v1) (q2 := v2) (q3 := F) (q4 := T) _ _ _ _ ev1 ev2 hF hT hv12 hFT hv2 hT4) M.1.1 rfl rfl ⟨by decide, by decide⟩ rfl hl.1 rfl (by decide) d_MenuScreensModel_findScreen_25 ⟨Nat.le_refl _, Nat.le_refl _⟩) (fun r2 hN H locs hp X => ?_)
        obtain ⟨ehr2, er2⟩ := hp
        rw [ehr2] at X
        replace er2 : r2 = bI ((fun v => smW (A 6) (A 21 v).toNatClampNeg (A 22 v).toNatClampNeg F T) k) := by rw [er2]; show _ = bI (smW _ _ _ _ _); rw [ev1, ev2, nI_clamp (by omega), nI_clamp (by omega)]
        refine lv_if_eq (tgt := 33) hx hb d_MenuScreensModel_findScreen_28 (by decide) (fun c3 => ?_) (fun c3 => ?_)
        · skip
          refine lv_iinc (v := (i + 1)) (lv' := [(3, .int (i + 1)), (0, .ref a), (1, .int p1), (2, .int p2)]) hx hb d_MenuScreensModel_findScreen_33 hl (k := 3) rfl rfl (by decide) rfl (fun ls hl => ?_)
          refine lv_goto (tgt := 2) hx hb d_MenuScreensModel_findScreen_36 (by decide) ?_
          exact ih_lp (k + 1) (i + 1) ls _ _ (by rw [ei]; exact nI_1 k) (by omega) (by omega) ((fnd_s (g := (fun v => smW (A 6) (A 21 v).toNatClampNeg (A 22 v).toNatClampNeg F T)) (by omega) (bI_0 (er2.symm.trans c3))).symm.trans hs) (by omega) X (lv_sub hl [1, 2, 3, 0] rfl)
        · skip
          refine lv_iload_n hx hb d_MenuScreensModel_findScreen_31 rfl (lv_at hl 3 rfl) ?_
          exact mq_iret hQ C X hr rfl hlk (⟨rfl, by rw [← hs, fnd_f (g := (fun v => smW (A 6) (A 21 v).toNatClampNeg (A 22 v).toNatClampNeg F T)) (by omega) (bI_n (fun z => c3 (er2.trans z)))]; exact ei⟩) (Nat.le_refl _) (Nat.le_refl _) d_MenuScreensModel_findScreen_32
  exact lp (n + 1 - 1 + 1) 1 1 ls _ _ rfl (Nat.le_refl _) (by omega) (by rw [Nat.add_sub_cancel]) (Nat.lt_succ_self _) X (lv_sub hl [1, 2, 3, 0] rfl)
end
section
theorem d_MenuScreensModel_leads_0 : decode prog_13_method_20_code 0 = .ok (.aload_n 0, 1) := by decide +kernel
theorem d_MenuScreensModel_leads_1 : decode prog_13_method_20_code 1 = .ok (.getfield 57, 3) := by decide +kernel
theorem d_MenuScreensModel_leads_4 : decode prog_13_method_20_code 4 = .ok (.bipush 10, 2) := by decide +kernel
theorem d_MenuScreensModel_leads_6 : decode prog_13_method_20_code 6 = .ok (.iload_n 1, 1) := by decide +kernel
theorem d_MenuScreensModel_leads_7 : decode prog_13_method_20_code 7 = .ok (.imul, 1) := by decide +kernel
theorem d_MenuScreensModel_leads_8 : decode prog_13_method_20_code 8 = .ok (.iload_n 2, 1) := by decide +kernel
theorem d_MenuScreensModel_leads_9 : decode prog_13_method_20_code 9 = .ok (.iadd, 1) := by decide +kernel
theorem d_MenuScreensModel_leads_10 : decode prog_13_method_20_code 10 = .ok (.iaload, 1) := by decide +kernel
theorem d_MenuScreensModel_leads_11 : decode prog_13_method_20_code 11 = .ok (.ifCond .ne 7, 3) := by decide +kernel
theorem d_MenuScreensModel_leads_14 : decode prog_13_method_20_code 14 = .ok (.iconst 0, 1) := by decide +kernel
theorem d_MenuScreensModel_leads_15 : decode prog_13_method_20_code 15 = .ok (.goto 29, 3) := by decide +kernel
theorem d_MenuScreensModel_leads_18 : decode prog_13_method_20_code 18 = .ok (.aload_n 0, 1) := by decide +kernel
theorem d_MenuScreensModel_leads_19 : decode prog_13_method_20_code 19 = .ok (.aload_n 0, 1) := by decide +kernel
theorem d_MenuScreensModel_leads_20 : decode prog_13_method_20_code 20 = .ok (.getfield 54, 3) := by decide +kernel
theorem d_MenuScreensModel_leads_23 : decode prog_13_method_20_code 23 = .ok (.bipush 10, 2) := by decide +kernel
theorem d_MenuScreensModel_leads_25 : decode prog_13_method_20_code 25 = .ok (.iload_n 1, 1) := by decide +kernel
theorem d_MenuScreensModel_leads_26 : decode prog_13_method_20_code 26 = .ok (.imul, 1) := by decide +kernel
theorem d_MenuScreensModel_leads_27 : decode prog_13_method_20_code 27 = .ok (.iload_n 2, 1) := by decide +kernel
theorem d_MenuScreensModel_leads_28 : decode prog_13_method_20_code 28 = .ok (.iadd, 1) := by decide +kernel
theorem d_MenuScreensModel_leads_29 : decode prog_13_method_20_code 29 = .ok (.iaload, 1) := by decide +kernel
theorem d_MenuScreensModel_leads_30 : decode prog_13_method_20_code 30 = .ok (.aload_n 0, 1) := by decide +kernel
theorem d_MenuScreensModel_leads_31 : decode prog_13_method_20_code 31 = .ok (.getfield 57, 3) := by decide +kernel
theorem d_MenuScreensModel_leads_34 : decode prog_13_method_20_code 34 = .ok (.bipush 10, 2) := by decide +kernel
theorem d_MenuScreensModel_leads_36 : decode prog_13_method_20_code 36 = .ok (.iload_n 1, 1) := by decide +kernel
theorem d_MenuScreensModel_leads_37 : decode prog_13_method_20_code 37 = .ok (.imul, 1) := by decide +kernel
theorem d_MenuScreensModel_leads_38 : decode prog_13_method_20_code 38 = .ok (.iload_n 2, 1) := by decide +kernel
theorem d_MenuScreensModel_leads_39 : decode prog_13_method_20_code 39 = .ok (.iadd, 1) := by decide +kernel
theorem d_MenuScreensModel_leads_40 : decode prog_13_method_20_code 40 = .ok (.iaload, 1) := by decide +kernel
theorem d_MenuScreensModel_leads_41 : decode prog_13_method_20_code 41 = .ok (.invokevirtual 216, 3) := by decide +kernel
theorem d_MenuScreensModel_leads_44 : decode prog_13_method_20_code 44 = .ok (.ireturn, 1) := by decide +kernel
set_option maxRecDepth 100000 in
set_option maxHeartbeats 4000000 in
theorem cm_MenuScreensModel_leads {l : Launch} {S0 : State} {b : Nat} {D : va_G} {dT : Nat → ClassId} (hE : vEnv S0 b D dT) {h0 : vH} {a : Nat} {ar : Nat → Nat} {x : Nat → Int32} {y : Nat → Int64} {A : Nat → Nat → Int32} {B : Nat → Nat → Int64} (M : MV S0 dT h0 a ar x y A B) (p1 : Int32) (p2 : Int32) {s0 k0 n : Nat} (hs : p1 = nI s0) (hk : p2 = nI k0) (hs2 : s0 ≤ 30) (hk2 : k0 ≤ 9) (hn : x 20 = nI n) (hn2 : n ≤ 30) (hR : ∀ v, 1 ≤ v → v ≤ n → ∃ p q, A 21 v = nI p ∧ A 22 v = nI q ∧ p ≤ q ∧ q ≤ 4000) (hQ0 : ¬ A 27 (10 * s0 + k0) = 0 → ∃ p q, A 26 (10 * s0 + k0) = nI p ∧ A 27 (10 * s0 + k0) = nI q ∧ p ≤ q ∧ q ≤ 4000) : vMi l S0 D vcl GT y_MenuScreensModel_leads prog_13_method_20_code 3 (some .int) 2 60 0 0 [.ref a, .int p1, .int p2] h0 (fun r h' => h' = h0 ∧ r = nI (ldS A n (10 * s0 + k0))) := by
  unfold vMi
  refine vM_ofQ hE.1 (by decide) (Nat.le_of_ble_eq_true rfl) (fun p e s m args below meth c ls Q hQ C hr hlk hnm X hl => ?_)
  have C : vC p s m _ c _ _ "MenuScreensModel" GT D vcl (vty dT) := C
  have hx := C.1.1
  have hb := C.1.2.1
  replace M := MR.of M
  obtain ⟨H, eH⟩ : ∃ z, z = s.heap := ⟨_, rfl⟩
  obtain ⟨locs, elocs⟩ : ∃ z : List Loc, z = [] := ⟨_, rfl⟩
  rw [← eH, ← elocs] at X
  rw [← eH, ← elocs]
  clear eH elocs
  have hl : lv_has ls 3 [(0, .ref a), (1, .int p1), (2, .int p2)] := hl
  have iq : 10 * p1 + p2 = nI (10 * s0 + k0) := by rw [hs, hk]; exact (congrArg (· + nI k0) (pk_mul 10 s0)).trans (nI_add _ _)
  refine lv_aload_n hx hb d_MenuScreensModel_leads_0 rfl (lv_at hl 0 rfl) ?_
  refine mm_get C X M 27 f_12_57_13 (.ref (ar 27)) rfl d_MenuScreensModel_leads_1 ?_
  refine lv_bipush (v := 10) hx hb d_MenuScreensModel_leads_4 (by decide) ?_
  refine lv_iload_n hx hb d_MenuScreensModel_leads_6 rfl (lv_at hl 1 rfl) ?_
  refine lv_imul hx hb d_MenuScreensModel_leads_7 ?_
  refine lv_iload_n hx hb d_MenuScreensModel_leads_8 rfl (lv_at hl 2 rfl) ?_
  refine lv_iadd hx hb d_MenuScreensModel_leads_9 ?_
  refine mm_iald C X M 27 310 rfl (A 27) rfl (by decide) (10 * s0 + k0) iq (by omega) d_MenuScreensModel_leads_10 ?_
  refine lv_if_ne (tgt := 18) hx hb d_MenuScreensModel_leads_11 (by decide) (fun c1 => ?_) (fun c1 => ?_)
  · skip
    refine lv_aload_n hx hb d_MenuScreensModel_leads_18 rfl (lv_at hl 0 rfl) ?_
    refine lv_aload_n hx hb d_MenuScreensModel_leads_19 rfl (lv_at hl 0 rfl) ?_
    refine mm_get C X M 26 f_12_54_13 (.ref (ar 26)) rfl d_MenuScreensModel_leads_20 ?_
    refine lv_bipush (v := 10) hx hb d_MenuScreensModel_leads_23 (by decide) ?_
    refine lv_iload_n hx hb d_MenuScreensModel_leads_25 rfl (lv_at hl 1 rfl) ?_
    refine lv_imul hx hb d_MenuScreensModel_leads_26 ?_
    refine lv_iload_n hx hb d_MenuScreensModel_leads_27 rfl (lv_at hl 2 rfl) ?_
    refine lv_iadd hx hb d_MenuScreensModel_leads_28 ?_
    refine mm_iald C X M 26 310 rfl (A 26) rfl (by decide) (10 * s0 + k0) iq (by omega) d_MenuScreensModel_leads_29 ?_
    refine lv_aload_n hx hb d_MenuScreensModel_leads_30 rfl (lv_at hl 0 rfl) ?_
    refine mm_get C X M 27 f_12_57_13 (.ref (ar 27)) rfl d_MenuScreensModel_leads_31 ?_
    refine lv_bipush (v := 10) hx hb d_MenuScreensModel_leads_34 (by decide) ?_
    refine lv_iload_n hx hb d_MenuScreensModel_leads_36 rfl (lv_at hl 1 rfl) ?_
    refine lv_imul hx hb d_MenuScreensModel_leads_37 ?_
    refine lv_iload_n hx hb d_MenuScreensModel_leads_38 rfl (lv_at hl 2 rfl) ?_
    refine lv_iadd hx hb d_MenuScreensModel_leads_39 ?_
    refine mm_iald C X M 27 310 rfl (A 27) rfl (by decide) (10 * s0 + k0) iq (by omega) d_MenuScreensModel_leads_40 ?_
    obtain ⟨v1, v2, ev1, ev2, hv12, hv2⟩ := hQ0 c1
    refine mv_bi X (mv_rV (rest := []) (As := [.int ((A 26) (10 * s0 + k0)), .int ((A 27) (10 * s0 + k0))]) gt_good C X k_12_216 (cm_MenuScreensModel_findScreen hE M.1 _ _ (n := n) hn hn2 hR (F := v1) (T := v2) ev1 ev2 hv12 hv2) M.1.1 rfl rfl ⟨by decide, by decide⟩ rfl hl.1 rfl (by decide) d_MenuScreensModel_leads_41 ⟨Nat.le_refl _, Nat.le_refl _⟩) (fun r2 hN H locs hp X => ?_)
    obtain ⟨ehr2, er2⟩ := hp
    rw [ehr2] at X
    exact mq_iret hQ C X hr rfl hlk (⟨rfl, by rw [er2, ldS, if_neg c1, ev1, ev2, nI_clamp (by omega), nI_clamp (by omega)]⟩) (Nat.le_refl _) (Nat.le_refl _) d_MenuScreensModel_leads_44
  · skip
    refine lv_iconst (v := 0) hx hb d_MenuScreensModel_leads_14 (by decide) ?_
    refine lv_goto (tgt := 44) hx hb d_MenuScreensModel_leads_15 (by decide) ?_
    exact mq_iret hQ C X hr rfl hlk (⟨rfl, by rw [ldS, if_pos c1]; rfl⟩) (Nat.le_refl _) (Nat.le_refl _) d_MenuScreensModel_leads_44
theorem d_MenuScreensModel_press_0 : decode prog_13_method_27_code 0 = .ok (.aload_n 0, 1) := by decide +kernel
theorem d_MenuScreensModel_press_1 : decode prog_13_method_27_code 1 = .ok (.iconst 0, 1) := by decide +kernel
theorem d_MenuScreensModel_press_2 : decode prog_13_method_27_code 2 = .ok (.putfield 127, 3) := by decide +kernel
theorem d_MenuScreensModel_press_5 : decode prog_13_method_27_code 5 = .ok (.iload_n 1, 1) := by decide +kernel
theorem d_MenuScreensModel_press_6 : decode prog_13_method_27_code 6 = .ok (.iconst 1, 1) := by decide +kernel
theorem d_MenuScreensModel_press_7 : decode prog_13_method_27_code 7 = .ok (.if_icmp .lt 9, 3) := by decide +kernel
theorem d_MenuScreensModel_press_10 : decode prog_13_method_27_code 10 = .ok (.iload_n 1, 1) := by decide +kernel
theorem d_MenuScreensModel_press_11 : decode prog_13_method_27_code 11 = .ok (.bipush 9, 2) := by decide +kernel
theorem d_MenuScreensModel_press_13 : decode prog_13_method_27_code 13 = .ok (.if_icmp .le 6, 3) := by decide +kernel
theorem d_MenuScreensModel_press_16 : decode prog_13_method_27_code 16 = .ok (.bipush (-2), 2) := by decide +kernel
theorem d_MenuScreensModel_press_18 : decode prog_13_method_27_code 18 = .ok (.ireturn, 1) := by decide +kernel
theorem d_MenuScreensModel_press_19 : decode prog_13_method_27_code 19 = .ok (.aload_n 0, 1) := by decide +kernel
theorem d_MenuScreensModel_press_20 : decode prog_13_method_27_code 20 = .ok (.getfield 245, 3) := by decide +kernel
theorem d_MenuScreensModel_press_23 : decode prog_13_method_27_code 23 = .ok (.ifCond .ne 6, 3) := by decide +kernel
theorem d_MenuScreensModel_press_26 : decode prog_13_method_27_code 26 = .ok (.bipush (-3), 2) := by decide +kernel
theorem d_MenuScreensModel_press_28 : decode prog_13_method_27_code 28 = .ok (.ireturn, 1) := by decide +kernel
theorem d_MenuScreensModel_press_29 : decode prog_13_method_27_code 29 = .ok (.aload_n 0, 1) := by decide +kernel
theorem d_MenuScreensModel_press_30 : decode prog_13_method_27_code 30 = .ok (.aload_n 0, 1) := by decide +kernel
theorem d_MenuScreensModel_press_31 : decode prog_13_method_27_code 31 = .ok (.getfield 245, 3) := by decide +kernel
theorem d_MenuScreensModel_press_34 : decode prog_13_method_27_code 34 = .ok (.iload_n 1, 1) := by decide +kernel
theorem d_MenuScreensModel_press_35 : decode prog_13_method_27_code 35 = .ok (.invokevirtual 230, 3) := by decide +kernel
theorem d_MenuScreensModel_press_38 : decode prog_13_method_27_code 38 = .ok (.istore_n 2, 1) := by decide +kernel
theorem d_MenuScreensModel_press_39 : decode prog_13_method_27_code 39 = .ok (.iload_n 2, 1) := by decide +kernel
theorem d_MenuScreensModel_press_40 : decode prog_13_method_27_code 40 = .ok (.ifCond .le 21, 3) := by decide +kernel
theorem d_MenuScreensModel_press_43 : decode prog_13_method_27_code 43 = .ok (.iload_n 1, 1) := by decide +kernel
theorem d_MenuScreensModel_press_44 : decode prog_13_method_27_code 44 = .ok (.bipush 9, 2) := by decide +kernel
theorem d_MenuScreensModel_press_46 : decode prog_13_method_27_code 46 = .ok (.if_icmp .eq 10, 3) := by decide +kernel
theorem d_MenuScreensModel_press_49 : decode prog_13_method_27_code 49 = .ok (.aload_n 0, 1) := by decide +kernel
theorem d_MenuScreensModel_press_50 : decode prog_13_method_27_code 50 = .ok (.invokevirtual 254, 3) := by decide +kernel
theorem d_MenuScreensModel_press_53 : decode prog_13_method_27_code 53 = .ok (.ifCond .ne 8, 3) := by decide +kernel
theorem d_MenuScreensModel_press_56 : decode prog_13_method_27_code 56 = .ok (.aload_n 0, 1) := by decide +kernel
theorem d_MenuScreensModel_press_57 : decode prog_13_method_27_code 57 = .ok (.iload_n 2, 1) := by decide +kernel
theorem d_MenuScreensModel_press_58 : decode prog_13_method_27_code 58 = .ok (.putfield 245, 3) := by decide +kernel
theorem d_MenuScreensModel_press_61 : decode prog_13_method_27_code 61 = .ok (.aload_n 0, 1) := by decide +kernel
theorem d_MenuScreensModel_press_62 : decode prog_13_method_27_code 62 = .ok (.getfield 245, 3) := by decide +kernel
theorem d_MenuScreensModel_press_65 : decode prog_13_method_27_code 65 = .ok (.ireturn, 1) := by decide +kernel
set_option maxRecDepth 100000 in
set_option maxHeartbeats 4000000 in
theorem cm_MenuScreensModel_press {l : Launch} {S0 : State} {b : Nat} {D : va_G} {dT : Nat → ClassId} (hE : vEnv S0 b D dT) {h0 : vH} {a : Nat} {ar : Nat → Nat} {x : Nat → Int32} {y : Nat → Int64} {A : Nat → Nat → Int32} {B : Nat → Nat → Int64} (M : MV S0 dT h0 a ar x y A B) (p1 : Int32) {pr n : Nat} (hpr : x 45 = nI pr) (hpr2 : pr ≤ n) (hn : x 20 = nI n) (hn2 : n ≤ 30) (hR : ∀ v, 1 ≤ v → v ≤ n → ∃ p q, A 21 v = nI p ∧ A 22 v = nI q ∧ p ≤ q ∧ q ≤ 4000) (hQ0 : ∀ q, ¬ A 27 q = 0 → ∃ p t, A 26 q = nI p ∧ A 27 q = nI t ∧ p ≤ t ∧ t ≤ 4000) : vMi l S0 D vcl GT y_MenuScreensModel_press prog_13_method_27_code 3 (some .int) 3 100 0 0 [.ref a, .int p1] h0 (fun r h' => ∃ x' y' A' B', MR S0 dT h0 h' a ar x' y' A' B' ∧ (y' = y ∧ A' = A ∧ B' = B ∧ (((p1 < 1 ∨ 9 < p1) ∧ r = -2 ∧ x' = upd x 0 0) ∨ (¬ p1 < 1 ∧ ¬ 9 < p1 ∧ pr = 0 ∧ r = -3 ∧ x' = upd x 0 0) ∨ ∃ k0, 1 ≤ k0 ∧ k0 ≤ 9 ∧ p1 = nI k0 ∧ 0 < pr ∧ ((0 < ldS A n (10 * pr + k0) ∧ (k0 = 9 ∨ ¬ (0 < pr ∧ B 24 pr < y 47))) ∧ r = nI (ldS A n (10 * pr + k0)) ∧ x' = upd (upd x 0 0) 45 (nI (ldS A n (10 * pr + k0))) ∨ ¬ (0 < ldS A n (10 * pr + k0) ∧ (k0 = 9 ∨ ¬ (0 < pr ∧ B 24 pr < y 47))) ∧ r = nI pr ∧ x' = upd x 0 0)))) := by
  unfold vMi
  refine vM_ofQ hE.1 (by decide) (Nat.le_of_ble_eq_true rfl) (fun p e s m args below meth c ls Q hQ C hr hlk hnm X hl => ?_)
  have C : vC p s m _ c _ _ "MenuScreensModel" GT D vcl (vty dT) := C
  have hx := C.1.1
  have hb := C.1.2.1
  replace M := MR.of M
  obtain ⟨H, eH⟩ : ∃ z, z = s.heap := ⟨_, rfl⟩
  obtain ⟨locs, elocs⟩ : ∃ z : List Loc, z = [] := ⟨_, rfl⟩
  rw [← eH, ← elocs] at X
  rw [← eH, ← elocs]
  clear eH elocs
  have hl : lv_has ls 3 [(0, .ref a), (1, .int p1)] := hl
  refine lv_aload_n hx hb d_MenuScreensModel_press_0 rfl (lv_at hl 0 rfl) ?_
  refine lv_iconst (v := 0) hx hb d_MenuScreensModel_press_1 (by decide) ?_
  refine mm_put C X M 0 p_12_127_13 (upd x 0 0) y rfl rfl rfl (by decide) d_MenuScreensModel_press_2 (fun h H locs X M => ?_)
  refine lv_iload_n hx hb d_MenuScreensModel_press_5 rfl (lv_at hl 1 rfl) ?_
  refine lv_iconst (v := 1) hx hb d_MenuScreensModel_press_6 (by decide) ?_
  refine lv_icmp_lt (tgt := 16) hx hb d_MenuScreensModel_press_7 (by decide) (fun c1 => ?_) (fun c1 => ?_)
  · skip
    refine lv_bipush (v := (-2)) hx hb d_MenuScreensModel_press_16 (by decide) ?_
    exact mq_iret hQ C X hr rfl hlk (⟨(upd x 0 0), y, A, B, M, rfl, rfl, rfl, Or.inl ⟨by clear X C hl hr; simp_all, rfl, rfl⟩⟩) (Nat.le_refl _) (Nat.le_refl _) d_MenuScreensModel_press_18
  · skip
    refine lv_iload_n hx hb d_MenuScreensModel_press_10 rfl (lv_at hl 1 rfl) ?_
    refine lv_bipush (v := 9) hx hb d_MenuScreensModel_press_11 (by decide) ?_
    refine lv_icmp_le (tgt := 19) hx hb d_MenuScreensModel_press_13 (by decide) (fun c2 => ?_) (fun c2 => ?_)
    · skip
      refine lv_aload_n hx hb d_MenuScreensModel_press_19 rfl (lv_at hl 0 rfl) ?_
      refine mm_get C X M 45 f_12_245_13 (.int (x 45)) rfl d_MenuScreensModel_press_20 ?_
      refine lv_if_ne (tgt := 29) hx hb d_MenuScreensModel_press_23 (by decide) (fun c3 => ?_) (fun c3 => ?_)
      · skip
        obtain ⟨k0, hk1, hk2, ek⟩ := ix_le1 (n := 9) c1 c2 (by decide)
        have hp0 : 0 < pr := by
          rcases Nat.eq_zero_or_pos pr with q | q
          · exact absurd (by rw [hpr, q]; rfl) c3
          · exact q
        refine lv_aload_n hx hb d_MenuScreensModel_press_29 rfl (lv_at hl 0 rfl) ?_
        refine lv_aload_n hx hb d_MenuScreensModel_press_30 rfl (lv_at hl 0 rfl) ?_
        refine mm_get C X M 45 f_12_245_13 (.int (x 45)) rfl d_MenuScreensModel_press_31 ?_
        refine lv_iload_n hx hb d_MenuScreensModel_press_34 rfl (lv_at hl 1 rfl) ?_
        refine mv_bi X (mv_rV (rest := []) (As := [.int (x 45), .int p1]) gt_good C X k_12_230 (cm_MenuScreensModel_leads hE M.1 _ _ (s0 := pr) (k0 := k0) (n := n) hpr ek (by omega) hk2 hn hn2 hR (hQ0 (10 * pr + k0))) M.1.1 rfl rfl ⟨by decide, by decide⟩ rfl hl.1 rfl (by decide) d_MenuScreensModel_press_35 ⟨Nat.le_refl _, Nat.le_refl _⟩) (fun r4 hN H locs hp X => ?_)
        obtain ⟨ehr4, er4⟩ := hp
        rw [ehr4] at X
        refine lv_istore_n (lv' := [(2, .int r4), (0, .ref a), (1, .int p1)]) hx hb d_MenuScreensModel_press_38 rfl hl (by decide) rfl (fun ls hl => ?_)
        refine lv_iload_n hx hb d_MenuScreensModel_press_39 rfl (lv_at hl 0 rfl) ?_
        refine lv_if_le (tgt := 61) hx hb d_MenuScreensModel_press_40 (by decide) (fun c5 => ?_) (fun c5 => ?_)
        · skip
          refine lv_aload_n hx hb d_MenuScreensModel_press_61 rfl (lv_at hl 1 rfl) ?_
          refine mm_get C X M 45 f_12_245_13 (.int (x 45)) rfl d_MenuScreensModel_press_62 ?_
          exact mq_iret hQ C X hr rfl hlk (⟨(upd x 0 0), y, A, B, M, rfl, rfl, rfl, Or.inr (Or.inr ⟨k0, hk1, hk2, ek, hp0, Or.inr ⟨fun q => by
                have := nI_nle q.1 (by have := ldS_le A n (10 * pr + k0); omega)
                exact this (by rw [← er4]; exact c5), hpr, rfl⟩⟩)⟩) (Nat.le_refl _) (Nat.le_refl _) d_MenuScreensModel_press_65
        · skip
          refine lv_iload_n hx hb d_MenuScreensModel_press_43 rfl (lv_at hl 2 rfl) ?_
          refine lv_bipush (v := 9) hx hb d_MenuScreensModel_press_44 (by decide) ?_
          refine lv_icmp_eq (tgt := 56) hx hb d_MenuScreensModel_press_46 (by decide) (fun c6 => ?_) (fun c6 => ?_)
          · skip
            refine lv_aload_n hx hb d_MenuScreensModel_press_56 rfl (lv_at hl 1 rfl) ?_
            refine lv_iload_n hx hb d_MenuScreensModel_press_57 rfl (lv_at hl 0 rfl) ?_
            refine mm_put C X M 45 p_12_245_13 (upd (upd x 0 0) 45 r4) y rfl rfl rfl (by decide) d_MenuScreensModel_press_58 (fun h H locs X M => ?_)
            refine lv_aload_n hx hb d_MenuScreensModel_press_61 rfl (lv_at hl 1 rfl) ?_
            refine mm_get C X M 45 f_12_245_13 (.int r4) rfl d_MenuScreensModel_press_62 ?_
            exact mq_iret hQ C X hr rfl hlk (⟨(upd (upd x 0 0) 45 r4), y, A, B, M, rfl, rfl, rfl, Or.inr (Or.inr ⟨k0, hk1, hk2, ek, hp0, Or.inl ⟨⟨(by
                  rcases Nat.eq_zero_or_pos (ldS A n (10 * pr + k0)) with q | q
                  · exact absurd (by rw [er4, q]; decide) c5
                  · exact q), Or.inl (nI_eqI (by omega) (by decide) (by rw [← ek]; exact c6))⟩, er4, by rw [er4]⟩⟩)⟩) (Nat.le_refl _) (Nat.le_refl _) d_MenuScreensModel_press_65
          · skip
            refine lv_aload_n hx hb d_MenuScreensModel_press_49 rfl (lv_at hl 1 rfl) ?_
            refine mv_bi X (mv_rV (rest := []) (As := []) gt_good C X k_12_254 (cm_MenuScreensModel_barred hE M.1 (pr := pr) hpr (by omega)) M.1.1 rfl rfl ⟨by decide, by decide⟩ rfl hl.1 rfl (by decide) d_MenuScreensModel_press_50 ⟨Nat.le_refl _, Nat.le_refl _⟩) (fun r7 hN H locs hp X => ?_)
            obtain ⟨ehr7, er7⟩ := hp
            rw [ehr7] at X
            refine lv_if_ne (tgt := 61) hx hb d_MenuScreensModel_press_53 (by decide) (fun c8 => ?_) (fun c8 => ?_)
            · skip
              refine lv_aload_n hx hb d_MenuScreensModel_press_61 rfl (lv_at hl 1 rfl) ?_
              refine mm_get C X M 45 f_12_245_13 (.int (x 45)) rfl d_MenuScreensModel_press_62 ?_
              exact mq_iret hQ C X hr rfl hlk (⟨(upd x 0 0), y, A, B, M, rfl, rfl, rfl, Or.inr (Or.inr ⟨k0, hk1, hk2, ek, hp0, Or.inr ⟨fun q => by
                    rcases q.2 with z | z
                    · exact c6 (by rw [ek, z]; rfl)
                    · exact c8 (by rw [er7, if_neg z]), hpr, rfl⟩⟩)⟩) (Nat.le_refl _) (Nat.le_refl _) d_MenuScreensModel_press_65
            · skip
              refine lv_aload_n hx hb d_MenuScreensModel_press_56 rfl (lv_at hl 1 rfl) ?_
              refine lv_iload_n hx hb d_MenuScreensModel_press_57 rfl (lv_at hl 0 rfl) ?_
              refine mm_put C X M 45 p_12_245_13 (upd (upd x 0 0) 45 r4) y rfl rfl rfl (by decide) d_MenuScreensModel_press_58 (fun h H locs X M => ?_)
              refine lv_aload_n hx hb d_MenuScreensModel_press_61 rfl (lv_at hl 1 rfl) ?_
              refine mm_get C X M 45 f_12_245_13 (.int r4) rfl d_MenuScreensModel_press_62 ?_
              exact mq_iret hQ C X hr rfl hlk (⟨(upd (upd x 0 0) 45 r4), y, A, B, M, rfl, rfl, rfl, Or.inr (Or.inr ⟨k0, hk1, hk2, ek, hp0, Or.inl ⟨⟨(by
                    rcases Nat.eq_zero_or_pos (ldS A n (10 * pr + k0)) with q | q
                    · exact absurd (by rw [er4, q]; decide) c5
                    · exact q), Or.inr (fun z => by rw [er7, if_pos z] at c8; exact absurd c8 (by decide))⟩, er4, by rw [er4]⟩⟩)⟩) (Nat.le_refl _) (Nat.le_refl _) d_MenuScreensModel_press_65
      · skip
        refine lv_bipush (v := (-3)) hx hb d_MenuScreensModel_press_26 (by decide) ?_
        exact mq_iret hQ C X hr rfl hlk (⟨(upd x 0 0), y, A, B, M, rfl, rfl, rfl, Or.inr (Or.inl ⟨c1, Int32.not_lt.mpr c2, nI_eqI (by omega) (by decide) (by rw [← hpr]; exact c3), rfl, rfl⟩)⟩) (Nat.le_refl _) (Nat.le_refl _) d_MenuScreensModel_press_28
    · skip
      refine lv_bipush (v := (-2)) hx hb d_MenuScreensModel_press_16 (by decide) ?_
      exact mq_iret hQ C X hr rfl hlk (⟨(upd x 0 0), y, A, B, M, rfl, rfl, rfl, Or.inl ⟨by clear X C hl hr; simp_all, rfl, rfl⟩⟩) (Nat.le_refl _) (Nat.le_refl _) d_MenuScreensModel_press_18
theorem d_MenuScreensModel_speed_0 : decode prog_13_method_32_code 0 = .ok (.aload_n 0, 1) := by decide +kernel
theorem d_MenuScreensModel_speed_1 : decode prog_13_method_32_code 1 = .ok (.iconst 0, 1) := by decide +kernel
theorem d_MenuScreensModel_speed_2 : decode prog_13_method_32_code 2 = .ok (.putfield 127, 3) := by decide +kernel
theorem d_MenuScreensModel_speed_5 : decode prog_13_method_32_code 5 = .ok (.lload_n 1, 1) := by decide +kernel
theorem d_MenuScreensModel_speed_6 : decode prog_13_method_32_code 6 = .ok (.lconst 0, 1) := by decide +kernel
theorem d_MenuScreensModel_speed_7 : decode prog_13_method_32_code 7 = .ok (.lcmp, 1) := by decide +kernel
theorem d_MenuScreensModel_speed_8 : decode prog_13_method_32_code 8 = .ok (.ifCond .lt 11, 3) := by decide +kernel
theorem d_MenuScreensModel_speed_11 : decode prog_13_method_32_code 11 = .ok (.lload_n 1, 1) := by decide +kernel
theorem d_MenuScreensModel_speed_12 : decode prog_13_method_32_code 12 = .ok (.ldc2_w 197, 3) := by decide +kernel
theorem d_MenuScreensModel_speed_15 : decode prog_13_method_32_code 15 = .ok (.lcmp, 1) := by decide +kernel
theorem d_MenuScreensModel_speed_16 : decode prog_13_method_32_code 16 = .ok (.ifCond .le 6, 3) := by decide +kernel
theorem d_MenuScreensModel_speed_19 : decode prog_13_method_32_code 19 = .ok (.bipush (-2), 2) := by decide +kernel
theorem d_MenuScreensModel_speed_21 : decode prog_13_method_32_code 21 = .ok (.ireturn, 1) := by decide +kernel
theorem d_MenuScreensModel_speed_22 : decode prog_13_method_32_code 22 = .ok (.aload_n 0, 1) := by decide +kernel
theorem d_MenuScreensModel_speed_23 : decode prog_13_method_32_code 23 = .ok (.lload_n 1, 1) := by decide +kernel
theorem d_MenuScreensModel_speed_24 : decode prog_13_method_32_code 24 = .ok (.putfield 251, 3) := by decide +kernel
theorem d_MenuScreensModel_speed_27 : decode prog_13_method_32_code 27 = .ok (.aload_n 0, 1) := by decide +kernel
theorem d_MenuScreensModel_speed_28 : decode prog_13_method_32_code 28 = .ok (.invokevirtual 254, 3) := by decide +kernel
theorem d_MenuScreensModel_speed_31 : decode prog_13_method_32_code 31 = .ok (.ifCond .eq 7, 3) := by decide +kernel
theorem d_MenuScreensModel_speed_34 : decode prog_13_method_32_code 34 = .ok (.iconst 1, 1) := by decide +kernel
theorem d_MenuScreensModel_speed_35 : decode prog_13_method_32_code 35 = .ok (.goto 4, 3) := by decide +kernel
theorem d_MenuScreensModel_speed_38 : decode prog_13_method_32_code 38 = .ok (.iconst 0, 1) := by decide +kernel
theorem d_MenuScreensModel_speed_39 : decode prog_13_method_32_code 39 = .ok (.ireturn, 1) := by decide +kernel
set_option maxRecDepth 100000 in
set_option maxHeartbeats 4000000 in
theorem cm_MenuScreensModel_speed {l : Launch} {S0 : State} {b : Nat} {D : va_G} {dT : Nat → ClassId} (hE : vEnv S0 b D dT) {h0 : vH} {a : Nat} {ar : Nat → Nat} {x : Nat → Int32} {y : Nat → Int64} {A : Nat → Nat → Int32} {B : Nat → Nat → Int64} (M : MV S0 dT h0 a ar x y A B) (p1 : Int64) {pr : Nat} (hpr : x 45 = nI pr) (hpr2 : pr ≤ 30) : vMi l S0 D vcl GT y_MenuScreensModel_speed prog_13_method_32_code 3 (some .int) 1 30 0 0 [.ref a, .long p1] h0 (fun r h' => ∃ x' y' A' B', MR S0 dT h0 h' a ar x' y' A' B' ∧ (x' = upd x 0 0 ∧ A' = A ∧ B' = B ∧ ((p1 < 0 ∨ 999 < p1) ∧ r = -2 ∧ y' = y ∨ ¬ p1 < 0 ∧ ¬ 999 < p1 ∧ r = (if 0 < pr ∧ B 24 pr < p1 then 1 else 0) ∧ y' = vp_updL y 47 p1))) := by
  unfold vMi
  refine vM_ofQ hE.1 (by decide) (Nat.le_of_ble_eq_true rfl) (fun p e s m args below meth c ls Q hQ C hr hlk hnm X hl => ?_)
  have C : vC p s m _ c _ _ "MenuScreensModel" GT D vcl (vty dT) := C
  have hx := C.1.1
  have hb := C.1.2.1
  replace M := MR.of M
  obtain ⟨H, eH⟩ : ∃ z, z = s.heap := ⟨_, rfl⟩
  obtain ⟨locs, elocs⟩ : ∃ z : List Loc, z = [] := ⟨_, rfl⟩
  rw [← eH, ← elocs] at X
  rw [← eH, ← elocs]
  clear eH elocs
  have hl : lv_has ls 3 [(0, .ref a), (1, .long p1)] := hl
  refine lv_aload_n hx hb d_MenuScreensModel_speed_0 rfl (lv_at hl 0 rfl) ?_
  refine lv_iconst (v := 0) hx hb d_MenuScreensModel_speed_1 (by decide) ?_
  refine mm_put C X M 0 p_12_127_13 (upd x 0 0) y rfl rfl rfl (by decide) d_MenuScreensModel_speed_2 (fun h H locs X M => ?_)
  refine lv_lload_n hx hb d_MenuScreensModel_speed_5 rfl (lv_at hl 1 rfl) ?_
  refine lv_lconst (v := 0) hx hb d_MenuScreensModel_speed_6 (by decide) ?_
  refine W.lcmp hx hb d_MenuScreensModel_speed_7 ?_
  refine lv_if_lt (tgt := 19) hx hb d_MenuScreensModel_speed_8 (by decide) (fun c1 => ?_) (fun c1 => ?_)
  · skip
    refine lv_bipush (v := (-2)) hx hb d_MenuScreensModel_speed_19 (by decide) ?_
    exact mq_iret hQ C X hr rfl hlk (⟨(upd x 0 0), y, A, B, M, rfl, rfl, rfl, Or.inl ⟨by clear X C hl hr; simp_all [lg_cmp_lt, lg_cmp_ge, lg_cmp_gt, lg_cmp_le, lg_cmp_eq], rfl, rfl⟩⟩) (Nat.le_refl _) (Nat.le_refl _) d_MenuScreensModel_speed_21
  · skip
    refine lv_lload_n hx hb d_MenuScreensModel_speed_11 rfl (lv_at hl 1 rfl) ?_
    refine lv_ldc2 (v := 999) hx hb C.1.2.2.2.1 (C.1.2.2.2.2 _ (gt_6 49 (by decide +kernel) rfl)) d_MenuScreensModel_speed_12 ?_
    refine W.lcmp hx hb d_MenuScreensModel_speed_15 ?_
    refine lv_if_le (tgt := 22) hx hb d_MenuScreensModel_speed_16 (by decide) (fun c2 => ?_) (fun c2 => ?_)
    · skip
      refine lv_aload_n hx hb d_MenuScreensModel_speed_22 rfl (lv_at hl 0 rfl) ?_
      refine lv_lload_n hx hb d_MenuScreensModel_speed_23 rfl (lv_at hl 1 rfl) ?_
      refine mm_put C X M 47 p_12_251_13 (upd x 0 0) (vp_updL y 47 p1) rfl rfl rfl (by decide) d_MenuScreensModel_speed_24 (fun h H locs X M => ?_)
      refine lv_aload_n hx hb d_MenuScreensModel_speed_27 rfl (lv_at hl 0 rfl) ?_
      refine mv_bi X (mv_rV (rest := []) (As := []) gt_good C X k_12_254 (cm_MenuScreensModel_barred hE M.1 (pr := pr) hpr (by omega)) M.1.1 rfl rfl ⟨by decide, by decide⟩ rfl hl.1 rfl (by decide) d_MenuScreensModel_speed_28 ⟨Nat.le_refl _, Nat.le_refl _⟩) (fun r3 hN H locs hp X => ?_)
      obtain ⟨ehr3, er3⟩ := hp
      rw [ehr3] at X
      refine lv_if_eq (tgt := 38) hx hb d_MenuScreensModel_speed_31 (by decide) (fun c4 => ?_) (fun c4 => ?_)
      · skip
        refine lv_iconst (v := 0) hx hb d_MenuScreensModel_speed_38 (by decide) ?_
        exact mq_iret hQ C X hr rfl hlk (⟨(upd x 0 0), (vp_updL y 47 p1), A, B, M, rfl, rfl, rfl, Or.inr ⟨fun z => c1 ((lg_cmp_lt _ _).mpr z), fun z => absurd ((lg_cmp_gt _ _).mpr z) (Int32.not_lt.mpr c2), by
            by_cases z : 0 < pr ∧ B 24 pr < p1
            · exact absurd ((er3.trans (if_pos z)).symm.trans c4) (by decide)
            · rw [if_neg z], rfl⟩⟩) (Nat.le_refl _) (Nat.le_refl _) d_MenuScreensModel_speed_39
      · skip
        refine lv_iconst (v := 1) hx hb d_MenuScreensModel_speed_34 (by decide) ?_
        refine lv_goto (tgt := 39) hx hb d_MenuScreensModel_speed_35 (by decide) ?_
        exact mq_iret hQ C X hr rfl hlk (⟨(upd x 0 0), (vp_updL y 47 p1), A, B, M, rfl, rfl, rfl, Or.inr ⟨fun z => c1 ((lg_cmp_lt _ _).mpr z), fun z => absurd ((lg_cmp_gt _ _).mpr z) (Int32.not_lt.mpr c2), by
            by_cases z : 0 < pr ∧ B 24 pr < p1
            · rw [if_pos z]
            · exact absurd (er3.trans (if_neg z)) c4, rfl⟩⟩) (Nat.le_refl _) (Nat.le_refl _) d_MenuScreensModel_speed_39
    · skip
      refine lv_bipush (v := (-2)) hx hb d_MenuScreensModel_speed_19 (by decide) ?_
      exact mq_iret hQ C X hr rfl hlk (⟨(upd x 0 0), y, A, B, M, rfl, rfl, rfl, Or.inl ⟨by clear X C hl hr; simp_all [lg_cmp_lt, lg_cmp_ge, lg_cmp_gt, lg_cmp_le, lg_cmp_eq], rfl, rfl⟩⟩) (Nat.le_refl _) (Nat.le_refl _) d_MenuScreensModel_speed_21
end
section
theorem d_MenuScreensModel_before_0 : decode prog_13_method_36_code 0 = .ok (.iconst 0, 1) := by decide +kernel
theorem d_MenuScreensModel_before_1 : decode prog_13_method_36_code 1 = .ok (.istore_n 3, 1) := by decide +kernel
theorem d_MenuScreensModel_before_2 : decode prog_13_method_36_code 2 = .ok (.iconst 1, 1) := by decide +kernel
theorem d_MenuScreensModel_before_3 : decode prog_13_method_36_code 3 = .ok (.istore 4, 2) := by decide +kernel
theorem d_MenuScreensModel_before_5 : decode prog_13_method_36_code 5 = .ok (.iload 4, 2) := by decide +kernel
theorem d_MenuScreensModel_before_7 : decode prog_13_method_36_code 7 = .ok (.aload_n 0, 1) := by decide +kernel
theorem d_MenuScreensModel_before_8 : decode prog_13_method_36_code 8 = .ok (.getfield 276, 3) := by decide +kernel
theorem d_MenuScreensModel_before_11 : decode prog_13_method_36_code 11 = .ok (.if_icmp .gt 123, 3) := by decide +kernel
theorem d_MenuScreensModel_before_14 : decode prog_13_method_36_code 14 = .ok (.aload_n 0, 1) := by decide +kernel
theorem d_MenuScreensModel_before_15 : decode prog_13_method_36_code 15 = .ok (.getfield 108, 3) := by decide +kernel
theorem d_MenuScreensModel_before_18 : decode prog_13_method_36_code 18 = .ok (.iload 4, 2) := by decide +kernel
theorem d_MenuScreensModel_before_20 : decode prog_13_method_36_code 20 = .ok (.iaload, 1) := by decide +kernel
theorem d_MenuScreensModel_before_21 : decode prog_13_method_36_code 21 = .ok (.aload_n 0, 1) := by decide +kernel
theorem d_MenuScreensModel_before_22 : decode prog_13_method_36_code 22 = .ok (.getfield 108, 3) := by decide +kernel
theorem d_MenuScreensModel_before_25 : decode prog_13_method_36_code 25 = .ok (.iload_n 1, 1) := by decide +kernel
theorem d_MenuScreensModel_before_26 : decode prog_13_method_36_code 26 = .ok (.iaload, 1) := by decide +kernel
theorem d_MenuScreensModel_before_27 : decode prog_13_method_36_code 27 = .ok (.if_icmp .le 15, 3) := by decide +kernel
theorem d_MenuScreensModel_before_30 : decode prog_13_method_36_code 30 = .ok (.iload_n 2, 1) := by decide +kernel
theorem d_MenuScreensModel_before_31 : decode prog_13_method_36_code 31 = .ok (.ifCond .ne 7, 3) := by decide +kernel
theorem d_MenuScreensModel_before_34 : decode prog_13_method_36_code 34 = .ok (.iconst 1, 1) := by decide +kernel
theorem d_MenuScreensModel_before_35 : decode prog_13_method_36_code 35 = .ok (.goto 68, 3) := by decide +kernel
theorem d_MenuScreensModel_before_38 : decode prog_13_method_36_code 38 = .ok (.iconst 0, 1) := by decide +kernel
theorem d_MenuScreensModel_before_39 : decode prog_13_method_36_code 39 = .ok (.goto 64, 3) := by decide +kernel
theorem d_MenuScreensModel_before_42 : decode prog_13_method_36_code 42 = .ok (.aload_n 0, 1) := by decide +kernel
theorem d_MenuScreensModel_before_43 : decode prog_13_method_36_code 43 = .ok (.getfield 108, 3) := by decide +kernel
theorem d_MenuScreensModel_before_46 : decode prog_13_method_36_code 46 = .ok (.iload 4, 2) := by decide +kernel
theorem d_MenuScreensModel_before_48 : decode prog_13_method_36_code 48 = .ok (.iaload, 1) := by decide +kernel
theorem d_MenuScreensModel_before_49 : decode prog_13_method_36_code 49 = .ok (.aload_n 0, 1) := by decide +kernel
theorem d_MenuScreensModel_before_50 : decode prog_13_method_36_code 50 = .ok (.getfield 108, 3) := by decide +kernel
theorem d_MenuScreensModel_before_53 : decode prog_13_method_36_code 53 = .ok (.iload_n 1, 1) := by decide +kernel
theorem d_MenuScreensModel_before_54 : decode prog_13_method_36_code 54 = .ok (.iaload, 1) := by decide +kernel
theorem d_MenuScreensModel_before_55 : decode prog_13_method_36_code 55 = .ok (.if_icmp .ne 47, 3) := by decide +kernel
theorem d_MenuScreensModel_before_58 : decode prog_13_method_36_code 58 = .ok (.aload_n 0, 1) := by decide +kernel
theorem d_MenuScreensModel_before_59 : decode prog_13_method_36_code 59 = .ok (.getfield 111, 3) := by decide +kernel
theorem d_MenuScreensModel_before_62 : decode prog_13_method_36_code 62 = .ok (.iload 4, 2) := by decide +kernel
theorem d_MenuScreensModel_before_64 : decode prog_13_method_36_code 64 = .ok (.laload, 1) := by decide +kernel
theorem d_MenuScreensModel_before_65 : decode prog_13_method_36_code 65 = .ok (.aload_n 0, 1) := by decide +kernel
theorem d_MenuScreensModel_before_66 : decode prog_13_method_36_code 66 = .ok (.getfield 111, 3) := by decide +kernel
theorem d_MenuScreensModel_before_69 : decode prog_13_method_36_code 69 = .ok (.iload_n 1, 1) := by decide +kernel
theorem d_MenuScreensModel_before_70 : decode prog_13_method_36_code 70 = .ok (.laload, 1) := by decide +kernel
theorem d_MenuScreensModel_before_71 : decode prog_13_method_36_code 71 = .ok (.lcmp, 1) := by decide +kernel
theorem d_MenuScreensModel_before_72 : decode prog_13_method_36_code 72 = .ok (.ifCond .lt 26, 3) := by decide +kernel
theorem d_MenuScreensModel_before_75 : decode prog_13_method_36_code 75 = .ok (.aload_n 0, 1) := by decide +kernel
theorem d_MenuScreensModel_before_76 : decode prog_13_method_36_code 76 = .ok (.getfield 111, 3) := by decide +kernel
theorem d_MenuScreensModel_before_79 : decode prog_13_method_36_code 79 = .ok (.iload 4, 2) := by decide +kernel
theorem d_MenuScreensModel_before_81 : decode prog_13_method_36_code 81 = .ok (.laload, 1) := by decide +kernel
theorem d_MenuScreensModel_before_82 : decode prog_13_method_36_code 82 = .ok (.aload_n 0, 1) := by decide +kernel
theorem d_MenuScreensModel_before_83 : decode prog_13_method_36_code 83 = .ok (.getfield 111, 3) := by decide +kernel
theorem d_MenuScreensModel_before_86 : decode prog_13_method_36_code 86 = .ok (.iload_n 1, 1) := by decide +kernel
theorem d_MenuScreensModel_before_87 : decode prog_13_method_36_code 87 = .ok (.laload, 1) := by decide +kernel
theorem d_MenuScreensModel_before_88 : decode prog_13_method_36_code 88 = .ok (.lcmp, 1) := by decide +kernel
theorem d_MenuScreensModel_before_89 : decode prog_13_method_36_code 89 = .ok (.ifCond .ne 13, 3) := by decide +kernel
theorem d_MenuScreensModel_before_92 : decode prog_13_method_36_code 92 = .ok (.iload 4, 2) := by decide +kernel
theorem d_MenuScreensModel_before_94 : decode prog_13_method_36_code 94 = .ok (.iload_n 1, 1) := by decide +kernel
theorem d_MenuScreensModel_before_95 : decode prog_13_method_36_code 95 = .ok (.if_icmp .ge 7, 3) := by decide +kernel
theorem d_MenuScreensModel_before_98 : decode prog_13_method_36_code 98 = .ok (.iconst 1, 1) := by decide +kernel
theorem d_MenuScreensModel_before_99 : decode prog_13_method_36_code 99 = .ok (.goto 4, 3) := by decide +kernel
theorem d_MenuScreensModel_before_102 : decode prog_13_method_36_code 102 = .ok (.iconst 0, 1) := by decide +kernel
theorem d_MenuScreensModel_before_103 : decode prog_13_method_36_code 103 = .ok (.istore 5, 2) := by decide +kernel
theorem d_MenuScreensModel_before_105 : decode prog_13_method_36_code 105 = .ok (.iload 5, 2) := by decide +kernel
theorem d_MenuScreensModel_before_107 : decode prog_13_method_36_code 107 = .ok (.ifCond .eq 19, 3) := by decide +kernel
theorem d_MenuScreensModel_before_110 : decode prog_13_method_36_code 110 = .ok (.aload_n 0, 1) := by decide +kernel
theorem d_MenuScreensModel_before_111 : decode prog_13_method_36_code 111 = .ok (.getfield 114, 3) := by decide +kernel
theorem d_MenuScreensModel_before_114 : decode prog_13_method_36_code 114 = .ok (.iload 4, 2) := by decide +kernel
theorem d_MenuScreensModel_before_116 : decode prog_13_method_36_code 116 = .ok (.baload, 1) := by decide +kernel
theorem d_MenuScreensModel_before_117 : decode prog_13_method_36_code 117 = .ok (.ifCond .ne 9, 3) := by decide +kernel
theorem d_MenuScreensModel_before_120 : decode prog_13_method_36_code 120 = .ok (.iload_n 3, 1) := by decide +kernel
theorem d_MenuScreensModel_before_121 : decode prog_13_method_36_code 121 = .ok (.iconst 1, 1) := by decide +kernel
theorem d_MenuScreensModel_before_122 : decode prog_13_method_36_code 122 = .ok (.iadd, 1) := by decide +kernel
theorem d_MenuScreensModel_before_123 : decode prog_13_method_36_code 123 = .ok (.goto 4, 3) := by decide +kernel
theorem d_MenuScreensModel_before_126 : decode prog_13_method_36_code 126 = .ok (.iload_n 3, 1) := by decide +kernel
theorem d_MenuScreensModel_before_127 : decode prog_13_method_36_code 127 = .ok (.istore_n 3, 1) := by decide +kernel
theorem d_MenuScreensModel_before_128 : decode prog_13_method_36_code 128 = .ok (.iinc 4 1, 3) := by decide +kernel
theorem d_MenuScreensModel_before_131 : decode prog_13_method_36_code 131 = .ok (.goto (-126), 3) := by decide +kernel
theorem d_MenuScreensModel_before_134 : decode prog_13_method_36_code 134 = .ok (.iload_n 3, 1) := by decide +kernel
theorem d_MenuScreensModel_before_135 : decode prog_13_method_36_code 135 = .ok (.ireturn, 1) := by decide +kernel
set_option maxRecDepth 100000 in
set_option maxHeartbeats 4000000 in
theorem cm_MenuScreensModel_before {l : Launch} {S0 : State} {b : Nat} {D : va_G} {dT : Nat → ClassId} (hE : vEnv S0 b D dT) {h0 : vH} {a : Nat} {ar : Nat → Nat} {x : Nat → Int32} {y : Nat → Int64} {A : Nat → Nat → Int32} {B : Nat → Nat → Int64} (M : MV S0 dT h0 a ar x y A B) (p1 : Int32) (p2 : Int32) {n w0 : Nat} (hn : x 50 = nI n) (hn2 : n ≤ 200) (hw : p1 = nI w0) (hw2 : w0 ≤ 200) : vMi l S0 D vcl GT y_MenuScreensModel_before prog_13_method_36_code 6 (some .int) 0 0 0 0 [.ref a, .int p1, .int p2] h0 (fun r h' => h' = h0 ∧ r = nI (befN (A 51) (B 52) (A 53) n w0 p2)) := by
  unfold vMi
  refine vM_ofQ hE.1 (by decide) (Nat.le_of_ble_eq_true rfl) (fun p e s m args below meth c ls Q hQ C hr hlk hnm X hl => ?_)
  have C : vC p s m _ c _ _ "MenuScreensModel" GT D vcl (vty dT) := C
  have hx := C.1.1
  have hb := C.1.2.1
  replace M := MR.of M
  obtain ⟨H, eH⟩ : ∃ z, z = s.heap := ⟨_, rfl⟩
  obtain ⟨locs, elocs⟩ : ∃ z : List Loc, z = [] := ⟨_, rfl⟩
  rw [← eH, ← elocs] at X
  rw [← eH, ← elocs]
  clear eH elocs
  have hl : lv_has ls 6 [(0, .ref a), (1, .int p1), (2, .int p2)] := hl
  refine lv_iconst (v := 0) hx hb d_MenuScreensModel_before_0 (by decide) ?_
  refine lv_istore_n (lv' := [(3, .int 0), (0, .ref a), (1, .int p1), (2, .int p2)]) hx hb d_MenuScreensModel_before_1 rfl hl (by decide) rfl (fun ls hl => ?_)
  refine lv_iconst (v := 1) hx hb d_MenuScreensModel_before_2 (by decide) ?_
  refine lv_istore (lv' := [(4, .int 1), (3, .int 0), (0, .ref a), (1, .int p1), (2, .int p2)]) hx hb d_MenuScreensModel_before_3 hl (by decide) rfl (fun ls hl => ?_)
  have lp : ∀ (n_lp : Nat) (k : Nat) (v : Int32) (i : Int32) (ls : Array Slot), (i = nI (k + 1)) → (k ≤ n) → (v = nI (cnt (fun j => fstB (A 51) (B 52) w0 p2 (j + 1) && decide (A 53 (j + 1) = 0)) k)) → (n - k) < n_lp → lv_has ls 6 [(0, .ref a), (1, .int p1), (2, .int p2), (3, .int v), (4, .int i)] → W p l e (vRm 0 0 0 0) s m args below meth c H locs 0 0 Q (F0 m 5 ls []) := by
    intro n_lp
    induction n_lp with
    | zero => intros; exact absurd (by assumption) (Nat.not_lt_zero _)
    | succ n_lp ih_lp =>
      intro k v i ls ei hk ev hmu_lp hl
      refine lv_iload hx hb d_MenuScreensModel_before_5 (lv_at hl 4 rfl) ?_
      refine lv_aload_n hx hb d_MenuScreensModel_before_7 rfl (lv_at hl 0 rfl) ?_
      refine mm_get C X M 50 f_12_276_13 (.int (x 50)) rfl d_MenuScreensModel_before_8 ?_
      refine lv_icmp_gt (tgt := 134) hx hb d_MenuScreensModel_before_11 (by decide) (fun c1 => ?_) (fun c1 => ?_)
      · skip
        refine lv_iload_n hx hb d_MenuScreensModel_before_134 rfl (lv_at hl 3 rfl) ?_
        exact mq_iret hQ C X hr rfl hlk (⟨rfl, by
            have : k = n := by
              have := (nI_ltI (a := n) (b := k + 1) (by omega) (by omega)).mp (by rw [← ei, ← hn]; exact c1)
              omega
            rw [ev, this]; rfl⟩) (Nat.le_refl _) (Nat.le_refl _) d_MenuScreensModel_before_135
      · skip
        have hkn : k + 1 ≤ n := by
          rcases Nat.lt_or_ge n (k + 1) with q | q
          · exact absurd (by rw [hn, ei]; exact nI_lt q (by omega)) c1
          · exact q
        have j103 : ∀ (f1 : Int32) (ls : Array Slot), (f1 = bI (fstB (A 51) (B 52) w0 p2 (k + 1))) → lv_has ls 6 [(0, .ref a), (1, .int p1), (2, .int p2), (3, .int v), (4, .int i)] → W p l e (vRm 0 0 0 0) s m args below meth c H locs 0 0 Q (F0 m 103 ls [.int f1]) := by
          intro f1 ls ef hl
          refine lv_istore (lv' := [(5, .int f1), (0, .ref a), (1, .int p1), (2, .int p2), (3, .int v), (4, .int i)]) hx hb d_MenuScreensModel_before_103 hl (by decide) rfl (fun ls hl => ?_)
          refine lv_iload hx hb d_MenuScreensModel_before_105 (lv_at hl 0 rfl) ?_
          refine lv_if_eq (tgt := 126) hx hb d_MenuScreensModel_before_107 (by decide) (fun c2 => ?_) (fun c2 => ?_)
          · skip
            refine lv_iload_n hx hb d_MenuScreensModel_before_126 rfl (lv_at hl 4 rfl) ?_
            refine lv_istore_n (lv' := [(3, .int v), (5, .int f1), (0, .ref a), (1, .int p1), (2, .int p2), (4, .int i)]) hx hb d_MenuScreensModel_before_127 rfl hl (by decide) rfl (fun ls hl => ?_)
            have ev1 : v = nI (cnt (fun j => fstB (A 51) (B 52) w0 p2 (j + 1) && decide (A 53 (j + 1) = 0)) (k + 1)) := by
              rw [cnt_f (by rw [bI_0 (ef.symm.trans c2)]; rfl)]; exact ev
            refine lv_iinc (v := (i + 1)) (lv' := [(4, .int (i + 1)), (3, .int v), (5, .int f1), (0, .ref a), (1, .int p1), (2, .int p2)]) hx hb d_MenuScreensModel_before_128 hl (k := 5) rfl rfl (by decide) rfl (fun ls hl => ?_)
            refine lv_goto (tgt := 5) hx hb d_MenuScreensModel_before_131 (by decide) ?_
            exact ih_lp (k + 1) v (i + 1) ls  (by rw [ei]; exact nI_1 _) (by omega) ev1 (by omega) (lv_sub hl [3, 4, 5, 1, 0] rfl)
          · skip
            refine lv_aload_n hx hb d_MenuScreensModel_before_110 rfl (lv_at hl 1 rfl) ?_
            refine mm_get C X M 53 f_12_114_13 (.ref (ar 53)) rfl d_MenuScreensModel_before_111 ?_
            refine lv_iload hx hb d_MenuScreensModel_before_114 (lv_at hl 5 rfl) ?_
            refine mm_zald C X M 53 201 rfl (A 53) rfl (by decide) (k + 1) ei (by omega) d_MenuScreensModel_before_116 ?_
            refine lv_if_ne (tgt := 126) hx hb d_MenuScreensModel_before_117 (by decide) (fun c3 => ?_) (fun c3 => ?_)
            · skip
              refine lv_iload_n hx hb d_MenuScreensModel_before_126 rfl (lv_at hl 4 rfl) ?_
              refine lv_istore_n (lv' := [(3, .int v), (5, .int f1), (0, .ref a), (1, .int p1), (2, .int p2), (4, .int i)]) hx hb d_MenuScreensModel_before_127 rfl hl (by decide) rfl (fun ls hl => ?_)
              have ev1 : v = nI (cnt (fun j => fstB (A 51) (B 52) w0 p2 (j + 1) && decide (A 53 (j + 1) = 0)) (k + 1)) := by
                rw [cnt_f (by show (_ && decide (A 53 (k + 1) = 0)) = false; rw [decide_eq_false c3, Bool.and_false])]; exact ev
              refine lv_iinc (v := (i + 1)) (lv' := [(4, .int (i + 1)), (3, .int v), (5, .int f1), (0, .ref a), (1, .int p1), (2, .int p2)]) hx hb d_MenuScreensModel_before_128 hl (k := 5) rfl rfl (by decide) rfl (fun ls hl => ?_)
              refine lv_goto (tgt := 5) hx hb d_MenuScreensModel_before_131 (by decide) ?_
              exact ih_lp (k + 1) v (i + 1) ls  (by rw [ei]; exact nI_1 _) (by omega) ev1 (by omega) (lv_sub hl [3, 4, 5, 1, 0] rfl)
            · skip
              refine lv_iload_n hx hb d_MenuScreensModel_before_120 rfl (lv_at hl 4 rfl) ?_
              refine lv_iconst (v := 1) hx hb d_MenuScreensModel_before_121 (by decide) ?_
              refine lv_iadd hx hb d_MenuScreensModel_before_122 ?_
              refine lv_goto (tgt := 127) hx hb d_MenuScreensModel_before_123 (by decide) ?_
              refine lv_istore_n (lv' := [(3, .int (v + 1)), (5, .int f1), (0, .ref a), (1, .int p1), (2, .int p2), (4, .int i)]) hx hb d_MenuScreensModel_before_127 rfl hl (by decide) rfl (fun ls hl => ?_)
              have ev1 : (v + 1) = nI (cnt (fun j => fstB (A 51) (B 52) w0 p2 (j + 1) && decide (A 53 (j + 1) = 0)) (k + 1)) := by
                rw [cnt_t (by show (fstB _ _ _ _ (k + 1) && decide (A 53 (k + 1) = 0)) = true; rw [bI_n (fun z => c2 (ef.trans z)), decide_eq_true c3]; rfl), ev]; exact nI_1 _
              refine lv_iinc (v := (i + 1)) (lv' := [(4, .int (i + 1)), (3, .int (v + 1)), (5, .int f1), (0, .ref a), (1, .int p1), (2, .int p2)]) hx hb d_MenuScreensModel_before_128 hl (k := 5) rfl rfl (by decide) rfl (fun ls hl => ?_)
              refine lv_goto (tgt := 5) hx hb d_MenuScreensModel_before_131 (by decide) ?_
              exact ih_lp (k + 1) (v + 1) (i + 1) ls  (by rw [ei]; exact nI_1 _) (by omega) ev1 (by omega) (lv_sub hl [3, 4, 5, 1, 0] rfl)
        refine lv_aload_n hx hb d_MenuScreensModel_before_14 rfl (lv_at hl 0 rfl) ?_
        refine mm_get C X M 51 f_12_108_13 (.ref (ar 51)) rfl d_MenuScreensModel_before_15 ?_
        refine lv_iload hx hb d_MenuScreensModel_before_18 (lv_at hl 4 rfl) ?_
        refine mm_iald C X M 51 201 rfl (A 51) rfl (by decide) (k + 1) ei (by omega) d_MenuScreensModel_before_20 ?_
        refine lv_aload_n hx hb d_MenuScreensModel_before_21 rfl (lv_at hl 0 rfl) ?_
        refine mm_get C X M 51 f_12_108_13 (.ref (ar 51)) rfl d_MenuScreensModel_before_22 ?_
        refine lv_iload_n hx hb d_MenuScreensModel_before_25 rfl (lv_at hl 1 rfl) ?_
        refine mm_iald C X M 51 201 rfl (A 51) rfl (by decide) w0 hw (by omega) d_MenuScreensModel_before_26 ?_
        refine lv_icmp_le (tgt := 42) hx hb d_MenuScreensModel_before_27 (by decide) (fun c4 => ?_) (fun c4 => ?_)
        · skip
          refine lv_aload_n hx hb d_MenuScreensModel_before_42 rfl (lv_at hl 0 rfl) ?_
          refine mm_get C X M 51 f_12_108_13 (.ref (ar 51)) rfl d_MenuScreensModel_before_43 ?_
          refine lv_iload hx hb d_MenuScreensModel_before_46 (lv_at hl 4 rfl) ?_
          refine mm_iald C X M 51 201 rfl (A 51) rfl (by decide) (k + 1) ei (by omega) d_MenuScreensModel_before_48 ?_
          refine lv_aload_n hx hb d_MenuScreensModel_before_49 rfl (lv_at hl 0 rfl) ?_
          refine mm_get C X M 51 f_12_108_13 (.ref (ar 51)) rfl d_MenuScreensModel_before_50 ?_
          refine lv_iload_n hx hb d_MenuScreensModel_before_53 rfl (lv_at hl 1 rfl) ?_
          refine mm_iald C X M 51 201 rfl (A 51) rfl (by decide) w0 hw (by omega) d_MenuScreensModel_before_54 ?_
          refine lv_icmp_ne (tgt := 102) hx hb d_MenuScreensModel_before_55 (by decide) (fun c5 => ?_) (fun c5 => ?_)
          · skip
            refine lv_iconst (v := 0) hx hb d_MenuScreensModel_before_102 (by decide) ?_
            exact j103 0 ls (by
              unfold fstB
              rw [if_neg (Int32.not_lt.mpr c4)]
              rw [decide_eq_false c5]; rfl) (lv_sub hl [0, 1, 2, 3, 4] rfl)
          · skip
            refine lv_aload_n hx hb d_MenuScreensModel_before_58 rfl (lv_at hl 0 rfl) ?_
            refine mm_get C X M 52 f_12_111_13 (.ref (ar 52)) rfl d_MenuScreensModel_before_59 ?_
            refine lv_iload hx hb d_MenuScreensModel_before_62 (lv_at hl 4 rfl) ?_
            refine mm_lald C X M 52 201 rfl (B 52) rfl (by decide) (k + 1) ei (by omega) d_MenuScreensModel_before_64 ?_
            refine lv_aload_n hx hb d_MenuScreensModel_before_65 rfl (lv_at hl 0 rfl) ?_
            refine mm_get C X M 52 f_12_111_13 (.ref (ar 52)) rfl d_MenuScreensModel_before_66 ?_
            refine lv_iload_n hx hb d_MenuScreensModel_before_69 rfl (lv_at hl 1 rfl) ?_
            refine mm_lald C X M 52 201 rfl (B 52) rfl (by decide) w0 hw (by omega) d_MenuScreensModel_before_70 ?_
            refine W.lcmp hx hb d_MenuScreensModel_before_71 ?_
            refine lv_if_lt (tgt := 98) hx hb d_MenuScreensModel_before_72 (by decide) (fun c6 => ?_) (fun c6 => ?_)
            · skip
              refine lv_iconst (v := 1) hx hb d_MenuScreensModel_before_98 (by decide) ?_
              refine lv_goto (tgt := 103) hx hb d_MenuScreensModel_before_99 (by decide) ?_
              exact j103 1 ls (by
                unfold fstB
                rw [if_neg (Int32.not_lt.mpr c4)]
                rw [decide_eq_true c5]
                rw [decide_eq_true ((lg_cmp_lt _ _).mp c6)]; rfl) (lv_sub hl [0, 1, 2, 3, 4] rfl)
            · skip
              refine lv_aload_n hx hb d_MenuScreensModel_before_75 rfl (lv_at hl 0 rfl) ?_
              refine mm_get C X M 52 f_12_111_13 (.ref (ar 52)) rfl d_MenuScreensModel_before_76 ?_
              refine lv_iload hx hb d_MenuScreensModel_before_79 (lv_at hl 4 rfl) ?_
              refine mm_lald C X M 52 201 rfl (B 52) rfl (by decide) (k + 1) ei (by omega) d_MenuScreensModel_before_81 ?_
              refine lv_aload_n hx hb d_MenuScreensModel_before_82 rfl (lv_at hl 0 rfl) ?_
              refine mm_get C X M 52 f_12_111_13 (.ref (ar 52)) rfl d_MenuScreensModel_before_83 ?_
              refine lv_iload_n hx hb d_MenuScreensModel_before_86 rfl (lv_at hl 1 rfl) ?_
              refine mm_lald C X M 52 201 rfl (B 52) rfl (by decide) w0 hw (by omega) d_MenuScreensModel_before_87 ?_
              refine W.lcmp hx hb d_MenuScreensModel_before_88 ?_
              refine lv_if_ne (tgt := 102) hx hb d_MenuScreensModel_before_89 (by decide) (fun c7 => ?_) (fun c7 => ?_)
              · skip
                refine lv_iconst (v := 0) hx hb d_MenuScreensModel_before_102 (by decide) ?_
                exact j103 0 ls (by
                  unfold fstB
                  rw [if_neg (Int32.not_lt.mpr c4)]
                  rw [decide_eq_true c5]
                  rw [decide_eq_false (fun z => c6 ((lg_cmp_lt _ _).mpr z))]
                  rw [decide_eq_false (fun z => c7 ((lg_cmp_eq _ _).mpr z))]; rfl) (lv_sub hl [0, 1, 2, 3, 4] rfl)
              · skip
                refine lv_iload hx hb d_MenuScreensModel_before_92 (lv_at hl 4 rfl) ?_
                refine lv_iload_n hx hb d_MenuScreensModel_before_94 rfl (lv_at hl 1 rfl) ?_
                refine lv_icmp_ge (tgt := 102) hx hb d_MenuScreensModel_before_95 (by decide) (fun c8 => ?_) (fun c8 => ?_)
                · skip
                  refine lv_iconst (v := 0) hx hb d_MenuScreensModel_before_102 (by decide) ?_
                  exact j103 0 ls (by
                    unfold fstB
                    rw [if_neg (Int32.not_lt.mpr c4)]
                    rw [decide_eq_true c5]
                    rw [decide_eq_false (fun z => c6 ((lg_cmp_lt _ _).mpr z))]
                    rw [decide_eq_true ((lg_cmp_eq _ _).mp c7)]
                    rw [decide_eq_false (fun z => absurd (by rw [ei, hw]; exact nI_lt z (by omega)) (Int32.not_lt.mpr c8))]; rfl) (lv_sub hl [0, 1, 2, 3, 4] rfl)
                · skip
                  refine lv_iconst (v := 1) hx hb d_MenuScreensModel_before_98 (by decide) ?_
                  refine lv_goto (tgt := 103) hx hb d_MenuScreensModel_before_99 (by decide) ?_
                  exact j103 1 ls (by
                    unfold fstB
                    rw [if_neg (Int32.not_lt.mpr c4)]
                    rw [decide_eq_true c5]
                    rw [decide_eq_false (fun z => c6 ((lg_cmp_lt _ _).mpr z))]
                    rw [decide_eq_true ((lg_cmp_eq _ _).mp c7)]
                    rw [decide_eq_true (show k + 1 < w0 by
                      rcases Nat.lt_or_ge (k + 1) w0 with q | q
                      · exact q
                      · exact absurd (by rw [ei, hw]; exact nI_le q (by omega)) c8)]; rfl) (lv_sub hl [0, 1, 2, 3, 4] rfl)
        · skip
          refine lv_iload_n hx hb d_MenuScreensModel_before_30 rfl (lv_at hl 2 rfl) ?_
          refine lv_if_ne (tgt := 38) hx hb d_MenuScreensModel_before_31 (by decide) (fun c9 => ?_) (fun c9 => ?_)
          · skip
            refine lv_iconst (v := 0) hx hb d_MenuScreensModel_before_38 (by decide) ?_
            refine lv_goto (tgt := 103) hx hb d_MenuScreensModel_before_39 (by decide) ?_
            exact j103 0 ls (by
              unfold fstB
              rw [if_pos (Int32.not_le.mp c4), decide_eq_false c9]; rfl) (lv_sub hl [0, 1, 2, 3, 4] rfl)
          · skip
            refine lv_iconst (v := 1) hx hb d_MenuScreensModel_before_34 (by decide) ?_
            refine lv_goto (tgt := 103) hx hb d_MenuScreensModel_before_35 (by decide) ?_
            exact j103 1 ls (by
              unfold fstB
              rw [if_pos (Int32.not_le.mp c4), decide_eq_true c9]; rfl) (lv_sub hl [0, 1, 2, 3, 4] rfl)
  exact lp (n - 0 + 1) 0 0 1 ls  rfl (by omega) rfl (Nat.lt_succ_self _) (lv_sub hl [2, 3, 4, 1, 0] rfl)
theorem d_MenuScreensModel_warning_0 : decode prog_13_method_38_code 0 = .ok (.aload_n 0, 1) := by decide +kernel
theorem d_MenuScreensModel_warning_1 : decode prog_13_method_38_code 1 = .ok (.iconst 0, 1) := by decide +kernel
theorem d_MenuScreensModel_warning_2 : decode prog_13_method_38_code 2 = .ok (.putfield 127, 3) := by decide +kernel
theorem d_MenuScreensModel_warning_5 : decode prog_13_method_38_code 5 = .ok (.iconst 1, 1) := by decide +kernel
theorem d_MenuScreensModel_warning_6 : decode prog_13_method_38_code 6 = .ok (.istore_n 2, 1) := by decide +kernel
theorem d_MenuScreensModel_warning_7 : decode prog_13_method_38_code 7 = .ok (.iload_n 2, 1) := by decide +kernel
theorem d_MenuScreensModel_warning_8 : decode prog_13_method_38_code 8 = .ok (.aload_n 0, 1) := by decide +kernel
theorem d_MenuScreensModel_warning_9 : decode prog_13_method_38_code 9 = .ok (.getfield 276, 3) := by decide +kernel
theorem d_MenuScreensModel_warning_12 : decode prog_13_method_38_code 12 = .ok (.if_icmp .gt 30, 3) := by decide +kernel
theorem d_MenuScreensModel_warning_15 : decode prog_13_method_38_code 15 = .ok (.aload_n 0, 1) := by decide +kernel
theorem d_MenuScreensModel_warning_16 : decode prog_13_method_38_code 16 = .ok (.getfield 114, 3) := by decide +kernel
theorem d_MenuScreensModel_warning_19 : decode prog_13_method_38_code 19 = .ok (.iload_n 2, 1) := by decide +kernel
theorem d_MenuScreensModel_warning_20 : decode prog_13_method_38_code 20 = .ok (.baload, 1) := by decide +kernel
theorem d_MenuScreensModel_warning_21 : decode prog_13_method_38_code 21 = .ok (.ifCond .ne 15, 3) := by decide +kernel
theorem d_MenuScreensModel_warning_24 : decode prog_13_method_38_code 24 = .ok (.aload_n 0, 1) := by decide +kernel
theorem d_MenuScreensModel_warning_25 : decode prog_13_method_38_code 25 = .ok (.iload_n 2, 1) := by decide +kernel
theorem d_MenuScreensModel_warning_26 : decode prog_13_method_38_code 26 = .ok (.iconst 0, 1) := by decide +kernel
theorem d_MenuScreensModel_warning_27 : decode prog_13_method_38_code 27 = .ok (.invokevirtual 279, 3) := by decide +kernel
theorem d_MenuScreensModel_warning_30 : decode prog_13_method_38_code 30 = .ok (.iload_n 1, 1) := by decide +kernel
theorem d_MenuScreensModel_warning_31 : decode prog_13_method_38_code 31 = .ok (.if_icmp .ne 5, 3) := by decide +kernel
theorem d_MenuScreensModel_warning_34 : decode prog_13_method_38_code 34 = .ok (.iload_n 2, 1) := by decide +kernel
theorem d_MenuScreensModel_warning_35 : decode prog_13_method_38_code 35 = .ok (.ireturn, 1) := by decide +kernel
theorem d_MenuScreensModel_warning_36 : decode prog_13_method_38_code 36 = .ok (.iinc 2 1, 3) := by decide +kernel
theorem d_MenuScreensModel_warning_39 : decode prog_13_method_38_code 39 = .ok (.goto (-32), 3) := by decide +kernel
theorem d_MenuScreensModel_warning_42 : decode prog_13_method_38_code 42 = .ok (.iconst 0, 1) := by decide +kernel
theorem d_MenuScreensModel_warning_43 : decode prog_13_method_38_code 43 = .ok (.ireturn, 1) := by decide +kernel
set_option maxRecDepth 100000 in
set_option maxHeartbeats 4000000 in
theorem cm_MenuScreensModel_warning {l : Launch} {S0 : State} {b : Nat} {D : va_G} {dT : Nat → ClassId} (hE : vEnv S0 b D dT) {h0 : vH} {a : Nat} {ar : Nat → Nat} {x : Nat → Int32} {y : Nat → Int64} {A : Nat → Nat → Int32} {B : Nat → Nat → Int64} (M : MV S0 dT h0 a ar x y A B) (p1 : Int32) {n : Nat} (hn : x 50 = nI n) (hn2 : n ≤ 200) : vMi l S0 D vcl GT y_MenuScreensModel_warning prog_13_method_38_code 3 (some .int) 1 30 0 0 [.ref a, .int p1] h0 (fun r h' => ∃ x', MR S0 dT h0 h' a ar x' y A B ∧ x' = upd x 0 0 ∧ r = nI (fnd (fun k => decide (A 53 k = 0) && decide (nI (befN (A 51) (B 52) (A 53) n k 0) = p1)) n 1)) := by
  unfold vMi
  refine vM_ofQ hE.1 (by decide) (Nat.le_of_ble_eq_true rfl) (fun p e s m args below meth c ls Q hQ C hr hlk hnm X hl => ?_)
  have C : vC p s m _ c _ _ "MenuScreensModel" GT D vcl (vty dT) := C
  have hx := C.1.1
  have hb := C.1.2.1
  replace M := MR.of M
  obtain ⟨H, eH⟩ : ∃ z, z = s.heap := ⟨_, rfl⟩
  obtain ⟨locs, elocs⟩ : ∃ z : List Loc, z = [] := ⟨_, rfl⟩
  rw [← eH, ← elocs] at X
  rw [← eH, ← elocs]
  clear eH elocs
  have hl : lv_has ls 3 [(0, .ref a), (1, .int p1)] := hl
  refine lv_aload_n hx hb d_MenuScreensModel_warning_0 rfl (lv_at hl 0 rfl) ?_
  refine lv_iconst (v := 0) hx hb d_MenuScreensModel_warning_1 (by decide) ?_
  refine mm_put C X M 0 p_12_127_13 (upd x 0 0) y rfl rfl rfl (by decide) d_MenuScreensModel_warning_2 (fun h H locs X M => ?_)
  refine lv_iconst (v := 1) hx hb d_MenuScreensModel_warning_5 (by decide) ?_
  refine lv_istore_n (lv' := [(2, .int 1), (0, .ref a), (1, .int p1)]) hx hb d_MenuScreensModel_warning_6 rfl hl (by decide) rfl (fun ls hl => ?_)
  have lp : ∀ (n_lp : Nat) (k : Nat) (i : Int32) (ls : Array Slot) (h : vH) (H : Heap) (locs : List Loc), (i = nI k) → (1 ≤ k) → (k ≤ n + 1) → (fnd (fun k => decide (A 53 k = 0) && decide (nI (befN (A 51) (B 52) (A 53) n k 0) = p1)) (n + 1 - k) k = fnd (fun k => decide (A 53 k = 0) && decide (nI (befN (A 51) (B 52) (A 53) n k 0) = p1)) n 1) → (n + 1 - k) < n_lp → vO S0 D vcl h s H locs → MR S0 dT h0 h a ar (upd x 0 0) y A B → lv_has ls 3 [(0, .ref a), (1, .int p1), (2, .int i)] → W p l e (vRm 1 30 0 0) s m args below meth c H locs 0 0 Q (F0 m 7 ls []) := by
    intro n_lp
    induction n_lp with
    | zero => intros; exact absurd (by assumption) (Nat.not_lt_zero _)
    | succ n_lp ih_lp =>
      intro k i ls h H locs ei hk1 hk hs hmu_lp X M hl
      refine lv_iload_n hx hb d_MenuScreensModel_warning_7 rfl (lv_at hl 2 rfl) ?_
      refine lv_aload_n hx hb d_MenuScreensModel_warning_8 rfl (lv_at hl 0 rfl) ?_
      refine mm_get C X M 50 f_12_276_13 (.int (x 50)) rfl d_MenuScreensModel_warning_9 ?_
      refine lv_icmp_gt (tgt := 42) hx hb d_MenuScreensModel_warning_12 (by decide) (fun c1 => ?_) (fun c1 => ?_)
      · skip
        refine lv_iconst (v := 0) hx hb d_MenuScreensModel_warning_42 (by decide) ?_
        exact mq_iret hQ C X hr rfl hlk (⟨(upd x 0 0), M, rfl, by
            have : k = n + 1 := by
              have := (nI_ltI (a := n) (b := k) (by omega) (by omega)).mp (by rw [← ei, ← hn]; exact c1)
              omega
            rw [this, Nat.sub_self, fnd] at hs
            rw [← hs]; rfl⟩) (Nat.le_refl _) (Nat.le_refl _) d_MenuScreensModel_warning_43
      · skip
        have hkn : k ≤ n := by
          rcases Nat.lt_or_ge n k with q | q
          · exact absurd (by rw [hn, ei]; exact nI_lt q (by omega)) c1
          · exact q
        refine lv_aload_n hx hb d_MenuScreensModel_warning_15 rfl (lv_at hl 0 rfl) ?_
        refine mm_get C X M 53 f_12_114_13 (.ref (ar 53)) rfl d_MenuScreensModel_warning_16 ?_
        refine lv_iload_n hx hb d_MenuScreensModel_warning_19 rfl (lv_at hl 2 rfl) ?_
        refine mm_zald C X M 53 201 rfl (A 53) rfl (by decide) k ei (by omega) d_MenuScreensModel_warning_20 ?_
        refine lv_if_ne (tgt := 36) hx hb d_MenuScreensModel_warning_21 (by decide) (fun c2 => ?_) (fun c2 => ?_)
        · skip
          refine lv_iinc (v := (i + 1)) (lv' := [(2, .int (i + 1)), (0, .ref a), (1, .int p1)]) hx hb d_MenuScreensModel_warning_36 hl (k := 2) rfl rfl (by decide) rfl (fun ls hl => ?_)
          refine lv_goto (tgt := 7) hx hb d_MenuScreensModel_warning_39 (by decide) ?_
          exact ih_lp (k + 1) (i + 1) ls _ _ _ (by rw [ei]; exact nI_1 k) (by omega) (by omega) ((fnd_s (g := (fun k => decide (A 53 k = 0) && decide (nI (befN (A 51) (B 52) (A 53) n k 0) = p1))) (by omega) (by show (decide (A 53 k = 0) && _) = false; rw [decide_eq_false c2]; rfl)).symm.trans hs) (by omega) X M (lv_sub hl [1, 2, 0] rfl)
        · skip
          refine lv_aload_n hx hb d_MenuScreensModel_warning_24 rfl (lv_at hl 0 rfl) ?_
          refine lv_iload_n hx hb d_MenuScreensModel_warning_25 rfl (lv_at hl 2 rfl) ?_
          refine lv_iconst (v := 0) hx hb d_MenuScreensModel_warning_26 (by decide) ?_
          refine mv_bi X (mv_rV (rest := []) (As := [.int i, .int 0]) gt_good C X k_12_279 (cm_MenuScreensModel_before hE M.1 _ _ (n := n) (w0 := k) hn hn2 ei (by omega)) M.1.1 rfl rfl ⟨by decide, by decide⟩ rfl hl.1 rfl (by decide) d_MenuScreensModel_warning_27 ⟨Nat.le_refl _, Nat.le_refl _⟩) (fun r3 hN H locs hp X => ?_)
          obtain ⟨ehr3, er3⟩ := hp
          rw [ehr3] at X
          refine lv_iload_n hx hb d_MenuScreensModel_warning_30 rfl (lv_at hl 1 rfl) ?_
          refine lv_icmp_ne (tgt := 36) hx hb d_MenuScreensModel_warning_31 (by decide) (fun c4 => ?_) (fun c4 => ?_)
          · skip
            refine lv_iinc (v := (i + 1)) (lv' := [(2, .int (i + 1)), (0, .ref a), (1, .int p1)]) hx hb d_MenuScreensModel_warning_36 hl (k := 2) rfl rfl (by decide) rfl (fun ls hl => ?_)
            refine lv_goto (tgt := 7) hx hb d_MenuScreensModel_warning_39 (by decide) ?_
            exact ih_lp (k + 1) (i + 1) ls _ _ _ (by rw [ei]; exact nI_1 k) (by omega) (by omega) ((fnd_s (g := (fun k => decide (A 53 k = 0) && decide (nI (befN (A 51) (B 52) (A 53) n k 0) = p1))) (by omega) (by show (_ && decide (nI (befN (A 51) (B 52) (A 53) n k 0) = p1)) = false; rw [show decide (nI (befN (A 51) (B 52) (A 53) n k 0) = p1) = false from decide_eq_false (by rw [← er3]; exact c4), Bool.and_false])).symm.trans hs) (by omega) X M (lv_sub hl [1, 2, 0] rfl)
          · skip
            refine lv_iload_n hx hb d_MenuScreensModel_warning_34 rfl (lv_at hl 2 rfl) ?_
            exact mq_iret hQ C X hr rfl hlk (⟨(upd x 0 0), M, rfl, by
                rw [← hs, fnd_f (g := (fun k => decide (A 53 k = 0) && decide (nI (befN (A 51) (B 52) (A 53) n k 0) = p1))) (by omega) (by show (decide (A 53 k = 0) && decide (nI (befN (A 51) (B 52) (A 53) n k 0) = p1)) = true; rw [decide_eq_true c2, decide_eq_true (by rw [← er3]; exact c4)]; rfl)]; exact ei⟩) (Nat.le_refl _) (Nat.le_refl _) d_MenuScreensModel_warning_35
  exact lp (n + 1 - 1 + 1) 1 1 ls _ _ _ rfl (Nat.le_refl _) (by omega) (by rw [Nat.add_sub_cancel]) (Nat.lt_succ_self _) X M (lv_sub hl [1, 2, 0] rfl)
theorem d_MenuScreensModel_accept_0 : decode prog_13_method_39_code 0 = .ok (.aload_n 0, 1) := by decide +kernel
theorem d_MenuScreensModel_accept_1 : decode prog_13_method_39_code 1 = .ok (.iconst 0, 1) := by decide +kernel
theorem d_MenuScreensModel_accept_2 : decode prog_13_method_39_code 2 = .ok (.putfield 127, 3) := by decide +kernel
theorem d_MenuScreensModel_accept_5 : decode prog_13_method_39_code 5 = .ok (.iload_n 1, 1) := by decide +kernel
theorem d_MenuScreensModel_accept_6 : decode prog_13_method_39_code 6 = .ok (.iconst 1, 1) := by decide +kernel
theorem d_MenuScreensModel_accept_7 : decode prog_13_method_39_code 7 = .ok (.if_icmp .lt 20, 3) := by decide +kernel
theorem d_MenuScreensModel_accept_10 : decode prog_13_method_39_code 10 = .ok (.iload_n 1, 1) := by decide +kernel
theorem d_MenuScreensModel_accept_11 : decode prog_13_method_39_code 11 = .ok (.aload_n 0, 1) := by decide +kernel
theorem d_MenuScreensModel_accept_12 : decode prog_13_method_39_code 12 = .ok (.getfield 276, 3) := by decide +kernel
theorem d_MenuScreensModel_accept_15 : decode prog_13_method_39_code 15 = .ok (.if_icmp .gt 12, 3) := by decide +kernel
theorem d_MenuScreensModel_accept_18 : decode prog_13_method_39_code 18 = .ok (.aload_n 0, 1) := by decide +kernel
theorem d_MenuScreensModel_accept_19 : decode prog_13_method_39_code 19 = .ok (.getfield 114, 3) := by decide +kernel
theorem d_MenuScreensModel_accept_22 : decode prog_13_method_39_code 22 = .ok (.iload_n 1, 1) := by decide +kernel
theorem d_MenuScreensModel_accept_23 : decode prog_13_method_39_code 23 = .ok (.baload, 1) := by decide +kernel
theorem d_MenuScreensModel_accept_24 : decode prog_13_method_39_code 24 = .ok (.ifCond .eq 5, 3) := by decide +kernel
theorem d_MenuScreensModel_accept_27 : decode prog_13_method_39_code 27 = .ok (.iconst (-1), 1) := by decide +kernel
theorem d_MenuScreensModel_accept_28 : decode prog_13_method_39_code 28 = .ok (.ireturn, 1) := by decide +kernel
theorem d_MenuScreensModel_accept_29 : decode prog_13_method_39_code 29 = .ok (.aload_n 0, 1) := by decide +kernel
theorem d_MenuScreensModel_accept_30 : decode prog_13_method_39_code 30 = .ok (.getfield 273, 3) := by decide +kernel
theorem d_MenuScreensModel_accept_33 : decode prog_13_method_39_code 33 = .ok (.aload_n 0, 1) := by decide +kernel
theorem d_MenuScreensModel_accept_34 : decode prog_13_method_39_code 34 = .ok (.getfield 111, 3) := by decide +kernel
theorem d_MenuScreensModel_accept_37 : decode prog_13_method_39_code 37 = .ok (.iload_n 1, 1) := by decide +kernel
theorem d_MenuScreensModel_accept_38 : decode prog_13_method_39_code 38 = .ok (.laload, 1) := by decide +kernel
theorem d_MenuScreensModel_accept_39 : decode prog_13_method_39_code 39 = .ok (.lsub, 1) := by decide +kernel
theorem d_MenuScreensModel_accept_40 : decode prog_13_method_39_code 40 = .ok (.ldc2_w 283, 3) := by decide +kernel
theorem d_MenuScreensModel_accept_43 : decode prog_13_method_39_code 43 = .ok (.lcmp, 1) := by decide +kernel
theorem d_MenuScreensModel_accept_44 : decode prog_13_method_39_code 44 = .ok (.ifCond .ge 6, 3) := by decide +kernel
theorem d_MenuScreensModel_accept_47 : decode prog_13_method_39_code 47 = .ok (.bipush (-3), 2) := by decide +kernel
theorem d_MenuScreensModel_accept_49 : decode prog_13_method_39_code 49 = .ok (.ireturn, 1) := by decide +kernel
theorem d_MenuScreensModel_accept_50 : decode prog_13_method_39_code 50 = .ok (.aload_n 0, 1) := by decide +kernel
theorem d_MenuScreensModel_accept_51 : decode prog_13_method_39_code 51 = .ok (.getfield 114, 3) := by decide +kernel
theorem d_MenuScreensModel_accept_54 : decode prog_13_method_39_code 54 = .ok (.iload_n 1, 1) := by decide +kernel
theorem d_MenuScreensModel_accept_55 : decode prog_13_method_39_code 55 = .ok (.iconst 1, 1) := by decide +kernel
theorem d_MenuScreensModel_accept_56 : decode prog_13_method_39_code 56 = .ok (.bastore, 1) := by decide +kernel
theorem d_MenuScreensModel_accept_57 : decode prog_13_method_39_code 57 = .ok (.iconst 0, 1) := by decide +kernel
theorem d_MenuScreensModel_accept_58 : decode prog_13_method_39_code 58 = .ok (.istore_n 2, 1) := by decide +kernel
theorem d_MenuScreensModel_accept_59 : decode prog_13_method_39_code 59 = .ok (.iconst 1, 1) := by decide +kernel
theorem d_MenuScreensModel_accept_60 : decode prog_13_method_39_code 60 = .ok (.istore_n 3, 1) := by decide +kernel
theorem d_MenuScreensModel_accept_61 : decode prog_13_method_39_code 61 = .ok (.iload_n 3, 1) := by decide +kernel
theorem d_MenuScreensModel_accept_62 : decode prog_13_method_39_code 62 = .ok (.aload_n 0, 1) := by decide +kernel
theorem d_MenuScreensModel_accept_63 : decode prog_13_method_39_code 63 = .ok (.getfield 276, 3) := by decide +kernel
theorem d_MenuScreensModel_accept_66 : decode prog_13_method_39_code 66 = .ok (.if_icmp .gt 26, 3) := by decide +kernel
theorem d_MenuScreensModel_accept_69 : decode prog_13_method_39_code 69 = .ok (.aload_n 0, 1) := by decide +kernel
theorem d_MenuScreensModel_accept_70 : decode prog_13_method_39_code 70 = .ok (.getfield 114, 3) := by decide +kernel
theorem d_MenuScreensModel_accept_73 : decode prog_13_method_39_code 73 = .ok (.iload_n 3, 1) := by decide +kernel
theorem d_MenuScreensModel_accept_74 : decode prog_13_method_39_code 74 = .ok (.baload, 1) := by decide +kernel
theorem d_MenuScreensModel_accept_75 : decode prog_13_method_39_code 75 = .ok (.ifCond .eq 7, 3) := by decide +kernel
theorem d_MenuScreensModel_accept_78 : decode prog_13_method_39_code 78 = .ok (.iload_n 2, 1) := by decide +kernel
theorem d_MenuScreensModel_accept_79 : decode prog_13_method_39_code 79 = .ok (.goto 6, 3) := by decide +kernel
theorem d_MenuScreensModel_accept_82 : decode prog_13_method_39_code 82 = .ok (.iload_n 2, 1) := by decide +kernel
theorem d_MenuScreensModel_accept_83 : decode prog_13_method_39_code 83 = .ok (.iconst 1, 1) := by decide +kernel
theorem d_MenuScreensModel_accept_84 : decode prog_13_method_39_code 84 = .ok (.iadd, 1) := by decide +kernel
theorem d_MenuScreensModel_accept_85 : decode prog_13_method_39_code 85 = .ok (.istore_n 2, 1) := by decide +kernel
theorem d_MenuScreensModel_accept_86 : decode prog_13_method_39_code 86 = .ok (.iinc 3 1, 3) := by decide +kernel
theorem d_MenuScreensModel_accept_89 : decode prog_13_method_39_code 89 = .ok (.goto (-28), 3) := by decide +kernel
theorem d_MenuScreensModel_accept_92 : decode prog_13_method_39_code 92 = .ok (.iload_n 2, 1) := by decide +kernel
theorem d_MenuScreensModel_accept_93 : decode prog_13_method_39_code 93 = .ok (.ireturn, 1) := by decide +kernel
set_option maxRecDepth 100000 in
set_option maxHeartbeats 4000000 in
theorem cm_MenuScreensModel_accept {l : Launch} {S0 : State} {b : Nat} {D : va_G} {dT : Nat → ClassId} (hE : vEnv S0 b D dT) {h0 : vH} {a : Nat} {ar : Nat → Nat} {x : Nat → Int32} {y : Nat → Int64} {A : Nat → Nat → Int32} {B : Nat → Nat → Int64} (M : MV S0 dT h0 a ar x y A B) (p1 : Int32) {n : Nat} (hn : x 50 = nI n) (hn2 : n ≤ 200) : vMi l S0 D vcl GT y_MenuScreensModel_accept prog_13_method_39_code 4 (some .int) 0 0 0 0 [.ref a, .int p1] h0 (fun r h' => ∃ x' y' A' B', MR S0 dT h0 h' a ar x' y' A' B' ∧ (x' = upd x 0 0 ∧ y' = y ∧ B' = B ∧ ((p1 < 1 ∨ x 50 < p1) ∧ r = -1 ∧ A' = A ∨ ∃ w0, 1 ≤ w0 ∧ w0 ≤ n ∧ p1 = nI w0 ∧ (¬ A 53 w0 = 0 ∧ r = -1 ∧ A' = A ∨ A 53 w0 = 0 ∧ y 54 - B 52 w0 < 30 ∧ r = -3 ∧ A' = A ∨ A 53 w0 = 0 ∧ ¬ y 54 - B 52 w0 < 30 ∧ r = nI (cnt (fun j => decide (upd (A 53) w0 1 (j + 1) = 0)) n) ∧ A' = va_up A 53 (upd (A 53) w0 1))))) := by
  unfold vMi
  refine vM_ofQ hE.1 (by decide) (Nat.le_of_ble_eq_true rfl) (fun p e s m args below meth c ls Q hQ C hr hlk hnm X hl => ?_)
  have C : vC p s m _ c _ _ "MenuScreensModel" GT D vcl (vty dT) := C
  have hx := C.1.1
  have hb := C.1.2.1
  replace M := MR.of M
  obtain ⟨H, eH⟩ : ∃ z, z = s.heap := ⟨_, rfl⟩
  obtain ⟨locs, elocs⟩ : ∃ z : List Loc, z = [] := ⟨_, rfl⟩
  rw [← eH, ← elocs] at X
  rw [← eH, ← elocs]
  clear eH elocs
  have hl : lv_has ls 4 [(0, .ref a), (1, .int p1)] := hl
  refine lv_aload_n hx hb d_MenuScreensModel_accept_0 rfl (lv_at hl 0 rfl) ?_
  refine lv_iconst (v := 0) hx hb d_MenuScreensModel_accept_1 (by decide) ?_
  refine mm_put C X M 0 p_12_127_13 (upd x 0 0) y rfl rfl rfl (by decide) d_MenuScreensModel_accept_2 (fun h H locs X M => ?_)
  refine lv_iload_n hx hb d_MenuScreensModel_accept_5 rfl (lv_at hl 1 rfl) ?_
  refine lv_iconst (v := 1) hx hb d_MenuScreensModel_accept_6 (by decide) ?_
  refine lv_icmp_lt (tgt := 27) hx hb d_MenuScreensModel_accept_7 (by decide) (fun c1 => ?_) (fun c1 => ?_)
  · skip
    refine lv_iconst (v := (-1)) hx hb d_MenuScreensModel_accept_27 (by decide) ?_
    exact mq_iret hQ C X hr rfl hlk (⟨(upd x 0 0), y, A, B, M, rfl, rfl, rfl, Or.inl ⟨by clear X C hl hr; simp_all, rfl, rfl⟩⟩) (Nat.le_refl _) (Nat.le_refl _) d_MenuScreensModel_accept_28
  · skip
    refine lv_iload_n hx hb d_MenuScreensModel_accept_10 rfl (lv_at hl 1 rfl) ?_
    refine lv_aload_n hx hb d_MenuScreensModel_accept_11 rfl (lv_at hl 0 rfl) ?_
    refine mm_get C X M 50 f_12_276_13 (.int (x 50)) rfl d_MenuScreensModel_accept_12 ?_
    refine lv_icmp_gt (tgt := 27) hx hb d_MenuScreensModel_accept_15 (by decide) (fun c2 => ?_) (fun c2 => ?_)
    · skip
      refine lv_iconst (v := (-1)) hx hb d_MenuScreensModel_accept_27 (by decide) ?_
      exact mq_iret hQ C X hr rfl hlk (⟨(upd x 0 0), y, A, B, M, rfl, rfl, rfl, Or.inl ⟨by clear X C hl hr; simp_all, rfl, rfl⟩⟩) (Nat.le_refl _) (Nat.le_refl _) d_MenuScreensModel_accept_28
    · skip
      obtain ⟨w0, hw1, hw2, ew⟩ := ix_le1 (n := n) c1 (by rw [← hn]; exact Int32.not_lt.mp c2) (by omega)
      refine lv_aload_n hx hb d_MenuScreensModel_accept_18 rfl (lv_at hl 0 rfl) ?_
      refine mm_get C X M 53 f_12_114_13 (.ref (ar 53)) rfl d_MenuScreensModel_accept_19 ?_
      refine lv_iload_n hx hb d_MenuScreensModel_accept_22 rfl (lv_at hl 1 rfl) ?_
      refine mm_zald C X M 53 201 rfl (A 53) rfl (by decide) w0 ew (by omega) d_MenuScreensModel_accept_23 ?_
      refine lv_if_eq (tgt := 29) hx hb d_MenuScreensModel_accept_24 (by decide) (fun c3 => ?_) (fun c3 => ?_)
      · skip
        refine lv_aload_n hx hb d_MenuScreensModel_accept_29 rfl (lv_at hl 0 rfl) ?_
        refine mm_get C X M 54 f_12_273_13 (.long (y 54)) rfl d_MenuScreensModel_accept_30 ?_
        refine lv_aload_n hx hb d_MenuScreensModel_accept_33 rfl (lv_at hl 0 rfl) ?_
        refine mm_get C X M 52 f_12_111_13 (.ref (ar 52)) rfl d_MenuScreensModel_accept_34 ?_
        refine lv_iload_n hx hb d_MenuScreensModel_accept_37 rfl (lv_at hl 1 rfl) ?_
        refine mm_lald C X M 52 201 rfl (B 52) rfl (by decide) w0 ew (by omega) d_MenuScreensModel_accept_38 ?_
        refine lv_lsub hx hb d_MenuScreensModel_accept_39 ?_
        refine lv_ldc2 (v := 30) hx hb C.1.2.2.2.1 (C.1.2.2.2.2 _ (gt_6 122 (by decide +kernel) rfl)) d_MenuScreensModel_accept_40 ?_
        refine W.lcmp hx hb d_MenuScreensModel_accept_43 ?_
        refine lv_if_ge (tgt := 50) hx hb d_MenuScreensModel_accept_44 (by decide) (fun c4 => ?_) (fun c4 => ?_)
        · skip
          refine lv_aload_n hx hb d_MenuScreensModel_accept_50 rfl (lv_at hl 0 rfl) ?_
          refine mm_get C X M 53 f_12_114_13 (.ref (ar 53)) rfl d_MenuScreensModel_accept_51 ?_
          refine lv_iload_n hx hb d_MenuScreensModel_accept_54 rfl (lv_at hl 1 rfl) ?_
          refine lv_iconst (v := 1) hx hb d_MenuScreensModel_accept_55 (by decide) ?_
          refine mm_zast C X M 53 201 rfl (A 53) rfl (fun _ => rfl) (by decide) rfl w0 ew (by omega) d_MenuScreensModel_accept_56 (fun h H locs X M => ?_)
          refine lv_iconst (v := 0) hx hb d_MenuScreensModel_accept_57 (by decide) ?_
          refine lv_istore_n (lv' := [(2, .int 0), (0, .ref a), (1, .int p1)]) hx hb d_MenuScreensModel_accept_58 rfl hl (by decide) rfl (fun ls hl => ?_)
          refine lv_iconst (v := 1) hx hb d_MenuScreensModel_accept_59 (by decide) ?_
          refine lv_istore_n (lv' := [(3, .int 1), (2, .int 0), (0, .ref a), (1, .int p1)]) hx hb d_MenuScreensModel_accept_60 rfl hl (by decide) rfl (fun ls hl => ?_)
          have lp : ∀ (n_lp : Nat) (k : Nat) (v : Int32) (i : Int32) (ls : Array Slot), (i = nI (k + 1)) → (k ≤ n) → (v = nI (cnt (fun j => decide (upd (A 53) w0 1 (j + 1) = 0)) k)) → (n - k) < n_lp → lv_has ls 4 [(0, .ref a), (1, .int p1), (2, .int v), (3, .int i)] → W p l e (vRm 0 0 0 0) s m args below meth c H locs 0 0 Q (F0 m 61 ls []) := by
            intro n_lp
            induction n_lp with
            | zero => intros; exact absurd (by assumption) (Nat.not_lt_zero _)
            | succ n_lp ih_lp =>
              intro k v i ls ei hk ev hmu_lp hl
              refine lv_iload_n hx hb d_MenuScreensModel_accept_61 rfl (lv_at hl 3 rfl) ?_
              refine lv_aload_n hx hb d_MenuScreensModel_accept_62 rfl (lv_at hl 0 rfl) ?_
              refine mm_get C X M 50 f_12_276_13 (.int (x 50)) rfl d_MenuScreensModel_accept_63 ?_
              refine lv_icmp_gt (tgt := 92) hx hb d_MenuScreensModel_accept_66 (by decide) (fun c5 => ?_) (fun c5 => ?_)
              · skip
                refine lv_iload_n hx hb d_MenuScreensModel_accept_92 rfl (lv_at hl 2 rfl) ?_
                exact mq_iret hQ C X hr rfl hlk (⟨(upd x 0 0), y, (va_up A 53 (upd (A 53) w0 1)), B, M, rfl, rfl, rfl, Or.inr ⟨w0, hw1, hw2, ew, Or.inr (Or.inr ⟨c3, Int64.not_lt.mpr ((lg_cmp_ge _ _).mp c4), by
                    have : k = n := by
                      have := (nI_ltI (a := n) (b := k + 1) (by omega) (by omega)).mp (by rw [← ei, ← hn]; exact c5)
                      omega
                    rw [ev, this], rfl⟩)⟩⟩) (Nat.le_refl _) (Nat.le_refl _) d_MenuScreensModel_accept_93
              · skip
                have hkn : k + 1 ≤ n := by
                  rcases Nat.lt_or_ge n (k + 1) with q | q
                  · exact absurd (by rw [hn, ei]; exact nI_lt q (by omega)) c5
                  · exact q
                refine lv_aload_n hx hb d_MenuScreensModel_accept_69 rfl (lv_at hl 0 rfl) ?_
                refine mm_get C X M 53 f_12_114_13 (.ref (ar 53)) rfl d_MenuScreensModel_accept_70 ?_
                refine lv_iload_n hx hb d_MenuScreensModel_accept_73 rfl (lv_at hl 3 rfl) ?_
                refine mm_zald C X M 53 201 rfl (upd (A 53) w0 1) rfl (by decide) (k + 1) ei (by omega) d_MenuScreensModel_accept_74 ?_
                refine lv_if_eq (tgt := 82) hx hb d_MenuScreensModel_accept_75 (by decide) (fun c6 => ?_) (fun c6 => ?_)
                · skip
                  refine lv_iload_n hx hb d_MenuScreensModel_accept_82 rfl (lv_at hl 2 rfl) ?_
                  refine lv_iconst (v := 1) hx hb d_MenuScreensModel_accept_83 (by decide) ?_
                  refine lv_iadd hx hb d_MenuScreensModel_accept_84 ?_
                  refine lv_istore_n (lv' := [(2, .int (v + 1)), (0, .ref a), (1, .int p1), (3, .int i)]) hx hb d_MenuScreensModel_accept_85 rfl hl (by decide) rfl (fun ls hl => ?_)
                  have ev1 : (v + 1) = nI (cnt (fun j => decide (upd (A 53) w0 1 (j + 1) = 0)) (k + 1)) := by
                    rw [cnt_t (by show decide (upd (A 53) w0 1 (k + 1) = 0) = true; exact decide_eq_true c6), ev]; exact nI_1 _
                  refine lv_iinc (v := (i + 1)) (lv' := [(3, .int (i + 1)), (2, .int (v + 1)), (0, .ref a), (1, .int p1)]) hx hb d_MenuScreensModel_accept_86 hl (k := 3) rfl rfl (by decide) rfl (fun ls hl => ?_)
                  refine lv_goto (tgt := 61) hx hb d_MenuScreensModel_accept_89 (by decide) ?_
                  exact ih_lp (k + 1) (v + 1) (i + 1) ls  (by rw [ei]; exact nI_1 _) (by omega) ev1 (by omega) (lv_sub hl [2, 3, 1, 0] rfl)
                · skip
                  refine lv_iload_n hx hb d_MenuScreensModel_accept_78 rfl (lv_at hl 2 rfl) ?_
                  refine lv_goto (tgt := 85) hx hb d_MenuScreensModel_accept_79 (by decide) ?_
                  refine lv_istore_n (lv' := [(2, .int v), (0, .ref a), (1, .int p1), (3, .int i)]) hx hb d_MenuScreensModel_accept_85 rfl hl (by decide) rfl (fun ls hl => ?_)
                  have ev1 : v = nI (cnt (fun j => decide (upd (A 53) w0 1 (j + 1) = 0)) (k + 1)) := by
                    rw [cnt_f (by show decide (upd (A 53) w0 1 (k + 1) = 0) = false; exact decide_eq_false c6)]; exact ev
                  refine lv_iinc (v := (i + 1)) (lv' := [(3, .int (i + 1)), (2, .int v), (0, .ref a), (1, .int p1)]) hx hb d_MenuScreensModel_accept_86 hl (k := 3) rfl rfl (by decide) rfl (fun ls hl => ?_)
                  refine lv_goto (tgt := 61) hx hb d_MenuScreensModel_accept_89 (by decide) ?_
                  exact ih_lp (k + 1) v (i + 1) ls  (by rw [ei]; exact nI_1 _) (by omega) ev1 (by omega) (lv_sub hl [2, 3, 1, 0] rfl)
          exact lp (n - 0 + 1) 0 0 1 ls  rfl (by omega) rfl (Nat.lt_succ_self _) (lv_sub hl [2, 3, 1, 0] rfl)
        · skip
          refine lv_bipush (v := (-3)) hx hb d_MenuScreensModel_accept_47 (by decide) ?_
          exact mq_iret hQ C X hr rfl hlk (⟨(upd x 0 0), y, A, B, M, rfl, rfl, rfl, Or.inr ⟨w0, hw1, hw2, ew, Or.inr (Or.inl ⟨c3, Int64.not_le.mp (fun z => c4 ((lg_cmp_ge _ _).mpr z)), rfl, rfl⟩)⟩⟩) (Nat.le_refl _) (Nat.le_refl _) d_MenuScreensModel_accept_49
      · skip
        refine lv_iconst (v := (-1)) hx hb d_MenuScreensModel_accept_27 (by decide) ?_
        exact mq_iret hQ C X hr rfl hlk (⟨(upd x 0 0), y, A, B, M, rfl, rfl, rfl, Or.inr ⟨w0, hw1, hw2, ew, Or.inl ⟨c3, rfl, rfl⟩⟩⟩) (Nat.le_refl _) (Nat.le_refl _) d_MenuScreensModel_accept_28
theorem d_MenuScreensModel_lamp_0 : decode prog_13_method_42_code 0 = .ok (.aload_n 0, 1) := by decide +kernel
theorem d_MenuScreensModel_lamp_1 : decode prog_13_method_42_code 1 = .ok (.iconst 0, 1) := by decide +kernel
theorem d_MenuScreensModel_lamp_2 : decode prog_13_method_42_code 2 = .ok (.putfield 127, 3) := by decide +kernel
theorem d_MenuScreensModel_lamp_5 : decode prog_13_method_42_code 5 = .ok (.iload_n 1, 1) := by decide +kernel
theorem d_MenuScreensModel_lamp_6 : decode prog_13_method_42_code 6 = .ok (.ifCond .lt 9, 3) := by decide +kernel
theorem d_MenuScreensModel_lamp_9 : decode prog_13_method_42_code 9 = .ok (.iload_n 1, 1) := by decide +kernel
theorem d_MenuScreensModel_lamp_10 : decode prog_13_method_42_code 10 = .ok (.bipush 15, 2) := by decide +kernel
theorem d_MenuScreensModel_lamp_12 : decode prog_13_method_42_code 12 = .ok (.if_icmp .le 5, 3) := by decide +kernel
theorem d_MenuScreensModel_lamp_15 : decode prog_13_method_42_code 15 = .ok (.iconst (-1), 1) := by decide +kernel
theorem d_MenuScreensModel_lamp_16 : decode prog_13_method_42_code 16 = .ok (.ireturn, 1) := by decide +kernel
theorem d_MenuScreensModel_lamp_17 : decode prog_13_method_42_code 17 = .ok (.aload_n 0, 1) := by decide +kernel
theorem d_MenuScreensModel_lamp_18 : decode prog_13_method_42_code 18 = .ok (.getfield 117, 3) := by decide +kernel
theorem d_MenuScreensModel_lamp_21 : decode prog_13_method_42_code 21 = .ok (.iload_n 1, 1) := by decide +kernel
theorem d_MenuScreensModel_lamp_22 : decode prog_13_method_42_code 22 = .ok (.iload_n 2, 1) := by decide +kernel
theorem d_MenuScreensModel_lamp_23 : decode prog_13_method_42_code 23 = .ok (.ifCond .ne 7, 3) := by decide +kernel
theorem d_MenuScreensModel_lamp_26 : decode prog_13_method_42_code 26 = .ok (.iconst 1, 1) := by decide +kernel
theorem d_MenuScreensModel_lamp_27 : decode prog_13_method_42_code 27 = .ok (.goto 4, 3) := by decide +kernel
theorem d_MenuScreensModel_lamp_30 : decode prog_13_method_42_code 30 = .ok (.iconst 0, 1) := by decide +kernel
theorem d_MenuScreensModel_lamp_31 : decode prog_13_method_42_code 31 = .ok (.bastore, 1) := by decide +kernel
theorem d_MenuScreensModel_lamp_32 : decode prog_13_method_42_code 32 = .ok (.iconst 0, 1) := by decide +kernel
theorem d_MenuScreensModel_lamp_33 : decode prog_13_method_42_code 33 = .ok (.istore_n 3, 1) := by decide +kernel
theorem d_MenuScreensModel_lamp_34 : decode prog_13_method_42_code 34 = .ok (.iconst 0, 1) := by decide +kernel
theorem d_MenuScreensModel_lamp_35 : decode prog_13_method_42_code 35 = .ok (.istore 4, 2) := by decide +kernel
theorem d_MenuScreensModel_lamp_37 : decode prog_13_method_42_code 37 = .ok (.iload 4, 2) := by decide +kernel
theorem d_MenuScreensModel_lamp_39 : decode prog_13_method_42_code 39 = .ok (.bipush 16, 2) := by decide +kernel
theorem d_MenuScreensModel_lamp_41 : decode prog_13_method_42_code 41 = .ok (.if_icmp .ge 27, 3) := by decide +kernel
theorem d_MenuScreensModel_lamp_44 : decode prog_13_method_42_code 44 = .ok (.aload_n 0, 1) := by decide +kernel
theorem d_MenuScreensModel_lamp_45 : decode prog_13_method_42_code 45 = .ok (.getfield 117, 3) := by decide +kernel
theorem d_MenuScreensModel_lamp_48 : decode prog_13_method_42_code 48 = .ok (.iload 4, 2) := by decide +kernel
theorem d_MenuScreensModel_lamp_50 : decode prog_13_method_42_code 50 = .ok (.baload, 1) := by decide +kernel
theorem d_MenuScreensModel_lamp_51 : decode prog_13_method_42_code 51 = .ok (.ifCond .eq 9, 3) := by decide +kernel
theorem d_MenuScreensModel_lamp_54 : decode prog_13_method_42_code 54 = .ok (.iload_n 3, 1) := by decide +kernel
theorem d_MenuScreensModel_lamp_55 : decode prog_13_method_42_code 55 = .ok (.iconst 1, 1) := by decide +kernel
theorem d_MenuScreensModel_lamp_56 : decode prog_13_method_42_code 56 = .ok (.iadd, 1) := by decide +kernel
theorem d_MenuScreensModel_lamp_57 : decode prog_13_method_42_code 57 = .ok (.goto 4, 3) := by decide +kernel
theorem d_MenuScreensModel_lamp_60 : decode prog_13_method_42_code 60 = .ok (.iload_n 3, 1) := by decide +kernel
theorem d_MenuScreensModel_lamp_61 : decode prog_13_method_42_code 61 = .ok (.istore_n 3, 1) := by decide +kernel
theorem d_MenuScreensModel_lamp_62 : decode prog_13_method_42_code 62 = .ok (.iinc 4 1, 3) := by decide +kernel
theorem d_MenuScreensModel_lamp_65 : decode prog_13_method_42_code 65 = .ok (.goto (-28), 3) := by decide +kernel
theorem d_MenuScreensModel_lamp_68 : decode prog_13_method_42_code 68 = .ok (.iload_n 3, 1) := by decide +kernel
theorem d_MenuScreensModel_lamp_69 : decode prog_13_method_42_code 69 = .ok (.ireturn, 1) := by decide +kernel
set_option maxRecDepth 100000 in
set_option maxHeartbeats 4000000 in
theorem cm_MenuScreensModel_lamp {l : Launch} {S0 : State} {b : Nat} {D : va_G} {dT : Nat → ClassId} (hE : vEnv S0 b D dT) {h0 : vH} {a : Nat} {ar : Nat → Nat} {x : Nat → Int32} {y : Nat → Int64} {A : Nat → Nat → Int32} {B : Nat → Nat → Int64} (M : MV S0 dT h0 a ar x y A B) (p1 : Int32) (p2 : Int32) : vMi l S0 D vcl GT y_MenuScreensModel_lamp prog_13_method_42_code 5 (some .int) 0 0 0 0 [.ref a, .int p1, .int p2] h0 (fun r h' => ∃ x' y' A' B', MR S0 dT h0 h' a ar x' y' A' B' ∧ (x' = upd x 0 0 ∧ y' = y ∧ B' = B ∧ ((p1 < 0 ∨ 15 < p1) ∧ r = -1 ∧ A' = A ∨ ∃ j, j < 16 ∧ p1 = nI j ∧ r = nI (cnt (fun k => decide (¬ upd (A 58) j (if p2 = 0 then 1 else 0) k = 0)) 16) ∧ A' = va_up A 58 (upd (A 58) j (if p2 = 0 then 1 else 0))))) := by
  unfold vMi
  refine vM_ofQ hE.1 (by decide) (Nat.le_of_ble_eq_true rfl) (fun p e s m args below meth c ls Q hQ C hr hlk hnm X hl => ?_)
  have C : vC p s m _ c _ _ "MenuScreensModel" GT D vcl (vty dT) := C
  have hx := C.1.1
  have hb := C.1.2.1
  replace M := MR.of M
  obtain ⟨H, eH⟩ : ∃ z, z = s.heap := ⟨_, rfl⟩
  obtain ⟨locs, elocs⟩ : ∃ z : List Loc, z = [] := ⟨_, rfl⟩
  rw [← eH, ← elocs] at X
  rw [← eH, ← elocs]
  clear eH elocs
  have hl : lv_has ls 5 [(0, .ref a), (1, .int p1), (2, .int p2)] := hl
  refine lv_aload_n hx hb d_MenuScreensModel_lamp_0 rfl (lv_at hl 0 rfl) ?_
  refine lv_iconst (v := 0) hx hb d_MenuScreensModel_lamp_1 (by decide) ?_
  refine mm_put C X M 0 p_12_127_13 (upd x 0 0) y rfl rfl rfl (by decide) d_MenuScreensModel_lamp_2 (fun h H locs X M => ?_)
  refine lv_iload_n hx hb d_MenuScreensModel_lamp_5 rfl (lv_at hl 1 rfl) ?_
  refine lv_if_lt (tgt := 15) hx hb d_MenuScreensModel_lamp_6 (by decide) (fun c1 => ?_) (fun c1 => ?_)
  · skip
    refine lv_iconst (v := (-1)) hx hb d_MenuScreensModel_lamp_15 (by decide) ?_
    exact mq_iret hQ C X hr rfl hlk (⟨(upd x 0 0), y, A, B, M, rfl, rfl, rfl, Or.inl ⟨by clear X C hl hr; simp_all, rfl, rfl⟩⟩) (Nat.le_refl _) (Nat.le_refl _) d_MenuScreensModel_lamp_16
  · skip
    refine lv_iload_n hx hb d_MenuScreensModel_lamp_9 rfl (lv_at hl 1 rfl) ?_
    refine lv_bipush (v := 15) hx hb d_MenuScreensModel_lamp_10 (by decide) ?_
    refine lv_icmp_le (tgt := 17) hx hb d_MenuScreensModel_lamp_12 (by decide) (fun c2 => ?_) (fun c2 => ?_)
    · skip
      obtain ⟨j, hj, ej⟩ := ix_lt (n := 16) c1 (Int32.lt_of_le_of_lt c2 (by decide)) (by decide)
      have j31 : ∀ (z : Int32) (ls : Array Slot), (z = (if p2 = 0 then 1 else 0)) → lv_has ls 5 [(0, .ref a), (1, .int p1), (2, .int p2)] → W p l e (vRm 0 0 0 0) s m args below meth c H locs 0 0 Q (F0 m 31 ls [.int z, .int p1, .ref (ar 58)]) := by
        intro z ls ez hl
        have hz : vp_nar .boolean z = z := by rw [ez]; split <;> rfl
        refine mm_zast C X M 58 16 rfl (A 58) rfl (fun _ => rfl) (by decide) hz j ej (by omega) d_MenuScreensModel_lamp_31 (fun h H locs X M => ?_)
        refine lv_iconst (v := 0) hx hb d_MenuScreensModel_lamp_32 (by decide) ?_
        refine lv_istore_n (lv' := [(3, .int 0), (0, .ref a), (1, .int p1), (2, .int p2)]) hx hb d_MenuScreensModel_lamp_33 rfl hl (by decide) rfl (fun ls hl => ?_)
        refine lv_iconst (v := 0) hx hb d_MenuScreensModel_lamp_34 (by decide) ?_
        refine lv_istore (lv' := [(4, .int 0), (3, .int 0), (0, .ref a), (1, .int p1), (2, .int p2)]) hx hb d_MenuScreensModel_lamp_35 hl (by decide) rfl (fun ls hl => ?_)
        have lp : ∀ (n_lp : Nat) (k : Nat) (v : Int32) (i : Int32) (ls : Array Slot), (i = nI k) → (k ≤ 16) → (v = nI (cnt (fun k => decide (¬ upd (A 58) j (if p2 = 0 then 1 else 0) k = 0)) k)) → (16 - k) < n_lp → lv_has ls 5 [(0, .ref a), (1, .int p1), (2, .int p2), (3, .int v), (4, .int i)] → W p l e (vRm 0 0 0 0) s m args below meth c H locs 0 0 Q (F0 m 37 ls []) := by
          intro n_lp
          induction n_lp with
          | zero => intros; exact absurd (by assumption) (Nat.not_lt_zero _)
          | succ n_lp ih_lp =>
            intro k v i ls ei hk ev hmu_lp hl
            refine lv_iload hx hb d_MenuScreensModel_lamp_37 (lv_at hl 4 rfl) ?_
            refine lv_bipush (v := 16) hx hb d_MenuScreensModel_lamp_39 (by decide) ?_
            refine lv_icmp_ge (tgt := 68) hx hb d_MenuScreensModel_lamp_41 (by decide) (fun c3 => ?_) (fun c3 => ?_)
            · skip
              refine lv_iload_n hx hb d_MenuScreensModel_lamp_68 rfl (lv_at hl 3 rfl) ?_
              exact mq_iret hQ C X hr rfl hlk (⟨(upd x 0 0), y, (va_up A 58 (upd (A 58) j z)), B, M, rfl, rfl, rfl, Or.inr ⟨j, hj, ej, by
                  have : k = 16 := by
                    have := (nI_leI (a := 16) (b := k) (by omega) (by omega)).mp (by rw [← ei]; exact c3)
                    omega
                  rw [ev, this], by rw [ez]⟩⟩) (Nat.le_refl _) (Nat.le_refl _) d_MenuScreensModel_lamp_69
            · skip
              have hlt : k < 16 := by
                rcases Nat.lt_or_ge k 16 with q | q
                · exact q
                · exact absurd (by rw [ei]; exact nI_le (a := 16) q (by omega)) c3
              refine lv_aload_n hx hb d_MenuScreensModel_lamp_44 rfl (lv_at hl 0 rfl) ?_
              refine mm_get C X M 58 f_12_117_13 (.ref (ar 58)) rfl d_MenuScreensModel_lamp_45 ?_
              refine lv_iload hx hb d_MenuScreensModel_lamp_48 (lv_at hl 4 rfl) ?_
              refine mm_zald C X M 58 16 rfl (upd (A 58) j z) rfl (by decide) k ei (by omega) d_MenuScreensModel_lamp_50 ?_
              refine lv_if_eq (tgt := 60) hx hb d_MenuScreensModel_lamp_51 (by decide) (fun c4 => ?_) (fun c4 => ?_)
              · skip
                refine lv_iload_n hx hb d_MenuScreensModel_lamp_60 rfl (lv_at hl 3 rfl) ?_
                refine lv_istore_n (lv' := [(3, .int v), (0, .ref a), (1, .int p1), (2, .int p2), (4, .int i)]) hx hb d_MenuScreensModel_lamp_61 rfl hl (by decide) rfl (fun ls hl => ?_)
                have ev1 : v = nI (cnt (fun k => decide (¬ upd (A 58) j (if p2 = 0 then 1 else 0) k = 0)) (k + 1)) := by
                  rw [cnt_f (by show decide (¬ upd (A 58) j _ k = 0) = false; rw [← ez]; exact decide_eq_false (fun q => q c4))]; exact ev
                refine lv_iinc (v := (i + 1)) (lv' := [(4, .int (i + 1)), (3, .int v), (0, .ref a), (1, .int p1), (2, .int p2)]) hx hb d_MenuScreensModel_lamp_62 hl (k := 4) rfl rfl (by decide) rfl (fun ls hl => ?_)
                refine lv_goto (tgt := 37) hx hb d_MenuScreensModel_lamp_65 (by decide) ?_
                exact ih_lp (k + 1) v (i + 1) ls  (by rw [ei]; exact nI_1 _) (by omega) ev1 (by omega) (lv_sub hl [2, 3, 4, 1, 0] rfl)
              · skip
                refine lv_iload_n hx hb d_MenuScreensModel_lamp_54 rfl (lv_at hl 3 rfl) ?_
                refine lv_iconst (v := 1) hx hb d_MenuScreensModel_lamp_55 (by decide) ?_
                refine lv_iadd hx hb d_MenuScreensModel_lamp_56 ?_
                refine lv_goto (tgt := 61) hx hb d_MenuScreensModel_lamp_57 (by decide) ?_
                refine lv_istore_n (lv' := [(3, .int (v + 1)), (0, .ref a), (1, .int p1), (2, .int p2), (4, .int i)]) hx hb d_MenuScreensModel_lamp_61 rfl hl (by decide) rfl (fun ls hl => ?_)
                have ev1 : (v + 1) = nI (cnt (fun k => decide (¬ upd (A 58) j (if p2 = 0 then 1 else 0) k = 0)) (k + 1)) := by
                  rw [cnt_t (by show decide (¬ upd (A 58) j _ k = 0) = true; rw [← ez]; exact decide_eq_true c4), ev]; exact nI_1 _
                refine lv_iinc (v := (i + 1)) (lv' := [(4, .int (i + 1)), (3, .int (v + 1)), (0, .ref a), (1, .int p1), (2, .int p2)]) hx hb d_MenuScreensModel_lamp_62 hl (k := 4) rfl rfl (by decide) rfl (fun ls hl => ?_)
                refine lv_goto (tgt := 37) hx hb d_MenuScreensModel_lamp_65 (by decide) ?_
                exact ih_lp (k + 1) (v + 1) (i + 1) ls  (by rw [ei]; exact nI_1 _) (by omega) ev1 (by omega) (lv_sub hl [2, 3, 4, 1, 0] rfl)
        exact lp (16 - 0 + 1) 0 0 0 ls  rfl (by omega) rfl (Nat.lt_succ_self _) (lv_sub hl [2, 3, 4, 1, 0] rfl)
      refine lv_aload_n hx hb d_MenuScreensModel_lamp_17 rfl (lv_at hl 0 rfl) ?_
      refine mm_get C X M 58 f_12_117_13 (.ref (ar 58)) rfl d_MenuScreensModel_lamp_18 ?_
      refine lv_iload_n hx hb d_MenuScreensModel_lamp_21 rfl (lv_at hl 1 rfl) ?_
      refine lv_iload_n hx hb d_MenuScreensModel_lamp_22 rfl (lv_at hl 2 rfl) ?_
      refine lv_if_ne (tgt := 30) hx hb d_MenuScreensModel_lamp_23 (by decide) (fun c5 => ?_) (fun c5 => ?_)
      · skip
        refine lv_iconst (v := 0) hx hb d_MenuScreensModel_lamp_30 (by decide) ?_
        exact j31 0 ls (by rw [if_neg c5]) (lv_sub hl [0, 1, 2] rfl)
      · skip
        refine lv_iconst (v := 1) hx hb d_MenuScreensModel_lamp_26 (by decide) ?_
        refine lv_goto (tgt := 31) hx hb d_MenuScreensModel_lamp_27 (by decide) ?_
        exact j31 1 ls (by rw [if_pos c5]) (lv_sub hl [0, 1, 2] rfl)
    · skip
      refine lv_iconst (v := (-1)) hx hb d_MenuScreensModel_lamp_15 (by decide) ?_
      exact mq_iret hQ C X hr rfl hlk (⟨(upd x 0 0), y, A, B, M, rfl, rfl, rfl, Or.inl ⟨by clear X C hl hr; simp_all, rfl, rfl⟩⟩) (Nat.le_refl _) (Nat.le_refl _) d_MenuScreensModel_lamp_16
end
section
theorem d_MenuScreensModel_sum_0 : decode prog_13_method_41_code 0 = .ok (.aload_n 0, 1) := by decide +kernel
theorem d_MenuScreensModel_sum_1 : decode prog_13_method_41_code 1 = .ok (.iconst 0, 1) := by decide +kernel
theorem d_MenuScreensModel_sum_2 : decode prog_13_method_41_code 2 = .ok (.putfield 127, 3) := by decide +kernel
theorem d_MenuScreensModel_sum_5 : decode prog_13_method_41_code 5 = .ok (.iload_n 1, 1) := by decide +kernel
theorem d_MenuScreensModel_sum_6 : decode prog_13_method_41_code 6 = .ok (.ifCond .lt 8, 3) := by decide +kernel
theorem d_MenuScreensModel_sum_9 : decode prog_13_method_41_code 9 = .ok (.iload_n 1, 1) := by decide +kernel
theorem d_MenuScreensModel_sum_10 : decode prog_13_method_41_code 10 = .ok (.iconst 2, 1) := by decide +kernel
theorem d_MenuScreensModel_sum_11 : decode prog_13_method_41_code 11 = .ok (.if_icmp .le 7, 3) := by decide +kernel
theorem d_MenuScreensModel_sum_14 : decode prog_13_method_41_code 14 = .ok (.ldc2_w 296, 3) := by decide +kernel
theorem d_MenuScreensModel_sum_17 : decode prog_13_method_41_code 17 = .ok (.lreturn, 1) := by decide +kernel
theorem d_MenuScreensModel_sum_18 : decode prog_13_method_41_code 18 = .ok (.iload_n 1, 1) := by decide +kernel
theorem d_MenuScreensModel_sum_19 : decode prog_13_method_41_code 19 = .ok (.iconst 2, 1) := by decide +kernel
theorem d_MenuScreensModel_sum_20 : decode prog_13_method_41_code 20 = .ok (.if_icmp .ge 19, 3) := by decide +kernel
theorem d_MenuScreensModel_sum_23 : decode prog_13_method_41_code 23 = .ok (.iload_n 1, 1) := by decide +kernel
theorem d_MenuScreensModel_sum_24 : decode prog_13_method_41_code 24 = .ok (.ifCond .ne 10, 3) := by decide +kernel
theorem d_MenuScreensModel_sum_27 : decode prog_13_method_41_code 27 = .ok (.aload_n 0, 1) := by decide +kernel
theorem d_MenuScreensModel_sum_28 : decode prog_13_method_41_code 28 = .ok (.getfield 287, 3) := by decide +kernel
theorem d_MenuScreensModel_sum_31 : decode prog_13_method_41_code 31 = .ok (.goto 7, 3) := by decide +kernel
theorem d_MenuScreensModel_sum_34 : decode prog_13_method_41_code 34 = .ok (.aload_n 0, 1) := by decide +kernel
theorem d_MenuScreensModel_sum_35 : decode prog_13_method_41_code 35 = .ok (.getfield 290, 3) := by decide +kernel
theorem d_MenuScreensModel_sum_38 : decode prog_13_method_41_code 38 = .ok (.lreturn, 1) := by decide +kernel
theorem d_MenuScreensModel_sum_39 : decode prog_13_method_41_code 39 = .ok (.aload_n 0, 1) := by decide +kernel
theorem d_MenuScreensModel_sum_40 : decode prog_13_method_41_code 40 = .ok (.getfield 287, 3) := by decide +kernel
theorem d_MenuScreensModel_sum_43 : decode prog_13_method_41_code 43 = .ok (.lconst 0, 1) := by decide +kernel
theorem d_MenuScreensModel_sum_44 : decode prog_13_method_41_code 44 = .ok (.lcmp, 1) := by decide +kernel
theorem d_MenuScreensModel_sum_45 : decode prog_13_method_41_code 45 = .ok (.ifCond .ne 5, 3) := by decide +kernel
theorem d_MenuScreensModel_sum_48 : decode prog_13_method_41_code 48 = .ok (.lconst 0, 1) := by decide +kernel
theorem d_MenuScreensModel_sum_49 : decode prog_13_method_41_code 49 = .ok (.lreturn, 1) := by decide +kernel
theorem d_MenuScreensModel_sum_50 : decode prog_13_method_41_code 50 = .ok (.aload_n 0, 1) := by decide +kernel
theorem d_MenuScreensModel_sum_51 : decode prog_13_method_41_code 51 = .ok (.getfield 290, 3) := by decide +kernel
theorem d_MenuScreensModel_sum_54 : decode prog_13_method_41_code 54 = .ok (.ldc2_w 220, 3) := by decide +kernel
theorem d_MenuScreensModel_sum_57 : decode prog_13_method_41_code 57 = .ok (.lmul, 1) := by decide +kernel
theorem d_MenuScreensModel_sum_58 : decode prog_13_method_41_code 58 = .ok (.lstore_n 3, 1) := by decide +kernel
theorem d_MenuScreensModel_sum_59 : decode prog_13_method_41_code 59 = .ok (.aload_n 0, 1) := by decide +kernel
theorem d_MenuScreensModel_sum_60 : decode prog_13_method_41_code 60 = .ok (.getfield 287, 3) := by decide +kernel
theorem d_MenuScreensModel_sum_63 : decode prog_13_method_41_code 63 = .ok (.lstore 5, 2) := by decide +kernel
theorem d_MenuScreensModel_sum_65 : decode prog_13_method_41_code 65 = .ok (.lload 5, 2) := by decide +kernel
theorem d_MenuScreensModel_sum_67 : decode prog_13_method_41_code 67 = .ok (.lconst 0, 1) := by decide +kernel
theorem d_MenuScreensModel_sum_68 : decode prog_13_method_41_code 68 = .ok (.lcmp, 1) := by decide +kernel
theorem d_MenuScreensModel_sum_69 : decode prog_13_method_41_code 69 = .ok (.ifCond .le 19, 3) := by decide +kernel
theorem d_MenuScreensModel_sum_72 : decode prog_13_method_41_code 72 = .ok (.lload_n 3, 1) := by decide +kernel
theorem d_MenuScreensModel_sum_73 : decode prog_13_method_41_code 73 = .ok (.lload 5, 2) := by decide +kernel
theorem d_MenuScreensModel_sum_75 : decode prog_13_method_41_code 75 = .ok (.lrem, 1) := by decide +kernel
theorem d_MenuScreensModel_sum_76 : decode prog_13_method_41_code 76 = .ok (.lstore 7, 2) := by decide +kernel
theorem d_MenuScreensModel_sum_78 : decode prog_13_method_41_code 78 = .ok (.lload 5, 2) := by decide +kernel
theorem d_MenuScreensModel_sum_80 : decode prog_13_method_41_code 80 = .ok (.lstore_n 3, 1) := by decide +kernel
theorem d_MenuScreensModel_sum_81 : decode prog_13_method_41_code 81 = .ok (.lload 7, 2) := by decide +kernel
theorem d_MenuScreensModel_sum_83 : decode prog_13_method_41_code 83 = .ok (.lstore 5, 2) := by decide +kernel
theorem d_MenuScreensModel_sum_85 : decode prog_13_method_41_code 85 = .ok (.goto (-20), 3) := by decide +kernel
theorem d_MenuScreensModel_sum_88 : decode prog_13_method_41_code 88 = .ok (.iload_n 2, 1) := by decide +kernel
theorem d_MenuScreensModel_sum_89 : decode prog_13_method_41_code 89 = .ok (.ifCond .ne 16, 3) := by decide +kernel
theorem d_MenuScreensModel_sum_92 : decode prog_13_method_41_code 92 = .ok (.aload_n 0, 1) := by decide +kernel
theorem d_MenuScreensModel_sum_93 : decode prog_13_method_41_code 93 = .ok (.getfield 290, 3) := by decide +kernel
theorem d_MenuScreensModel_sum_96 : decode prog_13_method_41_code 96 = .ok (.ldc2_w 220, 3) := by decide +kernel
theorem d_MenuScreensModel_sum_99 : decode prog_13_method_41_code 99 = .ok (.lmul, 1) := by decide +kernel
theorem d_MenuScreensModel_sum_100 : decode prog_13_method_41_code 100 = .ok (.lload_n 3, 1) := by decide +kernel
theorem d_MenuScreensModel_sum_101 : decode prog_13_method_41_code 101 = .ok (.ldiv, 1) := by decide +kernel
theorem d_MenuScreensModel_sum_102 : decode prog_13_method_41_code 102 = .ok (.goto 9, 3) := by decide +kernel
theorem d_MenuScreensModel_sum_105 : decode prog_13_method_41_code 105 = .ok (.aload_n 0, 1) := by decide +kernel
theorem d_MenuScreensModel_sum_106 : decode prog_13_method_41_code 106 = .ok (.getfield 287, 3) := by decide +kernel
theorem d_MenuScreensModel_sum_109 : decode prog_13_method_41_code 109 = .ok (.lload_n 3, 1) := by decide +kernel
theorem d_MenuScreensModel_sum_110 : decode prog_13_method_41_code 110 = .ok (.ldiv, 1) := by decide +kernel
theorem d_MenuScreensModel_sum_111 : decode prog_13_method_41_code 111 = .ok (.lreturn, 1) := by decide +kernel
set_option maxRecDepth 100000 in
set_option maxHeartbeats 4000000 in
theorem cm_MenuScreensModel_sum {l : Launch} {S0 : State} {b : Nat} {D : va_G} {dT : Nat → ClassId} (hE : vEnv S0 b D dT) {h0 : vH} {a : Nat} {ar : Nat → Nat} {x : Nat → Int32} {y : Nat → Int64} {A : Nat → Nat → Int32} {B : Nat → Nat → Int64} (M : MV S0 dT h0 a ar x y A B) (p1 : Int32) (p2 : Int32) {me ce : Nat} (hm : y 56 = lN me) (hc : y 57 = lN ce) (hm2 : me ≤ 1000000000000) (hc2 : ce ≤ 1000000000000) : vMl l S0 D vcl GT y_MenuScreensModel_sum prog_13_method_41_code 9 (some .long) 0 0 0 0 [.ref a, .int p1, .int p2] h0 (fun r h' => ∃ x', MR S0 dT h0 h' a ar x' y A B ∧ x' = upd x 0 0 ∧ ((p1 < 0 ∨ 2 < p1) ∧ r = -2 ∨ p1 = 0 ∧ r = y 56 ∨ p1 = 1 ∧ r = y 57 ∨ p1 = 2 ∧ (me = 0 ∧ r = 0 ∨ 0 < me ∧ (p2 = 0 ∧ r = lN (ce * 1000 / Nat.gcd (ce * 1000) me) ∨ ¬ p2 = 0 ∧ r = lN (me / Nat.gcd (ce * 1000) me))))) := by
  unfold vMl
  refine vM_ofQ hE.1 (by decide) (Nat.le_of_ble_eq_true rfl) (fun p e s m args below meth c ls Q hQ C hr hlk hnm X hl => ?_)
  have C : vC p s m _ c _ _ "MenuScreensModel" GT D vcl (vty dT) := C
  have hx := C.1.1
  have hb := C.1.2.1
  replace M := MR.of M
  obtain ⟨H, eH⟩ : ∃ z, z = s.heap := ⟨_, rfl⟩
  obtain ⟨locs, elocs⟩ : ∃ z : List Loc, z = [] := ⟨_, rfl⟩
  rw [← eH, ← elocs] at X
  rw [← eH, ← elocs]
  clear eH elocs
  have hl : lv_has ls 9 [(0, .ref a), (1, .int p1), (2, .int p2)] := hl
  refine lv_aload_n hx hb d_MenuScreensModel_sum_0 rfl (lv_at hl 0 rfl) ?_
  refine lv_iconst (v := 0) hx hb d_MenuScreensModel_sum_1 (by decide) ?_
  refine mm_put C X M 0 p_12_127_13 (upd x 0 0) y rfl rfl rfl (by decide) d_MenuScreensModel_sum_2 (fun h H locs X M => ?_)
  refine lv_iload_n hx hb d_MenuScreensModel_sum_5 rfl (lv_at hl 1 rfl) ?_
  refine lv_if_lt (tgt := 14) hx hb d_MenuScreensModel_sum_6 (by decide) (fun c1 => ?_) (fun c1 => ?_)
  · skip
    refine lv_ldc2 (v := (-2)) hx hb C.1.2.2.2.1 (C.1.2.2.2.2 _ (gt_6 132 (by decide +kernel) rfl)) d_MenuScreensModel_sum_14 ?_
    exact mq_lret hQ C X hr hlk (⟨(upd x 0 0), M, rfl, Or.inl ⟨by clear X C hl hr; simp_all, rfl⟩⟩) (Nat.le_refl _) (Nat.le_refl _) d_MenuScreensModel_sum_17
  · skip
    refine lv_iload_n hx hb d_MenuScreensModel_sum_9 rfl (lv_at hl 1 rfl) ?_
    refine lv_iconst (v := 2) hx hb d_MenuScreensModel_sum_10 (by decide) ?_
    refine lv_icmp_le (tgt := 18) hx hb d_MenuScreensModel_sum_11 (by decide) (fun c2 => ?_) (fun c2 => ?_)
    · skip
      refine lv_iload_n hx hb d_MenuScreensModel_sum_18 rfl (lv_at hl 1 rfl) ?_
      refine lv_iconst (v := 2) hx hb d_MenuScreensModel_sum_19 (by decide) ?_
      refine lv_icmp_ge (tgt := 39) hx hb d_MenuScreensModel_sum_20 (by decide) (fun c3 => ?_) (fun c3 => ?_)
      · skip
        refine lv_aload_n hx hb d_MenuScreensModel_sum_39 rfl (lv_at hl 0 rfl) ?_
        refine mm_get C X M 56 f_12_287_13 (.long (y 56)) rfl d_MenuScreensModel_sum_40 ?_
        refine lv_lconst (v := 0) hx hb d_MenuScreensModel_sum_43 (by decide) ?_
        refine W.lcmp hx hb d_MenuScreensModel_sum_44 ?_
        refine lv_if_ne (tgt := 50) hx hb d_MenuScreensModel_sum_45 (by decide) (fun c4 => ?_) (fun c4 => ?_)
        · skip
          have hm0 : 0 < me := by
            rcases Nat.eq_zero_or_pos me with z | z
            · exact absurd ((lg_cmp_eq _ _).mpr (by rw [hm, z]; rfl)) c4
            · exact z
          refine lv_aload_n hx hb d_MenuScreensModel_sum_50 rfl (lv_at hl 0 rfl) ?_
          refine mm_get C X M 57 f_12_290_13 (.long (y 57)) rfl d_MenuScreensModel_sum_51 ?_
          refine lv_ldc2 (v := 1000) hx hb C.1.2.2.2.1 (C.1.2.2.2.2 _ (gt_6 35 (by decide +kernel) rfl)) d_MenuScreensModel_sum_54 ?_
          refine lv_lmul hx hb d_MenuScreensModel_sum_57 ?_
          refine lv_lstore_n (lv' := [(3, .long ((y 57) * 1000)), (0, .ref a), (1, .int p1), (2, .int p2)]) hx hb d_MenuScreensModel_sum_58 rfl hl (by decide) rfl (fun ls hl => ?_)
          refine lv_aload_n hx hb d_MenuScreensModel_sum_59 rfl (lv_at hl 1 rfl) ?_
          refine mm_get C X M 56 f_12_287_13 (.long (y 56)) rfl d_MenuScreensModel_sum_60 ?_
          refine lv_lstore (lv' := [(5, .long (y 56)), (3, .long ((y 57) * 1000)), (0, .ref a), (1, .int p1), (2, .int p2)]) hx hb d_MenuScreensModel_sum_63 hl (by decide) rfl (fun ls hl => ?_)
          have lp : ∀ (n_lp : Nat) (g1 : Nat) (g2 : Nat) (u : Int64) (v : Int64) (ls : Array Slot), (u = lN g1) → (v = lN g2) → (g1 ≤ 1000000000000000) → (g2 ≤ 1000000000000000) → (Nat.gcd g1 g2 = Nat.gcd (ce * 1000) me) → (g2) < n_lp → lv_has ls 9 [(0, .ref a), (1, .int p1), (2, .int p2), (3, .long u), (5, .long v)] → W p l e (vRm 0 0 0 0) s m args below meth c H locs 0 0 Q (F0 m 65 ls []) := by
            intro n_lp
            induction n_lp with
            | zero => intros; exact absurd (by assumption) (Nat.not_lt_zero _)
            | succ n_lp ih_lp =>
              intro g1 g2 u v ls eu ev hp hq hg hmu_lp hl
              refine lv_lload hx hb d_MenuScreensModel_sum_65 (lv_at hl 4 rfl) ?_
              refine lv_lconst (v := 0) hx hb d_MenuScreensModel_sum_67 (by decide) ?_
              refine W.lcmp hx hb d_MenuScreensModel_sum_68 ?_
              refine lv_if_le (tgt := 88) hx hb d_MenuScreensModel_sum_69 (by decide) (fun c5 => ?_) (fun c5 => ?_)
              · skip
                have hq0 : g2 = 0 := by
                  rcases Nat.eq_zero_or_pos g2 with z | z
                  · exact z
                  · have := (lg_cmp_le _ _).mp c5
                    rw [ev, ← lN_0] at this
                    have := (pk_lLE (by omega) (by decide)).mp this
                    omega
                rw [hq0, Nat.gcd_zero_right] at hg
                have hg0 : 0 < g1 := by rw [hg]; exact Nat.gcd_pos_of_pos_right _ hm0
                have hun : ¬ u = 0 := by
                  rw [eu, ← lN_0]
                  intro z
                  have := (pk_lEQ (by omega) (by decide)).mp z
                  omega
                refine lv_iload_n hx hb d_MenuScreensModel_sum_88 rfl (lv_at hl 2 rfl) ?_
                refine lv_if_ne (tgt := 105) hx hb d_MenuScreensModel_sum_89 (by decide) (fun c6 => ?_) (fun c6 => ?_)
                · skip
                  refine lv_aload_n hx hb d_MenuScreensModel_sum_105 rfl (lv_at hl 0 rfl) ?_
                  refine mm_get C X M 56 f_12_287_13 (.long (y 56)) rfl d_MenuScreensModel_sum_106 ?_
                  refine lv_lload_n hx hb d_MenuScreensModel_sum_109 rfl (lv_at hl 3 rfl) ?_
                  refine lv_ldiv hx hb d_MenuScreensModel_sum_110 hun ?_
                  exact mq_lret hQ C X hr hlk (⟨(upd x 0 0), M, rfl, Or.inr (Or.inr (Or.inr ⟨by
                      obtain ⟨j, hj, ej⟩ := ix_lt (n := 3) c1 (Int32.lt_of_le_of_lt c2 (by decide)) (by decide)
                      have := (nI_leI (a := 2) (b := j) (by decide) (by omega)).mp (by rw [← ej]; exact c3)
                      rw [ej, show j = 2 by omega]; rfl, Or.inr ⟨hm0, Or.inr ⟨c6, by
                        rw [eu, ← hg, hm]
                        exact pk_lDiv (by omega) hg0 (by omega)⟩⟩⟩))⟩) (Nat.le_refl _) (Nat.le_refl _) d_MenuScreensModel_sum_111
                · skip
                  refine lv_aload_n hx hb d_MenuScreensModel_sum_92 rfl (lv_at hl 0 rfl) ?_
                  refine mm_get C X M 57 f_12_290_13 (.long (y 57)) rfl d_MenuScreensModel_sum_93 ?_
                  refine lv_ldc2 (v := 1000) hx hb C.1.2.2.2.1 (C.1.2.2.2.2 _ (gt_6 35 (by decide +kernel) rfl)) d_MenuScreensModel_sum_96 ?_
                  refine lv_lmul hx hb d_MenuScreensModel_sum_99 ?_
                  refine lv_lload_n hx hb d_MenuScreensModel_sum_100 rfl (lv_at hl 3 rfl) ?_
                  refine lv_ldiv hx hb d_MenuScreensModel_sum_101 hun ?_
                  refine lv_goto (tgt := 111) hx hb d_MenuScreensModel_sum_102 (by decide) ?_
                  exact mq_lret hQ C X hr hlk (⟨(upd x 0 0), M, rfl, Or.inr (Or.inr (Or.inr ⟨by
                      obtain ⟨j, hj, ej⟩ := ix_lt (n := 3) c1 (Int32.lt_of_le_of_lt c2 (by decide)) (by decide)
                      have := (nI_leI (a := 2) (b := j) (by decide) (by omega)).mp (by rw [← ej]; exact c3)
                      rw [ej, show j = 2 by omega]; rfl, Or.inr ⟨hm0, Or.inl ⟨c6, by
                        rw [eu, ← hg, show y 57 * 1000 = lN (ce * 1000) by rw [hc]; exact lN_mul ce 1000]
                        exact pk_lDiv (by omega) hg0 (by omega)⟩⟩⟩))⟩) (Nat.le_refl _) (Nat.le_refl _) d_MenuScreensModel_sum_111
              · skip
                have hq0 : 0 < g2 := by
                  rcases Nat.eq_zero_or_pos g2 with z | z
                  · exact absurd ((lg_cmp_le _ _).mpr (by rw [ev, z]; decide)) c5
                  · exact z
                refine lv_lload_n hx hb d_MenuScreensModel_sum_72 rfl (lv_at hl 3 rfl) ?_
                refine lv_lload hx hb d_MenuScreensModel_sum_73 (lv_at hl 4 rfl) ?_
                refine lv_lrem hx hb d_MenuScreensModel_sum_75 (by rw [ev, ← lN_0]; intro z; have := (pk_lEQ (by omega) (by decide)).mp z; omega) ?_
                refine lv_lstore (lv' := [(7, .long (u - (u / v) * v)), (0, .ref a), (1, .int p1), (2, .int p2), (3, .long u), (5, .long v)]) hx hb d_MenuScreensModel_sum_76 hl (by decide) rfl (fun ls hl => ?_)
                refine lv_lload hx hb d_MenuScreensModel_sum_78 (lv_at hl 5 rfl) ?_
                refine lv_lstore_n (lv' := [(3, .long v), (7, .long (u - (u / v) * v)), (0, .ref a), (1, .int p1), (2, .int p2), (5, .long v)]) hx hb d_MenuScreensModel_sum_80 rfl hl (by decide) rfl (fun ls hl => ?_)
                refine lv_lload hx hb d_MenuScreensModel_sum_81 (lv_at hl 1 rfl) ?_
                refine lv_lstore (lv' := [(5, .long (u - (u / v) * v)), (3, .long v), (7, .long (u - (u / v) * v)), (0, .ref a), (1, .int p1), (2, .int p2)]) hx hb d_MenuScreensModel_sum_83 hl (by decide) rfl (fun ls hl => ?_)
                refine lv_goto (tgt := 65) hx hb d_MenuScreensModel_sum_85 (by decide) ?_
                exact ih_lp g2 (g1 % g2) v (u - (u / v) * v) ls  ev (by rw [eu, ev]; exact pk_lRem (by omega) hq0 (by omega)) hq (by have := Nat.mod_lt g1 hq0; omega) ((gcd_st g1 g2).trans hg) (by have := Nat.mod_lt g1 hq0; omega) (lv_sub hl [3, 4, 5, 1, 0] rfl)
          exact lp (me + 1) (ce * 1000) me (y 57 * 1000) (y 56) ls  (by rw [hc]; exact lN_mul ce 1000) hm (by omega) (by omega) rfl (Nat.lt_succ_self _) (lv_sub hl [2, 3, 4, 1, 0] rfl)
        · skip
          refine lv_lconst (v := 0) hx hb d_MenuScreensModel_sum_48 (by decide) ?_
          exact mq_lret hQ C X hr hlk (⟨(upd x 0 0), M, rfl, Or.inr (Or.inr (Or.inr ⟨by
              obtain ⟨j, hj, ej⟩ := ix_lt (n := 3) c1 (Int32.lt_of_le_of_lt c2 (by decide)) (by decide)
              have := (nI_leI (a := 2) (b := j) (by decide) (by omega)).mp (by rw [← ej]; exact c3)
              rw [ej, show j = 2 by omega]; rfl, Or.inl ⟨by
              have := (lg_cmp_eq _ _).mp c4
              rw [hm, ← lN_0] at this
              exact (pk_lEQ (by omega) (by decide)).mp this, rfl⟩⟩))⟩) (Nat.le_refl _) (Nat.le_refl _) d_MenuScreensModel_sum_49
      · skip
        refine lv_iload_n hx hb d_MenuScreensModel_sum_23 rfl (lv_at hl 1 rfl) ?_
        refine lv_if_ne (tgt := 34) hx hb d_MenuScreensModel_sum_24 (by decide) (fun c7 => ?_) (fun c7 => ?_)
        · skip
          refine lv_aload_n hx hb d_MenuScreensModel_sum_34 rfl (lv_at hl 0 rfl) ?_
          refine mm_get C X M 57 f_12_290_13 (.long (y 57)) rfl d_MenuScreensModel_sum_35 ?_
          exact mq_lret hQ C X hr hlk (⟨(upd x 0 0), M, rfl, Or.inr (Or.inr (Or.inl ⟨by
              obtain ⟨j, hj, ej⟩ := ix_lt (n := 2) c1 (Int32.not_le.mp c3) (by decide)
              have : j ≠ 0 := fun z => c7 (by rw [ej, z]; rfl)
              rw [ej, show j = 1 by omega]; rfl, rfl⟩))⟩) (Nat.le_refl _) (Nat.le_refl _) d_MenuScreensModel_sum_38
        · skip
          refine lv_aload_n hx hb d_MenuScreensModel_sum_27 rfl (lv_at hl 0 rfl) ?_
          refine mm_get C X M 56 f_12_287_13 (.long (y 56)) rfl d_MenuScreensModel_sum_28 ?_
          refine lv_goto (tgt := 38) hx hb d_MenuScreensModel_sum_31 (by decide) ?_
          exact mq_lret hQ C X hr hlk (⟨(upd x 0 0), M, rfl, Or.inr (Or.inl ⟨c7, rfl⟩)⟩) (Nat.le_refl _) (Nat.le_refl _) d_MenuScreensModel_sum_38
    · skip
      refine lv_ldc2 (v := (-2)) hx hb C.1.2.2.2.1 (C.1.2.2.2.2 _ (gt_6 132 (by decide +kernel) rfl)) d_MenuScreensModel_sum_14 ?_
      exact mq_lret hQ C X hr hlk (⟨(upd x 0 0), M, rfl, Or.inl ⟨by clear X C hl hr; simp_all, rfl⟩⟩) (Nat.le_refl _) (Nat.le_refl _) d_MenuScreensModel_sum_17
theorem d_MenuScreensModel_sign_0 : decode prog_13_method_3_code 0 = .ok (.aload_n 0, 1) := by decide +kernel
theorem d_MenuScreensModel_sign_1 : decode prog_13_method_3_code 1 = .ok (.iconst 0, 1) := by decide +kernel
theorem d_MenuScreensModel_sign_2 : decode prog_13_method_3_code 2 = .ok (.putfield 127, 3) := by decide +kernel
theorem d_MenuScreensModel_sign_5 : decode prog_13_method_3_code 5 = .ok (.iconst 0, 1) := by decide +kernel
theorem d_MenuScreensModel_sign_6 : decode prog_13_method_3_code 6 = .ok (.istore_n 2, 1) := by decide +kernel
theorem d_MenuScreensModel_sign_7 : decode prog_13_method_3_code 7 = .ok (.iload_n 2, 1) := by decide +kernel
theorem d_MenuScreensModel_sign_8 : decode prog_13_method_3_code 8 = .ok (.iconst 4, 1) := by decide +kernel
theorem d_MenuScreensModel_sign_9 : decode prog_13_method_3_code 9 = .ok (.if_icmp .ge 66, 3) := by decide +kernel
theorem d_MenuScreensModel_sign_12 : decode prog_13_method_3_code 12 = .ok (.iload_n 1, 1) := by decide +kernel
theorem d_MenuScreensModel_sign_13 : decode prog_13_method_3_code 13 = .ok (.bipush 24, 2) := by decide +kernel
theorem d_MenuScreensModel_sign_15 : decode prog_13_method_3_code 15 = .ok (.bipush 8, 2) := by decide +kernel
theorem d_MenuScreensModel_sign_17 : decode prog_13_method_3_code 17 = .ok (.iload_n 2, 1) := by decide +kernel
theorem d_MenuScreensModel_sign_18 : decode prog_13_method_3_code 18 = .ok (.imul, 1) := by decide +kernel
theorem d_MenuScreensModel_sign_19 : decode prog_13_method_3_code 19 = .ok (.isub, 1) := by decide +kernel
theorem d_MenuScreensModel_sign_20 : decode prog_13_method_3_code 20 = .ok (.ishr, 1) := by decide +kernel
theorem d_MenuScreensModel_sign_21 : decode prog_13_method_3_code 21 = .ok (.sipush 255, 3) := by decide +kernel
theorem d_MenuScreensModel_sign_24 : decode prog_13_method_3_code 24 = .ok (.iand, 1) := by decide +kernel
theorem d_MenuScreensModel_sign_25 : decode prog_13_method_3_code 25 = .ok (.istore_n 3, 1) := by decide +kernel
theorem d_MenuScreensModel_sign_26 : decode prog_13_method_3_code 26 = .ok (.iload_n 3, 1) := by decide +kernel
theorem d_MenuScreensModel_sign_27 : decode prog_13_method_3_code 27 = .ok (.ifCond .eq 42, 3) := by decide +kernel
theorem d_MenuScreensModel_sign_30 : decode prog_13_method_3_code 30 = .ok (.iload_n 3, 1) := by decide +kernel
theorem d_MenuScreensModel_sign_31 : decode prog_13_method_3_code 31 = .ok (.bipush 127, 2) := by decide +kernel
theorem d_MenuScreensModel_sign_33 : decode prog_13_method_3_code 33 = .ok (.if_icmp .gt 36, 3) := by decide +kernel
theorem d_MenuScreensModel_sign_36 : decode prog_13_method_3_code 36 = .ok (.aload_n 0, 1) := by decide +kernel
theorem d_MenuScreensModel_sign_37 : decode prog_13_method_3_code 37 = .ok (.getfield 130, 3) := by decide +kernel
theorem d_MenuScreensModel_sign_40 : decode prog_13_method_3_code 40 = .ok (.sipush 4000, 3) := by decide +kernel
theorem d_MenuScreensModel_sign_43 : decode prog_13_method_3_code 43 = .ok (.if_icmp .ne 6, 3) := by decide +kernel
theorem d_MenuScreensModel_sign_46 : decode prog_13_method_3_code 46 = .ok (.goto 23, 3) := by decide +kernel
theorem d_MenuScreensModel_sign_49 : decode prog_13_method_3_code 49 = .ok (.aload_n 0, 1) := by decide +kernel
theorem d_MenuScreensModel_sign_50 : decode prog_13_method_3_code 50 = .ok (.getfield 7, 3) := by decide +kernel
theorem d_MenuScreensModel_sign_53 : decode prog_13_method_3_code 53 = .ok (.aload_n 0, 1) := by decide +kernel
theorem d_MenuScreensModel_sign_54 : decode prog_13_method_3_code 54 = .ok (.getfield 130, 3) := by decide +kernel
theorem d_MenuScreensModel_sign_57 : decode prog_13_method_3_code 57 = .ok (.iload_n 3, 1) := by decide +kernel
theorem d_MenuScreensModel_sign_58 : decode prog_13_method_3_code 58 = .ok (.iastore, 1) := by decide +kernel
theorem d_MenuScreensModel_sign_59 : decode prog_13_method_3_code 59 = .ok (.aload_n 0, 1) := by decide +kernel
theorem d_MenuScreensModel_sign_60 : decode prog_13_method_3_code 60 = .ok (.dup, 1) := by decide +kernel
theorem d_MenuScreensModel_sign_61 : decode prog_13_method_3_code 61 = .ok (.getfield 130, 3) := by decide +kernel
theorem d_MenuScreensModel_sign_64 : decode prog_13_method_3_code 64 = .ok (.iconst 1, 1) := by decide +kernel
theorem d_MenuScreensModel_sign_65 : decode prog_13_method_3_code 65 = .ok (.iadd, 1) := by decide +kernel
theorem d_MenuScreensModel_sign_66 : decode prog_13_method_3_code 66 = .ok (.putfield 130, 3) := by decide +kernel
theorem d_MenuScreensModel_sign_69 : decode prog_13_method_3_code 69 = .ok (.iinc 2 1, 3) := by decide +kernel
theorem d_MenuScreensModel_sign_72 : decode prog_13_method_3_code 72 = .ok (.goto (-65), 3) := by decide +kernel
theorem d_MenuScreensModel_sign_75 : decode prog_13_method_3_code 75 = .ok (.return_, 1) := by decide +kernel
set_option maxRecDepth 100000 in
set_option maxHeartbeats 4000000 in
theorem cm_MenuScreensModel_sign {l : Launch} {S0 : State} {b : Nat} {D : va_G} {dT : Nat → ClassId} (hE : vEnv S0 b D dT) {h0 : vH} {a : Nat} {ar : Nat → Nat} {x : Nat → Int32} {y : Nat → Int64} {A : Nat → Nat → Int32} {B : Nat → Nat → Int64} (M : MV S0 dT h0 a ar x y A B) (p1 : Int32) {n0 : Nat} (hn0 : x 3 = nI n0) (hn1 : n0 ≤ 4000) : vMv l S0 D vcl GT y_MenuScreensModel_sign prog_13_method_3_code 4 none 0 0 0 0 [.ref a, .int p1] h0 (fun h' => ∃ x' A', MR S0 dT h0 h' a ar x' y A' B ∧ x' = upd (upd x 0 0) 3 (nI (sgN p1 n0 (A 4) 4).1) ∧ A' = va_up A 4 (sgN p1 n0 (A 4) 4).2) := by
  unfold vMv
  refine vM_ofQ hE.1 (by decide) (Nat.le_of_ble_eq_true rfl) (fun p e s m args below meth c ls Q hQ C hr hlk hnm X hl => ?_)
  have C : vC p s m _ c _ _ "MenuScreensModel" GT D vcl (vty dT) := C
  have hx := C.1.1
  have hb := C.1.2.1
  replace M := MR.of M
  obtain ⟨H, eH⟩ : ∃ z, z = s.heap := ⟨_, rfl⟩
  obtain ⟨locs, elocs⟩ : ∃ z : List Loc, z = [] := ⟨_, rfl⟩
  rw [← eH, ← elocs] at X
  rw [← eH, ← elocs]
  clear eH elocs
  have hl : lv_has ls 4 [(0, .ref a), (1, .int p1)] := hl
  refine lv_aload_n hx hb d_MenuScreensModel_sign_0 rfl (lv_at hl 0 rfl) ?_
  refine lv_iconst (v := 0) hx hb d_MenuScreensModel_sign_1 (by decide) ?_
  refine mm_put C X M 0 p_12_127_13 (upd x 0 0) y rfl rfl rfl (by decide) d_MenuScreensModel_sign_2 (fun h H locs X M => ?_)
  refine lv_iconst (v := 0) hx hb d_MenuScreensModel_sign_5 (by decide) ?_
  refine lv_istore_n (lv' := [(2, .int 0), (0, .ref a), (1, .int p1)]) hx hb d_MenuScreensModel_sign_6 rfl hl (by decide) rfl (fun ls hl => ?_)
  rw [← va_up_id A 4] at M
  have lp : ∀ (n_lp : Nat) (k : Nat) (n : Nat) (t : Nat → Int32) (i3 : Int32) (i : Int32) (ls : Array Slot) (h : vH) (H : Heap) (locs : List Loc), (i = nI k) → (k ≤ 4) → (i3 = nI n) → (n ≤ 4000) → (sgN p1 n0 (A 4) k = (n, t)) → (4 - k) < n_lp → vO S0 D vcl h s H locs → MR S0 dT h0 h a ar (upd (upd x 0 0) 3 i3) y (va_up A 4 t) B → lv_has ls 4 [(0, .ref a), (1, .int p1), (2, .int i)] → W p l e (vRm 0 0 0 0) s m args below meth c H locs 0 0 Q (F0 m 7 ls []) := by
    intro n_lp
    induction n_lp with
    | zero => intros; exact absurd (by assumption) (Nat.not_lt_zero _)
    | succ n_lp ih_lp =>
      intro k n t i3 i ls h H locs ei hk e3 hn hs hmu_lp X M hl
      refine lv_iload_n hx hb d_MenuScreensModel_sign_7 rfl (lv_at hl 2 rfl) ?_
      refine lv_iconst (v := 4) hx hb d_MenuScreensModel_sign_8 (by decide) ?_
      refine lv_icmp_ge (tgt := 75) hx hb d_MenuScreensModel_sign_9 (by decide) (fun c1 => ?_) (fun c1 => ?_)
      · skip
        exact mq_vret hQ C X hr hlk (⟨_, _, M, by
            have : k = 4 := by
              have := (nI_leI (a := 4) (b := k) (by decide) (by omega)).mp (by rw [← ei]; exact c1)
              omega
            rw [this] at hs
            rw [hs, e3], by
            have : k = 4 := by
              have := (nI_leI (a := 4) (b := k) (by decide) (by omega)).mp (by rw [← ei]; exact c1)
              omega
            rw [this] at hs
            rw [hs]⟩) (Nat.le_refl _) (Nat.le_refl _) d_MenuScreensModel_sign_75
      · skip
        have hlt : k < 4 := by
          rcases Nat.lt_or_ge k 4 with q | q
          · exact q
          · exact absurd (by rw [ei]; exact nI_le (a := 4) q (by omega)) c1
        refine lv_iload_n hx hb d_MenuScreensModel_sign_12 rfl (lv_at hl 1 rfl) ?_
        refine lv_bipush (v := 24) hx hb d_MenuScreensModel_sign_13 (by decide) ?_
        refine lv_bipush (v := 8) hx hb d_MenuScreensModel_sign_15 (by decide) ?_
        refine lv_iload_n hx hb d_MenuScreensModel_sign_17 rfl (lv_at hl 2 rfl) ?_
        refine lv_imul hx hb d_MenuScreensModel_sign_18 ?_
        refine lv_isub hx hb d_MenuScreensModel_sign_19 ?_
        refine lv_ishr hx hb d_MenuScreensModel_sign_20 ?_
        refine lv_sipush (v := 255) hx hb d_MenuScreensModel_sign_21 (by decide) ?_
        refine lv_iand hx hb d_MenuScreensModel_sign_24 ?_
        refine lv_istore_n (lv' := [(3, .int ((p1 >>> ((24 - (8 * i)) &&& 31)) &&& 255)), (0, .ref a), (1, .int p1), (2, .int i)]) hx hb d_MenuScreensModel_sign_25 rfl hl (by decide) rfl (fun ls hl => ?_)
        refine lv_iload_n hx hb d_MenuScreensModel_sign_26 rfl (lv_at hl 0 rfl) ?_
        refine lv_if_eq (tgt := 69) hx hb d_MenuScreensModel_sign_27 (by decide) (fun c2 => ?_) (fun c2 => ?_)
        · skip
          refine lv_iinc (v := (i + 1)) (lv' := [(2, .int (i + 1)), (3, .int ((p1 >>> ((24 - (8 * i)) &&& 31)) &&& 255)), (0, .ref a), (1, .int p1)]) hx hb d_MenuScreensModel_sign_69 hl (k := 3) rfl rfl (by decide) rfl (fun ls hl => ?_)
          refine lv_goto (tgt := 7) hx hb d_MenuScreensModel_sign_72 (by decide) ?_
          exact ih_lp (k + 1) n t i3 (i + 1) ls _ _ _ (by rw [ei]; exact nI_1 _) (by omega) e3 (by omega) (by
              have eb : byt p1 k = ((p1 >>> ((24 - (8 * i)) &&& 31)) &&& 255) := by unfold byt; rw [← ei]
              rw [sgN, if_pos (Or.inl (eb.trans c2))]; exact hs) (by omega) X M (lv_sub hl [2, 3, 0] rfl)
        · skip
          refine lv_iload_n hx hb d_MenuScreensModel_sign_30 rfl (lv_at hl 0 rfl) ?_
          refine lv_bipush (v := 127) hx hb d_MenuScreensModel_sign_31 (by decide) ?_
          refine lv_icmp_gt (tgt := 69) hx hb d_MenuScreensModel_sign_33 (by decide) (fun c3 => ?_) (fun c3 => ?_)
          · skip
            refine lv_iinc (v := (i + 1)) (lv' := [(2, .int (i + 1)), (3, .int ((p1 >>> ((24 - (8 * i)) &&& 31)) &&& 255)), (0, .ref a), (1, .int p1)]) hx hb d_MenuScreensModel_sign_69 hl (k := 3) rfl rfl (by decide) rfl (fun ls hl => ?_)
            refine lv_goto (tgt := 7) hx hb d_MenuScreensModel_sign_72 (by decide) ?_
            exact ih_lp (k + 1) n t i3 (i + 1) ls _ _ _ (by rw [ei]; exact nI_1 _) (by omega) e3 (by omega) (by
                have eb : byt p1 k = ((p1 >>> ((24 - (8 * i)) &&& 31)) &&& 255) := by unfold byt; rw [← ei]
                rw [sgN, if_pos (Or.inr (Or.inl (by rw [eb]; exact c3)))]; exact hs) (by omega) X M (lv_sub hl [2, 3, 0] rfl)
          · skip
            refine lv_aload_n hx hb d_MenuScreensModel_sign_36 rfl (lv_at hl 1 rfl) ?_
            refine mm_get C X M 3 f_12_130_13 (.int i3) rfl d_MenuScreensModel_sign_37 ?_
            refine lv_sipush (v := 4000) hx hb d_MenuScreensModel_sign_40 (by decide) ?_
            refine lv_icmp_ne (tgt := 49) hx hb d_MenuScreensModel_sign_43 (by decide) (fun c4 => ?_) (fun c4 => ?_)
            · skip
              have hn4 : n ≠ 4000 := fun z => c4 (by rw [e3, z]; rfl)
              refine lv_aload_n hx hb d_MenuScreensModel_sign_49 rfl (lv_at hl 1 rfl) ?_
              refine mm_get C X M 4 f_12_7_13 (.ref (ar 4)) rfl d_MenuScreensModel_sign_50 ?_
              refine lv_aload_n hx hb d_MenuScreensModel_sign_53 rfl (lv_at hl 1 rfl) ?_
              refine mm_get C X M 3 f_12_130_13 (.int i3) rfl d_MenuScreensModel_sign_54 ?_
              refine lv_iload_n hx hb d_MenuScreensModel_sign_57 rfl (lv_at hl 0 rfl) ?_
              refine mm_iast C X M 4 4000 rfl t rfl (fun _ => rfl) (by decide) n e3 (by omega) d_MenuScreensModel_sign_58 (fun h H locs X M => ?_)
              rw [bx_uu] at M
              refine lv_aload_n hx hb d_MenuScreensModel_sign_59 rfl (lv_at hl 1 rfl) ?_
              refine lv_dup hx hb d_MenuScreensModel_sign_60 rfl ?_
              refine mm_get C X M 3 f_12_130_13 (.int i3) rfl d_MenuScreensModel_sign_61 ?_
              refine lv_iconst (v := 1) hx hb d_MenuScreensModel_sign_64 (by decide) ?_
              refine lv_iadd hx hb d_MenuScreensModel_sign_65 ?_
              refine mm_put C X M 3 p_12_130_13 (upd (upd x 0 0) 3 (i3 + 1)) y rfl rfl rfl (by decide) d_MenuScreensModel_sign_66 (fun h H locs X M => ?_)
              refine lv_iinc (v := (i + 1)) (lv' := [(2, .int (i + 1)), (3, .int ((p1 >>> ((24 - (8 * i)) &&& 31)) &&& 255)), (0, .ref a), (1, .int p1)]) hx hb d_MenuScreensModel_sign_69 hl (k := 3) rfl rfl (by decide) rfl (fun ls hl => ?_)
              refine lv_goto (tgt := 7) hx hb d_MenuScreensModel_sign_72 (by decide) ?_
              exact ih_lp (k + 1) (n + 1) (upd t n ((p1 >>> ((24 - (8 * i)) &&& 31)) &&& 255)) (i3 + 1) (i + 1) ls _ _ _ (by rw [ei]; exact nI_1 _) (by omega) (by rw [e3]; exact nI_1 _) (by omega) (by
                  have eb : byt p1 k = ((p1 >>> ((24 - (8 * i)) &&& 31)) &&& 255) := by unfold byt; rw [← ei]
                  rw [sgN, if_neg (by
                    rw [hs, eb]
                    rintro (z | z | z)
                    · exact c2 z
                    · exact c3 z
                    · exact c4 (by rw [e3]; exact congrArg nI z)), hs, eb]) (by omega) X M (lv_sub hl [2, 3, 0] rfl)
            · skip
              refine lv_goto (tgt := 69) hx hb d_MenuScreensModel_sign_46 (by decide) ?_
              refine lv_iinc (v := (i + 1)) (lv' := [(2, .int (i + 1)), (3, .int ((p1 >>> ((24 - (8 * i)) &&& 31)) &&& 255)), (0, .ref a), (1, .int p1)]) hx hb d_MenuScreensModel_sign_69 hl (k := 3) rfl rfl (by decide) rfl (fun ls hl => ?_)
              refine lv_goto (tgt := 7) hx hb d_MenuScreensModel_sign_72 (by decide) ?_
              exact ih_lp (k + 1) n t i3 (i + 1) ls _ _ _ (by rw [ei]; exact nI_1 _) (by omega) e3 (by omega) (by
                  have eb : byt p1 k = ((p1 >>> ((24 - (8 * i)) &&& 31)) &&& 255) := by unfold byt; rw [← ei]
                  rw [sgN, if_pos (Or.inr (Or.inr (by rw [hs]; exact nI_eqI (by omega) (by decide) (by rw [← e3]; exact c4))))]; exact hs) (by omega) X M (lv_sub hl [2, 3, 0] rfl)
  exact lp (4 - 0 + 1) 0 n0 (A 4) (x 3) 0 ls _ _ _ rfl (by omega) hn0 hn1 rfl (Nat.lt_succ_self _) X M (lv_sub hl [1, 2, 0] rfl)
theorem d_MenuScreensModel_holds_0 : decode prog_13_method_28_code 0 = .ok (.iconst 1, 1) := by decide +kernel
theorem d_MenuScreensModel_holds_1 : decode prog_13_method_28_code 1 = .ok (.istore_n 2, 1) := by decide +kernel
theorem d_MenuScreensModel_holds_2 : decode prog_13_method_28_code 2 = .ok (.iconst 0, 1) := by decide +kernel
theorem d_MenuScreensModel_holds_3 : decode prog_13_method_28_code 3 = .ok (.istore_n 3, 1) := by decide +kernel
theorem d_MenuScreensModel_holds_4 : decode prog_13_method_28_code 4 = .ok (.iload_n 3, 1) := by decide +kernel
theorem d_MenuScreensModel_holds_5 : decode prog_13_method_28_code 5 = .ok (.aload_n 0, 1) := by decide +kernel
theorem d_MenuScreensModel_holds_6 : decode prog_13_method_28_code 6 = .ok (.getfield 227, 3) := by decide +kernel
theorem d_MenuScreensModel_holds_9 : decode prog_13_method_28_code 9 = .ok (.if_icmp .ge 132, 3) := by decide +kernel
theorem d_MenuScreensModel_holds_12 : decode prog_13_method_28_code 12 = .ok (.aload_n 0, 1) := by decide +kernel
theorem d_MenuScreensModel_holds_13 : decode prog_13_method_28_code 13 = .ok (.getfield 33, 3) := by decide +kernel
theorem d_MenuScreensModel_holds_16 : decode prog_13_method_28_code 16 = .ok (.aload_n 0, 1) := by decide +kernel
theorem d_MenuScreensModel_holds_17 : decode prog_13_method_28_code 17 = .ok (.getfield 96, 3) := by decide +kernel
theorem d_MenuScreensModel_holds_20 : decode prog_13_method_28_code 20 = .ok (.iload_n 3, 1) := by decide +kernel
theorem d_MenuScreensModel_holds_21 : decode prog_13_method_28_code 21 = .ok (.iaload, 1) := by decide +kernel
theorem d_MenuScreensModel_holds_22 : decode prog_13_method_28_code 22 = .ok (.laload, 1) := by decide +kernel
theorem d_MenuScreensModel_holds_23 : decode prog_13_method_28_code 23 = .ok (.lstore 4, 2) := by decide +kernel
theorem d_MenuScreensModel_holds_25 : decode prog_13_method_28_code 25 = .ok (.aload_n 0, 1) := by decide +kernel
theorem d_MenuScreensModel_holds_26 : decode prog_13_method_28_code 26 = .ok (.getfield 36, 3) := by decide +kernel
theorem d_MenuScreensModel_holds_29 : decode prog_13_method_28_code 29 = .ok (.aload_n 0, 1) := by decide +kernel
theorem d_MenuScreensModel_holds_30 : decode prog_13_method_28_code 30 = .ok (.getfield 96, 3) := by decide +kernel
theorem d_MenuScreensModel_holds_33 : decode prog_13_method_28_code 33 = .ok (.iload_n 3, 1) := by decide +kernel
theorem d_MenuScreensModel_holds_34 : decode prog_13_method_28_code 34 = .ok (.iaload, 1) := by decide +kernel
theorem d_MenuScreensModel_holds_35 : decode prog_13_method_28_code 35 = .ok (.baload, 1) := by decide +kernel
theorem d_MenuScreensModel_holds_36 : decode prog_13_method_28_code 36 = .ok (.ifCond .eq 71, 3) := by decide +kernel
theorem d_MenuScreensModel_holds_39 : decode prog_13_method_28_code 39 = .ok (.aload_n 0, 1) := by decide +kernel
theorem d_MenuScreensModel_holds_40 : decode prog_13_method_28_code 40 = .ok (.getfield 99, 3) := by decide +kernel
theorem d_MenuScreensModel_holds_43 : decode prog_13_method_28_code 43 = .ok (.iload_n 3, 1) := by decide +kernel
theorem d_MenuScreensModel_holds_44 : decode prog_13_method_28_code 44 = .ok (.iaload, 1) := by decide +kernel
theorem d_MenuScreensModel_holds_45 : decode prog_13_method_28_code 45 = .ok (.bipush 61, 2) := by decide +kernel
theorem d_MenuScreensModel_holds_47 : decode prog_13_method_28_code 47 = .ok (.if_icmp .ne 18, 3) := by decide +kernel
theorem d_MenuScreensModel_holds_50 : decode prog_13_method_28_code 50 = .ok (.lload 4, 2) := by decide +kernel
theorem d_MenuScreensModel_holds_52 : decode prog_13_method_28_code 52 = .ok (.aload_n 0, 1) := by decide +kernel
theorem d_MenuScreensModel_holds_53 : decode prog_13_method_28_code 53 = .ok (.getfield 102, 3) := by decide +kernel
theorem d_MenuScreensModel_holds_56 : decode prog_13_method_28_code 56 = .ok (.iload_n 3, 1) := by decide +kernel
theorem d_MenuScreensModel_holds_57 : decode prog_13_method_28_code 57 = .ok (.laload, 1) := by decide +kernel
theorem d_MenuScreensModel_holds_58 : decode prog_13_method_28_code 58 = .ok (.lcmp, 1) := by decide +kernel
theorem d_MenuScreensModel_holds_59 : decode prog_13_method_28_code 59 = .ok (.ifCond .ne 48, 3) := by decide +kernel
theorem d_MenuScreensModel_holds_62 : decode prog_13_method_28_code 62 = .ok (.goto 41, 3) := by decide +kernel
theorem d_MenuScreensModel_holds_65 : decode prog_13_method_28_code 65 = .ok (.aload_n 0, 1) := by decide +kernel
theorem d_MenuScreensModel_holds_66 : decode prog_13_method_28_code 66 = .ok (.getfield 99, 3) := by decide +kernel
theorem d_MenuScreensModel_holds_69 : decode prog_13_method_28_code 69 = .ok (.iload_n 3, 1) := by decide +kernel
theorem d_MenuScreensModel_holds_70 : decode prog_13_method_28_code 70 = .ok (.iaload, 1) := by decide +kernel
theorem d_MenuScreensModel_holds_71 : decode prog_13_method_28_code 71 = .ok (.bipush 60, 2) := by decide +kernel
theorem d_MenuScreensModel_holds_73 : decode prog_13_method_28_code 73 = .ok (.if_icmp .ne 18, 3) := by decide +kernel
theorem d_MenuScreensModel_holds_76 : decode prog_13_method_28_code 76 = .ok (.lload 4, 2) := by decide +kernel
theorem d_MenuScreensModel_holds_78 : decode prog_13_method_28_code 78 = .ok (.aload_n 0, 1) := by decide +kernel
theorem d_MenuScreensModel_holds_79 : decode prog_13_method_28_code 79 = .ok (.getfield 102, 3) := by decide +kernel
theorem d_MenuScreensModel_holds_82 : decode prog_13_method_28_code 82 = .ok (.iload_n 3, 1) := by decide +kernel
theorem d_MenuScreensModel_holds_83 : decode prog_13_method_28_code 83 = .ok (.laload, 1) := by decide +kernel
theorem d_MenuScreensModel_holds_84 : decode prog_13_method_28_code 84 = .ok (.lcmp, 1) := by decide +kernel
theorem d_MenuScreensModel_holds_85 : decode prog_13_method_28_code 85 = .ok (.ifCond .ge 22, 3) := by decide +kernel
theorem d_MenuScreensModel_holds_88 : decode prog_13_method_28_code 88 = .ok (.goto 15, 3) := by decide +kernel
theorem d_MenuScreensModel_holds_91 : decode prog_13_method_28_code 91 = .ok (.lload 4, 2) := by decide +kernel
theorem d_MenuScreensModel_holds_93 : decode prog_13_method_28_code 93 = .ok (.aload_n 0, 1) := by decide +kernel
theorem d_MenuScreensModel_holds_94 : decode prog_13_method_28_code 94 = .ok (.getfield 102, 3) := by decide +kernel
theorem d_MenuScreensModel_holds_97 : decode prog_13_method_28_code 97 = .ok (.iload_n 3, 1) := by decide +kernel
theorem d_MenuScreensModel_holds_98 : decode prog_13_method_28_code 98 = .ok (.laload, 1) := by decide +kernel
theorem d_MenuScreensModel_holds_99 : decode prog_13_method_28_code 99 = .ok (.lcmp, 1) := by decide +kernel
theorem d_MenuScreensModel_holds_100 : decode prog_13_method_28_code 100 = .ok (.ifCond .le 7, 3) := by decide +kernel
theorem d_MenuScreensModel_holds_103 : decode prog_13_method_28_code 103 = .ok (.iconst 1, 1) := by decide +kernel
theorem d_MenuScreensModel_holds_104 : decode prog_13_method_28_code 104 = .ok (.goto 4, 3) := by decide +kernel
theorem d_MenuScreensModel_holds_107 : decode prog_13_method_28_code 107 = .ok (.iconst 0, 1) := by decide +kernel
theorem d_MenuScreensModel_holds_108 : decode prog_13_method_28_code 108 = .ok (.istore 6, 2) := by decide +kernel
theorem d_MenuScreensModel_holds_110 : decode prog_13_method_28_code 110 = .ok (.iload_n 2, 1) := by decide +kernel
theorem d_MenuScreensModel_holds_111 : decode prog_13_method_28_code 111 = .ok (.ifCond .eq 22, 3) := by decide +kernel
theorem d_MenuScreensModel_holds_114 : decode prog_13_method_28_code 114 = .ok (.aload_n 0, 1) := by decide +kernel
theorem d_MenuScreensModel_holds_115 : decode prog_13_method_28_code 115 = .ok (.getfield 93, 3) := by decide +kernel
theorem d_MenuScreensModel_holds_118 : decode prog_13_method_28_code 118 = .ok (.iload_n 3, 1) := by decide +kernel
theorem d_MenuScreensModel_holds_119 : decode prog_13_method_28_code 119 = .ok (.iaload, 1) := by decide +kernel
theorem d_MenuScreensModel_holds_120 : decode prog_13_method_28_code 120 = .ok (.iload_n 1, 1) := by decide +kernel
theorem d_MenuScreensModel_holds_121 : decode prog_13_method_28_code 121 = .ok (.if_icmp .ne 8, 3) := by decide +kernel
theorem d_MenuScreensModel_holds_124 : decode prog_13_method_28_code 124 = .ok (.iload 6, 2) := by decide +kernel
theorem d_MenuScreensModel_holds_126 : decode prog_13_method_28_code 126 = .ok (.ifCond .eq 7, 3) := by decide +kernel
theorem d_MenuScreensModel_holds_129 : decode prog_13_method_28_code 129 = .ok (.iconst 1, 1) := by decide +kernel
theorem d_MenuScreensModel_holds_130 : decode prog_13_method_28_code 130 = .ok (.goto 4, 3) := by decide +kernel
theorem d_MenuScreensModel_holds_133 : decode prog_13_method_28_code 133 = .ok (.iconst 0, 1) := by decide +kernel
theorem d_MenuScreensModel_holds_134 : decode prog_13_method_28_code 134 = .ok (.istore_n 2, 1) := by decide +kernel
theorem d_MenuScreensModel_holds_135 : decode prog_13_method_28_code 135 = .ok (.iinc 3 1, 3) := by decide +kernel
theorem d_MenuScreensModel_holds_138 : decode prog_13_method_28_code 138 = .ok (.goto (-134), 3) := by decide +kernel
theorem d_MenuScreensModel_holds_141 : decode prog_13_method_28_code 141 = .ok (.iload_n 2, 1) := by decide +kernel
theorem d_MenuScreensModel_holds_142 : decode prog_13_method_28_code 142 = .ok (.ireturn, 1) := by decide +kernel
set_option maxRecDepth 100000 in
set_option maxHeartbeats 4000000 in
theorem cm_MenuScreensModel_holds {l : Launch} {S0 : State} {b : Nat} {D : va_G} {dT : Nat → ClassId} (hE : vEnv S0 b D dT) {h0 : vH} {a : Nat} {ar : Nat → Nat} {x : Nat → Int32} {y : Nat → Int64} {A : Nat → Nat → Int32} {B : Nat → Nat → Int64} (M : MV S0 dT h0 a ar x y A B) (p1 : Int32) {n : Nat} (hn : x 39 = nI n) (hn2 : n ≤ 512) (hV : ∀ c, c < n → ∃ v, A 42 c = nI v ∧ v ≤ 40) : vMi l S0 D vcl GT y_MenuScreensModel_holds prog_13_method_28_code 7 (some .boolean) 0 0 0 0 [.ref a, .int p1] h0 (fun r h' => h' = h0 ∧ r = bI (allB (fun c => decide (¬ A 41 c = p1) || cnB A B c) n)) := by
  unfold vMi
  refine vM_ofQ hE.1 (by decide) (Nat.le_of_ble_eq_true rfl) (fun p e s m args below meth c ls Q hQ C hr hlk hnm X hl => ?_)
  have C : vC p s m _ c _ _ "MenuScreensModel" GT D vcl (vty dT) := C
  have hx := C.1.1
  have hb := C.1.2.1
  replace M := MR.of M
  obtain ⟨H, eH⟩ : ∃ z, z = s.heap := ⟨_, rfl⟩
  obtain ⟨locs, elocs⟩ : ∃ z : List Loc, z = [] := ⟨_, rfl⟩
  rw [← eH, ← elocs] at X
  rw [← eH, ← elocs]
  clear eH elocs
  have hl : lv_has ls 7 [(0, .ref a), (1, .int p1)] := hl
  refine lv_iconst (v := 1) hx hb d_MenuScreensModel_holds_0 (by decide) ?_
  refine lv_istore_n (lv' := [(2, .int 1), (0, .ref a), (1, .int p1)]) hx hb d_MenuScreensModel_holds_1 rfl hl (by decide) rfl (fun ls hl => ?_)
  refine lv_iconst (v := 0) hx hb d_MenuScreensModel_holds_2 (by decide) ?_
  refine lv_istore_n (lv' := [(3, .int 0), (2, .int 1), (0, .ref a), (1, .int p1)]) hx hb d_MenuScreensModel_holds_3 rfl hl (by decide) rfl (fun ls hl => ?_)
  have lp : ∀ (n_lp : Nat) (k : Nat) (g : Int32) (i : Int32) (ls : Array Slot), (i = nI k) → (k ≤ n) → (g = bI (allB (fun c => decide (¬ A 41 c = p1) || cnB A B c) k)) → (n - k) < n_lp → lv_has ls 7 [(0, .ref a), (1, .int p1), (2, .int g), (3, .int i)] → W p l e (vRm 0 0 0 0) s m args below meth c H locs 0 0 Q (F0 m 4 ls []) := by
    intro n_lp
    induction n_lp with
    | zero => intros; exact absurd (by assumption) (Nat.not_lt_zero _)
    | succ n_lp ih_lp =>
      intro k g i ls ei hk eg hmu_lp hl
      refine lv_iload_n hx hb d_MenuScreensModel_holds_4 rfl (lv_at hl 3 rfl) ?_
      refine lv_aload_n hx hb d_MenuScreensModel_holds_5 rfl (lv_at hl 0 rfl) ?_
      refine mm_get C X M 39 f_12_227_13 (.int (x 39)) rfl d_MenuScreensModel_holds_6 ?_
      refine lv_icmp_ge (tgt := 141) hx hb d_MenuScreensModel_holds_9 (by decide) (fun c1 => ?_) (fun c1 => ?_)
      · skip
        refine lv_iload_n hx hb d_MenuScreensModel_holds_141 rfl (lv_at hl 2 rfl) ?_
        exact mq_iret hQ C X hr (by rw [eg]; exact bI_nar _) hlk (⟨rfl, by
            have : k = n := by
              have := (nI_leI (a := n) (b := k) (by omega) (by omega)).mp (by rw [← ei, ← hn]; exact c1)
              omega
            rw [eg, this]⟩) (Nat.le_refl _) (Nat.le_refl _) d_MenuScreensModel_holds_142
      · skip
        have hlt : k < n := by
          rcases Nat.lt_or_ge k n with q | q
          · exact q
          · exact absurd (by rw [hn, ei]; exact nI_le q (by omega)) c1
        obtain ⟨v0, ev0, hv0⟩ := hV k hlt
        have ec0 : (A 42 k).toNatClampNeg = v0 := by rw [ev0]; exact nI_clamp (by omega)
        have j108 : ∀ (f1 : Int32) (ls : Array Slot), (f1 = bI (cnB A B k)) → lv_has ls 7 [(0, .ref a), (1, .int p1), (2, .int g), (3, .int i)] → W p l e (vRm 0 0 0 0) s m args below meth c H locs 0 0 Q (F0 m 108 ls [.int f1]) := by
          intro f1 ls ef hl
          refine lv_istore (lv' := [(6, .int f1), (0, .ref a), (1, .int p1), (2, .int g), (3, .int i)]) hx hb d_MenuScreensModel_holds_108 hl (by decide) rfl (fun ls hl => ?_)
          refine lv_iload_n hx hb d_MenuScreensModel_holds_110 rfl (lv_at hl 3 rfl) ?_
          refine lv_if_eq (tgt := 133) hx hb d_MenuScreensModel_holds_111 (by decide) (fun c2 => ?_) (fun c2 => ?_)
          · skip
            refine lv_iconst (v := 0) hx hb d_MenuScreensModel_holds_133 (by decide) ?_
            refine lv_istore_n (lv' := [(2, .int 0), (6, .int f1), (0, .ref a), (1, .int p1), (3, .int i)]) hx hb d_MenuScreensModel_holds_134 rfl hl (by decide) rfl (fun ls hl => ?_)
            have eg1 : (0 : Int32) = bI (allB (fun c => decide (¬ A 41 c = p1) || cnB A B c) (k + 1)) := by
              rw [allB, bI_0 (eg.symm.trans c2)]; rfl
            refine lv_iinc (v := (i + 1)) (lv' := [(3, .int (i + 1)), (2, .int 0), (6, .int f1), (0, .ref a), (1, .int p1)]) hx hb d_MenuScreensModel_holds_135 hl (k := 4) rfl rfl (by decide) rfl (fun ls hl => ?_)
            refine lv_goto (tgt := 4) hx hb d_MenuScreensModel_holds_138 (by decide) ?_
            exact ih_lp (k + 1) 0 (i + 1) ls  (by rw [ei]; exact nI_1 _) (by omega) eg1 (by omega) (lv_sub hl [3, 4, 1, 0] rfl)
          · skip
            refine lv_aload_n hx hb d_MenuScreensModel_holds_114 rfl (lv_at hl 1 rfl) ?_
            refine mm_get C X M 41 f_12_93_13 (.ref (ar 41)) rfl d_MenuScreensModel_holds_115 ?_
            refine lv_iload_n hx hb d_MenuScreensModel_holds_118 rfl (lv_at hl 4 rfl) ?_
            refine mm_iald C X M 41 512 rfl (A 41) rfl (by decide) k ei (by omega) d_MenuScreensModel_holds_119 ?_
            refine lv_iload_n hx hb d_MenuScreensModel_holds_120 rfl (lv_at hl 2 rfl) ?_
            refine lv_icmp_ne (tgt := 129) hx hb d_MenuScreensModel_holds_121 (by decide) (fun c3 => ?_) (fun c3 => ?_)
            · skip
              refine lv_iconst (v := 1) hx hb d_MenuScreensModel_holds_129 (by decide) ?_
              refine lv_goto (tgt := 134) hx hb d_MenuScreensModel_holds_130 (by decide) ?_
              refine lv_istore_n (lv' := [(2, .int 1), (6, .int f1), (0, .ref a), (1, .int p1), (3, .int i)]) hx hb d_MenuScreensModel_holds_134 rfl hl (by decide) rfl (fun ls hl => ?_)
              have eg1 : (1 : Int32) = bI (allB (fun c => decide (¬ A 41 c = p1) || cnB A B c) (k + 1)) := by
                rw [allB, bI_n (fun z => c2 (eg.trans z))]
                show _ = bI (true && (decide (¬ A 41 k = p1) || cnB A B k)); rw [decide_eq_true c3]; rfl
              refine lv_iinc (v := (i + 1)) (lv' := [(3, .int (i + 1)), (2, .int 1), (6, .int f1), (0, .ref a), (1, .int p1)]) hx hb d_MenuScreensModel_holds_135 hl (k := 4) rfl rfl (by decide) rfl (fun ls hl => ?_)
              refine lv_goto (tgt := 4) hx hb d_MenuScreensModel_holds_138 (by decide) ?_
              exact ih_lp (k + 1) 1 (i + 1) ls  (by rw [ei]; exact nI_1 _) (by omega) eg1 (by omega) (lv_sub hl [3, 4, 1, 0] rfl)
            · skip
              refine lv_iload hx hb d_MenuScreensModel_holds_124 (lv_at hl 0 rfl) ?_
              refine lv_if_eq (tgt := 133) hx hb d_MenuScreensModel_holds_126 (by decide) (fun c4 => ?_) (fun c4 => ?_)
              · skip
                refine lv_iconst (v := 0) hx hb d_MenuScreensModel_holds_133 (by decide) ?_
                refine lv_istore_n (lv' := [(2, .int 0), (6, .int f1), (0, .ref a), (1, .int p1), (3, .int i)]) hx hb d_MenuScreensModel_holds_134 rfl hl (by decide) rfl (fun ls hl => ?_)
                have eg1 : (0 : Int32) = bI (allB (fun c => decide (¬ A 41 c = p1) || cnB A B c) (k + 1)) := by
                  rw [allB, bI_n (fun z => c2 (eg.trans z))]
                  show _ = bI (true && (decide (¬ A 41 k = p1) || cnB A B k)); rw [decide_eq_false (fun z => z c3)]
                  rw [bI_0 (ef.symm.trans c4)]; rfl
                refine lv_iinc (v := (i + 1)) (lv' := [(3, .int (i + 1)), (2, .int 0), (6, .int f1), (0, .ref a), (1, .int p1)]) hx hb d_MenuScreensModel_holds_135 hl (k := 4) rfl rfl (by decide) rfl (fun ls hl => ?_)
                refine lv_goto (tgt := 4) hx hb d_MenuScreensModel_holds_138 (by decide) ?_
                exact ih_lp (k + 1) 0 (i + 1) ls  (by rw [ei]; exact nI_1 _) (by omega) eg1 (by omega) (lv_sub hl [3, 4, 1, 0] rfl)
              · skip
                refine lv_iconst (v := 1) hx hb d_MenuScreensModel_holds_129 (by decide) ?_
                refine lv_goto (tgt := 134) hx hb d_MenuScreensModel_holds_130 (by decide) ?_
                refine lv_istore_n (lv' := [(2, .int 1), (6, .int f1), (0, .ref a), (1, .int p1), (3, .int i)]) hx hb d_MenuScreensModel_holds_134 rfl hl (by decide) rfl (fun ls hl => ?_)
                have eg1 : (1 : Int32) = bI (allB (fun c => decide (¬ A 41 c = p1) || cnB A B c) (k + 1)) := by
                  rw [allB, bI_n (fun z => c2 (eg.trans z))]
                  show _ = bI (true && (decide (¬ A 41 k = p1) || cnB A B k)); rw [decide_eq_false (fun z => z c3)]
                  rw [bI_n (fun z => c4 (ef.trans z))]; rfl
                refine lv_iinc (v := (i + 1)) (lv' := [(3, .int (i + 1)), (2, .int 1), (6, .int f1), (0, .ref a), (1, .int p1)]) hx hb d_MenuScreensModel_holds_135 hl (k := 4) rfl rfl (by decide) rfl (fun ls hl => ?_)
                refine lv_goto (tgt := 4) hx hb d_MenuScreensModel_holds_138 (by decide) ?_
                exact ih_lp (k + 1) 1 (i + 1) ls  (by rw [ei]; exact nI_1 _) (by omega) eg1 (by omega) (lv_sub hl [3, 4, 1, 0] rfl)
        refine lv_aload_n hx hb d_MenuScreensModel_holds_12 rfl (lv_at hl 0 rfl) ?_
        refine mm_get C X M 18 f_12_33_13 (.ref (ar 18)) rfl d_MenuScreensModel_holds_13 ?_
        refine lv_aload_n hx hb d_MenuScreensModel_holds_16 rfl (lv_at hl 0 rfl) ?_
        refine mm_get C X M 42 f_12_96_13 (.ref (ar 42)) rfl d_MenuScreensModel_holds_17 ?_
        refine lv_iload_n hx hb d_MenuScreensModel_holds_20 rfl (lv_at hl 3 rfl) ?_
        refine mm_iald C X M 42 512 rfl (A 42) rfl (by decide) k ei (by omega) d_MenuScreensModel_holds_21 ?_
        refine mm_lald C X M 18 41 rfl (B 18) rfl (by decide) v0 ev0 (by omega) d_MenuScreensModel_holds_22 ?_
        refine lv_lstore (lv' := [(4, .long ((B 18) v0)), (0, .ref a), (1, .int p1), (2, .int g), (3, .int i)]) hx hb d_MenuScreensModel_holds_23 hl (by decide) rfl (fun ls hl => ?_)
        refine lv_aload_n hx hb d_MenuScreensModel_holds_25 rfl (lv_at hl 1 rfl) ?_
        refine mm_get C X M 19 f_12_36_13 (.ref (ar 19)) rfl d_MenuScreensModel_holds_26 ?_
        refine lv_aload_n hx hb d_MenuScreensModel_holds_29 rfl (lv_at hl 1 rfl) ?_
        refine mm_get C X M 42 f_12_96_13 (.ref (ar 42)) rfl d_MenuScreensModel_holds_30 ?_
        refine lv_iload_n hx hb d_MenuScreensModel_holds_33 rfl (lv_at hl 4 rfl) ?_
        refine mm_iald C X M 42 512 rfl (A 42) rfl (by decide) k ei (by omega) d_MenuScreensModel_holds_34 ?_
        refine mm_zald C X M 19 41 rfl (A 19) rfl (by decide) v0 ev0 (by omega) d_MenuScreensModel_holds_35 ?_
        refine lv_if_eq (tgt := 107) hx hb d_MenuScreensModel_holds_36 (by decide) (fun c5 => ?_) (fun c5 => ?_)
        · skip
          refine lv_iconst (v := 0) hx hb d_MenuScreensModel_holds_107 (by decide) ?_
          have hl0 := hl
          exact j108 0 ls (by
            unfold cnB
            rw [ec0]
            rw [decide_eq_false (fun z => z c5)]; rfl) (lv_sub hl [1, 2, 3, 4] rfl)
        · skip
          refine lv_aload_n hx hb d_MenuScreensModel_holds_39 rfl (lv_at hl 1 rfl) ?_
          refine mm_get C X M 43 f_12_99_13 (.ref (ar 43)) rfl d_MenuScreensModel_holds_40 ?_
          refine lv_iload_n hx hb d_MenuScreensModel_holds_43 rfl (lv_at hl 4 rfl) ?_
          refine mm_iald C X M 43 512 rfl (A 43) rfl (by decide) k ei (by omega) d_MenuScreensModel_holds_44 ?_
          refine lv_bipush (v := 61) hx hb d_MenuScreensModel_holds_45 (by decide) ?_
          refine lv_icmp_ne (tgt := 65) hx hb d_MenuScreensModel_holds_47 (by decide) (fun c6 => ?_) (fun c6 => ?_)
          · skip
            refine lv_aload_n hx hb d_MenuScreensModel_holds_65 rfl (lv_at hl 1 rfl) ?_
            refine mm_get C X M 43 f_12_99_13 (.ref (ar 43)) rfl d_MenuScreensModel_holds_66 ?_
            refine lv_iload_n hx hb d_MenuScreensModel_holds_69 rfl (lv_at hl 4 rfl) ?_
            refine mm_iald C X M 43 512 rfl (A 43) rfl (by decide) k ei (by omega) d_MenuScreensModel_holds_70 ?_
            refine lv_bipush (v := 60) hx hb d_MenuScreensModel_holds_71 (by decide) ?_
            refine lv_icmp_ne (tgt := 91) hx hb d_MenuScreensModel_holds_73 (by decide) (fun c7 => ?_) (fun c7 => ?_)
            · skip
              refine lv_lload hx hb d_MenuScreensModel_holds_91 (lv_at hl 0 rfl) ?_
              refine lv_aload_n hx hb d_MenuScreensModel_holds_93 rfl (lv_at hl 1 rfl) ?_
              refine mm_get C X M 44 f_12_102_13 (.ref (ar 44)) rfl d_MenuScreensModel_holds_94 ?_
              refine lv_iload_n hx hb d_MenuScreensModel_holds_97 rfl (lv_at hl 4 rfl) ?_
              refine mm_lald C X M 44 512 rfl (B 44) rfl (by decide) k ei (by omega) d_MenuScreensModel_holds_98 ?_
              refine W.lcmp hx hb d_MenuScreensModel_holds_99 ?_
              refine lv_if_le (tgt := 107) hx hb d_MenuScreensModel_holds_100 (by decide) (fun c8 => ?_) (fun c8 => ?_)
              · skip
                refine lv_iconst (v := 0) hx hb d_MenuScreensModel_holds_107 (by decide) ?_
                have hl0 := hl
                exact j108 0 ls (by
                  unfold cnB
                  rw [ec0]
                  rw [decide_eq_true c5]
                  rw [if_neg c6]
                  rw [if_neg c7]
                  rw [decide_eq_false (Int64.not_lt.mpr ((lg_cmp_le _ _).mp c8))]; rfl) (lv_sub hl [1, 2, 3, 4] rfl)
              · skip
                refine lv_iconst (v := 1) hx hb d_MenuScreensModel_holds_103 (by decide) ?_
                refine lv_goto (tgt := 108) hx hb d_MenuScreensModel_holds_104 (by decide) ?_
                have hl0 := hl
                exact j108 1 ls (by
                  unfold cnB
                  rw [ec0]
                  rw [decide_eq_true c5]
                  rw [if_neg c6]
                  rw [if_neg c7]
                  rw [decide_eq_true (Int64.not_le.mp (fun z => c8 ((lg_cmp_le _ _).mpr z)))]; rfl) (lv_sub hl [1, 2, 3, 4] rfl)
            · skip
              refine lv_lload hx hb d_MenuScreensModel_holds_76 (lv_at hl 0 rfl) ?_
              refine lv_aload_n hx hb d_MenuScreensModel_holds_78 rfl (lv_at hl 1 rfl) ?_
              refine mm_get C X M 44 f_12_102_13 (.ref (ar 44)) rfl d_MenuScreensModel_holds_79 ?_
              refine lv_iload_n hx hb d_MenuScreensModel_holds_82 rfl (lv_at hl 4 rfl) ?_
              refine mm_lald C X M 44 512 rfl (B 44) rfl (by decide) k ei (by omega) d_MenuScreensModel_holds_83 ?_
              refine W.lcmp hx hb d_MenuScreensModel_holds_84 ?_
              refine lv_if_ge (tgt := 107) hx hb d_MenuScreensModel_holds_85 (by decide) (fun c9 => ?_) (fun c9 => ?_)
              · skip
                refine lv_iconst (v := 0) hx hb d_MenuScreensModel_holds_107 (by decide) ?_
                have hl0 := hl
                exact j108 0 ls (by
                  unfold cnB
                  rw [ec0]
                  rw [decide_eq_true c5]
                  rw [if_neg c6]
                  rw [if_pos c7]
                  rw [decide_eq_false (Int64.not_lt.mpr ((lg_cmp_ge _ _).mp c9))]; rfl) (lv_sub hl [1, 2, 3, 4] rfl)
              · skip
                refine lv_goto (tgt := 103) hx hb d_MenuScreensModel_holds_88 (by decide) ?_
                refine lv_iconst (v := 1) hx hb d_MenuScreensModel_holds_103 (by decide) ?_
                refine lv_goto (tgt := 108) hx hb d_MenuScreensModel_holds_104 (by decide) ?_
                have hl0 := hl
                exact j108 1 ls (by
                  unfold cnB
                  rw [ec0]
                  rw [decide_eq_true c5]
                  rw [if_neg c6]
                  rw [if_pos c7]
                  rw [decide_eq_true (Int64.not_le.mp (fun z => c9 ((lg_cmp_ge _ _).mpr z)))]; rfl) (lv_sub hl [1, 2, 3, 4] rfl)
          · skip
            refine lv_lload hx hb d_MenuScreensModel_holds_50 (lv_at hl 0 rfl) ?_
            refine lv_aload_n hx hb d_MenuScreensModel_holds_52 rfl (lv_at hl 1 rfl) ?_
            refine mm_get C X M 44 f_12_102_13 (.ref (ar 44)) rfl d_MenuScreensModel_holds_53 ?_
            refine lv_iload_n hx hb d_MenuScreensModel_holds_56 rfl (lv_at hl 4 rfl) ?_
            refine mm_lald C X M 44 512 rfl (B 44) rfl (by decide) k ei (by omega) d_MenuScreensModel_holds_57 ?_
            refine W.lcmp hx hb d_MenuScreensModel_holds_58 ?_
            refine lv_if_ne (tgt := 107) hx hb d_MenuScreensModel_holds_59 (by decide) (fun c10 => ?_) (fun c10 => ?_)
            · skip
              refine lv_iconst (v := 0) hx hb d_MenuScreensModel_holds_107 (by decide) ?_
              have hl0 := hl
              exact j108 0 ls (by
                unfold cnB
                rw [ec0]
                rw [decide_eq_true c5]
                rw [if_pos c6]
                rw [decide_eq_false (fun z => c10 ((lg_cmp_eq _ _).mpr z))]; rfl) (lv_sub hl [1, 2, 3, 4] rfl)
            · skip
              refine lv_goto (tgt := 103) hx hb d_MenuScreensModel_holds_62 (by decide) ?_
              refine lv_iconst (v := 1) hx hb d_MenuScreensModel_holds_103 (by decide) ?_
              refine lv_goto (tgt := 108) hx hb d_MenuScreensModel_holds_104 (by decide) ?_
              have hl0 := hl
              exact j108 1 ls (by
                unfold cnB
                rw [ec0]
                rw [decide_eq_true c5]
                rw [if_pos c6]
                rw [decide_eq_true ((lg_cmp_eq _ _).mp c10)]; rfl) (lv_sub hl [1, 2, 3, 4] rfl)
  exact lp (n - 0 + 1) 0 1 0 ls  rfl (by omega) rfl (Nat.lt_succ_self _) (lv_sub hl [2, 3, 1, 0] rfl)
end
section
theorem d_MenuScreensModel_digit_0 : decode prog_13_method_29_code 0 = .ok (.aload_n 0, 1) := by decide +kernel
theorem d_MenuScreensModel_digit_1 : decode prog_13_method_29_code 1 = .ok (.getfield 36, 3) := by decide +kernel
theorem d_MenuScreensModel_digit_4 : decode prog_13_method_29_code 4 = .ok (.iload_n 1, 1) := by decide +kernel
theorem d_MenuScreensModel_digit_5 : decode prog_13_method_29_code 5 = .ok (.baload, 1) := by decide +kernel
theorem d_MenuScreensModel_digit_6 : decode prog_13_method_29_code 6 = .ok (.ifCond .ne 6, 3) := by decide +kernel
theorem d_MenuScreensModel_digit_9 : decode prog_13_method_29_code 9 = .ok (.bipush 45, 2) := by decide +kernel
theorem d_MenuScreensModel_digit_11 : decode prog_13_method_29_code 11 = .ok (.ireturn, 1) := by decide +kernel
theorem d_MenuScreensModel_digit_12 : decode prog_13_method_29_code 12 = .ok (.aload_n 0, 1) := by decide +kernel
theorem d_MenuScreensModel_digit_13 : decode prog_13_method_29_code 13 = .ok (.getfield 33, 3) := by decide +kernel
theorem d_MenuScreensModel_digit_16 : decode prog_13_method_29_code 16 = .ok (.iload_n 1, 1) := by decide +kernel
theorem d_MenuScreensModel_digit_17 : decode prog_13_method_29_code 17 = .ok (.laload, 1) := by decide +kernel
theorem d_MenuScreensModel_digit_18 : decode prog_13_method_29_code 18 = .ok (.lconst 0, 1) := by decide +kernel
theorem d_MenuScreensModel_digit_19 : decode prog_13_method_29_code 19 = .ok (.lcmp, 1) := by decide +kernel
theorem d_MenuScreensModel_digit_20 : decode prog_13_method_29_code 20 = .ok (.ifCond .ge 13, 3) := by decide +kernel
theorem d_MenuScreensModel_digit_23 : decode prog_13_method_29_code 23 = .ok (.aload_n 0, 1) := by decide +kernel
theorem d_MenuScreensModel_digit_24 : decode prog_13_method_29_code 24 = .ok (.getfield 33, 3) := by decide +kernel
theorem d_MenuScreensModel_digit_27 : decode prog_13_method_29_code 27 = .ok (.iload_n 1, 1) := by decide +kernel
theorem d_MenuScreensModel_digit_28 : decode prog_13_method_29_code 28 = .ok (.laload, 1) := by decide +kernel
theorem d_MenuScreensModel_digit_29 : decode prog_13_method_29_code 29 = .ok (.lneg, 1) := by decide +kernel
theorem d_MenuScreensModel_digit_30 : decode prog_13_method_29_code 30 = .ok (.goto 9, 3) := by decide +kernel
theorem d_MenuScreensModel_digit_33 : decode prog_13_method_29_code 33 = .ok (.aload_n 0, 1) := by decide +kernel
theorem d_MenuScreensModel_digit_34 : decode prog_13_method_29_code 34 = .ok (.getfield 33, 3) := by decide +kernel
theorem d_MenuScreensModel_digit_37 : decode prog_13_method_29_code 37 = .ok (.iload_n 1, 1) := by decide +kernel
theorem d_MenuScreensModel_digit_38 : decode prog_13_method_29_code 38 = .ok (.laload, 1) := by decide +kernel
theorem d_MenuScreensModel_digit_39 : decode prog_13_method_29_code 39 = .ok (.lstore 4, 2) := by decide +kernel
theorem d_MenuScreensModel_digit_41 : decode prog_13_method_29_code 41 = .ok (.iconst 1, 1) := by decide +kernel
theorem d_MenuScreensModel_digit_42 : decode prog_13_method_29_code 42 = .ok (.istore 6, 2) := by decide +kernel
theorem d_MenuScreensModel_digit_44 : decode prog_13_method_29_code 44 = .ok (.ldc2_w 156, 3) := by decide +kernel
theorem d_MenuScreensModel_digit_47 : decode prog_13_method_29_code 47 = .ok (.lstore 7, 2) := by decide +kernel
theorem d_MenuScreensModel_digit_49 : decode prog_13_method_29_code 49 = .ok (.lload 7, 2) := by decide +kernel
theorem d_MenuScreensModel_digit_51 : decode prog_13_method_29_code 51 = .ok (.lload 4, 2) := by decide +kernel
theorem d_MenuScreensModel_digit_53 : decode prog_13_method_29_code 53 = .ok (.lcmp, 1) := by decide +kernel
theorem d_MenuScreensModel_digit_54 : decode prog_13_method_29_code 54 = .ok (.ifCond .gt 17, 3) := by decide +kernel
theorem d_MenuScreensModel_digit_57 : decode prog_13_method_29_code 57 = .ok (.lload 7, 2) := by decide +kernel
theorem d_MenuScreensModel_digit_59 : decode prog_13_method_29_code 59 = .ok (.ldc2_w 156, 3) := by decide +kernel
theorem d_MenuScreensModel_digit_62 : decode prog_13_method_29_code 62 = .ok (.lmul, 1) := by decide +kernel
theorem d_MenuScreensModel_digit_63 : decode prog_13_method_29_code 63 = .ok (.lstore 7, 2) := by decide +kernel
theorem d_MenuScreensModel_digit_65 : decode prog_13_method_29_code 65 = .ok (.iinc 6 1, 3) := by decide +kernel
theorem d_MenuScreensModel_digit_68 : decode prog_13_method_29_code 68 = .ok (.goto (-19), 3) := by decide +kernel
theorem d_MenuScreensModel_digit_71 : decode prog_13_method_29_code 71 = .ok (.aload_n 0, 1) := by decide +kernel
theorem d_MenuScreensModel_digit_72 : decode prog_13_method_29_code 72 = .ok (.getfield 33, 3) := by decide +kernel
theorem d_MenuScreensModel_digit_75 : decode prog_13_method_29_code 75 = .ok (.iload_n 1, 1) := by decide +kernel
theorem d_MenuScreensModel_digit_76 : decode prog_13_method_29_code 76 = .ok (.laload, 1) := by decide +kernel
theorem d_MenuScreensModel_digit_77 : decode prog_13_method_29_code 77 = .ok (.lconst 0, 1) := by decide +kernel
theorem d_MenuScreensModel_digit_78 : decode prog_13_method_29_code 78 = .ok (.lcmp, 1) := by decide +kernel
theorem d_MenuScreensModel_digit_79 : decode prog_13_method_29_code 79 = .ok (.ifCond .ge 10, 3) := by decide +kernel
theorem d_MenuScreensModel_digit_82 : decode prog_13_method_29_code 82 = .ok (.iload 6, 2) := by decide +kernel
theorem d_MenuScreensModel_digit_84 : decode prog_13_method_29_code 84 = .ok (.iconst 1, 1) := by decide +kernel
theorem d_MenuScreensModel_digit_85 : decode prog_13_method_29_code 85 = .ok (.iadd, 1) := by decide +kernel
theorem d_MenuScreensModel_digit_86 : decode prog_13_method_29_code 86 = .ok (.goto 5, 3) := by decide +kernel
theorem d_MenuScreensModel_digit_89 : decode prog_13_method_29_code 89 = .ok (.iload 6, 2) := by decide +kernel
theorem d_MenuScreensModel_digit_91 : decode prog_13_method_29_code 91 = .ok (.istore 9, 2) := by decide +kernel
theorem d_MenuScreensModel_digit_93 : decode prog_13_method_29_code 93 = .ok (.iload 9, 2) := by decide +kernel
theorem d_MenuScreensModel_digit_95 : decode prog_13_method_29_code 95 = .ok (.iload_n 2, 1) := by decide +kernel
theorem d_MenuScreensModel_digit_96 : decode prog_13_method_29_code 96 = .ok (.if_icmp .le 6, 3) := by decide +kernel
theorem d_MenuScreensModel_digit_99 : decode prog_13_method_29_code 99 = .ok (.bipush 35, 2) := by decide +kernel
theorem d_MenuScreensModel_digit_101 : decode prog_13_method_29_code 101 = .ok (.ireturn, 1) := by decide +kernel
theorem d_MenuScreensModel_digit_102 : decode prog_13_method_29_code 102 = .ok (.iload_n 2, 1) := by decide +kernel
theorem d_MenuScreensModel_digit_103 : decode prog_13_method_29_code 103 = .ok (.iconst 1, 1) := by decide +kernel
theorem d_MenuScreensModel_digit_104 : decode prog_13_method_29_code 104 = .ok (.isub, 1) := by decide +kernel
theorem d_MenuScreensModel_digit_105 : decode prog_13_method_29_code 105 = .ok (.iload_n 3, 1) := by decide +kernel
theorem d_MenuScreensModel_digit_106 : decode prog_13_method_29_code 106 = .ok (.isub, 1) := by decide +kernel
theorem d_MenuScreensModel_digit_107 : decode prog_13_method_29_code 107 = .ok (.istore 10, 2) := by decide +kernel
theorem d_MenuScreensModel_digit_109 : decode prog_13_method_29_code 109 = .ok (.iload 10, 2) := by decide +kernel
theorem d_MenuScreensModel_digit_111 : decode prog_13_method_29_code 111 = .ok (.iload 6, 2) := by decide +kernel
theorem d_MenuScreensModel_digit_113 : decode prog_13_method_29_code 113 = .ok (.if_icmp .lt 29, 3) := by decide +kernel
theorem d_MenuScreensModel_digit_116 : decode prog_13_method_29_code 116 = .ok (.iload 10, 2) := by decide +kernel
theorem d_MenuScreensModel_digit_118 : decode prog_13_method_29_code 118 = .ok (.iload 6, 2) := by decide +kernel
theorem d_MenuScreensModel_digit_120 : decode prog_13_method_29_code 120 = .ok (.if_icmp .ne 19, 3) := by decide +kernel
theorem d_MenuScreensModel_digit_123 : decode prog_13_method_29_code 123 = .ok (.aload_n 0, 1) := by decide +kernel
theorem d_MenuScreensModel_digit_124 : decode prog_13_method_29_code 124 = .ok (.getfield 33, 3) := by decide +kernel
theorem d_MenuScreensModel_digit_127 : decode prog_13_method_29_code 127 = .ok (.iload_n 1, 1) := by decide +kernel
theorem d_MenuScreensModel_digit_128 : decode prog_13_method_29_code 128 = .ok (.laload, 1) := by decide +kernel
theorem d_MenuScreensModel_digit_129 : decode prog_13_method_29_code 129 = .ok (.lconst 0, 1) := by decide +kernel
theorem d_MenuScreensModel_digit_130 : decode prog_13_method_29_code 130 = .ok (.lcmp, 1) := by decide +kernel
theorem d_MenuScreensModel_digit_131 : decode prog_13_method_29_code 131 = .ok (.ifCond .ge 8, 3) := by decide +kernel
theorem d_MenuScreensModel_digit_134 : decode prog_13_method_29_code 134 = .ok (.bipush 45, 2) := by decide +kernel
theorem d_MenuScreensModel_digit_136 : decode prog_13_method_29_code 136 = .ok (.goto 5, 3) := by decide +kernel
theorem d_MenuScreensModel_digit_139 : decode prog_13_method_29_code 139 = .ok (.bipush 32, 2) := by decide +kernel
theorem d_MenuScreensModel_digit_141 : decode prog_13_method_29_code 141 = .ok (.ireturn, 1) := by decide +kernel
theorem d_MenuScreensModel_digit_142 : decode prog_13_method_29_code 142 = .ok (.iconst 0, 1) := by decide +kernel
theorem d_MenuScreensModel_digit_143 : decode prog_13_method_29_code 143 = .ok (.istore 11, 2) := by decide +kernel
theorem d_MenuScreensModel_digit_145 : decode prog_13_method_29_code 145 = .ok (.iload 11, 2) := by decide +kernel
theorem d_MenuScreensModel_digit_147 : decode prog_13_method_29_code 147 = .ok (.iload 10, 2) := by decide +kernel
theorem d_MenuScreensModel_digit_149 : decode prog_13_method_29_code 149 = .ok (.if_icmp .ge 17, 3) := by decide +kernel
theorem d_MenuScreensModel_digit_152 : decode prog_13_method_29_code 152 = .ok (.lload 4, 2) := by decide +kernel
theorem d_MenuScreensModel_digit_154 : decode prog_13_method_29_code 154 = .ok (.ldc2_w 156, 3) := by decide +kernel
theorem d_MenuScreensModel_digit_157 : decode prog_13_method_29_code 157 = .ok (.ldiv, 1) := by decide +kernel
theorem d_MenuScreensModel_digit_158 : decode prog_13_method_29_code 158 = .ok (.lstore 4, 2) := by decide +kernel
theorem d_MenuScreensModel_digit_160 : decode prog_13_method_29_code 160 = .ok (.iinc 11 1, 3) := by decide +kernel
theorem d_MenuScreensModel_digit_163 : decode prog_13_method_29_code 163 = .ok (.goto (-18), 3) := by decide +kernel
theorem d_MenuScreensModel_digit_166 : decode prog_13_method_29_code 166 = .ok (.bipush 48, 2) := by decide +kernel
theorem d_MenuScreensModel_digit_168 : decode prog_13_method_29_code 168 = .ok (.lload 4, 2) := by decide +kernel
theorem d_MenuScreensModel_digit_170 : decode prog_13_method_29_code 170 = .ok (.ldc2_w 156, 3) := by decide +kernel
theorem d_MenuScreensModel_digit_173 : decode prog_13_method_29_code 173 = .ok (.lrem, 1) := by decide +kernel
theorem d_MenuScreensModel_digit_174 : decode prog_13_method_29_code 174 = .ok (.l2i, 1) := by decide +kernel
theorem d_MenuScreensModel_digit_175 : decode prog_13_method_29_code 175 = .ok (.iadd, 1) := by decide +kernel
theorem d_MenuScreensModel_digit_176 : decode prog_13_method_29_code 176 = .ok (.ireturn, 1) := by decide +kernel
set_option maxRecDepth 100000 in
set_option maxHeartbeats 4000000 in
theorem cm_MenuScreensModel_digit {l : Launch} {S0 : State} {b : Nat} {D : va_G} {dT : Nat → ClassId} (hE : vEnv S0 b D dT) {h0 : vH} {a : Nat} {ar : Nat → Nat} {x : Nat → Int32} {y : Nat → Int64} {A : Nat → Nat → Int32} {B : Nat → Nat → Int64} (M : MV S0 dT h0 a ar x y A B) (p1 : Int32) (p2 : Int32) (p3 : Int32) {v n k : Nat} (h1 : p1 = nI v) (h2 : p2 = nI n) (h3 : p3 = nI k) (hv : v ≤ 40) (hn1 : 1 ≤ n) (hn2 : n ≤ 9) (hk : k < n) (hs : smL (B 18 v)) : vMi l S0 D vcl GT y_MenuScreensModel_digit prog_13_method_29_code 12 (some .int) 0 0 0 0 [.ref a, .int p1, .int p2, .int p3] h0 (fun r h' => h' = h0 ∧ r = dgF (A 19 v) (B 18 v) n k) := by
  unfold vMi
  refine vM_ofQ hE.1 (by decide) (Nat.le_of_ble_eq_true rfl) (fun p e s m args below meth c ls Q hQ C hr hlk hnm X hl => ?_)
  have C : vC p s m _ c _ _ "MenuScreensModel" GT D vcl (vty dT) := C
  have hx := C.1.1
  have hb := C.1.2.1
  replace M := MR.of M
  obtain ⟨H, eH⟩ : ∃ z, z = s.heap := ⟨_, rfl⟩
  obtain ⟨locs, elocs⟩ : ∃ z : List Loc, z = [] := ⟨_, rfl⟩
  rw [← eH, ← elocs] at X
  rw [← eH, ← elocs]
  clear eH elocs
  have hl : lv_has ls 12 [(0, .ref a), (1, .int p1), (2, .int p2), (3, .int p3)] := hl
  refine lv_aload_n hx hb d_MenuScreensModel_digit_0 rfl (lv_at hl 0 rfl) ?_
  refine mm_get C X M 19 f_12_36_13 (.ref (ar 19)) rfl d_MenuScreensModel_digit_1 ?_
  refine lv_iload_n hx hb d_MenuScreensModel_digit_4 rfl (lv_at hl 1 rfl) ?_
  refine mm_zald C X M 19 41 rfl (A 19) rfl (by decide) v h1 (by omega) d_MenuScreensModel_digit_5 ?_
  refine lv_if_ne (tgt := 12) hx hb d_MenuScreensModel_digit_6 (by decide) (fun c1 => ?_) (fun c1 => ?_)
  · skip
    obtain ⟨z0, hm⟩ : ∃ z, z = (B 18 v).toInt.natAbs := ⟨_, rfl⟩
    have hm6 : z0 ≤ 999999 := by rw [hm]; exact abs6 hs
    have j39 : ∀ (u : Int64) (ls : Array Slot), (u = lN z0) → lv_has ls 12 [(0, .ref a), (1, .int p1), (2, .int p2), (3, .int p3)] → W p l e (vRm 0 0 0 0) s m args below meth c H locs 0 0 Q (F0 m 39 ls [.long u]) := by
      intro u ls eu hl
      refine lv_lstore (lv' := [(4, .long u), (0, .ref a), (1, .int p1), (2, .int p2), (3, .int p3)]) hx hb d_MenuScreensModel_digit_39 hl (by decide) rfl (fun ls hl => ?_)
      refine lv_iconst (v := 1) hx hb d_MenuScreensModel_digit_41 (by decide) ?_
      refine lv_istore (lv' := [(6, .int 1), (4, .long u), (0, .ref a), (1, .int p1), (2, .int p2), (3, .int p3)]) hx hb d_MenuScreensModel_digit_42 hl (by decide) rfl (fun ls hl => ?_)
      refine lv_ldc2 (v := 10) hx hb C.1.2.2.2.1 (C.1.2.2.2.2 _ (gt_6 21 (by decide +kernel) rfl)) d_MenuScreensModel_digit_44 ?_
      refine lv_lstore (lv' := [(7, .long 10), (6, .int 1), (4, .long u), (0, .ref a), (1, .int p1), (2, .int p2), (3, .int p3)]) hx hb d_MenuScreensModel_digit_47 hl (by decide) rfl (fun ls hl => ?_)
      have lp : ∀ (n_lp : Nat) (d : Nat) (e6 : Int32) (w7 : Int64) (ls : Array Slot), (e6 = nI d) → (w7 = lN (10 ^ d)) → (1 ≤ d) → (d ≤ 6) → (d = 1 ∨ 10 ^ d ≤ 10 * z0) → (7 - d) < n_lp → lv_has ls 12 [(0, .ref a), (1, .int p1), (2, .int p2), (3, .int p3), (4, .long u), (6, .int e6), (7, .long w7)] → W p l e (vRm 0 0 0 0) s m args below meth c H locs 0 0 Q (F0 m 49 ls []) := by
        intro n_lp
        induction n_lp with
        | zero => intros; exact absurd (by assumption) (Nat.not_lt_zero _)
        | succ n_lp ih_lp =>
          intro d e6 w7 ls e1 e2 hd1 hd2 hd3 hmu_lp hl
          refine lv_lload hx hb d_MenuScreensModel_digit_49 (lv_at hl 6 rfl) ?_
          refine lv_lload hx hb d_MenuScreensModel_digit_51 (lv_at hl 4 rfl) ?_
          refine W.lcmp hx hb d_MenuScreensModel_digit_53 ?_
          refine lv_if_gt (tgt := 71) hx hb d_MenuScreensModel_digit_54 (by decide) (fun c2 => ?_) (fun c2 => ?_)
          · skip
            have hD : isD z0 d := by
              refine ⟨hd1, hd2, ?_, hd3⟩
              have := (lg_cmp_gt _ _).mp c2
              rw [e2, eu] at this
              exact (pk_lLT (by omega) (by have := p10_6 hd2; omega)).mp this
            have hdd := isD_dgc hD
            have hp := p10_6 hd2
            have j91 : ∀ (s9 : Int32) (ls : Array Slot), (s9 = nI (if B 18 v < 0 then d + 1 else d)) → lv_has ls 12 [(0, .ref a), (1, .int p1), (2, .int p2), (3, .int p3), (4, .long u), (6, .int e6)] → W p l e (vRm 0 0 0 0) s m args below meth c H locs 0 0 Q (F0 m 91 ls [.int s9]) := by
              intro s9 ls es hl
              obtain ⟨sg, hsg⟩ : ∃ z, z = (if B 18 v < 0 then d + 1 else d) := ⟨_, rfl⟩
              rw [← hsg] at es
              have hsg2 : sg ≤ 7 := by rw [hsg]; split <;> omega
              refine lv_istore (lv' := [(9, .int s9), (0, .ref a), (1, .int p1), (2, .int p2), (3, .int p3), (4, .long u), (6, .int e6)]) hx hb d_MenuScreensModel_digit_91 hl (by decide) rfl (fun ls hl => ?_)
              refine lv_iload hx hb d_MenuScreensModel_digit_93 (lv_at hl 0 rfl) ?_
              refine lv_iload_n hx hb d_MenuScreensModel_digit_95 rfl (lv_at hl 3 rfl) ?_
              refine lv_icmp_le (tgt := 102) hx hb d_MenuScreensModel_digit_96 (by decide) (fun c3 => ?_) (fun c3 => ?_)
              · skip
                have hns : sg ≤ n := (nI_leI (by omega) (by omega)).mp (by rw [← es, ← h2]; exact c3)
                have efe : p2 - 1 - p3 = nI (n - 1 - k) := by
                  rw [h2, h3, show nI n - 1 = nI (n - 1) from nI_sub (b := 1) (by omega)]; exact nI_sub (by omega)
                refine lv_iload_n hx hb d_MenuScreensModel_digit_102 rfl (lv_at hl 3 rfl) ?_
                refine lv_iconst (v := 1) hx hb d_MenuScreensModel_digit_103 (by decide) ?_
                refine lv_isub hx hb d_MenuScreensModel_digit_104 ?_
                refine lv_iload_n hx hb d_MenuScreensModel_digit_105 rfl (lv_at hl 4 rfl) ?_
                refine lv_isub hx hb d_MenuScreensModel_digit_106 ?_
                refine lv_istore (lv' := [(10, .int ((p2 - 1) - p3)), (9, .int s9), (0, .ref a), (1, .int p1), (2, .int p2), (3, .int p3), (4, .long u), (6, .int e6)]) hx hb d_MenuScreensModel_digit_107 hl (by decide) rfl (fun ls hl => ?_)
                refine lv_iload hx hb d_MenuScreensModel_digit_109 (lv_at hl 0 rfl) ?_
                refine lv_iload hx hb d_MenuScreensModel_digit_111 (lv_at hl 7 rfl) ?_
                refine lv_icmp_lt (tgt := 142) hx hb d_MenuScreensModel_digit_113 (by decide) (fun c4 => ?_) (fun c4 => ?_)
                · skip
                  refine lv_iconst (v := 0) hx hb d_MenuScreensModel_digit_142 (by decide) ?_
                  refine lv_istore (lv' := [(11, .int 0), (10, .int ((p2 - 1) - p3)), (9, .int s9), (0, .ref a), (1, .int p1), (2, .int p2), (3, .int p3), (4, .long u), (6, .int e6)]) hx hb d_MenuScreensModel_digit_143 hl (by decide) rfl (fun ls hl => ?_)
                  have lp2 : ∀ (n_lp2 : Nat) (j : Nat) (u4 : Int64) (i : Int32) (ls : Array Slot), (i = nI j) → (j ≤ n - 1 - k) → (u4 = lN (z0 / 10 ^ j)) → (n - 1 - k - j) < n_lp2 → lv_has ls 12 [(0, .ref a), (4, .long u4), (10, .int ((p2 - 1) - p3)), (11, .int i)] → W p l e (vRm 0 0 0 0) s m args below meth c H locs 0 0 Q (F0 m 145 ls []) := by
                    intro n_lp2
                    induction n_lp2 with
                    | zero => intros; exact absurd (by assumption) (Nat.not_lt_zero _)
                    | succ n_lp2 ih_lp2 =>
                      intro j u4 i ls ei hj eu4 hmu_lp2 hl
                      refine lv_iload hx hb d_MenuScreensModel_digit_145 (lv_at hl 3 rfl) ?_
                      refine lv_iload hx hb d_MenuScreensModel_digit_147 (lv_at hl 2 rfl) ?_
                      refine lv_icmp_ge (tgt := 166) hx hb d_MenuScreensModel_digit_149 (by decide) (fun c5 => ?_) (fun c5 => ?_)
                      · skip
                        refine lv_bipush (v := 48) hx hb d_MenuScreensModel_digit_166 (by decide) ?_
                        refine lv_lload hx hb d_MenuScreensModel_digit_168 (lv_at hl 1 rfl) ?_
                        refine lv_ldc2 (v := 10) hx hb C.1.2.2.2.1 (C.1.2.2.2.2 _ (gt_6 21 (by decide +kernel) rfl)) d_MenuScreensModel_digit_170 ?_
                        refine lv_lrem hx hb d_MenuScreensModel_digit_173 (by decide) ?_
                        refine lv_l2i (v := ((u4 - (u4 / 10) * 10) : Int64).toInt32) hx hb d_MenuScreensModel_digit_174 rfl ?_
                        refine lv_iadd hx hb d_MenuScreensModel_digit_175 ?_
                        exact mq_iret hQ C X hr rfl hlk (⟨rfl, by
                            rw [dgF, if_neg c1, ← hm, ← hdd, ← hsg]
                            rw [if_neg (Nat.not_lt.mpr hns)]
                            rw [if_neg (fun z => absurd (by rw [efe, e1]; exact nI_le z (by omega)) (Int32.not_le.mpr c4))]
                            have hj2 : j = n - 1 - k := by
                              have := (nI_leI (a := n - 1 - k) (b := j) (by omega) (by omega)).mp (by rw [← efe, ← ei]; exact c5)
                              omega
                            have hq : z0 / 10 ^ j ≤ 999999 := by have := Nat.div_le_self z0 (10 ^ j); omega
                            rw [eu4, show lN (z0 / 10 ^ j) - lN (z0 / 10 ^ j) / 10 * 10 = lN (z0 / 10 ^ j % 10) from pk_lRem (by omega) (by decide) (by decide), lN_i, ← hj2]; exact nI_add 48 _⟩) (Nat.le_refl _) (Nat.le_refl _) d_MenuScreensModel_digit_176
                      · skip
                        have hlt : j < n - 1 - k := by
                          rcases Nat.lt_or_ge j (n - 1 - k) with q | q
                          · exact q
                          · exact absurd (by rw [efe, ei]; exact nI_le q (by omega)) c5
                        refine lv_lload hx hb d_MenuScreensModel_digit_152 (lv_at hl 1 rfl) ?_
                        refine lv_ldc2 (v := 10) hx hb C.1.2.2.2.1 (C.1.2.2.2.2 _ (gt_6 21 (by decide +kernel) rfl)) d_MenuScreensModel_digit_154 ?_
                        refine lv_ldiv hx hb d_MenuScreensModel_digit_157 (by decide) ?_
                        refine lv_lstore (lv' := [(4, .long (u4 / 10)), (0, .ref a), (10, .int ((p2 - 1) - p3)), (11, .int i)]) hx hb d_MenuScreensModel_digit_158 hl (by decide) rfl (fun ls hl => ?_)
                        refine lv_iinc (v := (i + 1)) (lv' := [(11, .int (i + 1)), (4, .long (u4 / 10)), (0, .ref a), (10, .int ((p2 - 1) - p3))]) hx hb d_MenuScreensModel_digit_160 hl (k := 3) rfl rfl (by decide) rfl (fun ls hl => ?_)
                        refine lv_goto (tgt := 145) hx hb d_MenuScreensModel_digit_163 (by decide) ?_
                        exact ih_lp2 (j + 1) (u4 / 10) (i + 1) ls  (by rw [ei]; exact nI_1 j) (by omega) (by rw [eu4, Nat.pow_succ, ← Nat.div_div_eq_div_mul]; exact pk_lDiv (by have := Nat.div_le_self z0 (10 ^ j); omega) (by decide) (by decide)) (by omega) (lv_sub hl [2, 1, 3, 0] rfl)
                  exact lp2 (n - 1 - k - 0 + 1) 0 u 0 ls  rfl (by omega) (by rw [Nat.pow_zero, Nat.div_one]; exact eu) (Nat.lt_succ_self _) (lv_sub hl [3, 7, 1, 0] rfl)
                · skip
                  refine lv_iload hx hb d_MenuScreensModel_digit_116 (lv_at hl 0 rfl) ?_
                  refine lv_iload hx hb d_MenuScreensModel_digit_118 (lv_at hl 7 rfl) ?_
                  refine lv_icmp_ne (tgt := 139) hx hb d_MenuScreensModel_digit_120 (by decide) (fun c6 => ?_) (fun c6 => ?_)
                  · skip
                    refine lv_bipush (v := 32) hx hb d_MenuScreensModel_digit_139 (by decide) ?_
                    exact mq_iret hQ C X hr rfl hlk (⟨rfl, by
                        rw [dgF, if_neg c1, ← hm, ← hdd, ← hsg]
                        rw [if_neg (Nat.not_lt.mpr hns)]
                        rw [if_pos ((nI_leI (a := d) (b := n - 1 - k) (by omega) (by omega)).mp (by rw [← efe, ← e1]; exact Int32.not_lt.mp c4))]
                        rw [if_neg (fun z => c6 (by rw [efe, e1, z.1]))]⟩) (Nat.le_refl _) (Nat.le_refl _) d_MenuScreensModel_digit_141
                  · skip
                    refine lv_aload_n hx hb d_MenuScreensModel_digit_123 rfl (lv_at hl 2 rfl) ?_
                    refine mm_get C X M 18 f_12_33_13 (.ref (ar 18)) rfl d_MenuScreensModel_digit_124 ?_
                    refine lv_iload_n hx hb d_MenuScreensModel_digit_127 rfl (lv_at hl 3 rfl) ?_
                    refine mm_lald C X M 18 41 rfl (B 18) rfl (by decide) v h1 (by omega) d_MenuScreensModel_digit_128 ?_
                    refine lv_lconst (v := 0) hx hb d_MenuScreensModel_digit_129 (by decide) ?_
                    refine W.lcmp hx hb d_MenuScreensModel_digit_130 ?_
                    refine lv_if_ge (tgt := 139) hx hb d_MenuScreensModel_digit_131 (by decide) (fun c7 => ?_) (fun c7 => ?_)
                    · skip
                      refine lv_bipush (v := 32) hx hb d_MenuScreensModel_digit_139 (by decide) ?_
                      exact mq_iret hQ C X hr rfl hlk (⟨rfl, by
                          rw [dgF, if_neg c1, ← hm, ← hdd, ← hsg]
                          rw [if_neg (Nat.not_lt.mpr hns)]
                          rw [if_pos ((nI_leI (a := d) (b := n - 1 - k) (by omega) (by omega)).mp (by rw [← efe, ← e1]; exact Int32.not_lt.mp c4))]
                          rw [if_neg (fun z => absurd ((lg_cmp_ge _ _).mp c7) (Int64.not_le.mpr z.2))]⟩) (Nat.le_refl _) (Nat.le_refl _) d_MenuScreensModel_digit_141
                    · skip
                      refine lv_bipush (v := 45) hx hb d_MenuScreensModel_digit_134 (by decide) ?_
                      refine lv_goto (tgt := 141) hx hb d_MenuScreensModel_digit_136 (by decide) ?_
                      exact mq_iret hQ C X hr rfl hlk (⟨rfl, by
                          rw [dgF, if_neg c1, ← hm, ← hdd, ← hsg]
                          rw [if_neg (Nat.not_lt.mpr hns)]
                          rw [if_pos ((nI_leI (a := d) (b := n - 1 - k) (by omega) (by omega)).mp (by rw [← efe, ← e1]; exact Int32.not_lt.mp c4))]
                          rw [if_pos ⟨nI_eqI (by omega) (by omega) (by rw [← efe, ← e1]; exact c6), Int64.not_le.mp (fun z => c7 ((lg_cmp_ge _ _).mpr z))⟩]⟩) (Nat.le_refl _) (Nat.le_refl _) d_MenuScreensModel_digit_141
              · skip
                refine lv_bipush (v := 35) hx hb d_MenuScreensModel_digit_99 (by decide) ?_
                exact mq_iret hQ C X hr rfl hlk (⟨rfl, by
                    rw [dgF, if_neg c1, ← hm, ← hdd, ← hsg]
                    rw [if_pos ((nI_ltI (by omega) (by omega)).mp (by rw [← es, ← h2]; exact Int32.not_le.mp c3))]⟩) (Nat.le_refl _) (Nat.le_refl _) d_MenuScreensModel_digit_101
            refine lv_aload_n hx hb d_MenuScreensModel_digit_71 rfl (lv_at hl 0 rfl) ?_
            refine mm_get C X M 18 f_12_33_13 (.ref (ar 18)) rfl d_MenuScreensModel_digit_72 ?_
            refine lv_iload_n hx hb d_MenuScreensModel_digit_75 rfl (lv_at hl 1 rfl) ?_
            refine mm_lald C X M 18 41 rfl (B 18) rfl (by decide) v h1 (by omega) d_MenuScreensModel_digit_76 ?_
            refine lv_lconst (v := 0) hx hb d_MenuScreensModel_digit_77 (by decide) ?_
            refine W.lcmp hx hb d_MenuScreensModel_digit_78 ?_
            refine lv_if_ge (tgt := 89) hx hb d_MenuScreensModel_digit_79 (by decide) (fun c8 => ?_) (fun c8 => ?_)
            · skip
              refine lv_iload hx hb d_MenuScreensModel_digit_89 (lv_at hl 5 rfl) ?_
              exact j91 e6 ls (by rw [if_neg (Int64.not_lt.mpr ((lg_cmp_ge _ _).mp c8)), e1]) (lv_sub hl [0, 1, 2, 3, 4, 5] rfl)
            · skip
              refine lv_iload hx hb d_MenuScreensModel_digit_82 (lv_at hl 5 rfl) ?_
              refine lv_iconst (v := 1) hx hb d_MenuScreensModel_digit_84 (by decide) ?_
              refine lv_iadd hx hb d_MenuScreensModel_digit_85 ?_
              refine lv_goto (tgt := 91) hx hb d_MenuScreensModel_digit_86 (by decide) ?_
              exact j91 (e6 + 1) ls (by rw [if_pos (Int64.not_le.mp (fun z => c8 ((lg_cmp_ge _ _).mpr z))), e1]; exact nI_1 d) (lv_sub hl [0, 1, 2, 3, 4, 5] rfl)
          · skip
            have hle : 10 ^ d ≤ z0 := by
              have := Int64.not_lt.mp (fun z => c2 ((lg_cmp_gt _ _).mpr z))
              rw [e2, eu] at this
              exact (pk_lLE (by have := p10_6 hd2; omega) (by omega)).mp this
            have hd5 : d ≤ 5 := by
              rcases Nat.lt_or_ge 5 d with q | q
              · have q6 : d = 6 := by omega
                rw [q6] at hle
                omega
              · exact q
            refine lv_lload hx hb d_MenuScreensModel_digit_57 (lv_at hl 6 rfl) ?_
            refine lv_ldc2 (v := 10) hx hb C.1.2.2.2.1 (C.1.2.2.2.2 _ (gt_6 21 (by decide +kernel) rfl)) d_MenuScreensModel_digit_59 ?_
            refine lv_lmul hx hb d_MenuScreensModel_digit_62 ?_
            refine lv_lstore (lv' := [(7, .long (w7 * 10)), (0, .ref a), (1, .int p1), (2, .int p2), (3, .int p3), (4, .long u), (6, .int e6)]) hx hb d_MenuScreensModel_digit_63 hl (by decide) rfl (fun ls hl => ?_)
            refine lv_iinc (v := (e6 + 1)) (lv' := [(6, .int (e6 + 1)), (7, .long (w7 * 10)), (0, .ref a), (1, .int p1), (2, .int p2), (3, .int p3), (4, .long u)]) hx hb d_MenuScreensModel_digit_65 hl (k := 6) rfl rfl (by decide) rfl (fun ls hl => ?_)
            refine lv_goto (tgt := 49) hx hb d_MenuScreensModel_digit_68 (by decide) ?_
            exact ih_lp (d + 1) (e6 + 1) (w7 * 10) ls  (by rw [e1]; exact nI_1 d) (by rw [e2, Nat.pow_succ]; exact lN_mul _ 10) (by omega) (by omega) (Or.inr (by rw [Nat.pow_succ]; omega)) (by omega) (lv_sub hl [2, 3, 4, 5, 6, 0, 1] rfl)
      exact lp (7 - 1 + 1) 1 1 10 ls  rfl rfl (Nat.le_refl _) (by omega) (Or.inl rfl) (Nat.lt_succ_self _) (lv_sub hl [3, 4, 5, 6, 2, 1, 0] rfl)
    refine lv_aload_n hx hb d_MenuScreensModel_digit_12 rfl (lv_at hl 0 rfl) ?_
    refine mm_get C X M 18 f_12_33_13 (.ref (ar 18)) rfl d_MenuScreensModel_digit_13 ?_
    refine lv_iload_n hx hb d_MenuScreensModel_digit_16 rfl (lv_at hl 1 rfl) ?_
    refine mm_lald C X M 18 41 rfl (B 18) rfl (by decide) v h1 (by omega) d_MenuScreensModel_digit_17 ?_
    refine lv_lconst (v := 0) hx hb d_MenuScreensModel_digit_18 (by decide) ?_
    refine W.lcmp hx hb d_MenuScreensModel_digit_19 ?_
    refine lv_if_ge (tgt := 33) hx hb d_MenuScreensModel_digit_20 (by decide) (fun c9 => ?_) (fun c9 => ?_)
    · skip
      refine lv_aload_n hx hb d_MenuScreensModel_digit_33 rfl (lv_at hl 0 rfl) ?_
      refine mm_get C X M 18 f_12_33_13 (.ref (ar 18)) rfl d_MenuScreensModel_digit_34 ?_
      refine lv_iload_n hx hb d_MenuScreensModel_digit_37 rfl (lv_at hl 1 rfl) ?_
      refine mm_lald C X M 18 41 rfl (B 18) rfl (by decide) v h1 (by omega) d_MenuScreensModel_digit_38 ?_
      exact j39 ((B 18) v) ls (by rw [hm]; exact absP (fun z => absurd ((lg_cmp_ge _ _).mp c9) (Int64.not_le.mpr z)) hs) (lv_sub hl [0, 1, 2, 3] rfl)
    · skip
      refine lv_aload_n hx hb d_MenuScreensModel_digit_23 rfl (lv_at hl 0 rfl) ?_
      refine mm_get C X M 18 f_12_33_13 (.ref (ar 18)) rfl d_MenuScreensModel_digit_24 ?_
      refine lv_iload_n hx hb d_MenuScreensModel_digit_27 rfl (lv_at hl 1 rfl) ?_
      refine mm_lald C X M 18 41 rfl (B 18) rfl (by decide) v h1 (by omega) d_MenuScreensModel_digit_28 ?_
      refine lv_lneg hx hb d_MenuScreensModel_digit_29 ?_
      refine lv_goto (tgt := 39) hx hb d_MenuScreensModel_digit_30 (by decide) ?_
      exact j39 (-((B 18) v)) ls (by rw [hm]; exact absN (Int64.not_le.mp (fun z => c9 ((lg_cmp_ge _ _).mpr z))) hs) (lv_sub hl [0, 1, 2, 3] rfl)
  · skip
    refine lv_bipush (v := 45) hx hb d_MenuScreensModel_digit_9 (by decide) ?_
    exact mq_iret hQ C X hr rfl hlk (⟨rfl, by rw [dgF, if_pos c1]⟩) (Nat.le_refl _) (Nat.le_refl _) d_MenuScreensModel_digit_11
end
section
theorem d_MenuScreensModel_partAt_0 : decode prog_13_method_30_code 0 = .ok (.aload_n 0, 1) := by decide +kernel
theorem d_MenuScreensModel_partAt_1 : decode prog_13_method_30_code 1 = .ok (.getfield 60, 3) := by decide +kernel
theorem d_MenuScreensModel_partAt_4 : decode prog_13_method_30_code 4 = .ok (.iload_n 1, 1) := by decide +kernel
theorem d_MenuScreensModel_partAt_5 : decode prog_13_method_30_code 5 = .ok (.iaload, 1) := by decide +kernel
theorem d_MenuScreensModel_partAt_6 : decode prog_13_method_30_code 6 = .ok (.aload_n 0, 1) := by decide +kernel
theorem d_MenuScreensModel_partAt_7 : decode prog_13_method_30_code 7 = .ok (.getfield 245, 3) := by decide +kernel
theorem d_MenuScreensModel_partAt_10 : decode prog_13_method_30_code 10 = .ok (.if_icmp .ne 31, 3) := by decide +kernel
theorem d_MenuScreensModel_partAt_13 : decode prog_13_method_30_code 13 = .ok (.aload_n 0, 1) := by decide +kernel
theorem d_MenuScreensModel_partAt_14 : decode prog_13_method_30_code 14 = .ok (.getfield 66, 3) := by decide +kernel
theorem d_MenuScreensModel_partAt_17 : decode prog_13_method_30_code 17 = .ok (.iload_n 1, 1) := by decide +kernel
theorem d_MenuScreensModel_partAt_18 : decode prog_13_method_30_code 18 = .ok (.iaload, 1) := by decide +kernel
theorem d_MenuScreensModel_partAt_19 : decode prog_13_method_30_code 19 = .ok (.iload_n 2, 1) := by decide +kernel
theorem d_MenuScreensModel_partAt_20 : decode prog_13_method_30_code 20 = .ok (.if_icmp .ne 21, 3) := by decide +kernel
theorem d_MenuScreensModel_partAt_23 : decode prog_13_method_30_code 23 = .ok (.iload_n 3, 1) := by decide +kernel
theorem d_MenuScreensModel_partAt_24 : decode prog_13_method_30_code 24 = .ok (.aload_n 0, 1) := by decide +kernel
theorem d_MenuScreensModel_partAt_25 : decode prog_13_method_30_code 25 = .ok (.getfield 69, 3) := by decide +kernel
theorem d_MenuScreensModel_partAt_28 : decode prog_13_method_30_code 28 = .ok (.iload_n 1, 1) := by decide +kernel
theorem d_MenuScreensModel_partAt_29 : decode prog_13_method_30_code 29 = .ok (.iaload, 1) := by decide +kernel
theorem d_MenuScreensModel_partAt_30 : decode prog_13_method_30_code 30 = .ok (.if_icmp .lt 11, 3) := by decide +kernel
theorem d_MenuScreensModel_partAt_33 : decode prog_13_method_30_code 33 = .ok (.aload_n 0, 1) := by decide +kernel
theorem d_MenuScreensModel_partAt_34 : decode prog_13_method_30_code 34 = .ok (.iload_n 1, 1) := by decide +kernel
theorem d_MenuScreensModel_partAt_35 : decode prog_13_method_30_code 35 = .ok (.invokevirtual 257, 3) := by decide +kernel
theorem d_MenuScreensModel_partAt_38 : decode prog_13_method_30_code 38 = .ok (.ifCond .ne 5, 3) := by decide +kernel
theorem d_MenuScreensModel_partAt_41 : decode prog_13_method_30_code 41 = .ok (.iconst (-1), 1) := by decide +kernel
theorem d_MenuScreensModel_partAt_42 : decode prog_13_method_30_code 42 = .ok (.ireturn, 1) := by decide +kernel
theorem d_MenuScreensModel_partAt_43 : decode prog_13_method_30_code 43 = .ok (.iload_n 3, 1) := by decide +kernel
theorem d_MenuScreensModel_partAt_44 : decode prog_13_method_30_code 44 = .ok (.aload_n 0, 1) := by decide +kernel
theorem d_MenuScreensModel_partAt_45 : decode prog_13_method_30_code 45 = .ok (.getfield 69, 3) := by decide +kernel
theorem d_MenuScreensModel_partAt_48 : decode prog_13_method_30_code 48 = .ok (.iload_n 1, 1) := by decide +kernel
theorem d_MenuScreensModel_partAt_49 : decode prog_13_method_30_code 49 = .ok (.iaload, 1) := by decide +kernel
theorem d_MenuScreensModel_partAt_50 : decode prog_13_method_30_code 50 = .ok (.isub, 1) := by decide +kernel
theorem d_MenuScreensModel_partAt_51 : decode prog_13_method_30_code 51 = .ok (.istore 4, 2) := by decide +kernel
theorem d_MenuScreensModel_partAt_53 : decode prog_13_method_30_code 53 = .ok (.aload_n 0, 1) := by decide +kernel
theorem d_MenuScreensModel_partAt_54 : decode prog_13_method_30_code 54 = .ok (.getfield 63, 3) := by decide +kernel
theorem d_MenuScreensModel_partAt_57 : decode prog_13_method_30_code 57 = .ok (.iload_n 1, 1) := by decide +kernel
theorem d_MenuScreensModel_partAt_58 : decode prog_13_method_30_code 58 = .ok (.iaload, 1) := by decide +kernel
theorem d_MenuScreensModel_partAt_59 : decode prog_13_method_30_code 59 = .ok (.iconst 2, 1) := by decide +kernel
theorem d_MenuScreensModel_partAt_60 : decode prog_13_method_30_code 60 = .ok (.if_icmp .ne 37, 3) := by decide +kernel
theorem d_MenuScreensModel_partAt_63 : decode prog_13_method_30_code 63 = .ok (.iload 4, 2) := by decide +kernel
theorem d_MenuScreensModel_partAt_65 : decode prog_13_method_30_code 65 = .ok (.aload_n 0, 1) := by decide +kernel
theorem d_MenuScreensModel_partAt_66 : decode prog_13_method_30_code 66 = .ok (.getfield 75, 3) := by decide +kernel
theorem d_MenuScreensModel_partAt_69 : decode prog_13_method_30_code 69 = .ok (.iload_n 1, 1) := by decide +kernel
theorem d_MenuScreensModel_partAt_70 : decode prog_13_method_30_code 70 = .ok (.iaload, 1) := by decide +kernel
theorem d_MenuScreensModel_partAt_71 : decode prog_13_method_30_code 71 = .ok (.if_icmp .ge 24, 3) := by decide +kernel
theorem d_MenuScreensModel_partAt_74 : decode prog_13_method_30_code 74 = .ok (.aload_n 0, 1) := by decide +kernel
theorem d_MenuScreensModel_partAt_75 : decode prog_13_method_30_code 75 = .ok (.aload_n 0, 1) := by decide +kernel
theorem d_MenuScreensModel_partAt_76 : decode prog_13_method_30_code 76 = .ok (.getfield 72, 3) := by decide +kernel
theorem d_MenuScreensModel_partAt_79 : decode prog_13_method_30_code 79 = .ok (.iload_n 1, 1) := by decide +kernel
theorem d_MenuScreensModel_partAt_80 : decode prog_13_method_30_code 80 = .ok (.iaload, 1) := by decide +kernel
theorem d_MenuScreensModel_partAt_81 : decode prog_13_method_30_code 81 = .ok (.aload_n 0, 1) := by decide +kernel
theorem d_MenuScreensModel_partAt_82 : decode prog_13_method_30_code 82 = .ok (.getfield 75, 3) := by decide +kernel
theorem d_MenuScreensModel_partAt_85 : decode prog_13_method_30_code 85 = .ok (.iload_n 1, 1) := by decide +kernel
theorem d_MenuScreensModel_partAt_86 : decode prog_13_method_30_code 86 = .ok (.iaload, 1) := by decide +kernel
theorem d_MenuScreensModel_partAt_87 : decode prog_13_method_30_code 87 = .ok (.iload 4, 2) := by decide +kernel
theorem d_MenuScreensModel_partAt_89 : decode prog_13_method_30_code 89 = .ok (.invokevirtual 260, 3) := by decide +kernel
theorem d_MenuScreensModel_partAt_92 : decode prog_13_method_30_code 92 = .ok (.goto 4, 3) := by decide +kernel
theorem d_MenuScreensModel_partAt_95 : decode prog_13_method_30_code 95 = .ok (.iconst (-1), 1) := by decide +kernel
theorem d_MenuScreensModel_partAt_96 : decode prog_13_method_30_code 96 = .ok (.ireturn, 1) := by decide +kernel
theorem d_MenuScreensModel_partAt_97 : decode prog_13_method_30_code 97 = .ok (.aload_n 0, 1) := by decide +kernel
theorem d_MenuScreensModel_partAt_98 : decode prog_13_method_30_code 98 = .ok (.getfield 87, 3) := by decide +kernel
theorem d_MenuScreensModel_partAt_101 : decode prog_13_method_30_code 101 = .ok (.iload_n 1, 1) := by decide +kernel
theorem d_MenuScreensModel_partAt_102 : decode prog_13_method_30_code 102 = .ok (.iaload, 1) := by decide +kernel
theorem d_MenuScreensModel_partAt_103 : decode prog_13_method_30_code 103 = .ok (.aload_n 0, 1) := by decide +kernel
theorem d_MenuScreensModel_partAt_104 : decode prog_13_method_30_code 104 = .ok (.getfield 84, 3) := by decide +kernel
theorem d_MenuScreensModel_partAt_107 : decode prog_13_method_30_code 107 = .ok (.iload_n 1, 1) := by decide +kernel
theorem d_MenuScreensModel_partAt_108 : decode prog_13_method_30_code 108 = .ok (.iaload, 1) := by decide +kernel
theorem d_MenuScreensModel_partAt_109 : decode prog_13_method_30_code 109 = .ok (.isub, 1) := by decide +kernel
theorem d_MenuScreensModel_partAt_110 : decode prog_13_method_30_code 110 = .ok (.iconst 1, 1) := by decide +kernel
theorem d_MenuScreensModel_partAt_111 : decode prog_13_method_30_code 111 = .ok (.if_icmp .ne 23, 3) := by decide +kernel
theorem d_MenuScreensModel_partAt_114 : decode prog_13_method_30_code 114 = .ok (.aload_n 0, 1) := by decide +kernel
theorem d_MenuScreensModel_partAt_115 : decode prog_13_method_30_code 115 = .ok (.getfield 13, 3) := by decide +kernel
theorem d_MenuScreensModel_partAt_118 : decode prog_13_method_30_code 118 = .ok (.aload_n 0, 1) := by decide +kernel
theorem d_MenuScreensModel_partAt_119 : decode prog_13_method_30_code 119 = .ok (.getfield 84, 3) := by decide +kernel
theorem d_MenuScreensModel_partAt_122 : decode prog_13_method_30_code 122 = .ok (.iload_n 1, 1) := by decide +kernel
theorem d_MenuScreensModel_partAt_123 : decode prog_13_method_30_code 123 = .ok (.iaload, 1) := by decide +kernel
theorem d_MenuScreensModel_partAt_124 : decode prog_13_method_30_code 124 = .ok (.iaload, 1) := by decide +kernel
theorem d_MenuScreensModel_partAt_125 : decode prog_13_method_30_code 125 = .ok (.bipush 45, 2) := by decide +kernel
theorem d_MenuScreensModel_partAt_127 : decode prog_13_method_30_code 127 = .ok (.if_icmp .ne 7, 3) := by decide +kernel
theorem d_MenuScreensModel_partAt_130 : decode prog_13_method_30_code 130 = .ok (.iconst 1, 1) := by decide +kernel
theorem d_MenuScreensModel_partAt_131 : decode prog_13_method_30_code 131 = .ok (.goto 4, 3) := by decide +kernel
theorem d_MenuScreensModel_partAt_134 : decode prog_13_method_30_code 134 = .ok (.iconst 0, 1) := by decide +kernel
theorem d_MenuScreensModel_partAt_135 : decode prog_13_method_30_code 135 = .ok (.istore 5, 2) := by decide +kernel
theorem d_MenuScreensModel_partAt_137 : decode prog_13_method_30_code 137 = .ok (.aload_n 0, 1) := by decide +kernel
theorem d_MenuScreensModel_partAt_138 : decode prog_13_method_30_code 138 = .ok (.getfield 63, 3) := by decide +kernel
theorem d_MenuScreensModel_partAt_141 : decode prog_13_method_30_code 141 = .ok (.iload_n 1, 1) := by decide +kernel
theorem d_MenuScreensModel_partAt_142 : decode prog_13_method_30_code 142 = .ok (.iaload, 1) := by decide +kernel
theorem d_MenuScreensModel_partAt_143 : decode prog_13_method_30_code 143 = .ok (.iconst 1, 1) := by decide +kernel
theorem d_MenuScreensModel_partAt_144 : decode prog_13_method_30_code 144 = .ok (.if_icmp .ne 20, 3) := by decide +kernel
theorem d_MenuScreensModel_partAt_147 : decode prog_13_method_30_code 147 = .ok (.aload_n 0, 1) := by decide +kernel
theorem d_MenuScreensModel_partAt_148 : decode prog_13_method_30_code 148 = .ok (.getfield 264, 3) := by decide +kernel
theorem d_MenuScreensModel_partAt_151 : decode prog_13_method_30_code 151 = .ok (.iconst 1, 1) := by decide +kernel
theorem d_MenuScreensModel_partAt_152 : decode prog_13_method_30_code 152 = .ok (.if_icmp .ne 12, 3) := by decide +kernel
theorem d_MenuScreensModel_partAt_155 : decode prog_13_method_30_code 155 = .ok (.iload 5, 2) := by decide +kernel
theorem d_MenuScreensModel_partAt_157 : decode prog_13_method_30_code 157 = .ok (.ifCond .ne 7, 3) := by decide +kernel
theorem d_MenuScreensModel_partAt_160 : decode prog_13_method_30_code 160 = .ok (.iconst 1, 1) := by decide +kernel
theorem d_MenuScreensModel_partAt_161 : decode prog_13_method_30_code 161 = .ok (.goto 4, 3) := by decide +kernel
theorem d_MenuScreensModel_partAt_164 : decode prog_13_method_30_code 164 = .ok (.iconst 0, 1) := by decide +kernel
theorem d_MenuScreensModel_partAt_165 : decode prog_13_method_30_code 165 = .ok (.istore 6, 2) := by decide +kernel
theorem d_MenuScreensModel_partAt_167 : decode prog_13_method_30_code 167 = .ok (.iload 6, 2) := by decide +kernel
theorem d_MenuScreensModel_partAt_169 : decode prog_13_method_30_code 169 = .ok (.ifCond .eq 12, 3) := by decide +kernel
theorem d_MenuScreensModel_partAt_172 : decode prog_13_method_30_code 172 = .ok (.aload_n 0, 1) := by decide +kernel
theorem d_MenuScreensModel_partAt_173 : decode prog_13_method_30_code 173 = .ok (.getfield 84, 3) := by decide +kernel
theorem d_MenuScreensModel_partAt_176 : decode prog_13_method_30_code 176 = .ok (.iload_n 1, 1) := by decide +kernel
theorem d_MenuScreensModel_partAt_177 : decode prog_13_method_30_code 177 = .ok (.iaload, 1) := by decide +kernel
theorem d_MenuScreensModel_partAt_178 : decode prog_13_method_30_code 178 = .ok (.goto 9, 3) := by decide +kernel
theorem d_MenuScreensModel_partAt_181 : decode prog_13_method_30_code 181 = .ok (.aload_n 0, 1) := by decide +kernel
theorem d_MenuScreensModel_partAt_182 : decode prog_13_method_30_code 182 = .ok (.getfield 78, 3) := by decide +kernel
theorem d_MenuScreensModel_partAt_185 : decode prog_13_method_30_code 185 = .ok (.iload_n 1, 1) := by decide +kernel
theorem d_MenuScreensModel_partAt_186 : decode prog_13_method_30_code 186 = .ok (.iaload, 1) := by decide +kernel
theorem d_MenuScreensModel_partAt_187 : decode prog_13_method_30_code 187 = .ok (.istore 7, 2) := by decide +kernel
theorem d_MenuScreensModel_partAt_189 : decode prog_13_method_30_code 189 = .ok (.iload 6, 2) := by decide +kernel
theorem d_MenuScreensModel_partAt_191 : decode prog_13_method_30_code 191 = .ok (.ifCond .eq 12, 3) := by decide +kernel
theorem d_MenuScreensModel_partAt_194 : decode prog_13_method_30_code 194 = .ok (.aload_n 0, 1) := by decide +kernel
theorem d_MenuScreensModel_partAt_195 : decode prog_13_method_30_code 195 = .ok (.getfield 87, 3) := by decide +kernel
theorem d_MenuScreensModel_partAt_198 : decode prog_13_method_30_code 198 = .ok (.iload_n 1, 1) := by decide +kernel
theorem d_MenuScreensModel_partAt_199 : decode prog_13_method_30_code 199 = .ok (.iaload, 1) := by decide +kernel
theorem d_MenuScreensModel_partAt_200 : decode prog_13_method_30_code 200 = .ok (.goto 9, 3) := by decide +kernel
theorem d_MenuScreensModel_partAt_203 : decode prog_13_method_30_code 203 = .ok (.aload_n 0, 1) := by decide +kernel
theorem d_MenuScreensModel_partAt_204 : decode prog_13_method_30_code 204 = .ok (.getfield 81, 3) := by decide +kernel
theorem d_MenuScreensModel_partAt_207 : decode prog_13_method_30_code 207 = .ok (.iload_n 1, 1) := by decide +kernel
theorem d_MenuScreensModel_partAt_208 : decode prog_13_method_30_code 208 = .ok (.iaload, 1) := by decide +kernel
theorem d_MenuScreensModel_partAt_209 : decode prog_13_method_30_code 209 = .ok (.istore 8, 2) := by decide +kernel
theorem d_MenuScreensModel_partAt_211 : decode prog_13_method_30_code 211 = .ok (.iload 4, 2) := by decide +kernel
theorem d_MenuScreensModel_partAt_213 : decode prog_13_method_30_code 213 = .ok (.iload 8, 2) := by decide +kernel
theorem d_MenuScreensModel_partAt_215 : decode prog_13_method_30_code 215 = .ok (.iload 7, 2) := by decide +kernel
theorem d_MenuScreensModel_partAt_217 : decode prog_13_method_30_code 217 = .ok (.isub, 1) := by decide +kernel
theorem d_MenuScreensModel_partAt_218 : decode prog_13_method_30_code 218 = .ok (.if_icmp .ge 16, 3) := by decide +kernel
theorem d_MenuScreensModel_partAt_221 : decode prog_13_method_30_code 221 = .ok (.aload_n 0, 1) := by decide +kernel
theorem d_MenuScreensModel_partAt_222 : decode prog_13_method_30_code 222 = .ok (.getfield 13, 3) := by decide +kernel
theorem d_MenuScreensModel_partAt_225 : decode prog_13_method_30_code 225 = .ok (.iload 7, 2) := by decide +kernel
theorem d_MenuScreensModel_partAt_227 : decode prog_13_method_30_code 227 = .ok (.iload 4, 2) := by decide +kernel
theorem d_MenuScreensModel_partAt_229 : decode prog_13_method_30_code 229 = .ok (.iadd, 1) := by decide +kernel
theorem d_MenuScreensModel_partAt_230 : decode prog_13_method_30_code 230 = .ok (.iaload, 1) := by decide +kernel
theorem d_MenuScreensModel_partAt_231 : decode prog_13_method_30_code 231 = .ok (.goto 4, 3) := by decide +kernel
theorem d_MenuScreensModel_partAt_234 : decode prog_13_method_30_code 234 = .ok (.iconst (-1), 1) := by decide +kernel
theorem d_MenuScreensModel_partAt_235 : decode prog_13_method_30_code 235 = .ok (.ireturn, 1) := by decide +kernel
set_option maxRecDepth 100000 in
set_option maxHeartbeats 4000000 in
theorem cm_MenuScreensModel_partAt {l : Launch} {S0 : State} {b : Nat} {D : va_G} {dT : Nat → ClassId} (hE : vEnv S0 b D dT) {h0 : vH} {a : Nat} {ar : Nat → Nat} {x : Nat → Int32} {y : Nat → Int64} {A : Nat → Nat → Int32} {B : Nat → Nat → Int64} (M : MV S0 dT h0 a ar x y A B) (p1 : Int32) (p2 : Int32) (p3 : Int32) {p0 co nc : Nat} (h1 : p1 = nI p0) (hp0 : p0 < 512) (h3 : p3 = nI co) (hco : co ≤ 100) (hP : ptOK A B p0) (hnc : x 39 = nI nc) (hnc2 : nc ≤ 512) (hV : ∀ c, c < nc → ∃ v, A 42 c = nI v ∧ v ≤ 40) : vMi l S0 D vcl GT y_MenuScreensModel_partAt prog_13_method_30_code 9 (some .int) 1 45 0 0 [.ref a, .int p1, .int p2, .int p3] h0 (fun r h' => h' = h0 ∧ r = ptV A B (x 45) (x 46) nc p0 p2 co) := by
  unfold vMi
  refine vM_ofQ hE.1 (by decide) (Nat.le_of_ble_eq_true rfl) (fun p e s m args below meth c ls Q hQ C hr hlk hnm X hl => ?_)
  have C : vC p s m _ c _ _ "MenuScreensModel" GT D vcl (vty dT) := C
  have hx := C.1.1
  have hb := C.1.2.1
  replace M := MR.of M
  obtain ⟨H, eH⟩ : ∃ z, z = s.heap := ⟨_, rfl⟩
  obtain ⟨locs, elocs⟩ : ∃ z : List Loc, z = [] := ⟨_, rfl⟩
  rw [← eH, ← elocs] at X
  rw [← eH, ← elocs]
  clear eH elocs
  have hl : lv_has ls 9 [(0, .ref a), (1, .int p1), (2, .int p2), (3, .int p3)] := hl
  obtain ⟨⟨c0, ec0, hc0⟩, hk2, hkw⟩ := hP
  have ecl : (A 32 p0).toNatClampNeg = c0 := by rw [ec0]; exact nI_clamp (by omega)
  refine lv_aload_n hx hb d_MenuScreensModel_partAt_0 rfl (lv_at hl 0 rfl) ?_
  refine mm_get C X M 29 f_12_60_13 (.ref (ar 29)) rfl d_MenuScreensModel_partAt_1 ?_
  refine lv_iload_n hx hb d_MenuScreensModel_partAt_4 rfl (lv_at hl 1 rfl) ?_
  refine mm_iald C X M 29 512 rfl (A 29) rfl (by decide) p0 h1 (by omega) d_MenuScreensModel_partAt_5 ?_
  refine lv_aload_n hx hb d_MenuScreensModel_partAt_6 rfl (lv_at hl 0 rfl) ?_
  refine mm_get C X M 45 f_12_245_13 (.int (x 45)) rfl d_MenuScreensModel_partAt_7 ?_
  refine lv_icmp_ne (tgt := 41) hx hb d_MenuScreensModel_partAt_10 (by decide) (fun c1 => ?_) (fun c1 => ?_)
  · skip
    refine lv_iconst (v := (-1)) hx hb d_MenuScreensModel_partAt_41 (by decide) ?_
    exact mq_iret hQ C X hr rfl hlk (⟨rfl, by rw [ptV, if_neg (fun z => c1 z.1.1)]⟩) (Nat.le_refl _) (Nat.le_refl _) d_MenuScreensModel_partAt_42
  · skip
    refine lv_aload_n hx hb d_MenuScreensModel_partAt_13 rfl (lv_at hl 0 rfl) ?_
    refine mm_get C X M 31 f_12_66_13 (.ref (ar 31)) rfl d_MenuScreensModel_partAt_14 ?_
    refine lv_iload_n hx hb d_MenuScreensModel_partAt_17 rfl (lv_at hl 1 rfl) ?_
    refine mm_iald C X M 31 512 rfl (A 31) rfl (by decide) p0 h1 (by omega) d_MenuScreensModel_partAt_18 ?_
    refine lv_iload_n hx hb d_MenuScreensModel_partAt_19 rfl (lv_at hl 2 rfl) ?_
    refine lv_icmp_ne (tgt := 41) hx hb d_MenuScreensModel_partAt_20 (by decide) (fun c2 => ?_) (fun c2 => ?_)
    · skip
      refine lv_iconst (v := (-1)) hx hb d_MenuScreensModel_partAt_41 (by decide) ?_
      exact mq_iret hQ C X hr rfl hlk (⟨rfl, by rw [ptV, if_neg (fun z => c2 z.1.2.1)]⟩) (Nat.le_refl _) (Nat.le_refl _) d_MenuScreensModel_partAt_42
    · skip
      refine lv_iload_n hx hb d_MenuScreensModel_partAt_23 rfl (lv_at hl 3 rfl) ?_
      refine lv_aload_n hx hb d_MenuScreensModel_partAt_24 rfl (lv_at hl 0 rfl) ?_
      refine mm_get C X M 32 f_12_69_13 (.ref (ar 32)) rfl d_MenuScreensModel_partAt_25 ?_
      refine lv_iload_n hx hb d_MenuScreensModel_partAt_28 rfl (lv_at hl 1 rfl) ?_
      refine mm_iald C X M 32 512 rfl (A 32) rfl (by decide) p0 h1 (by omega) d_MenuScreensModel_partAt_29 ?_
      refine lv_icmp_lt (tgt := 41) hx hb d_MenuScreensModel_partAt_30 (by decide) (fun c3 => ?_) (fun c3 => ?_)
      · skip
        refine lv_iconst (v := (-1)) hx hb d_MenuScreensModel_partAt_41 (by decide) ?_
        exact mq_iret hQ C X hr rfl hlk (⟨rfl, by rw [ptV, if_neg (fun z => absurd (by rw [h3, ec0, ← ecl]; exact nI_le z.1.2.2 (by omega)) (Int32.not_le.mpr c3))]⟩) (Nat.le_refl _) (Nat.le_refl _) d_MenuScreensModel_partAt_42
      · skip
        refine lv_aload_n hx hb d_MenuScreensModel_partAt_33 rfl (lv_at hl 0 rfl) ?_
        refine lv_iload_n hx hb d_MenuScreensModel_partAt_34 rfl (lv_at hl 1 rfl) ?_
        have hcc : c0 ≤ co := (nI_leI (by omega) (by omega)).mp (by rw [← ec0, ← h3]; exact Int32.not_lt.mp c3)
        refine mv_bi X (mv_rV (rest := []) (As := [.int p1]) gt_good C X k_12_257 (cm_MenuScreensModel_holds hE M.1 _ (n := nc) hnc hnc2 hV) M.1.1 rfl rfl ⟨by decide, by decide⟩ rfl hl.1 rfl (by decide) d_MenuScreensModel_partAt_35 ⟨Nat.le_refl _, Nat.le_refl _⟩) (fun r4 hN H locs hp X => ?_)
        obtain ⟨ehr4, er4⟩ := hp
        rw [ehr4] at X
        rw [h1] at er4
        refine lv_if_ne (tgt := 43) hx hb d_MenuScreensModel_partAt_38 (by decide) (fun c5 => ?_) (fun c5 => ?_)
        · skip
          have hH := bI_n (fun z => c5 (er4.trans z))
          have e4 : p3 - A 32 p0 = nI (co - c0) := by rw [h3, ec0]; exact nI_sub hcc
          have hC : (A 29 p0 = x 45 ∧ A 31 p0 = p2 ∧ (A 32 p0).toNatClampNeg ≤ co) ∧ allB (fun c => decide (¬ A 41 c = nI p0) || cnB A B c) nc = true := ⟨⟨c1, c2, by rw [ecl]; exact hcc⟩, hH⟩
          refine lv_iload_n hx hb d_MenuScreensModel_partAt_43 rfl (lv_at hl 3 rfl) ?_
          refine lv_aload_n hx hb d_MenuScreensModel_partAt_44 rfl (lv_at hl 0 rfl) ?_
          refine mm_get C X M 32 f_12_69_13 (.ref (ar 32)) rfl d_MenuScreensModel_partAt_45 ?_
          refine lv_iload_n hx hb d_MenuScreensModel_partAt_48 rfl (lv_at hl 1 rfl) ?_
          refine mm_iald C X M 32 512 rfl (A 32) rfl (by decide) p0 h1 (by omega) d_MenuScreensModel_partAt_49 ?_
          refine lv_isub hx hb d_MenuScreensModel_partAt_50 ?_
          refine lv_istore (lv' := [(4, .int (p3 - ((A 32) p0))), (0, .ref a), (1, .int p1), (2, .int p2), (3, .int p3)]) hx hb d_MenuScreensModel_partAt_51 hl (by decide) rfl (fun ls hl => ?_)
          refine lv_aload_n hx hb d_MenuScreensModel_partAt_53 rfl (lv_at hl 1 rfl) ?_
          refine mm_get C X M 30 f_12_63_13 (.ref (ar 30)) rfl d_MenuScreensModel_partAt_54 ?_
          refine lv_iload_n hx hb d_MenuScreensModel_partAt_57 rfl (lv_at hl 2 rfl) ?_
          refine mm_iald C X M 30 512 rfl (A 30) rfl (by decide) p0 h1 (by omega) d_MenuScreensModel_partAt_58 ?_
          refine lv_iconst (v := 2) hx hb d_MenuScreensModel_partAt_59 (by decide) ?_
          refine lv_icmp_ne (tgt := 97) hx hb d_MenuScreensModel_partAt_60 (by decide) (fun c6 => ?_) (fun c6 => ?_)
          · skip
            obtain ⟨q1, q2, q3, q4, eq1, eq2, hq12, hq2, eq3, eq4, hq34, hq4⟩ := hkw c6
            have k1 : (A 35 p0).toNatClampNeg = q1 := by rw [eq1]; exact nI_clamp (by omega)
            have k2 : (A 36 p0).toNatClampNeg = q2 := by rw [eq2]; exact nI_clamp (by omega)
            have k3 : (A 37 p0).toNatClampNeg = q3 := by rw [eq3]; exact nI_clamp (by omega)
            have k4 : (A 38 p0).toNatClampNeg = q4 := by rw [eq4]; exact nI_clamp (by omega)
            obtain ⟨bd, hbd⟩ : ∃ z, z = (decide (q4 - q3 = 1) && decide (A 6 q3 = 45)) := ⟨_, rfl⟩
            obtain ⟨bs, hbs⟩ : ∃ z, z = scB A (x 46) p0 := ⟨_, rfl⟩
            have ed : A 38 p0 - A 37 p0 = nI (q4 - q3) := by rw [eq4, eq3]; exact nI_sub hq34
            have hbs2 : bs = (decide (A 30 p0 = 1) && (decide (x 46 = 1) && !bd)) := by rw [hbs, scB, k3, k4, ← hbd]
            have hPV : ptV A B (x 45) (x 46) nc p0 p2 co = wdV A (x 46) p0 (co - c0) := by rw [ptV, if_pos hC, if_neg c6, ecl]
            have j165 : ∀ (ls : Array Slot) (H : Heap) (locs : List Loc), vO S0 D vcl h0 s H locs → lv_has ls 9 [(0, .ref a), (1, .int p1), (2, .int p2), (3, .int p3), (4, .int (p3 - (A 32 p0)))] → W p l e (vRm 1 45 0 0) s m args below meth c H locs 0 0 Q (F0 m 165 ls [.int (bI bs)]) := by
              intro  ls H locs  X hl
              refine lv_istore (lv' := [(6, .int (bI bs)), (0, .ref a), (1, .int p1), (2, .int p2), (3, .int p3), (4, .int (p3 - (A 32 p0)))]) hx hb d_MenuScreensModel_partAt_165 hl (by decide) rfl (fun ls hl => ?_)
              refine lv_iload hx hb d_MenuScreensModel_partAt_167 (lv_at hl 0 rfl) ?_
              refine lv_if_eq (tgt := 181) hx hb d_MenuScreensModel_partAt_169 (by decide) (fun c7 => ?_) (fun c7 => ?_)
              · skip
                refine lv_aload_n hx hb d_MenuScreensModel_partAt_181 rfl (lv_at hl 1 rfl) ?_
                refine mm_get C X M 35 f_12_78_13 (.ref (ar 35)) rfl d_MenuScreensModel_partAt_182 ?_
                refine lv_iload_n hx hb d_MenuScreensModel_partAt_185 rfl (lv_at hl 2 rfl) ?_
                refine mm_iald C X M 35 512 rfl (A 35) rfl (by decide) p0 h1 (by omega) d_MenuScreensModel_partAt_186 ?_
                refine lv_istore (lv' := [(7, .int ((A 35) p0)), (6, .int (bI bs)), (0, .ref a), (1, .int p1), (2, .int p2), (3, .int p3), (4, .int (p3 - (A 32 p0)))]) hx hb d_MenuScreensModel_partAt_187 hl (by decide) rfl (fun ls hl => ?_)
                refine lv_iload hx hb d_MenuScreensModel_partAt_189 (lv_at hl 1 rfl) ?_
                refine lv_if_eq (tgt := 203) hx hb d_MenuScreensModel_partAt_191 (by decide) (fun c8 => ?_) (fun z => absurd c7 z)
                refine lv_aload_n hx hb d_MenuScreensModel_partAt_203 rfl (lv_at hl 2 rfl) ?_
                refine mm_get C X M 36 f_12_81_13 (.ref (ar 36)) rfl d_MenuScreensModel_partAt_204 ?_
                refine lv_iload_n hx hb d_MenuScreensModel_partAt_207 rfl (lv_at hl 3 rfl) ?_
                refine mm_iald C X M 36 512 rfl (A 36) rfl (by decide) p0 h1 (by omega) d_MenuScreensModel_partAt_208 ?_
                refine lv_istore (lv' := [(8, .int ((A 36) p0)), (7, .int ((A 35) p0)), (6, .int (bI bs)), (0, .ref a), (1, .int p1), (2, .int p2), (3, .int p3), (4, .int (p3 - (A 32 p0)))]) hx hb d_MenuScreensModel_partAt_209 hl (by decide) rfl (fun ls hl => ?_)
                have ebs : bs = false := bI_0 c7
                have eab : ((A 36) p0) - ((A 35) p0) = nI (q2 - q1) := by rw [eq2, eq1]; exact nI_sub (by omega)
                have eai : ((A 35) p0) + (p3 - A 32 p0) = nI (q1 + (co - c0)) := by rw [eq1, e4]; exact nI_add _ _
                refine lv_iload hx hb d_MenuScreensModel_partAt_211 (lv_at hl 7 rfl) ?_
                refine lv_iload hx hb d_MenuScreensModel_partAt_213 (lv_at hl 0 rfl) ?_
                refine lv_iload hx hb d_MenuScreensModel_partAt_215 (lv_at hl 1 rfl) ?_
                refine lv_isub hx hb d_MenuScreensModel_partAt_217 ?_
                refine lv_icmp_ge (tgt := 234) hx hb d_MenuScreensModel_partAt_218 (by decide) (fun c9 => ?_) (fun c9 => ?_)
                · skip
                  refine lv_iconst (v := (-1)) hx hb d_MenuScreensModel_partAt_234 (by decide) ?_
                  exact mq_iret hQ C X hr rfl hlk (⟨rfl, by
                      rw [hPV, wdV, ← hbs, ebs, if_neg (by decide)]
                      rw [k1, k2]
                      rw [if_neg (fun z => absurd (by rw [eab, e4]; exact nI_lt z (by omega)) (Int32.not_lt.mpr c9))]⟩) (Nat.le_refl _) (Nat.le_refl _) d_MenuScreensModel_partAt_235
                · skip
                  have hlt : co - c0 < q2 - q1 := by
                    rcases Nat.lt_or_ge (co - c0) (q2 - q1) with q | q
                    · exact q
                    · exact absurd (by rw [eab, e4]; exact nI_le q (by omega)) c9
                  refine lv_aload_n hx hb d_MenuScreensModel_partAt_221 rfl (lv_at hl 3 rfl) ?_
                  refine mm_get C X M 6 f_12_13_13 (.ref (ar 6)) rfl d_MenuScreensModel_partAt_222 ?_
                  refine lv_iload hx hb d_MenuScreensModel_partAt_225 (lv_at hl 1 rfl) ?_
                  refine lv_iload hx hb d_MenuScreensModel_partAt_227 (lv_at hl 7 rfl) ?_
                  refine lv_iadd hx hb d_MenuScreensModel_partAt_229 ?_
                  refine mm_iald C X M 6 4000 rfl (A 6) rfl (by decide) (q1 + (co - c0)) eai (by omega) d_MenuScreensModel_partAt_230 ?_
                  refine lv_goto (tgt := 235) hx hb d_MenuScreensModel_partAt_231 (by decide) ?_
                  exact mq_iret hQ C X hr rfl hlk (⟨rfl, by
                      rw [hPV, wdV, ← hbs, ebs, if_neg (by decide)]
                      rw [k1, k2]
                      rw [if_pos hlt]⟩) (Nat.le_refl _) (Nat.le_refl _) d_MenuScreensModel_partAt_235
              · skip
                refine lv_aload_n hx hb d_MenuScreensModel_partAt_172 rfl (lv_at hl 1 rfl) ?_
                refine mm_get C X M 37 f_12_84_13 (.ref (ar 37)) rfl d_MenuScreensModel_partAt_173 ?_
                refine lv_iload_n hx hb d_MenuScreensModel_partAt_176 rfl (lv_at hl 2 rfl) ?_
                refine mm_iald C X M 37 512 rfl (A 37) rfl (by decide) p0 h1 (by omega) d_MenuScreensModel_partAt_177 ?_
                refine lv_goto (tgt := 187) hx hb d_MenuScreensModel_partAt_178 (by decide) ?_
                refine lv_istore (lv' := [(7, .int ((A 37) p0)), (6, .int (bI bs)), (0, .ref a), (1, .int p1), (2, .int p2), (3, .int p3), (4, .int (p3 - (A 32 p0)))]) hx hb d_MenuScreensModel_partAt_187 hl (by decide) rfl (fun ls hl => ?_)
                refine lv_iload hx hb d_MenuScreensModel_partAt_189 (lv_at hl 1 rfl) ?_
                refine lv_if_eq (tgt := 203) hx hb d_MenuScreensModel_partAt_191 (by decide) (fun z => absurd z c7) (fun c10 => ?_)
                refine lv_aload_n hx hb d_MenuScreensModel_partAt_194 rfl (lv_at hl 2 rfl) ?_
                refine mm_get C X M 38 f_12_87_13 (.ref (ar 38)) rfl d_MenuScreensModel_partAt_195 ?_
                refine lv_iload_n hx hb d_MenuScreensModel_partAt_198 rfl (lv_at hl 3 rfl) ?_
                refine mm_iald C X M 38 512 rfl (A 38) rfl (by decide) p0 h1 (by omega) d_MenuScreensModel_partAt_199 ?_
                refine lv_goto (tgt := 209) hx hb d_MenuScreensModel_partAt_200 (by decide) ?_
                refine lv_istore (lv' := [(8, .int ((A 38) p0)), (7, .int ((A 37) p0)), (6, .int (bI bs)), (0, .ref a), (1, .int p1), (2, .int p2), (3, .int p3), (4, .int (p3 - (A 32 p0)))]) hx hb d_MenuScreensModel_partAt_209 hl (by decide) rfl (fun ls hl => ?_)
                have ebs : bs = true := bI_n c7
                have eab : ((A 38) p0) - ((A 37) p0) = nI (q4 - q3) := by rw [eq4, eq3]; exact nI_sub (by omega)
                have eai : ((A 37) p0) + (p3 - A 32 p0) = nI (q3 + (co - c0)) := by rw [eq3, e4]; exact nI_add _ _
                refine lv_iload hx hb d_MenuScreensModel_partAt_211 (lv_at hl 7 rfl) ?_
                refine lv_iload hx hb d_MenuScreensModel_partAt_213 (lv_at hl 0 rfl) ?_
                refine lv_iload hx hb d_MenuScreensModel_partAt_215 (lv_at hl 1 rfl) ?_
                refine lv_isub hx hb d_MenuScreensModel_partAt_217 ?_
                refine lv_icmp_ge (tgt := 234) hx hb d_MenuScreensModel_partAt_218 (by decide) (fun c11 => ?_) (fun c11 => ?_)
                · skip
                  refine lv_iconst (v := (-1)) hx hb d_MenuScreensModel_partAt_234 (by decide) ?_
                  exact mq_iret hQ C X hr rfl hlk (⟨rfl, by
                      rw [hPV, wdV, ← hbs, ebs, if_pos rfl]
                      rw [k3, k4]
                      rw [if_neg (fun z => absurd (by rw [eab, e4]; exact nI_lt z (by omega)) (Int32.not_lt.mpr c11))]⟩) (Nat.le_refl _) (Nat.le_refl _) d_MenuScreensModel_partAt_235
                · skip
                  have hlt : co - c0 < q4 - q3 := by
                    rcases Nat.lt_or_ge (co - c0) (q4 - q3) with q | q
                    · exact q
                    · exact absurd (by rw [eab, e4]; exact nI_le q (by omega)) c11
                  refine lv_aload_n hx hb d_MenuScreensModel_partAt_221 rfl (lv_at hl 3 rfl) ?_
                  refine mm_get C X M 6 f_12_13_13 (.ref (ar 6)) rfl d_MenuScreensModel_partAt_222 ?_
                  refine lv_iload hx hb d_MenuScreensModel_partAt_225 (lv_at hl 1 rfl) ?_
                  refine lv_iload hx hb d_MenuScreensModel_partAt_227 (lv_at hl 7 rfl) ?_
                  refine lv_iadd hx hb d_MenuScreensModel_partAt_229 ?_
                  refine mm_iald C X M 6 4000 rfl (A 6) rfl (by decide) (q3 + (co - c0)) eai (by omega) d_MenuScreensModel_partAt_230 ?_
                  refine lv_goto (tgt := 235) hx hb d_MenuScreensModel_partAt_231 (by decide) ?_
                  exact mq_iret hQ C X hr rfl hlk (⟨rfl, by
                      rw [hPV, wdV, ← hbs, ebs, if_pos rfl]
                      rw [k3, k4]
                      rw [if_pos hlt]⟩) (Nat.le_refl _) (Nat.le_refl _) d_MenuScreensModel_partAt_235
            have j135 : ∀ (ls : Array Slot) (H : Heap) (locs : List Loc), vO S0 D vcl h0 s H locs → lv_has ls 9 [(0, .ref a), (1, .int p1), (2, .int p2), (3, .int p3), (4, .int (p3 - (A 32 p0)))] → W p l e (vRm 1 45 0 0) s m args below meth c H locs 0 0 Q (F0 m 135 ls [.int (bI bd)]) := by
              intro  ls H locs  X hl
              refine lv_istore (lv' := [(5, .int (bI bd)), (0, .ref a), (1, .int p1), (2, .int p2), (3, .int p3), (4, .int (p3 - (A 32 p0)))]) hx hb d_MenuScreensModel_partAt_135 hl (by decide) rfl (fun ls hl => ?_)
              refine lv_aload_n hx hb d_MenuScreensModel_partAt_137 rfl (lv_at hl 1 rfl) ?_
              refine mm_get C X M 30 f_12_63_13 (.ref (ar 30)) rfl d_MenuScreensModel_partAt_138 ?_
              refine lv_iload_n hx hb d_MenuScreensModel_partAt_141 rfl (lv_at hl 2 rfl) ?_
              refine mm_iald C X M 30 512 rfl (A 30) rfl (by decide) p0 h1 (by omega) d_MenuScreensModel_partAt_142 ?_
              refine lv_iconst (v := 1) hx hb d_MenuScreensModel_partAt_143 (by decide) ?_
              refine lv_icmp_ne (tgt := 164) hx hb d_MenuScreensModel_partAt_144 (by decide) (fun c12 => ?_) (fun c12 => ?_)
              · skip
                refine lv_iconst (v := 0) hx hb d_MenuScreensModel_partAt_164 (by decide) ?_
                rw [show (0 : Int32) = bI bs by rw [hbs2, decide_eq_false c12]; rfl]
                exact j165 ls _ _ X (lv_sub hl [1, 2, 3, 4, 5] rfl)
              · skip
                refine lv_aload_n hx hb d_MenuScreensModel_partAt_147 rfl (lv_at hl 1 rfl) ?_
                refine mm_get C X M 46 f_12_264_13 (.int (x 46)) rfl d_MenuScreensModel_partAt_148 ?_
                refine lv_iconst (v := 1) hx hb d_MenuScreensModel_partAt_151 (by decide) ?_
                refine lv_icmp_ne (tgt := 164) hx hb d_MenuScreensModel_partAt_152 (by decide) (fun c13 => ?_) (fun c13 => ?_)
                · skip
                  refine lv_iconst (v := 0) hx hb d_MenuScreensModel_partAt_164 (by decide) ?_
                  rw [show (0 : Int32) = bI bs by rw [hbs2, decide_eq_true c12, decide_eq_false c13]; rfl]
                  exact j165 ls _ _ X (lv_sub hl [1, 2, 3, 4, 5] rfl)
                · skip
                  refine lv_iload hx hb d_MenuScreensModel_partAt_155 (lv_at hl 0 rfl) ?_
                  refine lv_if_ne (tgt := 164) hx hb d_MenuScreensModel_partAt_157 (by decide) (fun c14 => ?_) (fun c14 => ?_)
                  · skip
                    refine lv_iconst (v := 0) hx hb d_MenuScreensModel_partAt_164 (by decide) ?_
                    rw [show (0 : Int32) = bI bs by rw [hbs2, decide_eq_true c12, decide_eq_true c13, bI_n c14]; rfl]
                    exact j165 ls _ _ X (lv_sub hl [1, 2, 3, 4, 5] rfl)
                  · skip
                    refine lv_iconst (v := 1) hx hb d_MenuScreensModel_partAt_160 (by decide) ?_
                    refine lv_goto (tgt := 165) hx hb d_MenuScreensModel_partAt_161 (by decide) ?_
                    rw [show (1 : Int32) = bI bs by rw [hbs2, decide_eq_true c12, decide_eq_true c13, bI_0 c14]; rfl]
                    exact j165 ls _ _ X (lv_sub hl [1, 2, 3, 4, 5] rfl)
            refine lv_aload_n hx hb d_MenuScreensModel_partAt_97 rfl (lv_at hl 1 rfl) ?_
            refine mm_get C X M 38 f_12_87_13 (.ref (ar 38)) rfl d_MenuScreensModel_partAt_98 ?_
            refine lv_iload_n hx hb d_MenuScreensModel_partAt_101 rfl (lv_at hl 2 rfl) ?_
            refine mm_iald C X M 38 512 rfl (A 38) rfl (by decide) p0 h1 (by omega) d_MenuScreensModel_partAt_102 ?_
            refine lv_aload_n hx hb d_MenuScreensModel_partAt_103 rfl (lv_at hl 1 rfl) ?_
            refine mm_get C X M 37 f_12_84_13 (.ref (ar 37)) rfl d_MenuScreensModel_partAt_104 ?_
            refine lv_iload_n hx hb d_MenuScreensModel_partAt_107 rfl (lv_at hl 2 rfl) ?_
            refine mm_iald C X M 37 512 rfl (A 37) rfl (by decide) p0 h1 (by omega) d_MenuScreensModel_partAt_108 ?_
            refine lv_isub hx hb d_MenuScreensModel_partAt_109 ?_
            refine lv_iconst (v := 1) hx hb d_MenuScreensModel_partAt_110 (by decide) ?_
            refine lv_icmp_ne (tgt := 134) hx hb d_MenuScreensModel_partAt_111 (by decide) (fun c15 => ?_) (fun c15 => ?_)
            · skip
              refine lv_iconst (v := 0) hx hb d_MenuScreensModel_partAt_134 (by decide) ?_
              rw [show (0 : Int32) = bI bd by rw [hbd, decide_eq_false (fun z => c15 (by rw [ed, z]; rfl))]; rfl]
              exact j135 ls _ _ X (lv_sub hl [1, 2, 3, 4, 0] rfl)
            · skip
              refine lv_aload_n hx hb d_MenuScreensModel_partAt_114 rfl (lv_at hl 1 rfl) ?_
              refine mm_get C X M 6 f_12_13_13 (.ref (ar 6)) rfl d_MenuScreensModel_partAt_115 ?_
              refine lv_aload_n hx hb d_MenuScreensModel_partAt_118 rfl (lv_at hl 1 rfl) ?_
              refine mm_get C X M 37 f_12_84_13 (.ref (ar 37)) rfl d_MenuScreensModel_partAt_119 ?_
              refine lv_iload_n hx hb d_MenuScreensModel_partAt_122 rfl (lv_at hl 2 rfl) ?_
              refine mm_iald C X M 37 512 rfl (A 37) rfl (by decide) p0 h1 (by omega) d_MenuScreensModel_partAt_123 ?_
              refine mm_iald C X M 6 4000 rfl (A 6) rfl (by decide) q3 eq3 (by have := nI_eqI (a := q4 - q3) (b := 1) (by omega) (by decide) (by rw [← ed]; assumption); omega) d_MenuScreensModel_partAt_124 ?_
              refine lv_bipush (v := 45) hx hb d_MenuScreensModel_partAt_125 (by decide) ?_
              refine lv_icmp_ne (tgt := 134) hx hb d_MenuScreensModel_partAt_127 (by decide) (fun c16 => ?_) (fun c16 => ?_)
              · skip
                refine lv_iconst (v := 0) hx hb d_MenuScreensModel_partAt_134 (by decide) ?_
                have h41 : q4 - q3 = 1 := nI_eqI (by omega) (by decide) (by rw [← ed]; exact c15)
                rw [show (0 : Int32) = bI bd by rw [hbd, decide_eq_true h41, decide_eq_false c16]; rfl]
                exact j135 ls _ _ X (lv_sub hl [1, 2, 3, 4, 0] rfl)
              · skip
                refine lv_iconst (v := 1) hx hb d_MenuScreensModel_partAt_130 (by decide) ?_
                refine lv_goto (tgt := 135) hx hb d_MenuScreensModel_partAt_131 (by decide) ?_
                have h41 : q4 - q3 = 1 := nI_eqI (by omega) (by decide) (by rw [← ed]; exact c15)
                rw [show (1 : Int32) = bI bd by rw [hbd, decide_eq_true h41, decide_eq_true c16]; rfl]
                exact j135 ls _ _ X (lv_sub hl [1, 2, 3, 4, 0] rfl)
          · skip
            obtain ⟨w9, v9, ew9, hw91, hw92, ev9, hv9, hsm⟩ := hk2 c6
            refine lv_iload hx hb d_MenuScreensModel_partAt_63 (lv_at hl 0 rfl) ?_
            refine lv_aload_n hx hb d_MenuScreensModel_partAt_65 rfl (lv_at hl 1 rfl) ?_
            refine mm_get C X M 34 f_12_75_13 (.ref (ar 34)) rfl d_MenuScreensModel_partAt_66 ?_
            refine lv_iload_n hx hb d_MenuScreensModel_partAt_69 rfl (lv_at hl 2 rfl) ?_
            refine mm_iald C X M 34 512 rfl (A 34) rfl (by decide) p0 h1 (by omega) d_MenuScreensModel_partAt_70 ?_
            refine lv_icmp_ge (tgt := 95) hx hb d_MenuScreensModel_partAt_71 (by decide) (fun c17 => ?_) (fun c17 => ?_)
            · skip
              refine lv_iconst (v := (-1)) hx hb d_MenuScreensModel_partAt_95 (by decide) ?_
              exact mq_iret hQ C X hr rfl hlk (⟨rfl, by
                  rw [ptV, if_pos hC, if_pos c6, ecl, ew9, ev9, nI_clamp (n := w9) (by omega), nI_clamp (n := v9) (by omega)]
                  rw [if_neg (fun z => absurd (by rw [ew9, e4]; exact nI_lt z (by omega)) (Int32.not_lt.mpr c17))]⟩) (Nat.le_refl _) (Nat.le_refl _) d_MenuScreensModel_partAt_96
            · skip
              refine lv_aload_n hx hb d_MenuScreensModel_partAt_74 rfl (lv_at hl 1 rfl) ?_
              refine lv_aload_n hx hb d_MenuScreensModel_partAt_75 rfl (lv_at hl 1 rfl) ?_
              refine mm_get C X M 33 f_12_72_13 (.ref (ar 33)) rfl d_MenuScreensModel_partAt_76 ?_
              refine lv_iload_n hx hb d_MenuScreensModel_partAt_79 rfl (lv_at hl 2 rfl) ?_
              refine mm_iald C X M 33 512 rfl (A 33) rfl (by decide) p0 h1 (by omega) d_MenuScreensModel_partAt_80 ?_
              refine lv_aload_n hx hb d_MenuScreensModel_partAt_81 rfl (lv_at hl 1 rfl) ?_
              refine mm_get C X M 34 f_12_75_13 (.ref (ar 34)) rfl d_MenuScreensModel_partAt_82 ?_
              refine lv_iload_n hx hb d_MenuScreensModel_partAt_85 rfl (lv_at hl 2 rfl) ?_
              refine mm_iald C X M 34 512 rfl (A 34) rfl (by decide) p0 h1 (by omega) d_MenuScreensModel_partAt_86 ?_
              refine lv_iload hx hb d_MenuScreensModel_partAt_87 (lv_at hl 0 rfl) ?_
              have hlt : co - c0 < w9 := by
                rcases Nat.lt_or_ge (co - c0) w9 with q | q
                · exact q
                · exact absurd (by rw [ew9, e4]; exact nI_le q (by omega)) c17
              refine mv_bi X (mv_rV (rest := []) (As := [.int ((A 33) p0), .int ((A 34) p0), .int (p3 - ((A 32) p0))]) gt_good C X k_12_260 (cm_MenuScreensModel_digit hE M.1 _ _ _ (v := v9) (n := w9) (k := co - c0) ev9 ew9 e4 hv9 hw91 hw92 hlt hsm) M.1.1 rfl rfl ⟨by decide, by decide⟩ rfl hl.1 rfl (by decide) d_MenuScreensModel_partAt_89 ⟨Nat.le_refl _, Nat.le_refl _⟩) (fun r18 hN H locs hp X => ?_)
              obtain ⟨ehr18, er18⟩ := hp
              rw [ehr18] at X
              refine lv_goto (tgt := 96) hx hb d_MenuScreensModel_partAt_92 (by decide) ?_
              exact mq_iret hQ C X hr rfl hlk (⟨rfl, by
                  rw [ptV, if_pos hC, if_pos c6, ecl, ew9, ev9, nI_clamp (n := w9) (by omega), nI_clamp (n := v9) (by omega)]
                  rw [if_pos hlt]; exact er18⟩) (Nat.le_refl _) (Nat.le_refl _) d_MenuScreensModel_partAt_96
        · skip
          refine lv_iconst (v := (-1)) hx hb d_MenuScreensModel_partAt_41 (by decide) ?_
          exact mq_iret hQ C X hr rfl hlk (⟨rfl, by rw [ptV, if_neg (fun z => absurd (er4.trans (congrArg bI z.2)) (by rw [c5]; decide))]⟩) (Nat.le_refl _) (Nat.le_refl _) d_MenuScreensModel_partAt_42
end
section
theorem d_MenuScreensModel_atHand_0 : decode prog_13_method_37_code 0 = .ok (.iconst (-1), 1) := by decide +kernel
theorem d_MenuScreensModel_atHand_1 : decode prog_13_method_37_code 1 = .ok (.istore_n 1, 1) := by decide +kernel
theorem d_MenuScreensModel_atHand_2 : decode prog_13_method_37_code 2 = .ok (.iconst 0, 1) := by decide +kernel
theorem d_MenuScreensModel_atHand_3 : decode prog_13_method_37_code 3 = .ok (.istore_n 2, 1) := by decide +kernel
theorem d_MenuScreensModel_atHand_4 : decode prog_13_method_37_code 4 = .ok (.iconst 1, 1) := by decide +kernel
theorem d_MenuScreensModel_atHand_5 : decode prog_13_method_37_code 5 = .ok (.istore_n 3, 1) := by decide +kernel
theorem d_MenuScreensModel_atHand_6 : decode prog_13_method_37_code 6 = .ok (.iload_n 3, 1) := by decide +kernel
theorem d_MenuScreensModel_atHand_7 : decode prog_13_method_37_code 7 = .ok (.aload_n 0, 1) := by decide +kernel
theorem d_MenuScreensModel_atHand_8 : decode prog_13_method_37_code 8 = .ok (.getfield 276, 3) := by decide +kernel
theorem d_MenuScreensModel_atHand_11 : decode prog_13_method_37_code 11 = .ok (.if_icmp .gt 56, 3) := by decide +kernel
theorem d_MenuScreensModel_atHand_14 : decode prog_13_method_37_code 14 = .ok (.aload_n 0, 1) := by decide +kernel
theorem d_MenuScreensModel_atHand_15 : decode prog_13_method_37_code 15 = .ok (.getfield 114, 3) := by decide +kernel
theorem d_MenuScreensModel_atHand_18 : decode prog_13_method_37_code 18 = .ok (.iload_n 3, 1) := by decide +kernel
theorem d_MenuScreensModel_atHand_19 : decode prog_13_method_37_code 19 = .ok (.baload, 1) := by decide +kernel
theorem d_MenuScreensModel_atHand_20 : decode prog_13_method_37_code 20 = .ok (.ifCond .ne 41, 3) := by decide +kernel
theorem d_MenuScreensModel_atHand_23 : decode prog_13_method_37_code 23 = .ok (.aload_n 0, 1) := by decide +kernel
theorem d_MenuScreensModel_atHand_24 : decode prog_13_method_37_code 24 = .ok (.getfield 108, 3) := by decide +kernel
theorem d_MenuScreensModel_atHand_27 : decode prog_13_method_37_code 27 = .ok (.iload_n 3, 1) := by decide +kernel
theorem d_MenuScreensModel_atHand_28 : decode prog_13_method_37_code 28 = .ok (.iaload, 1) := by decide +kernel
theorem d_MenuScreensModel_atHand_29 : decode prog_13_method_37_code 29 = .ok (.iload_n 1, 1) := by decide +kernel
theorem d_MenuScreensModel_atHand_30 : decode prog_13_method_37_code 30 = .ok (.if_icmp .ge 6, 3) := by decide +kernel
theorem d_MenuScreensModel_atHand_33 : decode prog_13_method_37_code 33 = .ok (.goto 28, 3) := by decide +kernel
theorem d_MenuScreensModel_atHand_36 : decode prog_13_method_37_code 36 = .ok (.aload_n 0, 1) := by decide +kernel
theorem d_MenuScreensModel_atHand_37 : decode prog_13_method_37_code 37 = .ok (.getfield 108, 3) := by decide +kernel
theorem d_MenuScreensModel_atHand_40 : decode prog_13_method_37_code 40 = .ok (.iload_n 3, 1) := by decide +kernel
theorem d_MenuScreensModel_atHand_41 : decode prog_13_method_37_code 41 = .ok (.iaload, 1) := by decide +kernel
theorem d_MenuScreensModel_atHand_42 : decode prog_13_method_37_code 42 = .ok (.iload_n 1, 1) := by decide +kernel
theorem d_MenuScreensModel_atHand_43 : decode prog_13_method_37_code 43 = .ok (.if_icmp .ne 9, 3) := by decide +kernel
theorem d_MenuScreensModel_atHand_46 : decode prog_13_method_37_code 46 = .ok (.iload_n 2, 1) := by decide +kernel
theorem d_MenuScreensModel_atHand_47 : decode prog_13_method_37_code 47 = .ok (.iconst 1, 1) := by decide +kernel
theorem d_MenuScreensModel_atHand_48 : decode prog_13_method_37_code 48 = .ok (.iadd, 1) := by decide +kernel
theorem d_MenuScreensModel_atHand_49 : decode prog_13_method_37_code 49 = .ok (.goto 4, 3) := by decide +kernel
theorem d_MenuScreensModel_atHand_52 : decode prog_13_method_37_code 52 = .ok (.iconst 1, 1) := by decide +kernel
theorem d_MenuScreensModel_atHand_53 : decode prog_13_method_37_code 53 = .ok (.istore_n 2, 1) := by decide +kernel
theorem d_MenuScreensModel_atHand_54 : decode prog_13_method_37_code 54 = .ok (.aload_n 0, 1) := by decide +kernel
theorem d_MenuScreensModel_atHand_55 : decode prog_13_method_37_code 55 = .ok (.getfield 108, 3) := by decide +kernel
theorem d_MenuScreensModel_atHand_58 : decode prog_13_method_37_code 58 = .ok (.iload_n 3, 1) := by decide +kernel
theorem d_MenuScreensModel_atHand_59 : decode prog_13_method_37_code 59 = .ok (.iaload, 1) := by decide +kernel
theorem d_MenuScreensModel_atHand_60 : decode prog_13_method_37_code 60 = .ok (.istore_n 1, 1) := by decide +kernel
theorem d_MenuScreensModel_atHand_61 : decode prog_13_method_37_code 61 = .ok (.iinc 3 1, 3) := by decide +kernel
theorem d_MenuScreensModel_atHand_64 : decode prog_13_method_37_code 64 = .ok (.goto (-58), 3) := by decide +kernel
theorem d_MenuScreensModel_atHand_67 : decode prog_13_method_37_code 67 = .ok (.iconst 1, 1) := by decide +kernel
theorem d_MenuScreensModel_atHand_68 : decode prog_13_method_37_code 68 = .ok (.istore_n 3, 1) := by decide +kernel
theorem d_MenuScreensModel_atHand_69 : decode prog_13_method_37_code 69 = .ok (.iload_n 3, 1) := by decide +kernel
theorem d_MenuScreensModel_atHand_70 : decode prog_13_method_37_code 70 = .ok (.aload_n 0, 1) := by decide +kernel
theorem d_MenuScreensModel_atHand_71 : decode prog_13_method_37_code 71 = .ok (.getfield 276, 3) := by decide +kernel
theorem d_MenuScreensModel_atHand_74 : decode prog_13_method_37_code 74 = .ok (.if_icmp .gt 52, 3) := by decide +kernel
theorem d_MenuScreensModel_atHand_77 : decode prog_13_method_37_code 77 = .ok (.aload_n 0, 1) := by decide +kernel
theorem d_MenuScreensModel_atHand_78 : decode prog_13_method_37_code 78 = .ok (.getfield 114, 3) := by decide +kernel
theorem d_MenuScreensModel_atHand_81 : decode prog_13_method_37_code 81 = .ok (.iload_n 3, 1) := by decide +kernel
theorem d_MenuScreensModel_atHand_82 : decode prog_13_method_37_code 82 = .ok (.baload, 1) := by decide +kernel
theorem d_MenuScreensModel_atHand_83 : decode prog_13_method_37_code 83 = .ok (.ifCond .ne 37, 3) := by decide +kernel
theorem d_MenuScreensModel_atHand_86 : decode prog_13_method_37_code 86 = .ok (.aload_n 0, 1) := by decide +kernel
theorem d_MenuScreensModel_atHand_87 : decode prog_13_method_37_code 87 = .ok (.getfield 108, 3) := by decide +kernel
theorem d_MenuScreensModel_atHand_90 : decode prog_13_method_37_code 90 = .ok (.iload_n 3, 1) := by decide +kernel
theorem d_MenuScreensModel_atHand_91 : decode prog_13_method_37_code 91 = .ok (.iaload, 1) := by decide +kernel
theorem d_MenuScreensModel_atHand_92 : decode prog_13_method_37_code 92 = .ok (.iload_n 1, 1) := by decide +kernel
theorem d_MenuScreensModel_atHand_93 : decode prog_13_method_37_code 93 = .ok (.if_icmp .ne 27, 3) := by decide +kernel
theorem d_MenuScreensModel_atHand_96 : decode prog_13_method_37_code 96 = .ok (.aload_n 0, 1) := by decide +kernel
theorem d_MenuScreensModel_atHand_97 : decode prog_13_method_37_code 97 = .ok (.iload_n 3, 1) := by decide +kernel
theorem d_MenuScreensModel_atHand_98 : decode prog_13_method_37_code 98 = .ok (.iconst 1, 1) := by decide +kernel
theorem d_MenuScreensModel_atHand_99 : decode prog_13_method_37_code 99 = .ok (.invokevirtual 279, 3) := by decide +kernel
theorem d_MenuScreensModel_atHand_102 : decode prog_13_method_37_code 102 = .ok (.i2l, 1) := by decide +kernel
theorem d_MenuScreensModel_atHand_103 : decode prog_13_method_37_code 103 = .ok (.aload_n 0, 1) := by decide +kernel
theorem d_MenuScreensModel_atHand_104 : decode prog_13_method_37_code 104 = .ok (.getfield 273, 3) := by decide +kernel
theorem d_MenuScreensModel_atHand_107 : decode prog_13_method_37_code 107 = .ok (.ldc2_w 156, 3) := by decide +kernel
theorem d_MenuScreensModel_atHand_110 : decode prog_13_method_37_code 110 = .ok (.ldiv, 1) := by decide +kernel
theorem d_MenuScreensModel_atHand_111 : decode prog_13_method_37_code 111 = .ok (.iload_n 2, 1) := by decide +kernel
theorem d_MenuScreensModel_atHand_112 : decode prog_13_method_37_code 112 = .ok (.i2l, 1) := by decide +kernel
theorem d_MenuScreensModel_atHand_113 : decode prog_13_method_37_code 113 = .ok (.lrem, 1) := by decide +kernel
theorem d_MenuScreensModel_atHand_114 : decode prog_13_method_37_code 114 = .ok (.lcmp, 1) := by decide +kernel
theorem d_MenuScreensModel_atHand_115 : decode prog_13_method_37_code 115 = .ok (.ifCond .ne 5, 3) := by decide +kernel
theorem d_MenuScreensModel_atHand_118 : decode prog_13_method_37_code 118 = .ok (.iload_n 3, 1) := by decide +kernel
theorem d_MenuScreensModel_atHand_119 : decode prog_13_method_37_code 119 = .ok (.ireturn, 1) := by decide +kernel
theorem d_MenuScreensModel_atHand_120 : decode prog_13_method_37_code 120 = .ok (.iinc 3 1, 3) := by decide +kernel
theorem d_MenuScreensModel_atHand_123 : decode prog_13_method_37_code 123 = .ok (.goto (-54), 3) := by decide +kernel
theorem d_MenuScreensModel_atHand_126 : decode prog_13_method_37_code 126 = .ok (.iconst 0, 1) := by decide +kernel
theorem d_MenuScreensModel_atHand_127 : decode prog_13_method_37_code 127 = .ok (.ireturn, 1) := by decide +kernel
set_option maxRecDepth 100000 in
set_option maxHeartbeats 4000000 in
theorem cm_MenuScreensModel_atHand {l : Launch} {S0 : State} {b : Nat} {D : va_G} {dT : Nat → ClassId} (hE : vEnv S0 b D dT) {h0 : vH} {a : Nat} {ar : Nat → Nat} {x : Nat → Int32} {y : Nat → Int64} {A : Nat → Nat → Int32} {B : Nat → Nat → Int64} (M : MV S0 dT h0 a ar x y A B) {n la : Nat} (hn : x 50 = nI n) (hn2 : n ≤ 200) (hla : y 54 = lN la) (hla2 : la < 2 ^ 63) (hmono : ∀ i j, 1 ≤ i → i ≤ j → j ≤ n → B 52 i ≤ B 52 j) (hr0 : ∀ k, 1 ≤ k → k ≤ n → 0 ≤ A 51 k) : vMi l S0 D vcl GT y_MenuScreensModel_atHand prog_13_method_37_code 4 (some .int) 1 30 0 0 [.ref a] h0 (fun r h' => h' = h0 ∧ ∃ W0, r = nI W0 ∧ W0 ≤ n ∧ (W0 = 0 → ∀ k, 1 ≤ k → k ≤ n → ¬ A 53 k = 0) ∧ (0 < W0 → A 53 W0 = 0 ∧ ∀ k, 1 ≤ k → k ≤ n → A 53 k = 0 → A 51 k ≤ A 51 W0)) := by
  unfold vMi
  refine vM_ofQ hE.1 (by decide) (Nat.le_of_ble_eq_true rfl) (fun p e s m args below meth c ls Q hQ C hr hlk hnm X hl => ?_)
  have C : vC p s m _ c _ _ "MenuScreensModel" GT D vcl (vty dT) := C
  have hx := C.1.1
  have hb := C.1.2.1
  replace M := MR.of M
  obtain ⟨H, eH⟩ : ∃ z, z = s.heap := ⟨_, rfl⟩
  obtain ⟨locs, elocs⟩ : ∃ z : List Loc, z = [] := ⟨_, rfl⟩
  rw [← eH, ← elocs] at X
  rw [← eH, ← elocs]
  clear eH elocs
  have hl : lv_has ls 4 [(0, .ref a)] := hl
  refine lv_iconst (v := (-1)) hx hb d_MenuScreensModel_atHand_0 (by decide) ?_
  refine lv_istore_n (lv' := [(1, .int (-1)), (0, .ref a)]) hx hb d_MenuScreensModel_atHand_1 rfl hl (by decide) rfl (fun ls hl => ?_)
  refine lv_iconst (v := 0) hx hb d_MenuScreensModel_atHand_2 (by decide) ?_
  refine lv_istore_n (lv' := [(2, .int 0), (1, .int (-1)), (0, .ref a)]) hx hb d_MenuScreensModel_atHand_3 rfl hl (by decide) rfl (fun ls hl => ?_)
  refine lv_iconst (v := 1) hx hb d_MenuScreensModel_atHand_4 (by decide) ?_
  refine lv_istore_n (lv' := [(3, .int 1), (2, .int 0), (1, .int (-1)), (0, .ref a)]) hx hb d_MenuScreensModel_atHand_5 rfl hl (by decide) rfl (fun ls hl => ?_)
  have lp : ∀ (n_lp : Nat) (k : Nat) (mo : Int32) (v : Int32) (i : Int32) (ls : Array Slot), (i = nI (k + 1)) → (k ≤ n) → (v = nI (cnt (fun j => decide (A 53 (j + 1) = 0) && decide (A 51 (j + 1) = mo)) k)) → (∀ j, 1 ≤ j → j ≤ k → A 53 j = 0 → A 51 j ≤ mo) → ((mo = -1 ∧ ∀ j, 1 ≤ j → j ≤ k → ¬ A 53 j = 0) ∨ (0 ≤ mo ∧ ∃ j, 1 ≤ j ∧ j ≤ k ∧ A 53 j = 0 ∧ A 51 j = mo)) → (n - k) < n_lp → lv_has ls 4 [(0, .ref a), (1, .int mo), (2, .int v), (3, .int i)] → W p l e (vRm 1 30 0 0) s m args below meth c H locs 0 0 Q (F0 m 6 ls []) := by
    intro n_lp
    induction n_lp with
    | zero => intros; exact absurd (by assumption) (Nat.not_lt_zero _)
    | succ n_lp ih_lp =>
      intro k mo v i ls ei hk ev hm hx0 hmu_lp hl
      refine lv_iload_n hx hb d_MenuScreensModel_atHand_6 rfl (lv_at hl 3 rfl) ?_
      refine lv_aload_n hx hb d_MenuScreensModel_atHand_7 rfl (lv_at hl 0 rfl) ?_
      refine mm_get C X M 50 f_12_276_13 (.int (x 50)) rfl d_MenuScreensModel_atHand_8 ?_
      refine lv_icmp_gt (tgt := 67) hx hb d_MenuScreensModel_atHand_11 (by decide) (fun c1 => ?_) (fun c1 => ?_)
      · skip
        have hkn : k = n := by
          have := (nI_ltI (a := n) (b := k + 1) (by omega) (by omega)).mp (by rw [← ei, ← hn]; exact c1)
          omega
        rw [hkn] at ev hm hx0
        obtain ⟨cc0, hcc0⟩ : ∃ z, z = cnt (fun j => decide (A 53 (j + 1) = 0) && decide (A 51 (j + 1) = mo)) n := ⟨_, rfl⟩
        rw [← hcc0] at ev
        have hcn : cc0 ≤ n := by rw [hcc0]; exact cnt_le _ _
        refine lv_iconst (v := 1) hx hb d_MenuScreensModel_atHand_67 (by decide) ?_
        refine lv_istore_n (lv' := [(3, .int 1), (0, .ref a), (1, .int mo), (2, .int v)]) hx hb d_MenuScreensModel_atHand_68 rfl hl (by decide) rfl (fun ls hl => ?_)
        have lp2 : ∀ (n_lp2 : Nat) (k : Nat) (i : Int32) (ls : Array Slot) (H : Heap) (locs : List Loc), (i = nI (k + 1)) → (k ≤ n) → (∀ j, 1 ≤ j → j ≤ k → A 53 j = 0 → A 51 j = mo → befN (A 51) (B 52) (A 53) n j 1 ≠ la / 10 % cc0) → (n - k) < n_lp2 → vO S0 D vcl h0 s H locs → lv_has ls 4 [(0, .ref a), (1, .int mo), (2, .int v), (3, .int i)] → W p l e (vRm 1 30 0 0) s m args below meth c H locs 0 0 Q (F0 m 69 ls []) := by
          intro n_lp2
          induction n_lp2 with
          | zero => intros; exact absurd (by assumption) (Nat.not_lt_zero _)
          | succ n_lp2 ih_lp2 =>
            intro k i ls H locs ei hk hnone hmu_lp2 X hl
            refine lv_iload_n hx hb d_MenuScreensModel_atHand_69 rfl (lv_at hl 3 rfl) ?_
            refine lv_aload_n hx hb d_MenuScreensModel_atHand_70 rfl (lv_at hl 0 rfl) ?_
            refine mm_get C X M 50 f_12_276_13 (.int (x 50)) rfl d_MenuScreensModel_atHand_71 ?_
            refine lv_icmp_gt (tgt := 126) hx hb d_MenuScreensModel_atHand_74 (by decide) (fun c2 => ?_) (fun c2 => ?_)
            · skip
              refine lv_iconst (v := 0) hx hb d_MenuScreensModel_atHand_126 (by decide) ?_
              exact mq_iret hQ C X hr rfl hlk (⟨rfl, 0, rfl, by omega, fun _ => by
                  have hkn2 : k = n := by
                    have := (nI_ltI (a := n) (b := k + 1) (by omega) (by omega)).mp (by rw [← ei, ← hn]; exact c2)
                    omega
                  rcases hx0 with ⟨z1, z2⟩ | ⟨z1, j, z2, z3, z4, z5⟩
                  · exact z2
                  · exfalso
                    have hc0 : 0 < cc0 := by rw [hcc0]; exact cnt_pos n (show j - 1 < n by omega) (by show (decide (A 53 (j - 1 + 1) = 0) && decide (A 51 (j - 1 + 1) = mo)) = true; rw [show j - 1 + 1 = j by omega, decide_eq_true z4, decide_eq_true z5]; rfl)
                    obtain ⟨q, hq1, hq2, hq3⟩ := cnt_hit n (show la / 10 % cc0 < cnt (fun j => decide (A 53 (j + 1) = 0) && decide (A 51 (j + 1) = mo)) n by rw [← hcc0]; exact Nat.mod_lt _ hc0)
                    have hq2' : (decide (A 53 (q + 1) = 0) && decide (A 51 (q + 1) = mo)) = true := hq2
                    rw [Bool.and_eq_true, decide_eq_true_eq, decide_eq_true_eq] at hq2'
                    refine hnone (q + 1) (by omega) (by omega) hq2'.1 hq2'.2 ?_
                    rw [befN_own (by omega) (by omega) hmono, hq2'.2]
                    exact hq3, fun z => absurd z (by omega)⟩) (Nat.le_refl _) (Nat.le_refl _) d_MenuScreensModel_atHand_127
            · skip
              have hkn1 : k + 1 ≤ n := by
                rcases Nat.lt_or_ge n (k + 1) with q | q
                · exact absurd (by rw [hn, ei]; exact nI_lt q (by omega)) c2
                · exact q
              refine lv_aload_n hx hb d_MenuScreensModel_atHand_77 rfl (lv_at hl 0 rfl) ?_
              refine mm_get C X M 53 f_12_114_13 (.ref (ar 53)) rfl d_MenuScreensModel_atHand_78 ?_
              refine lv_iload_n hx hb d_MenuScreensModel_atHand_81 rfl (lv_at hl 3 rfl) ?_
              refine mm_zald C X M 53 201 rfl (A 53) rfl (by decide) (k + 1) ei (by omega) d_MenuScreensModel_atHand_82 ?_
              refine lv_if_ne (tgt := 120) hx hb d_MenuScreensModel_atHand_83 (by decide) (fun c3 => ?_) (fun c3 => ?_)
              · skip
                refine lv_iinc (v := (i + 1)) (lv' := [(3, .int (i + 1)), (0, .ref a), (1, .int mo), (2, .int v)]) hx hb d_MenuScreensModel_atHand_120 hl (k := 3) rfl rfl (by decide) rfl (fun ls hl => ?_)
                refine lv_goto (tgt := 69) hx hb d_MenuScreensModel_atHand_123 (by decide) ?_
                exact ih_lp2 (k + 1) (i + 1) ls _ _ (by rw [ei]; exact nI_1 _) (by omega) (fun j h1 h2 => by
                  rcases Nat.eq_or_lt_of_le h2 with q | q
                  · subst q; intro z; exact absurd z c3
                  · exact hnone j h1 (by omega)) (by omega) X (lv_sub hl [1, 2, 3, 0] rfl)
              · skip
                refine lv_aload_n hx hb d_MenuScreensModel_atHand_86 rfl (lv_at hl 0 rfl) ?_
                refine mm_get C X M 51 f_12_108_13 (.ref (ar 51)) rfl d_MenuScreensModel_atHand_87 ?_
                refine lv_iload_n hx hb d_MenuScreensModel_atHand_90 rfl (lv_at hl 3 rfl) ?_
                refine mm_iald C X M 51 201 rfl (A 51) rfl (by decide) (k + 1) ei (by omega) d_MenuScreensModel_atHand_91 ?_
                refine lv_iload_n hx hb d_MenuScreensModel_atHand_92 rfl (lv_at hl 1 rfl) ?_
                refine lv_icmp_ne (tgt := 120) hx hb d_MenuScreensModel_atHand_93 (by decide) (fun c4 => ?_) (fun c4 => ?_)
                · skip
                  refine lv_iinc (v := (i + 1)) (lv' := [(3, .int (i + 1)), (0, .ref a), (1, .int mo), (2, .int v)]) hx hb d_MenuScreensModel_atHand_120 hl (k := 3) rfl rfl (by decide) rfl (fun ls hl => ?_)
                  refine lv_goto (tgt := 69) hx hb d_MenuScreensModel_atHand_123 (by decide) ?_
                  exact ih_lp2 (k + 1) (i + 1) ls _ _ (by rw [ei]; exact nI_1 _) (by omega) (fun j h1 h2 => by
                    rcases Nat.eq_or_lt_of_le h2 with q | q
                    · subst q; intro _ z; exact absurd z c4
                    · exact hnone j h1 (by omega)) (by omega) X (lv_sub hl [1, 2, 3, 0] rfl)
                · skip
                  refine lv_aload_n hx hb d_MenuScreensModel_atHand_96 rfl (lv_at hl 0 rfl) ?_
                  refine lv_iload_n hx hb d_MenuScreensModel_atHand_97 rfl (lv_at hl 3 rfl) ?_
                  refine lv_iconst (v := 1) hx hb d_MenuScreensModel_atHand_98 (by decide) ?_
                  have hc0 : 0 < cc0 := by rw [hcc0]; exact cnt_pos n (show k < n by omega) (by show (decide (A 53 (k + 1) = 0) && decide (A 51 (k + 1) = mo)) = true; rw [decide_eq_true c3, decide_eq_true c4]; rfl)
                  refine mv_bi X (mv_rV (rest := []) (As := [.int i, .int 1]) gt_good C X k_12_279 (cm_MenuScreensModel_before hE M.1 _ _ (n := n) (w0 := k + 1) hn hn2 ei (by omega)) M.1.1 rfl rfl ⟨by decide, by decide⟩ rfl hl.1 rfl (by decide) d_MenuScreensModel_atHand_99 ⟨Nat.le_refl _, Nat.le_refl _⟩) (fun r5 hN H locs hp X => ?_)
                  obtain ⟨ehr5, er5⟩ := hp
                  rw [ehr5] at X
                  have hbn : befN (A 51) (B 52) (A 53) n (k + 1) 1 ≤ n := cnt_le _ _
                  have eb0 : (r5 : Int32).toInt64 = lN (befN (A 51) (B 52) (A 53) n (k + 1) 1) := by rw [er5]; exact nI_l (by omega)
                  have ed0 : y 54 / 10 = lN (la / 10) := by rw [hla]; exact pk_lDiv (by omega) (by decide) (by decide)
                  have ev0 : (v : Int32).toInt64 = lN cc0 := by rw [ev]; exact nI_l (by omega)
                  have er0 : y 54 / 10 - y 54 / 10 / (v : Int32).toInt64 * (v : Int32).toInt64 = lN (la / 10 % cc0) := by rw [ed0, ev0]; exact pk_lRem (by omega) hc0 (by omega)
                  refine lv_i2l (v := (r5 : Int32).toInt64) hx hb d_MenuScreensModel_atHand_102 rfl ?_
                  refine lv_aload_n hx hb d_MenuScreensModel_atHand_103 rfl (lv_at hl 0 rfl) ?_
                  refine mm_get C X M 54 f_12_273_13 (.long (y 54)) rfl d_MenuScreensModel_atHand_104 ?_
                  refine lv_ldc2 (v := 10) hx hb C.1.2.2.2.1 (C.1.2.2.2.2 _ (gt_6 21 (by decide +kernel) rfl)) d_MenuScreensModel_atHand_107 ?_
                  refine lv_ldiv hx hb d_MenuScreensModel_atHand_110 (by decide) ?_
                  refine lv_iload_n hx hb d_MenuScreensModel_atHand_111 rfl (lv_at hl 2 rfl) ?_
                  refine lv_i2l (v := (v : Int32).toInt64) hx hb d_MenuScreensModel_atHand_112 rfl ?_
                  refine lv_lrem hx hb d_MenuScreensModel_atHand_113 (by rw [ev0, ← lN_0]; intro z; have := (pk_lEQ (by omega) (by decide)).mp z; omega) ?_
                  refine W.lcmp hx hb d_MenuScreensModel_atHand_114 ?_
                  refine lv_if_ne (tgt := 120) hx hb d_MenuScreensModel_atHand_115 (by decide) (fun c6 => ?_) (fun c6 => ?_)
                  · skip
                    refine lv_iinc (v := (i + 1)) (lv' := [(3, .int (i + 1)), (0, .ref a), (1, .int mo), (2, .int v)]) hx hb d_MenuScreensModel_atHand_120 hl (k := 3) rfl rfl (by decide) rfl (fun ls hl => ?_)
                    refine lv_goto (tgt := 69) hx hb d_MenuScreensModel_atHand_123 (by decide) ?_
                    exact ih_lp2 (k + 1) (i + 1) ls _ _ (by rw [ei]; exact nI_1 _) (by omega) (fun j h1 h2 => by
                      rcases Nat.eq_or_lt_of_le h2 with q | q
                      · subst q; intro _ _ z; exact c6 ((lg_cmp_eq _ _).mpr (by rw [eb0, er0, z]))
                      · exact hnone j h1 (by omega)) (by omega) X (lv_sub hl [1, 2, 3, 0] rfl)
                  · skip
                    refine lv_iload_n hx hb d_MenuScreensModel_atHand_118 rfl (lv_at hl 3 rfl) ?_
                    exact mq_iret hQ C X hr rfl hlk (⟨rfl, k + 1, ei, by omega, fun z => by omega, fun _ => ⟨c3, fun j h1 h2 h3 => by rw [c4]; exact hm j h1 h2 h3⟩⟩) (Nat.le_refl _) (Nat.le_refl _) d_MenuScreensModel_atHand_119
        exact lp2 (n - 0 + 1) 0 1 ls _ _ rfl (by omega) (fun j h1 h2 => by omega) (Nat.lt_succ_self _) X (lv_sub hl [1, 2, 3, 0] rfl)
      · skip
        have hkn : k + 1 ≤ n := by
          rcases Nat.lt_or_ge n (k + 1) with q | q
          · exact absurd (by rw [hn, ei]; exact nI_lt q (by omega)) c1
          · exact q
        refine lv_aload_n hx hb d_MenuScreensModel_atHand_14 rfl (lv_at hl 0 rfl) ?_
        refine mm_get C X M 53 f_12_114_13 (.ref (ar 53)) rfl d_MenuScreensModel_atHand_15 ?_
        refine lv_iload_n hx hb d_MenuScreensModel_atHand_18 rfl (lv_at hl 3 rfl) ?_
        refine mm_zald C X M 53 201 rfl (A 53) rfl (by decide) (k + 1) ei (by omega) d_MenuScreensModel_atHand_19 ?_
        refine lv_if_ne (tgt := 61) hx hb d_MenuScreensModel_atHand_20 (by decide) (fun c7 => ?_) (fun c7 => ?_)
        · skip
          have ev1 : v = nI (cnt (fun j => decide (A 53 (j + 1) = 0) && decide (A 51 (j + 1) = mo)) (k + 1)) := by
            rw [cnt_f (by show (decide (A 53 (k + 1) = 0) && decide (A 51 (k + 1) = mo)) = false; rw [decide_eq_false c7]; rfl)]; exact ev
          have hm1 : ∀ j, 1 ≤ j → j ≤ k + 1 → A 53 j = 0 → A 51 j ≤ mo := fun j h1 h2 => by
            rcases Nat.eq_or_lt_of_le h2 with q | q
            · subst q; intro z; exact absurd z c7
            · exact hm j h1 (by omega)
          have hx1 : (mo = -1 ∧ ∀ j, 1 ≤ j → j ≤ k + 1 → ¬ A 53 j = 0) ∨ (0 ≤ mo ∧ ∃ j, 1 ≤ j ∧ j ≤ k + 1 ∧ A 53 j = 0 ∧ A 51 j = mo) := by
            rcases hx0 with ⟨z1, z2⟩ | ⟨z1, j, z2, z3, z4⟩
            · exact Or.inl ⟨z1, fun j h1 h2 => by
                rcases Nat.eq_or_lt_of_le h2 with q | q
                · subst q; exact c7
                · exact z2 j h1 (by omega)⟩
            · exact Or.inr ⟨z1, j, z2, by omega, z4⟩
          refine lv_iinc (v := (i + 1)) (lv' := [(3, .int (i + 1)), (0, .ref a), (1, .int mo), (2, .int v)]) hx hb d_MenuScreensModel_atHand_61 hl (k := 3) rfl rfl (by decide) rfl (fun ls hl => ?_)
          refine lv_goto (tgt := 6) hx hb d_MenuScreensModel_atHand_64 (by decide) ?_
          exact ih_lp (k + 1) mo v (i + 1) ls  (by rw [ei]; exact nI_1 _) (by omega) ev1 hm1 hx1 (by omega) (lv_sub hl [1, 2, 3, 0] rfl)
        · skip
          refine lv_aload_n hx hb d_MenuScreensModel_atHand_23 rfl (lv_at hl 0 rfl) ?_
          refine mm_get C X M 51 f_12_108_13 (.ref (ar 51)) rfl d_MenuScreensModel_atHand_24 ?_
          refine lv_iload_n hx hb d_MenuScreensModel_atHand_27 rfl (lv_at hl 3 rfl) ?_
          refine mm_iald C X M 51 201 rfl (A 51) rfl (by decide) (k + 1) ei (by omega) d_MenuScreensModel_atHand_28 ?_
          refine lv_iload_n hx hb d_MenuScreensModel_atHand_29 rfl (lv_at hl 1 rfl) ?_
          refine lv_icmp_ge (tgt := 36) hx hb d_MenuScreensModel_atHand_30 (by decide) (fun c8 => ?_) (fun c8 => ?_)
          · skip
            refine lv_aload_n hx hb d_MenuScreensModel_atHand_36 rfl (lv_at hl 0 rfl) ?_
            refine mm_get C X M 51 f_12_108_13 (.ref (ar 51)) rfl d_MenuScreensModel_atHand_37 ?_
            refine lv_iload_n hx hb d_MenuScreensModel_atHand_40 rfl (lv_at hl 3 rfl) ?_
            refine mm_iald C X M 51 201 rfl (A 51) rfl (by decide) (k + 1) ei (by omega) d_MenuScreensModel_atHand_41 ?_
            refine lv_iload_n hx hb d_MenuScreensModel_atHand_42 rfl (lv_at hl 1 rfl) ?_
            refine lv_icmp_ne (tgt := 52) hx hb d_MenuScreensModel_atHand_43 (by decide) (fun c9 => ?_) (fun c9 => ?_)
            · skip
              refine lv_iconst (v := 1) hx hb d_MenuScreensModel_atHand_52 (by decide) ?_
              refine lv_istore_n (lv' := [(2, .int 1), (0, .ref a), (1, .int mo), (3, .int i)]) hx hb d_MenuScreensModel_atHand_53 rfl hl (by decide) rfl (fun ls hl => ?_)
              refine lv_aload_n hx hb d_MenuScreensModel_atHand_54 rfl (lv_at hl 1 rfl) ?_
              refine mm_get C X M 51 f_12_108_13 (.ref (ar 51)) rfl d_MenuScreensModel_atHand_55 ?_
              refine lv_iload_n hx hb d_MenuScreensModel_atHand_58 rfl (lv_at hl 3 rfl) ?_
              refine mm_iald C X M 51 201 rfl (A 51) rfl (by decide) (k + 1) ei (by omega) d_MenuScreensModel_atHand_59 ?_
              refine lv_istore_n (lv' := [(1, .int ((A 51) (k + 1))), (2, .int 1), (0, .ref a), (3, .int i)]) hx hb d_MenuScreensModel_atHand_60 rfl hl (by decide) rfl (fun ls hl => ?_)
              have hgt : mo < A 51 (k + 1) := by
                rcases Int32.lt_or_eq_of_le c8 with z | z
                · exact z
                · exact absurd z.symm c9
              have ev1 : 1 = nI (cnt (fun j => decide (A 53 (j + 1) = 0) && decide (A 51 (j + 1) = ((A 51) (k + 1)))) (k + 1)) := by
                rw [cnt_t (by show (decide (A 53 (k + 1) = 0) && decide (A 51 (k + 1) = A 51 (k + 1))) = true; rw [decide_eq_true c7, decide_eq_true rfl]; rfl), cnt_tail (m := 0) k (by omega) (fun j _ hj => by
                  show (decide (A 53 (j + 1) = 0) && decide (A 51 (j + 1) = A 51 (k + 1))) = false
                  by_cases z : A 53 (j + 1) = 0
                  · rw [decide_eq_false (p := A 51 (j + 1) = A 51 (k + 1)) (fun q => by have := hm (j + 1) (by omega) (by omega) z; rw [q] at this; exact absurd hgt (Int32.not_lt.mpr this)), Bool.and_false]
                  · rw [decide_eq_false z]; rfl)]; rfl
              have hm1 : ∀ j, 1 ≤ j → j ≤ k + 1 → A 53 j = 0 → A 51 j ≤ ((A 51) (k + 1)) := fun j h1 h2 => by
                rcases Nat.eq_or_lt_of_le h2 with q | q
                · subst q; intro _; exact Int32.le_refl _
                · intro z; exact Int32.le_of_lt (Int32.lt_of_le_of_lt (hm j h1 (by omega) z) hgt)
              have hx1 : (((A 51) (k + 1)) = -1 ∧ ∀ j, 1 ≤ j → j ≤ k + 1 → ¬ A 53 j = 0) ∨ (0 ≤ ((A 51) (k + 1)) ∧ ∃ j, 1 ≤ j ∧ j ≤ k + 1 ∧ A 53 j = 0 ∧ A 51 j = ((A 51) (k + 1))) := Or.inr ⟨hr0 (k + 1) (by omega) hkn, k + 1, by omega, Nat.le_refl _, c7, rfl⟩
              refine lv_iinc (v := (i + 1)) (lv' := [(3, .int (i + 1)), (1, .int ((A 51) (k + 1))), (2, .int 1), (0, .ref a)]) hx hb d_MenuScreensModel_atHand_61 hl (k := 3) rfl rfl (by decide) rfl (fun ls hl => ?_)
              refine lv_goto (tgt := 6) hx hb d_MenuScreensModel_atHand_64 (by decide) ?_
              exact ih_lp (k + 1) ((A 51) (k + 1)) 1 (i + 1) ls  (by rw [ei]; exact nI_1 _) (by omega) ev1 hm1 hx1 (by omega) (lv_sub hl [3, 1, 2, 0] rfl)
            · skip
              refine lv_iload_n hx hb d_MenuScreensModel_atHand_46 rfl (lv_at hl 2 rfl) ?_
              refine lv_iconst (v := 1) hx hb d_MenuScreensModel_atHand_47 (by decide) ?_
              refine lv_iadd hx hb d_MenuScreensModel_atHand_48 ?_
              refine lv_goto (tgt := 53) hx hb d_MenuScreensModel_atHand_49 (by decide) ?_
              refine lv_istore_n (lv' := [(2, .int (v + 1)), (0, .ref a), (1, .int mo), (3, .int i)]) hx hb d_MenuScreensModel_atHand_53 rfl hl (by decide) rfl (fun ls hl => ?_)
              refine lv_aload_n hx hb d_MenuScreensModel_atHand_54 rfl (lv_at hl 1 rfl) ?_
              refine mm_get C X M 51 f_12_108_13 (.ref (ar 51)) rfl d_MenuScreensModel_atHand_55 ?_
              refine lv_iload_n hx hb d_MenuScreensModel_atHand_58 rfl (lv_at hl 3 rfl) ?_
              refine mm_iald C X M 51 201 rfl (A 51) rfl (by decide) (k + 1) ei (by omega) d_MenuScreensModel_atHand_59 ?_
              refine lv_istore_n (lv' := [(1, .int ((A 51) (k + 1))), (2, .int (v + 1)), (0, .ref a), (3, .int i)]) hx hb d_MenuScreensModel_atHand_60 rfl hl (by decide) rfl (fun ls hl => ?_)
              have heq : A 51 (k + 1) = mo := c9
              have ev1 : (v + 1) = nI (cnt (fun j => decide (A 53 (j + 1) = 0) && decide (A 51 (j + 1) = ((A 51) (k + 1)))) (k + 1)) := by
                rw [cnt_t (by show (decide (A 53 (k + 1) = 0) && decide (A 51 (k + 1) = A 51 (k + 1))) = true; rw [decide_eq_true c7, decide_eq_true rfl]; rfl), ev, heq]; exact nI_1 _
              have hm1 : ∀ j, 1 ≤ j → j ≤ k + 1 → A 53 j = 0 → A 51 j ≤ ((A 51) (k + 1)) := fun j h1 h2 => by
                rcases Nat.eq_or_lt_of_le h2 with q | q
                · subst q; intro _; exact Int32.le_refl _
                · rw [heq]; exact hm j h1 (by omega)
              have hx1 : (((A 51) (k + 1)) = -1 ∧ ∀ j, 1 ≤ j → j ≤ k + 1 → ¬ A 53 j = 0) ∨ (0 ≤ ((A 51) (k + 1)) ∧ ∃ j, 1 ≤ j ∧ j ≤ k + 1 ∧ A 53 j = 0 ∧ A 51 j = ((A 51) (k + 1))) := Or.inr ⟨hr0 (k + 1) (by omega) hkn, k + 1, by omega, Nat.le_refl _, c7, rfl⟩
              refine lv_iinc (v := (i + 1)) (lv' := [(3, .int (i + 1)), (1, .int ((A 51) (k + 1))), (2, .int (v + 1)), (0, .ref a)]) hx hb d_MenuScreensModel_atHand_61 hl (k := 3) rfl rfl (by decide) rfl (fun ls hl => ?_)
              refine lv_goto (tgt := 6) hx hb d_MenuScreensModel_atHand_64 (by decide) ?_
              exact ih_lp (k + 1) ((A 51) (k + 1)) (v + 1) (i + 1) ls  (by rw [ei]; exact nI_1 _) (by omega) ev1 hm1 hx1 (by omega) (lv_sub hl [3, 1, 2, 0] rfl)
          · skip
            refine lv_goto (tgt := 61) hx hb d_MenuScreensModel_atHand_33 (by decide) ?_
            have hlt : A 51 (k + 1) < mo := Int32.not_le.mp c8
            have ev1 : v = nI (cnt (fun j => decide (A 53 (j + 1) = 0) && decide (A 51 (j + 1) = mo)) (k + 1)) := by
              rw [cnt_f (by show (decide (A 53 (k + 1) = 0) && decide (A 51 (k + 1) = mo)) = false; rw [decide_eq_false (p := A 51 (k + 1) = mo) (fun z => by rw [z] at hlt; exact Int32.lt_irrefl hlt), Bool.and_false])]; exact ev
            have hm1 : ∀ j, 1 ≤ j → j ≤ k + 1 → A 53 j = 0 → A 51 j ≤ mo := fun j h1 h2 => by
              rcases Nat.eq_or_lt_of_le h2 with q | q
              · subst q; intro _; exact Int32.le_of_lt hlt
              · exact hm j h1 (by omega)
            have hx1 : (mo = -1 ∧ ∀ j, 1 ≤ j → j ≤ k + 1 → ¬ A 53 j = 0) ∨ (0 ≤ mo ∧ ∃ j, 1 ≤ j ∧ j ≤ k + 1 ∧ A 53 j = 0 ∧ A 51 j = mo) := by
              rcases hx0 with ⟨z1, z2⟩ | ⟨z1, j, z2, z3, z4⟩
              · exact absurd (hr0 (k + 1) (by omega) hkn) (by rw [z1] at hlt; intro z; exact absurd (Int32.lt_of_lt_of_le hlt (show (-1 : Int32) ≤ 0 by decide)) (Int32.not_lt.mpr z))
              · exact Or.inr ⟨z1, j, z2, by omega, z4⟩
            refine lv_iinc (v := (i + 1)) (lv' := [(3, .int (i + 1)), (0, .ref a), (1, .int mo), (2, .int v)]) hx hb d_MenuScreensModel_atHand_61 hl (k := 3) rfl rfl (by decide) rfl (fun ls hl => ?_)
            refine lv_goto (tgt := 6) hx hb d_MenuScreensModel_atHand_64 (by decide) ?_
            exact ih_lp (k + 1) mo v (i + 1) ls  (by rw [ei]; exact nI_1 _) (by omega) ev1 hm1 hx1 (by omega) (lv_sub hl [1, 2, 3, 0] rfl)
  exact lp (n - 0 + 1) 0 (-1) 0 1 ls  rfl (by omega) rfl (fun j h1 h2 => by omega) (Or.inl ⟨rfl, fun j h1 h2 => by omega⟩) (Nat.lt_succ_self _) (lv_sub hl [3, 2, 1, 0] rfl)
end
section
theorem d_MenuScreensModel_shown_0 : decode prog_13_method_31_code 0 = .ok (.aload_n 0, 1) := by decide +kernel
theorem d_MenuScreensModel_shown_1 : decode prog_13_method_31_code 1 = .ok (.iconst 0, 1) := by decide +kernel
theorem d_MenuScreensModel_shown_2 : decode prog_13_method_31_code 2 = .ok (.putfield 127, 3) := by decide +kernel
theorem d_MenuScreensModel_shown_5 : decode prog_13_method_31_code 5 = .ok (.iload_n 1, 1) := by decide +kernel
theorem d_MenuScreensModel_shown_6 : decode prog_13_method_31_code 6 = .ok (.ifCond .lt 23, 3) := by decide +kernel
theorem d_MenuScreensModel_shown_9 : decode prog_13_method_31_code 9 = .ok (.iload_n 1, 1) := by decide +kernel
theorem d_MenuScreensModel_shown_10 : decode prog_13_method_31_code 10 = .ok (.aload_n 0, 1) := by decide +kernel
theorem d_MenuScreensModel_shown_11 : decode prog_13_method_31_code 11 = .ok (.getfield 120, 3) := by decide +kernel
theorem d_MenuScreensModel_shown_14 : decode prog_13_method_31_code 14 = .ok (.if_icmp .ge 15, 3) := by decide +kernel
theorem d_MenuScreensModel_shown_17 : decode prog_13_method_31_code 17 = .ok (.iload_n 2, 1) := by decide +kernel
theorem d_MenuScreensModel_shown_18 : decode prog_13_method_31_code 18 = .ok (.ifCond .lt 11, 3) := by decide +kernel
theorem d_MenuScreensModel_shown_21 : decode prog_13_method_31_code 21 = .ok (.iload_n 2, 1) := by decide +kernel
theorem d_MenuScreensModel_shown_22 : decode prog_13_method_31_code 22 = .ok (.aload_n 0, 1) := by decide +kernel
theorem d_MenuScreensModel_shown_23 : decode prog_13_method_31_code 23 = .ok (.getfield 124, 3) := by decide +kernel
theorem d_MenuScreensModel_shown_26 : decode prog_13_method_31_code 26 = .ok (.if_icmp .lt 6, 3) := by decide +kernel
theorem d_MenuScreensModel_shown_29 : decode prog_13_method_31_code 29 = .ok (.bipush (-2), 2) := by decide +kernel
theorem d_MenuScreensModel_shown_31 : decode prog_13_method_31_code 31 = .ok (.ireturn, 1) := by decide +kernel
theorem d_MenuScreensModel_shown_32 : decode prog_13_method_31_code 32 = .ok (.aload_n 0, 1) := by decide +kernel
theorem d_MenuScreensModel_shown_33 : decode prog_13_method_31_code 33 = .ok (.invokevirtual 267, 3) := by decide +kernel
theorem d_MenuScreensModel_shown_36 : decode prog_13_method_31_code 36 = .ok (.istore_n 3, 1) := by decide +kernel
theorem d_MenuScreensModel_shown_37 : decode prog_13_method_31_code 37 = .ok (.iload_n 3, 1) := by decide +kernel
theorem d_MenuScreensModel_shown_38 : decode prog_13_method_31_code 38 = .ok (.ifCond .le 60, 3) := by decide +kernel
theorem d_MenuScreensModel_shown_41 : decode prog_13_method_31_code 41 = .ok (.iload_n 1, 1) := by decide +kernel
theorem d_MenuScreensModel_shown_42 : decode prog_13_method_31_code 42 = .ok (.aload_n 0, 1) := by decide +kernel
theorem d_MenuScreensModel_shown_43 : decode prog_13_method_31_code 43 = .ok (.getfield 120, 3) := by decide +kernel
theorem d_MenuScreensModel_shown_46 : decode prog_13_method_31_code 46 = .ok (.iconst 1, 1) := by decide +kernel
theorem d_MenuScreensModel_shown_47 : decode prog_13_method_31_code 47 = .ok (.isub, 1) := by decide +kernel
theorem d_MenuScreensModel_shown_48 : decode prog_13_method_31_code 48 = .ok (.if_icmp .ne 50, 3) := by decide +kernel
theorem d_MenuScreensModel_shown_51 : decode prog_13_method_31_code 51 = .ok (.iload_n 2, 1) := by decide +kernel
theorem d_MenuScreensModel_shown_52 : decode prog_13_method_31_code 52 = .ok (.iconst 3, 1) := by decide +kernel
theorem d_MenuScreensModel_shown_53 : decode prog_13_method_31_code 53 = .ok (.if_icmp .ge 45, 3) := by decide +kernel
theorem d_MenuScreensModel_shown_56 : decode prog_13_method_31_code 56 = .ok (.iload_n 2, 1) := by decide +kernel
theorem d_MenuScreensModel_shown_57 : decode prog_13_method_31_code 57 = .ok (.ifCond .ne 8, 3) := by decide +kernel
theorem d_MenuScreensModel_shown_60 : decode prog_13_method_31_code 60 = .ok (.bipush 33, 2) := by decide +kernel
theorem d_MenuScreensModel_shown_62 : decode prog_13_method_31_code 62 = .ok (.goto 35, 3) := by decide +kernel
theorem d_MenuScreensModel_shown_65 : decode prog_13_method_31_code 65 = .ok (.iload_n 2, 1) := by decide +kernel
theorem d_MenuScreensModel_shown_66 : decode prog_13_method_31_code 66 = .ok (.iconst 1, 1) := by decide +kernel
theorem d_MenuScreensModel_shown_67 : decode prog_13_method_31_code 67 = .ok (.if_icmp .ne 18, 3) := by decide +kernel
theorem d_MenuScreensModel_shown_70 : decode prog_13_method_31_code 70 = .ok (.bipush 48, 2) := by decide +kernel
theorem d_MenuScreensModel_shown_72 : decode prog_13_method_31_code 72 = .ok (.aload_n 0, 1) := by decide +kernel
theorem d_MenuScreensModel_shown_73 : decode prog_13_method_31_code 73 = .ok (.getfield 108, 3) := by decide +kernel
theorem d_MenuScreensModel_shown_76 : decode prog_13_method_31_code 76 = .ok (.iload_n 3, 1) := by decide +kernel
theorem d_MenuScreensModel_shown_77 : decode prog_13_method_31_code 77 = .ok (.iaload, 1) := by decide +kernel
theorem d_MenuScreensModel_shown_78 : decode prog_13_method_31_code 78 = .ok (.bipush 10, 2) := by decide +kernel
theorem d_MenuScreensModel_shown_80 : decode prog_13_method_31_code 80 = .ok (.idiv, 1) := by decide +kernel
theorem d_MenuScreensModel_shown_81 : decode prog_13_method_31_code 81 = .ok (.iadd, 1) := by decide +kernel
theorem d_MenuScreensModel_shown_82 : decode prog_13_method_31_code 82 = .ok (.goto 15, 3) := by decide +kernel
theorem d_MenuScreensModel_shown_85 : decode prog_13_method_31_code 85 = .ok (.bipush 48, 2) := by decide +kernel
theorem d_MenuScreensModel_shown_87 : decode prog_13_method_31_code 87 = .ok (.aload_n 0, 1) := by decide +kernel
theorem d_MenuScreensModel_shown_88 : decode prog_13_method_31_code 88 = .ok (.getfield 108, 3) := by decide +kernel
theorem d_MenuScreensModel_shown_91 : decode prog_13_method_31_code 91 = .ok (.iload_n 3, 1) := by decide +kernel
theorem d_MenuScreensModel_shown_92 : decode prog_13_method_31_code 92 = .ok (.iaload, 1) := by decide +kernel
theorem d_MenuScreensModel_shown_93 : decode prog_13_method_31_code 93 = .ok (.bipush 10, 2) := by decide +kernel
theorem d_MenuScreensModel_shown_95 : decode prog_13_method_31_code 95 = .ok (.irem, 1) := by decide +kernel
theorem d_MenuScreensModel_shown_96 : decode prog_13_method_31_code 96 = .ok (.iadd, 1) := by decide +kernel
theorem d_MenuScreensModel_shown_97 : decode prog_13_method_31_code 97 = .ok (.ireturn, 1) := by decide +kernel
theorem d_MenuScreensModel_shown_98 : decode prog_13_method_31_code 98 = .ok (.aload_n 0, 1) := by decide +kernel
theorem d_MenuScreensModel_shown_99 : decode prog_13_method_31_code 99 = .ok (.getfield 245, 3) := by decide +kernel
theorem d_MenuScreensModel_shown_102 : decode prog_13_method_31_code 102 = .ok (.ifCond .eq 10, 3) := by decide +kernel
theorem d_MenuScreensModel_shown_105 : decode prog_13_method_31_code 105 = .ok (.aload_n 0, 1) := by decide +kernel
theorem d_MenuScreensModel_shown_106 : decode prog_13_method_31_code 106 = .ok (.invokevirtual 254, 3) := by decide +kernel
theorem d_MenuScreensModel_shown_109 : decode prog_13_method_31_code 109 = .ok (.ifCond .eq 6, 3) := by decide +kernel
theorem d_MenuScreensModel_shown_112 : decode prog_13_method_31_code 112 = .ok (.bipush 32, 2) := by decide +kernel
theorem d_MenuScreensModel_shown_114 : decode prog_13_method_31_code 114 = .ok (.ireturn, 1) := by decide +kernel
theorem d_MenuScreensModel_shown_115 : decode prog_13_method_31_code 115 = .ok (.aload_n 0, 1) := by decide +kernel
theorem d_MenuScreensModel_shown_116 : decode prog_13_method_31_code 116 = .ok (.getfield 222, 3) := by decide +kernel
theorem d_MenuScreensModel_shown_119 : decode prog_13_method_31_code 119 = .ok (.iconst 1, 1) := by decide +kernel
theorem d_MenuScreensModel_shown_120 : decode prog_13_method_31_code 120 = .ok (.isub, 1) := by decide +kernel
theorem d_MenuScreensModel_shown_121 : decode prog_13_method_31_code 121 = .ok (.istore 4, 2) := by decide +kernel
theorem d_MenuScreensModel_shown_123 : decode prog_13_method_31_code 123 = .ok (.iload 4, 2) := by decide +kernel
theorem d_MenuScreensModel_shown_125 : decode prog_13_method_31_code 125 = .ok (.ifCond .lt 27, 3) := by decide +kernel
theorem d_MenuScreensModel_shown_128 : decode prog_13_method_31_code 128 = .ok (.aload_n 0, 1) := by decide +kernel
theorem d_MenuScreensModel_shown_129 : decode prog_13_method_31_code 129 = .ok (.iload 4, 2) := by decide +kernel
theorem d_MenuScreensModel_shown_131 : decode prog_13_method_31_code 131 = .ok (.iload_n 1, 1) := by decide +kernel
theorem d_MenuScreensModel_shown_132 : decode prog_13_method_31_code 132 = .ok (.iload_n 2, 1) := by decide +kernel
theorem d_MenuScreensModel_shown_133 : decode prog_13_method_31_code 133 = .ok (.invokevirtual 270, 3) := by decide +kernel
theorem d_MenuScreensModel_shown_136 : decode prog_13_method_31_code 136 = .ok (.istore 5, 2) := by decide +kernel
theorem d_MenuScreensModel_shown_138 : decode prog_13_method_31_code 138 = .ok (.iload 5, 2) := by decide +kernel
theorem d_MenuScreensModel_shown_140 : decode prog_13_method_31_code 140 = .ok (.ifCond .lt 6, 3) := by decide +kernel
theorem d_MenuScreensModel_shown_143 : decode prog_13_method_31_code 143 = .ok (.iload 5, 2) := by decide +kernel
theorem d_MenuScreensModel_shown_145 : decode prog_13_method_31_code 145 = .ok (.ireturn, 1) := by decide +kernel
theorem d_MenuScreensModel_shown_146 : decode prog_13_method_31_code 146 = .ok (.iinc 4 (-1), 3) := by decide +kernel
theorem d_MenuScreensModel_shown_149 : decode prog_13_method_31_code 149 = .ok (.goto (-26), 3) := by decide +kernel
theorem d_MenuScreensModel_shown_152 : decode prog_13_method_31_code 152 = .ok (.bipush 32, 2) := by decide +kernel
theorem d_MenuScreensModel_shown_154 : decode prog_13_method_31_code 154 = .ok (.ireturn, 1) := by decide +kernel
set_option maxRecDepth 100000 in
set_option maxHeartbeats 4000000 in
theorem cm_MenuScreensModel_shown {l : Launch} {S0 : State} {b : Nat} {D : va_G} {dT : Nat → ClassId} (hE : vEnv S0 b D dT) {h0 : vH} {a : Nat} {ar : Nat → Nat} {x : Nat → Int32} {y : Nat → Int64} {A : Nat → Nat → Int32} {B : Nat → Nat → Int64} (M : MV S0 dT h0 a ar x y A B) (p1 : Int32) (p2 : Int32) {n la : Nat} (hn : x 50 = nI n) (hn2 : n ≤ 200) (hla : y 54 = lN la) (hla2 : la < 2 ^ 63) (hmono : ∀ i j, 1 ≤ i → i ≤ j → j ≤ n → B 52 i ≤ B 52 j) (hr0 : ∀ k, 1 ≤ k → k ≤ n → 0 ≤ A 51 k) {hh wd0 pr np nc : Nat} (hhh : x 1 = nI hh) (hhh2 : hh ≤ 40) (hwd : x 2 = nI wd0) (hwd2 : wd0 ≤ 40) (hpr : x 45 = nI pr) (hpr2 : pr ≤ 30) (hnp : x 28 = nI np) (hnp2 : np ≤ 512) (hP : ∀ p, p < np → ptOK A B p) (hnc : x 39 = nI nc) (hnc2 : nc ≤ 512) (hV : ∀ c, c < nc → ∃ v, A 42 c = nI v ∧ v ≤ 40) : vMi l S0 D vcl GT y_MenuScreensModel_shown prog_13_method_31_code 6 (some .int) 2 100 0 0 [.ref a, .int p1, .int p2] h0 (fun r h' => ∃ x', MR S0 dT h0 h' a ar x' y A B ∧ x' = upd x 0 0 ∧ ((p1 < 0 ∨ x 1 ≤ p1 ∨ p2 < 0 ∨ x 2 ≤ p2) ∧ r = -2 ∨ ∃ ro co, p1 = nI ro ∧ p2 = nI co ∧ ro < hh ∧ co < wd0 ∧ ∃ W0, W0 ≤ n ∧ (W0 = 0 → ∀ k, 1 ≤ k → k ≤ n → ¬ A 53 k = 0) ∧ (0 < W0 → A 53 W0 = 0 ∧ ∀ k, 1 ≤ k → k ≤ n → A 53 k = 0 → A 51 k ≤ A 51 W0) ∧ ((0 < W0 ∧ ro = hh - 1 ∧ co < 3) ∧ r = (if co = 0 then 33 else if co = 1 then 48 + A 51 W0 / 10 else 48 + (A 51 W0 - A 51 W0 / 10 * 10)) ∨ ¬ (0 < W0 ∧ ro = hh - 1 ∧ co < 3) ∧ ((pr = 0 ∨ B 24 pr < y 47) ∧ r = 32 ∨ 0 < pr ∧ ¬ B 24 pr < y 47 ∧ r = scn (fun p => ptV A B (x 45) (x 46) nc p p1 co) np)))) := by
  unfold vMi
  refine vM_ofQ hE.1 (by decide) (Nat.le_of_ble_eq_true rfl) (fun p e s m args below meth c ls Q hQ C hr hlk hnm X hl => ?_)
  have C : vC p s m _ c _ _ "MenuScreensModel" GT D vcl (vty dT) := C
  have hx := C.1.1
  have hb := C.1.2.1
  replace M := MR.of M
  obtain ⟨H, eH⟩ : ∃ z, z = s.heap := ⟨_, rfl⟩
  obtain ⟨locs, elocs⟩ : ∃ z : List Loc, z = [] := ⟨_, rfl⟩
  rw [← eH, ← elocs] at X
  rw [← eH, ← elocs]
  clear eH elocs
  have hl : lv_has ls 6 [(0, .ref a), (1, .int p1), (2, .int p2)] := hl
  refine lv_aload_n hx hb d_MenuScreensModel_shown_0 rfl (lv_at hl 0 rfl) ?_
  refine lv_iconst (v := 0) hx hb d_MenuScreensModel_shown_1 (by decide) ?_
  refine mm_put C X M 0 p_12_127_13 (upd x 0 0) y rfl rfl rfl (by decide) d_MenuScreensModel_shown_2 (fun h H locs X M => ?_)
  refine lv_iload_n hx hb d_MenuScreensModel_shown_5 rfl (lv_at hl 1 rfl) ?_
  refine lv_if_lt (tgt := 29) hx hb d_MenuScreensModel_shown_6 (by decide) (fun c1 => ?_) (fun c1 => ?_)
  · skip
    refine lv_bipush (v := (-2)) hx hb d_MenuScreensModel_shown_29 (by decide) ?_
    exact mq_iret hQ C X hr rfl hlk (⟨(upd x 0 0), M, rfl, Or.inl ⟨by clear X C hl hr; simp_all, rfl⟩⟩) (Nat.le_refl _) (Nat.le_refl _) d_MenuScreensModel_shown_31
  · skip
    refine lv_iload_n hx hb d_MenuScreensModel_shown_9 rfl (lv_at hl 1 rfl) ?_
    refine lv_aload_n hx hb d_MenuScreensModel_shown_10 rfl (lv_at hl 0 rfl) ?_
    refine mm_get C X M 1 f_12_120_13 (.int (x 1)) rfl d_MenuScreensModel_shown_11 ?_
    refine lv_icmp_ge (tgt := 29) hx hb d_MenuScreensModel_shown_14 (by decide) (fun c2 => ?_) (fun c2 => ?_)
    · skip
      refine lv_bipush (v := (-2)) hx hb d_MenuScreensModel_shown_29 (by decide) ?_
      exact mq_iret hQ C X hr rfl hlk (⟨(upd x 0 0), M, rfl, Or.inl ⟨by clear X C hl hr; simp_all, rfl⟩⟩) (Nat.le_refl _) (Nat.le_refl _) d_MenuScreensModel_shown_31
    · skip
      refine lv_iload_n hx hb d_MenuScreensModel_shown_17 rfl (lv_at hl 2 rfl) ?_
      refine lv_if_lt (tgt := 29) hx hb d_MenuScreensModel_shown_18 (by decide) (fun c3 => ?_) (fun c3 => ?_)
      · skip
        refine lv_bipush (v := (-2)) hx hb d_MenuScreensModel_shown_29 (by decide) ?_
        exact mq_iret hQ C X hr rfl hlk (⟨(upd x 0 0), M, rfl, Or.inl ⟨by clear X C hl hr; simp_all, rfl⟩⟩) (Nat.le_refl _) (Nat.le_refl _) d_MenuScreensModel_shown_31
      · skip
        refine lv_iload_n hx hb d_MenuScreensModel_shown_21 rfl (lv_at hl 2 rfl) ?_
        refine lv_aload_n hx hb d_MenuScreensModel_shown_22 rfl (lv_at hl 0 rfl) ?_
        refine mm_get C X M 2 f_12_124_13 (.int (x 2)) rfl d_MenuScreensModel_shown_23 ?_
        refine lv_icmp_lt (tgt := 32) hx hb d_MenuScreensModel_shown_26 (by decide) (fun c4 => ?_) (fun c4 => ?_)
        · skip
          obtain ⟨ro, hro, ero⟩ := ix_lt (n := hh) c1 (by rw [← hhh]; exact Int32.not_le.mp c2) (by omega)
          obtain ⟨co, hco, eco⟩ := ix_lt (n := wd0) c3 (by rw [← hwd]; exact c4) (by omega)
          refine lv_aload_n hx hb d_MenuScreensModel_shown_32 rfl (lv_at hl 0 rfl) ?_
          refine mv_bi X (mv_rV (rest := []) (As := []) gt_good C X k_12_267 (cm_MenuScreensModel_atHand hE M.1 (n := n) (la := la) hn hn2 hla hla2 hmono hr0) M.1.1 rfl rfl ⟨by decide, by decide⟩ rfl hl.1 rfl (by decide) d_MenuScreensModel_shown_33 ⟨Nat.le_refl _, Nat.le_refl _⟩) (fun r5 hN H locs hp X => ?_)
          obtain ⟨ehr5, W0, eW, hW1, hW2, hW3⟩ := hp
          rw [ehr5] at X
          have e1h : x 1 - 1 = nI (hh - 1) := by rw [hhh]; exact nI_sub (b := 1) (by omega)
          have j98 : ∀ (ls : Array Slot) (H : Heap) (locs : List Loc), (¬ (0 < W0 ∧ ro = hh - 1 ∧ co < 3)) → vO S0 D vcl h s H locs → lv_has ls 6 [(0, .ref a), (1, .int p1), (2, .int p2)] → W p l e (vRm 2 100 0 0) s m args below meth c H locs 0 0 Q (F0 m 98 ls []) := by
            intro  ls H locs hnw X hl
            refine lv_aload_n hx hb d_MenuScreensModel_shown_98 rfl (lv_at hl 0 rfl) ?_
            refine mm_get C X M 45 f_12_245_13 (.int (x 45)) rfl d_MenuScreensModel_shown_99 ?_
            refine lv_if_eq (tgt := 112) hx hb d_MenuScreensModel_shown_102 (by decide) (fun c6 => ?_) (fun c6 => ?_)
            · skip
              refine lv_bipush (v := 32) hx hb d_MenuScreensModel_shown_112 (by decide) ?_
              exact mq_iret hQ C X hr rfl hlk (⟨(upd x 0 0), M, rfl, Or.inr ⟨ro, co, ero, eco, hro, hco, W0, hW1, hW2, hW3, Or.inr ⟨hnw, Or.inl ⟨Or.inl (nI_eqI (by omega) (by decide) (by rw [← hpr]; exact c6)), rfl⟩⟩⟩⟩) (Nat.le_refl _) (Nat.le_refl _) d_MenuScreensModel_shown_114
            · skip
              refine lv_aload_n hx hb d_MenuScreensModel_shown_105 rfl (lv_at hl 0 rfl) ?_
              have hp0 : 0 < pr := by
                rcases Nat.eq_zero_or_pos pr with q | q
                · exact absurd (by rw [hpr, q]; rfl) c6
                · exact q
              refine mv_bi X (mv_rV (rest := []) (As := []) gt_good C X k_12_254 (cm_MenuScreensModel_barred hE M.1 (pr := pr) hpr (by omega)) M.1.1 rfl rfl ⟨by decide, by decide⟩ rfl hl.1 rfl (by decide) d_MenuScreensModel_shown_106 ⟨Nat.le_refl _, Nat.le_refl _⟩) (fun r7 hN H locs hp X => ?_)
              obtain ⟨ehr7, er7⟩ := hp
              rw [ehr7] at X
              refine lv_if_eq (tgt := 115) hx hb d_MenuScreensModel_shown_109 (by decide) (fun c8 => ?_) (fun c8 => ?_)
              · skip
                have hnb : ¬ (0 < pr ∧ B 24 pr < y 47) := fun z => absurd ((er7.trans (if_pos z)).symm.trans c8) (by decide)
                refine lv_aload_n hx hb d_MenuScreensModel_shown_115 rfl (lv_at hl 0 rfl) ?_
                refine mm_get C X M 28 f_12_222_13 (.int (x 28)) rfl d_MenuScreensModel_shown_116 ?_
                refine lv_iconst (v := 1) hx hb d_MenuScreensModel_shown_119 (by decide) ?_
                refine lv_isub hx hb d_MenuScreensModel_shown_120 ?_
                refine lv_istore (lv' := [(4, .int ((x 28) - 1)), (0, .ref a), (1, .int p1), (2, .int p2)]) hx hb d_MenuScreensModel_shown_121 hl (by decide) rfl (fun ls hl => ?_)
                have lp : ∀ (n_lp : Nat) (k : Nat) (i : Int32) (ls : Array Slot) (H : Heap) (locs : List Loc), (i = nI k - 1) → (k ≤ np) → (scn (fun p => ptV A B (x 45) (x 46) nc p p1 co) k = scn (fun p => ptV A B (x 45) (x 46) nc p p1 co) np) → (k) < n_lp → vO S0 D vcl h s H locs → lv_has ls 6 [(0, .ref a), (1, .int p1), (2, .int p2), (4, .int i)] → W p l e (vRm 2 100 0 0) s m args below meth c H locs 0 0 Q (F0 m 123 ls []) := by
                  intro n_lp
                  induction n_lp with
                  | zero => intros; exact absurd (by assumption) (Nat.not_lt_zero _)
                  | succ n_lp ih_lp =>
                    intro k i ls H locs ei hk hs hmu_lp X hl
                    refine lv_iload hx hb d_MenuScreensModel_shown_123 (lv_at hl 3 rfl) ?_
                    refine lv_if_lt (tgt := 152) hx hb d_MenuScreensModel_shown_125 (by decide) (fun c9 => ?_) (fun c9 => ?_)
                    · skip
                      refine lv_bipush (v := 32) hx hb d_MenuScreensModel_shown_152 (by decide) ?_
                      exact mq_iret hQ C X hr rfl hlk (⟨(upd x 0 0), M, rfl, Or.inr ⟨ro, co, ero, eco, hro, hco, W0, hW1, hW2, hW3, Or.inr ⟨hnw, Or.inr ⟨hp0, fun z => hnb ⟨hp0, z⟩, by
                          have : k = 0 := by
                            rcases Nat.eq_zero_or_pos k with q | q
                            · exact q
                            · exact absurd (by rw [← nI_sub (a := k) (b := 1) q]; exact ei ▸ c9) (nI_pos (n := k - 1) (by omega))
                          rw [← hs, this]; rfl⟩⟩⟩⟩) (Nat.le_refl _) (Nat.le_refl _) d_MenuScreensModel_shown_154
                    · skip
                      have hk0 : 0 < k := by
                        rcases Nat.eq_zero_or_pos k with q | q
                        · exact absurd (by rw [ei, q]; decide) c9
                        · exact q
                      have ek : i = nI (k - 1) := by rw [ei]; exact nI_sub (b := 1) (by omega)
                      refine lv_aload_n hx hb d_MenuScreensModel_shown_128 rfl (lv_at hl 0 rfl) ?_
                      refine lv_iload hx hb d_MenuScreensModel_shown_129 (lv_at hl 3 rfl) ?_
                      refine lv_iload_n hx hb d_MenuScreensModel_shown_131 rfl (lv_at hl 1 rfl) ?_
                      refine lv_iload_n hx hb d_MenuScreensModel_shown_132 rfl (lv_at hl 2 rfl) ?_
                      refine mv_bi X (mv_rV (rest := []) (As := [.int i, .int p1, .int p2]) gt_good C X k_12_270 (cm_MenuScreensModel_partAt hE M.1 _ _ _ (p0 := k - 1) (co := co) (nc := nc) ek (by omega) eco (by omega) (hP (k - 1) (by omega)) hnc hnc2 hV) M.1.1 rfl rfl ⟨by decide, by decide⟩ rfl hl.1 rfl (by decide) d_MenuScreensModel_shown_133 ⟨Nat.le_refl _, Nat.le_refl _⟩) (fun r10 hN H locs hp X => ?_)
                      obtain ⟨ehr10, er10⟩ := hp
                      rw [ehr10] at X
                      replace er10 : r10 = ptV A B (x 45) (x 46) nc (k - 1) p1 co := er10
                      refine lv_istore (lv' := [(5, .int r10), (0, .ref a), (1, .int p1), (2, .int p2), (4, .int i)]) hx hb d_MenuScreensModel_shown_136 hl (by decide) rfl (fun ls hl => ?_)
                      refine lv_iload hx hb d_MenuScreensModel_shown_138 (lv_at hl 0 rfl) ?_
                      refine lv_if_lt (tgt := 146) hx hb d_MenuScreensModel_shown_140 (by decide) (fun c11 => ?_) (fun c11 => ?_)
                      · skip
                        refine lv_iinc (v := (i + (-1))) (lv' := [(4, .int (i + (-1))), (5, .int r10), (0, .ref a), (1, .int p1), (2, .int p2)]) hx hb d_MenuScreensModel_shown_146 hl (k := 4) rfl rfl (by decide) rfl (fun ls hl => ?_)
                        refine lv_goto (tgt := 123) hx hb d_MenuScreensModel_shown_149 (by decide) ?_
                        exact ih_lp (k - 1) (i + (-1)) ls _ _ (by rw [ek, Int32.sub_eq_add_neg]) (by omega) (by
                            rw [← hs]
                            conv => rhs; rw [show k = (k - 1) + 1 by omega, scn]
                            rw [if_pos (by rw [← er10]; exact c11)]) (by omega) X (lv_sub hl [2, 3, 4, 0] rfl)
                      · skip
                        refine lv_iload hx hb d_MenuScreensModel_shown_143 (lv_at hl 0 rfl) ?_
                        exact mq_iret hQ C X hr rfl hlk (⟨(upd x 0 0), M, rfl, Or.inr ⟨ro, co, ero, eco, hro, hco, W0, hW1, hW2, hW3, Or.inr ⟨hnw, Or.inr ⟨hp0, fun z => hnb ⟨hp0, z⟩, by
                            rw [← hs, show k = (k - 1) + 1 by omega, scn, ← er10, if_neg c11]⟩⟩⟩⟩) (Nat.le_refl _) (Nat.le_refl _) d_MenuScreensModel_shown_145
                exact lp (np + 1) np (x 28 - 1) ls _ _ (by rw [hnp]) (Nat.le_refl _) rfl (Nat.lt_succ_self _) X (lv_sub hl [1, 2, 3, 0] rfl)
              · skip
                refine lv_bipush (v := 32) hx hb d_MenuScreensModel_shown_112 (by decide) ?_
                exact mq_iret hQ C X hr rfl hlk (⟨(upd x 0 0), M, rfl, Or.inr ⟨ro, co, ero, eco, hro, hco, W0, hW1, hW2, hW3, Or.inr ⟨hnw, Or.inl ⟨Or.inr (by
                  apply Classical.byContradiction
                  intro z
                  exact c8 (er7.trans (if_neg (fun q => z q.2)))), rfl⟩⟩⟩⟩) (Nat.le_refl _) (Nat.le_refl _) d_MenuScreensModel_shown_114
          refine lv_istore_n (lv' := [(3, .int r5), (0, .ref a), (1, .int p1), (2, .int p2)]) hx hb d_MenuScreensModel_shown_36 rfl hl (by decide) rfl (fun ls hl => ?_)
          refine lv_iload_n hx hb d_MenuScreensModel_shown_37 rfl (lv_at hl 0 rfl) ?_
          refine lv_if_le (tgt := 98) hx hb d_MenuScreensModel_shown_38 (by decide) (fun c12 => ?_) (fun c12 => ?_)
          · skip
            exact j98 ls _ _ (fun z => absurd (by rw [← eW]; exact c12) (nI_nle z.1 (by omega))) X (lv_sub hl [1, 2, 3] rfl)
          · skip
            refine lv_iload_n hx hb d_MenuScreensModel_shown_41 rfl (lv_at hl 2 rfl) ?_
            refine lv_aload_n hx hb d_MenuScreensModel_shown_42 rfl (lv_at hl 1 rfl) ?_
            refine mm_get C X M 1 f_12_120_13 (.int (x 1)) rfl d_MenuScreensModel_shown_43 ?_
            refine lv_iconst (v := 1) hx hb d_MenuScreensModel_shown_46 (by decide) ?_
            refine lv_isub hx hb d_MenuScreensModel_shown_47 ?_
            refine lv_icmp_ne (tgt := 98) hx hb d_MenuScreensModel_shown_48 (by decide) (fun c13 => ?_) (fun c13 => ?_)
            · skip
              exact j98 ls _ _ (fun z => c13 (by rw [ero, e1h, z.2.1])) X (lv_sub hl [1, 2, 3] rfl)
            · skip
              refine lv_iload_n hx hb d_MenuScreensModel_shown_51 rfl (lv_at hl 3 rfl) ?_
              refine lv_iconst (v := 3) hx hb d_MenuScreensModel_shown_52 (by decide) ?_
              refine lv_icmp_ge (tgt := 98) hx hb d_MenuScreensModel_shown_53 (by decide) (fun c14 => ?_) (fun c14 => ?_)
              · skip
                exact j98 ls _ _ (fun z => absurd (by rw [eco]; exact nI_lt (b := 3) z.2.2 (by decide)) (Int32.not_lt.mpr c14)) X (lv_sub hl [1, 2, 3] rfl)
              · skip
                refine lv_iload_n hx hb d_MenuScreensModel_shown_56 rfl (lv_at hl 3 rfl) ?_
                refine lv_if_ne (tgt := 65) hx hb d_MenuScreensModel_shown_57 (by decide) (fun c15 => ?_) (fun c15 => ?_)
                · skip
                  refine lv_iload_n hx hb d_MenuScreensModel_shown_65 rfl (lv_at hl 3 rfl) ?_
                  refine lv_iconst (v := 1) hx hb d_MenuScreensModel_shown_66 (by decide) ?_
                  refine lv_icmp_ne (tgt := 85) hx hb d_MenuScreensModel_shown_67 (by decide) (fun c16 => ?_) (fun c16 => ?_)
                  · skip
                    refine lv_bipush (v := 48) hx hb d_MenuScreensModel_shown_85 (by decide) ?_
                    refine lv_aload_n hx hb d_MenuScreensModel_shown_87 rfl (lv_at hl 1 rfl) ?_
                    refine mm_get C X M 51 f_12_108_13 (.ref (ar 51)) rfl d_MenuScreensModel_shown_88 ?_
                    refine lv_iload_n hx hb d_MenuScreensModel_shown_91 rfl (lv_at hl 0 rfl) ?_
                    refine mm_iald C X M 51 201 rfl (A 51) rfl (by decide) W0 eW (by omega) d_MenuScreensModel_shown_92 ?_
                    refine lv_bipush (v := 10) hx hb d_MenuScreensModel_shown_93 (by decide) ?_
                    refine lv_irem hx hb d_MenuScreensModel_shown_95 (by decide) ?_
                    refine lv_iadd hx hb d_MenuScreensModel_shown_96 ?_
                    exact mq_iret hQ C X hr rfl hlk (⟨(upd x 0 0), M, rfl, Or.inr ⟨ro, co, ero, eco, hro, hco, W0, hW1, hW2, hW3, Or.inl (by
                      have c3 : co < 3 := by
                        rcases Nat.lt_or_ge co 3 with q | q
                        · exact q
                        · exact absurd (by rw [eco]; exact nI_le (a := 3) q (by omega)) c14
                      have hw0 : 0 < W0 := by
                        rcases Nat.eq_zero_or_pos W0 with q | q
                        · exact absurd (by rw [eW, q]; decide) c12
                        · exact q
                      have hr1 : ro = hh - 1 := nI_eqI (by omega) (by omega) (by rw [← ero, ← e1h]; exact c13)
                      exact ⟨⟨hw0, hr1, c3⟩, ((if_neg (fun z => c15 (by rw [eco, z]; rfl))).trans (if_neg (fun z => c16 (by rw [eco, z]; rfl)))).symm⟩)⟩⟩) (Nat.le_refl _) (Nat.le_refl _) d_MenuScreensModel_shown_97
                  · skip
                    refine lv_bipush (v := 48) hx hb d_MenuScreensModel_shown_70 (by decide) ?_
                    refine lv_aload_n hx hb d_MenuScreensModel_shown_72 rfl (lv_at hl 1 rfl) ?_
                    refine mm_get C X M 51 f_12_108_13 (.ref (ar 51)) rfl d_MenuScreensModel_shown_73 ?_
                    refine lv_iload_n hx hb d_MenuScreensModel_shown_76 rfl (lv_at hl 0 rfl) ?_
                    refine mm_iald C X M 51 201 rfl (A 51) rfl (by decide) W0 eW (by omega) d_MenuScreensModel_shown_77 ?_
                    refine lv_bipush (v := 10) hx hb d_MenuScreensModel_shown_78 (by decide) ?_
                    refine lv_idiv hx hb d_MenuScreensModel_shown_80 (by decide) ?_
                    refine lv_iadd hx hb d_MenuScreensModel_shown_81 ?_
                    refine lv_goto (tgt := 97) hx hb d_MenuScreensModel_shown_82 (by decide) ?_
                    exact mq_iret hQ C X hr rfl hlk (⟨(upd x 0 0), M, rfl, Or.inr ⟨ro, co, ero, eco, hro, hco, W0, hW1, hW2, hW3, Or.inl (by
                      have c3 : co < 3 := by
                        rcases Nat.lt_or_ge co 3 with q | q
                        · exact q
                        · exact absurd (by rw [eco]; exact nI_le (a := 3) q (by omega)) c14
                      have hw0 : 0 < W0 := by
                        rcases Nat.eq_zero_or_pos W0 with q | q
                        · exact absurd (by rw [eW, q]; decide) c12
                        · exact q
                      have hr1 : ro = hh - 1 := nI_eqI (by omega) (by omega) (by rw [← ero, ← e1h]; exact c13)
                      exact ⟨⟨hw0, hr1, c3⟩, ((if_neg (fun z => c15 (by rw [eco, z]; rfl))).trans (if_pos (nI_eqI (by omega) (by decide) (by rw [← eco]; exact c16)))).symm⟩)⟩⟩) (Nat.le_refl _) (Nat.le_refl _) d_MenuScreensModel_shown_97
                · skip
                  refine lv_bipush (v := 33) hx hb d_MenuScreensModel_shown_60 (by decide) ?_
                  refine lv_goto (tgt := 97) hx hb d_MenuScreensModel_shown_62 (by decide) ?_
                  exact mq_iret hQ C X hr rfl hlk (⟨(upd x 0 0), M, rfl, Or.inr ⟨ro, co, ero, eco, hro, hco, W0, hW1, hW2, hW3, Or.inl (by
                    have c3 : co < 3 := by
                      rcases Nat.lt_or_ge co 3 with q | q
                      · exact q
                      · exact absurd (by rw [eco]; exact nI_le (a := 3) q (by omega)) c14
                    have hw0 : 0 < W0 := by
                      rcases Nat.eq_zero_or_pos W0 with q | q
                      · exact absurd (by rw [eW, q]; decide) c12
                      · exact q
                    have hr1 : ro = hh - 1 := nI_eqI (by omega) (by omega) (by rw [← ero, ← e1h]; exact c13)
                    exact ⟨⟨hw0, hr1, c3⟩, (if_pos (nI_eqI (by omega) (by decide) (by rw [← eco]; exact c15))).symm⟩)⟩⟩) (Nat.le_refl _) (Nat.le_refl _) d_MenuScreensModel_shown_97
        · skip
          refine lv_bipush (v := (-2)) hx hb d_MenuScreensModel_shown_29 (by decide) ?_
          exact mq_iret hQ C X hr rfl hlk (⟨(upd x 0 0), M, rfl, Or.inl ⟨by clear X C hl hr; simp_all, rfl⟩⟩) (Nat.le_refl _) (Nat.le_refl _) d_MenuScreensModel_shown_31
theorem d_MenuScreensModel_word_0 : decode prog_13_method_10_code 0 = .ok (.lconst 0, 1) := by decide +kernel
theorem d_MenuScreensModel_word_1 : decode prog_13_method_10_code 1 = .ok (.lstore_n 1, 1) := by decide +kernel
theorem d_MenuScreensModel_word_2 : decode prog_13_method_10_code 2 = .ok (.aload_n 0, 1) := by decide +kernel
theorem d_MenuScreensModel_word_3 : decode prog_13_method_10_code 3 = .ok (.getfield 139, 3) := by decide +kernel
theorem d_MenuScreensModel_word_6 : decode prog_13_method_10_code 6 = .ok (.istore_n 3, 1) := by decide +kernel
theorem d_MenuScreensModel_word_7 : decode prog_13_method_10_code 7 = .ok (.iload_n 3, 1) := by decide +kernel
theorem d_MenuScreensModel_word_8 : decode prog_13_method_10_code 8 = .ok (.aload_n 0, 1) := by decide +kernel
theorem d_MenuScreensModel_word_9 : decode prog_13_method_10_code 9 = .ok (.getfield 142, 3) := by decide +kernel
theorem d_MenuScreensModel_word_12 : decode prog_13_method_10_code 12 = .ok (.if_icmp .ge 37, 3) := by decide +kernel
theorem d_MenuScreensModel_word_15 : decode prog_13_method_10_code 15 = .ok (.aload_n 0, 1) := by decide +kernel
theorem d_MenuScreensModel_word_16 : decode prog_13_method_10_code 16 = .ok (.getfield 142, 3) := by decide +kernel
theorem d_MenuScreensModel_word_19 : decode prog_13_method_10_code 19 = .ok (.aload_n 0, 1) := by decide +kernel
theorem d_MenuScreensModel_word_20 : decode prog_13_method_10_code 20 = .ok (.getfield 139, 3) := by decide +kernel
theorem d_MenuScreensModel_word_23 : decode prog_13_method_10_code 23 = .ok (.isub, 1) := by decide +kernel
theorem d_MenuScreensModel_word_24 : decode prog_13_method_10_code 24 = .ok (.bipush 9, 2) := by decide +kernel
theorem d_MenuScreensModel_word_26 : decode prog_13_method_10_code 26 = .ok (.if_icmp .ge 23, 3) := by decide +kernel
theorem d_MenuScreensModel_word_29 : decode prog_13_method_10_code 29 = .ok (.lload_n 1, 1) := by decide +kernel
theorem d_MenuScreensModel_word_30 : decode prog_13_method_10_code 30 = .ok (.ldc2_w 160, 3) := by decide +kernel
theorem d_MenuScreensModel_word_33 : decode prog_13_method_10_code 33 = .ok (.lmul, 1) := by decide +kernel
theorem d_MenuScreensModel_word_34 : decode prog_13_method_10_code 34 = .ok (.aload_n 0, 1) := by decide +kernel
theorem d_MenuScreensModel_word_35 : decode prog_13_method_10_code 35 = .ok (.getfield 13, 3) := by decide +kernel
theorem d_MenuScreensModel_word_38 : decode prog_13_method_10_code 38 = .ok (.iload_n 3, 1) := by decide +kernel
theorem d_MenuScreensModel_word_39 : decode prog_13_method_10_code 39 = .ok (.iaload, 1) := by decide +kernel
theorem d_MenuScreensModel_word_40 : decode prog_13_method_10_code 40 = .ok (.i2l, 1) := by decide +kernel
theorem d_MenuScreensModel_word_41 : decode prog_13_method_10_code 41 = .ok (.ladd, 1) := by decide +kernel
theorem d_MenuScreensModel_word_42 : decode prog_13_method_10_code 42 = .ok (.lstore_n 1, 1) := by decide +kernel
theorem d_MenuScreensModel_word_43 : decode prog_13_method_10_code 43 = .ok (.iinc 3 1, 3) := by decide +kernel
theorem d_MenuScreensModel_word_46 : decode prog_13_method_10_code 46 = .ok (.goto (-39), 3) := by decide +kernel
theorem d_MenuScreensModel_word_49 : decode prog_13_method_10_code 49 = .ok (.lload_n 1, 1) := by decide +kernel
theorem d_MenuScreensModel_word_50 : decode prog_13_method_10_code 50 = .ok (.lreturn, 1) := by decide +kernel
set_option maxRecDepth 100000 in
set_option maxHeartbeats 4000000 in
theorem cm_MenuScreensModel_word {l : Launch} {S0 : State} {b : Nat} {D : va_G} {dT : Nat → ClassId} (hE : vEnv S0 b D dT) {h0 : vH} {a : Nat} {ar : Nat → Nat} {x : Nat → Int32} {y : Nat → Int64} {A : Nat → Nat → Int32} {B : Nat → Nat → Int64} (M : MV S0 dT h0 a ar x y A B) {F T : Nat} (hF : x 9 = nI F) (hT : x 10 = nI T) (hFT : F ≤ T) (hT4 : T ≤ 4000) : vMl l S0 D vcl GT y_MenuScreensModel_word prog_13_method_10_code 4 (some .long) 0 0 0 0 [.ref a] h0 (fun r h' => h' = h0 ∧ r = if T - F < 9 then wv (A 6) F (T - F) else 0) := by
  unfold vMl
  refine vM_ofQ hE.1 (by decide) (Nat.le_of_ble_eq_true rfl) (fun p e s m args below meth c ls Q hQ C hr hlk hnm X hl => ?_)
  have C : vC p s m _ c _ _ "MenuScreensModel" GT D vcl (vty dT) := C
  have hx := C.1.1
  have hb := C.1.2.1
  replace M := MR.of M
  obtain ⟨H, eH⟩ : ∃ z, z = s.heap := ⟨_, rfl⟩
  obtain ⟨locs, elocs⟩ : ∃ z : List Loc, z = [] := ⟨_, rfl⟩
  rw [← eH, ← elocs] at X
  rw [← eH, ← elocs]
  clear eH elocs
  have hl : lv_has ls 4 [(0, .ref a)] := hl
  refine lv_lconst (v := 0) hx hb d_MenuScreensModel_word_0 (by decide) ?_
  refine lv_lstore_n (lv' := [(1, .long 0), (0, .ref a)]) hx hb d_MenuScreensModel_word_1 rfl hl (by decide) rfl (fun ls hl => ?_)
  refine lv_aload_n hx hb d_MenuScreensModel_word_2 rfl (lv_at hl 1 rfl) ?_
  refine mm_get C X M 9 f_12_139_13 (.int (x 9)) rfl d_MenuScreensModel_word_3 ?_
  refine lv_istore_n (lv' := [(3, .int (x 9)), (1, .long 0), (0, .ref a)]) hx hb d_MenuScreensModel_word_6 rfl hl (by decide) rfl (fun ls hl => ?_)
  have lp : ∀ (n_lp : Nat) (k : Nat) (v : Int64) (i : Int32) (ls : Array Slot), (i = nI k) → (F ≤ k) → (k ≤ T) → (v = wv (A 6) F (k - F)) → (k = F ∨ T - F < 9) → (T - k) < n_lp → lv_has ls 4 [(0, .ref a), (1, .long v), (3, .int i)] → W p l e (vRm 0 0 0 0) s m args below meth c H locs 0 0 Q (F0 m 7 ls []) := by
    intro n_lp
    induction n_lp with
    | zero => intros; exact absurd (by assumption) (Nat.not_lt_zero _)
    | succ n_lp ih_lp =>
      intro k v i ls ei hk1 hk2 ev h9 hmu_lp hl
      refine lv_iload_n hx hb d_MenuScreensModel_word_7 rfl (lv_at hl 2 rfl) ?_
      refine lv_aload_n hx hb d_MenuScreensModel_word_8 rfl (lv_at hl 0 rfl) ?_
      refine mm_get C X M 10 f_12_142_13 (.int (x 10)) rfl d_MenuScreensModel_word_9 ?_
      refine lv_icmp_ge (tgt := 49) hx hb d_MenuScreensModel_word_12 (by decide) (fun c1 => ?_) (fun c1 => ?_)
      · skip
        refine lv_lload_n hx hb d_MenuScreensModel_word_49 rfl (lv_at hl 1 rfl) ?_
        exact mq_lret hQ C X hr hlk (⟨rfl, by
            have : k = T := by
              have := (nI_leI (a := T) (b := k) (by omega) (by omega)).mp (by rw [← ei, ← hT]; exact c1)
              omega
            rw [ev, this]
            rcases h9 with z | z
            · rw [if_pos (by omega)]
            · rw [if_pos z]⟩) (Nat.le_refl _) (Nat.le_refl _) d_MenuScreensModel_word_50
      · skip
        have hlt : k < T := by
          rcases Nat.lt_or_ge k T with q | q
          · exact q
          · exact absurd (by rw [hT, ei]; exact nI_le q (by omega)) c1
        have eTF : x 10 - x 9 = nI (T - F) := by rw [hT, hF]; exact nI_sub hFT
        refine lv_aload_n hx hb d_MenuScreensModel_word_15 rfl (lv_at hl 0 rfl) ?_
        refine mm_get C X M 10 f_12_142_13 (.int (x 10)) rfl d_MenuScreensModel_word_16 ?_
        refine lv_aload_n hx hb d_MenuScreensModel_word_19 rfl (lv_at hl 0 rfl) ?_
        refine mm_get C X M 9 f_12_139_13 (.int (x 9)) rfl d_MenuScreensModel_word_20 ?_
        refine lv_isub hx hb d_MenuScreensModel_word_23 ?_
        refine lv_bipush (v := 9) hx hb d_MenuScreensModel_word_24 (by decide) ?_
        refine lv_icmp_ge (tgt := 49) hx hb d_MenuScreensModel_word_26 (by decide) (fun c2 => ?_) (fun c2 => ?_)
        · skip
          refine lv_lload_n hx hb d_MenuScreensModel_word_49 rfl (lv_at hl 1 rfl) ?_
          exact mq_lret hQ C X hr hlk (⟨rfl, by
              have h99 : ¬ T - F < 9 := fun q => absurd (by rw [eTF]; exact nI_lt (b := 9) q (by decide)) (Int32.not_lt.mpr c2)
              rw [if_neg h99, ev]
              rcases h9 with z | z
              · rw [z, Nat.sub_self]; rfl
              · exact absurd z h99⟩) (Nat.le_refl _) (Nat.le_refl _) d_MenuScreensModel_word_50
        · skip
          have h99 : T - F < 9 := by
            rcases Nat.lt_or_ge (T - F) 9 with q | q
            · exact q
            · exact absurd (by rw [eTF]; exact nI_le (a := 9) q (by omega)) c2
          refine lv_lload_n hx hb d_MenuScreensModel_word_29 rfl (lv_at hl 1 rfl) ?_
          refine lv_ldc2 (v := 128) hx hb C.1.2.2.2.1 (C.1.2.2.2.2 _ (gt_5 231 (by decide +kernel) rfl)) d_MenuScreensModel_word_30 ?_
          refine lv_lmul hx hb d_MenuScreensModel_word_33 ?_
          refine lv_aload_n hx hb d_MenuScreensModel_word_34 rfl (lv_at hl 0 rfl) ?_
          refine mm_get C X M 6 f_12_13_13 (.ref (ar 6)) rfl d_MenuScreensModel_word_35 ?_
          refine lv_iload_n hx hb d_MenuScreensModel_word_38 rfl (lv_at hl 2 rfl) ?_
          refine mm_iald C X M 6 4000 rfl (A 6) rfl (by decide) k ei (by omega) d_MenuScreensModel_word_39 ?_
          refine lv_i2l (v := (((A 6) k) : Int32).toInt64) hx hb d_MenuScreensModel_word_40 rfl ?_
          refine lv_ladd hx hb d_MenuScreensModel_word_41 ?_
          refine lv_lstore_n (lv' := [(1, .long ((v * 128) + ((((A 6) k) : Int32).toInt64))), (0, .ref a), (3, .int i)]) hx hb d_MenuScreensModel_word_42 rfl hl (by decide) rfl (fun ls hl => ?_)
          refine lv_iinc (v := (i + 1)) (lv' := [(3, .int (i + 1)), (1, .long ((v * 128) + ((((A 6) k) : Int32).toInt64))), (0, .ref a)]) hx hb d_MenuScreensModel_word_43 hl (k := 2) rfl rfl (by decide) rfl (fun ls hl => ?_)
          refine lv_goto (tgt := 7) hx hb d_MenuScreensModel_word_46 (by decide) ?_
          exact ih_lp (k + 1) ((v * 128) + ((((A 6) k) : Int32).toInt64)) (i + 1) ls  (by rw [ei]; exact nI_1 k) (by omega) (by omega) (by rw [wv_s hk1, ev]) (Or.inr h99) (by omega) (lv_sub hl [2, 1, 0] rfl)
  exact lp (T - F + 1) F 0 (x 9) ls  hF (Nat.le_refl _) hFT (by rw [Nat.sub_self]; rfl) (Or.inl rfl) (Nat.lt_succ_self _) (lv_sub hl [2, 1, 0] rfl)
end
section
theorem d_MenuScreensModel_told_0 : decode prog_13_method_11_code 0 = .ok (.lconst 0, 1) := by decide +kernel
theorem d_MenuScreensModel_told_1 : decode prog_13_method_11_code 1 = .ok (.lstore 7, 2) := by decide +kernel
theorem d_MenuScreensModel_told_3 : decode prog_13_method_11_code 3 = .ok (.iconst 0, 1) := by decide +kernel
theorem d_MenuScreensModel_told_4 : decode prog_13_method_11_code 4 = .ok (.istore 9, 2) := by decide +kernel
theorem d_MenuScreensModel_told_6 : decode prog_13_method_11_code 6 = .ok (.iload 9, 2) := by decide +kernel
theorem d_MenuScreensModel_told_8 : decode prog_13_method_11_code 8 = .ok (.bipush 7, 2) := by decide +kernel
theorem d_MenuScreensModel_told_10 : decode prog_13_method_11_code 10 = .ok (.if_icmp .ge 96, 3) := by decide +kernel
theorem d_MenuScreensModel_told_13 : decode prog_13_method_11_code 13 = .ok (.iload 9, 2) := by decide +kernel
theorem d_MenuScreensModel_told_15 : decode prog_13_method_11_code 15 = .ok (.ifCond .ne 7, 3) := by decide +kernel
theorem d_MenuScreensModel_told_18 : decode prog_13_method_11_code 18 = .ok (.iload_n 0, 1) := by decide +kernel
theorem d_MenuScreensModel_told_19 : decode prog_13_method_11_code 19 = .ok (.goto 57, 3) := by decide +kernel
theorem d_MenuScreensModel_told_22 : decode prog_13_method_11_code 22 = .ok (.iload 9, 2) := by decide +kernel
theorem d_MenuScreensModel_told_24 : decode prog_13_method_11_code 24 = .ok (.iconst 1, 1) := by decide +kernel
theorem d_MenuScreensModel_told_25 : decode prog_13_method_11_code 25 = .ok (.if_icmp .ne 7, 3) := by decide +kernel
theorem d_MenuScreensModel_told_28 : decode prog_13_method_11_code 28 = .ok (.iload_n 1, 1) := by decide +kernel
theorem d_MenuScreensModel_told_29 : decode prog_13_method_11_code 29 = .ok (.goto 47, 3) := by decide +kernel
theorem d_MenuScreensModel_told_32 : decode prog_13_method_11_code 32 = .ok (.iload 9, 2) := by decide +kernel
theorem d_MenuScreensModel_told_34 : decode prog_13_method_11_code 34 = .ok (.iconst 2, 1) := by decide +kernel
theorem d_MenuScreensModel_told_35 : decode prog_13_method_11_code 35 = .ok (.if_icmp .ne 7, 3) := by decide +kernel
theorem d_MenuScreensModel_told_38 : decode prog_13_method_11_code 38 = .ok (.iload_n 2, 1) := by decide +kernel
theorem d_MenuScreensModel_told_39 : decode prog_13_method_11_code 39 = .ok (.goto 37, 3) := by decide +kernel
theorem d_MenuScreensModel_told_42 : decode prog_13_method_11_code 42 = .ok (.iload 9, 2) := by decide +kernel
theorem d_MenuScreensModel_told_44 : decode prog_13_method_11_code 44 = .ok (.iconst 3, 1) := by decide +kernel
theorem d_MenuScreensModel_told_45 : decode prog_13_method_11_code 45 = .ok (.if_icmp .ne 7, 3) := by decide +kernel
theorem d_MenuScreensModel_told_48 : decode prog_13_method_11_code 48 = .ok (.iload_n 3, 1) := by decide +kernel
theorem d_MenuScreensModel_told_49 : decode prog_13_method_11_code 49 = .ok (.goto 27, 3) := by decide +kernel
theorem d_MenuScreensModel_told_52 : decode prog_13_method_11_code 52 = .ok (.iload 9, 2) := by decide +kernel
theorem d_MenuScreensModel_told_54 : decode prog_13_method_11_code 54 = .ok (.iconst 4, 1) := by decide +kernel
theorem d_MenuScreensModel_told_55 : decode prog_13_method_11_code 55 = .ok (.if_icmp .ne 8, 3) := by decide +kernel
theorem d_MenuScreensModel_told_58 : decode prog_13_method_11_code 58 = .ok (.iload 4, 2) := by decide +kernel
theorem d_MenuScreensModel_told_60 : decode prog_13_method_11_code 60 = .ok (.goto 16, 3) := by decide +kernel
theorem d_MenuScreensModel_told_63 : decode prog_13_method_11_code 63 = .ok (.iload 9, 2) := by decide +kernel
theorem d_MenuScreensModel_told_65 : decode prog_13_method_11_code 65 = .ok (.iconst 5, 1) := by decide +kernel
theorem d_MenuScreensModel_told_66 : decode prog_13_method_11_code 66 = .ok (.if_icmp .ne 8, 3) := by decide +kernel
theorem d_MenuScreensModel_told_69 : decode prog_13_method_11_code 69 = .ok (.iload 5, 2) := by decide +kernel
theorem d_MenuScreensModel_told_71 : decode prog_13_method_11_code 71 = .ok (.goto 5, 3) := by decide +kernel
theorem d_MenuScreensModel_told_74 : decode prog_13_method_11_code 74 = .ok (.iload 6, 2) := by decide +kernel
theorem d_MenuScreensModel_told_76 : decode prog_13_method_11_code 76 = .ok (.istore 10, 2) := by decide +kernel
theorem d_MenuScreensModel_told_78 : decode prog_13_method_11_code 78 = .ok (.iload 10, 2) := by decide +kernel
theorem d_MenuScreensModel_told_80 : decode prog_13_method_11_code 80 = .ok (.ifCond .ne 8, 3) := by decide +kernel
theorem d_MenuScreensModel_told_83 : decode prog_13_method_11_code 83 = .ok (.lload 7, 2) := by decide +kernel
theorem d_MenuScreensModel_told_85 : decode prog_13_method_11_code 85 = .ok (.goto 13, 3) := by decide +kernel
theorem d_MenuScreensModel_told_88 : decode prog_13_method_11_code 88 = .ok (.lload 7, 2) := by decide +kernel
theorem d_MenuScreensModel_told_90 : decode prog_13_method_11_code 90 = .ok (.ldc2_w 160, 3) := by decide +kernel
theorem d_MenuScreensModel_told_93 : decode prog_13_method_11_code 93 = .ok (.lmul, 1) := by decide +kernel
theorem d_MenuScreensModel_told_94 : decode prog_13_method_11_code 94 = .ok (.iload 10, 2) := by decide +kernel
theorem d_MenuScreensModel_told_96 : decode prog_13_method_11_code 96 = .ok (.i2l, 1) := by decide +kernel
theorem d_MenuScreensModel_told_97 : decode prog_13_method_11_code 97 = .ok (.ladd, 1) := by decide +kernel
theorem d_MenuScreensModel_told_98 : decode prog_13_method_11_code 98 = .ok (.lstore 7, 2) := by decide +kernel
theorem d_MenuScreensModel_told_100 : decode prog_13_method_11_code 100 = .ok (.iinc 9 1, 3) := by decide +kernel
theorem d_MenuScreensModel_told_103 : decode prog_13_method_11_code 103 = .ok (.goto (-97), 3) := by decide +kernel
theorem d_MenuScreensModel_told_106 : decode prog_13_method_11_code 106 = .ok (.lload 7, 2) := by decide +kernel
theorem d_MenuScreensModel_told_108 : decode prog_13_method_11_code 108 = .ok (.lreturn, 1) := by decide +kernel
set_option maxRecDepth 100000 in
set_option maxHeartbeats 4000000 in
theorem cm_MenuScreensModel_told {l : Launch} {S0 : State} {b : Nat} {D : va_G} {dT : Nat → ClassId} (hE : vEnv S0 b D dT) {h0 : vH} (p0 : Int32) (p1 : Int32) (p2 : Int32) (p3 : Int32) (p4 : Int32) (p5 : Int32) (p6 : Int32) : vMl l S0 D vcl GT y_MenuScreensModel_told prog_13_method_11_code 11 (some .long) 0 0 0 0 [.int p0, .int p1, .int p2, .int p3, .int p4, .int p5, .int p6] h0 (fun r h' => h' = h0 ∧ r = tl (q7 p0 p1 p2 p3 p4 p5 p6) 7) := by
  unfold vMl
  refine vM_ofQ hE.1 (by decide) (Nat.le_of_ble_eq_true rfl) (fun p e s m args below meth c ls Q hQ C hr hlk hnm X hl => ?_)
  have C : vC p s m _ c _ _ "MenuScreensModel" GT D vcl (vty dT) := C
  have hx := C.1.1
  have hb := C.1.2.1
  obtain ⟨H, eH⟩ : ∃ z, z = s.heap := ⟨_, rfl⟩
  obtain ⟨locs, elocs⟩ : ∃ z : List Loc, z = [] := ⟨_, rfl⟩
  rw [← eH, ← elocs] at X
  rw [← eH, ← elocs]
  clear eH elocs
  have hl : lv_has ls 11 [(0, .int p0), (1, .int p1), (2, .int p2), (3, .int p3), (4, .int p4), (5, .int p5), (6, .int p6)] := hl
  refine lv_lconst (v := 0) hx hb d_MenuScreensModel_told_0 (by decide) ?_
  refine lv_lstore (lv' := [(7, .long 0), (0, .int p0), (1, .int p1), (2, .int p2), (3, .int p3), (4, .int p4), (5, .int p5), (6, .int p6)]) hx hb d_MenuScreensModel_told_1 hl (by decide) rfl (fun ls hl => ?_)
  refine lv_iconst (v := 0) hx hb d_MenuScreensModel_told_3 (by decide) ?_
  refine lv_istore (lv' := [(9, .int 0), (7, .long 0), (0, .int p0), (1, .int p1), (2, .int p2), (3, .int p3), (4, .int p4), (5, .int p5), (6, .int p6)]) hx hb d_MenuScreensModel_told_4 hl (by decide) rfl (fun ls hl => ?_)
  have lp : ∀ (n_lp : Nat) (k : Nat) (v : Int64) (i : Int32) (ls : Array Slot), (i = nI k) → (k ≤ 7) → (v = tl (q7 p0 p1 p2 p3 p4 p5 p6) k) → (7 - k) < n_lp → lv_has ls 11 [(0, .int p0), (1, .int p1), (2, .int p2), (3, .int p3), (4, .int p4), (5, .int p5), (6, .int p6), (7, .long v), (9, .int i)] → W p l e (vRm 0 0 0 0) s m args below meth c H locs 0 0 Q (F0 m 6 ls []) := by
    intro n_lp
    induction n_lp with
    | zero => intros; exact absurd (by assumption) (Nat.not_lt_zero _)
    | succ n_lp ih_lp =>
      intro k v i ls ei hk ev hmu_lp hl
      refine lv_iload hx hb d_MenuScreensModel_told_6 (lv_at hl 8 rfl) ?_
      refine lv_bipush (v := 7) hx hb d_MenuScreensModel_told_8 (by decide) ?_
      refine lv_icmp_ge (tgt := 106) hx hb d_MenuScreensModel_told_10 (by decide) (fun c1 => ?_) (fun c1 => ?_)
      · skip
        refine lv_lload hx hb d_MenuScreensModel_told_106 (lv_at hl 7 rfl) ?_
        exact mq_lret hQ C X hr hlk (⟨rfl, by
            have : k = 7 := by
              have := (nI_leI (a := 7) (b := k) (by decide) (by omega)).mp (by rw [← ei]; exact c1)
              omega
            rw [ev, this]⟩) (Nat.le_refl _) (Nat.le_refl _) d_MenuScreensModel_told_108
      · skip
        have hlt : k < 7 := by
          rcases Nat.lt_or_ge k 7 with q | q
          · exact q
          · exact absurd (by rw [ei]; exact nI_le (a := 7) q (by omega)) c1
        have j76 : ∀ (s1 : Int32) (ls : Array Slot), (s1 = (q7 p0 p1 p2 p3 p4 p5 p6) k) → lv_has ls 11 [(0, .int p0), (1, .int p1), (2, .int p2), (3, .int p3), (4, .int p4), (5, .int p5), (6, .int p6), (7, .long v), (9, .int i)] → W p l e (vRm 0 0 0 0) s m args below meth c H locs 0 0 Q (F0 m 76 ls [.int s1]) := by
          intro s1 ls hs hl
          refine lv_istore (lv' := [(10, .int s1), (0, .int p0), (1, .int p1), (2, .int p2), (3, .int p3), (4, .int p4), (5, .int p5), (6, .int p6), (7, .long v), (9, .int i)]) hx hb d_MenuScreensModel_told_76 hl (by decide) rfl (fun ls hl => ?_)
          refine lv_iload hx hb d_MenuScreensModel_told_78 (lv_at hl 0 rfl) ?_
          refine lv_if_ne (tgt := 88) hx hb d_MenuScreensModel_told_80 (by decide) (fun c2 => ?_) (fun c2 => ?_)
          · skip
            refine lv_lload hx hb d_MenuScreensModel_told_88 (lv_at hl 8 rfl) ?_
            refine lv_ldc2 (v := 128) hx hb C.1.2.2.2.1 (C.1.2.2.2.2 _ (gt_5 231 (by decide +kernel) rfl)) d_MenuScreensModel_told_90 ?_
            refine lv_lmul hx hb d_MenuScreensModel_told_93 ?_
            refine lv_iload hx hb d_MenuScreensModel_told_94 (lv_at hl 0 rfl) ?_
            refine lv_i2l (v := (s1 : Int32).toInt64) hx hb d_MenuScreensModel_told_96 rfl ?_
            refine lv_ladd hx hb d_MenuScreensModel_told_97 ?_
            refine lv_lstore (lv' := [(7, .long ((v * 128) + ((s1 : Int32).toInt64))), (10, .int s1), (0, .int p0), (1, .int p1), (2, .int p2), (3, .int p3), (4, .int p4), (5, .int p5), (6, .int p6), (9, .int i)]) hx hb d_MenuScreensModel_told_98 hl (by decide) rfl (fun ls hl => ?_)
            refine lv_iinc (v := (i + 1)) (lv' := [(9, .int (i + 1)), (7, .long ((v * 128) + ((s1 : Int32).toInt64))), (10, .int s1), (0, .int p0), (1, .int p1), (2, .int p2), (3, .int p3), (4, .int p4), (5, .int p5), (6, .int p6)]) hx hb d_MenuScreensModel_told_100 hl (k := 9) rfl rfl (by decide) rfl (fun ls hl => ?_)
            refine lv_goto (tgt := 6) hx hb d_MenuScreensModel_told_103 (by decide) ?_
            exact ih_lp (k + 1) ((v * 128) + ((s1 : Int32).toInt64)) (i + 1) ls  (by rw [ei]; exact nI_1 k) (by omega) (by rw [tl, if_neg (fun z => c2 (hs.trans z)), ev, hs]) (by omega) (lv_sub hl [3, 4, 5, 6, 7, 8, 9, 1, 0] rfl)
          · skip
            refine lv_lload hx hb d_MenuScreensModel_told_83 (lv_at hl 8 rfl) ?_
            refine lv_goto (tgt := 98) hx hb d_MenuScreensModel_told_85 (by decide) ?_
            refine lv_lstore (lv' := [(7, .long v), (10, .int s1), (0, .int p0), (1, .int p1), (2, .int p2), (3, .int p3), (4, .int p4), (5, .int p5), (6, .int p6), (9, .int i)]) hx hb d_MenuScreensModel_told_98 hl (by decide) rfl (fun ls hl => ?_)
            refine lv_iinc (v := (i + 1)) (lv' := [(9, .int (i + 1)), (7, .long v), (10, .int s1), (0, .int p0), (1, .int p1), (2, .int p2), (3, .int p3), (4, .int p4), (5, .int p5), (6, .int p6)]) hx hb d_MenuScreensModel_told_100 hl (k := 9) rfl rfl (by decide) rfl (fun ls hl => ?_)
            refine lv_goto (tgt := 6) hx hb d_MenuScreensModel_told_103 (by decide) ?_
            exact ih_lp (k + 1) v (i + 1) ls  (by rw [ei]; exact nI_1 k) (by omega) (by rw [tl, if_pos (hs.symm.trans c2), ev]) (by omega) (lv_sub hl [3, 4, 5, 6, 7, 8, 9, 1, 0] rfl)
        refine lv_iload hx hb d_MenuScreensModel_told_13 (lv_at hl 8 rfl) ?_
        refine lv_if_ne (tgt := 22) hx hb d_MenuScreensModel_told_15 (by decide) (fun c3 => ?_) (fun c3 => ?_)
        · skip
          refine lv_iload hx hb d_MenuScreensModel_told_22 (lv_at hl 8 rfl) ?_
          refine lv_iconst (v := 1) hx hb d_MenuScreensModel_told_24 (by decide) ?_
          refine lv_icmp_ne (tgt := 32) hx hb d_MenuScreensModel_told_25 (by decide) (fun c4 => ?_) (fun c4 => ?_)
          · skip
            refine lv_iload hx hb d_MenuScreensModel_told_32 (lv_at hl 8 rfl) ?_
            refine lv_iconst (v := 2) hx hb d_MenuScreensModel_told_34 (by decide) ?_
            refine lv_icmp_ne (tgt := 42) hx hb d_MenuScreensModel_told_35 (by decide) (fun c5 => ?_) (fun c5 => ?_)
            · skip
              refine lv_iload hx hb d_MenuScreensModel_told_42 (lv_at hl 8 rfl) ?_
              refine lv_iconst (v := 3) hx hb d_MenuScreensModel_told_44 (by decide) ?_
              refine lv_icmp_ne (tgt := 52) hx hb d_MenuScreensModel_told_45 (by decide) (fun c6 => ?_) (fun c6 => ?_)
              · skip
                refine lv_iload hx hb d_MenuScreensModel_told_52 (lv_at hl 8 rfl) ?_
                refine lv_iconst (v := 4) hx hb d_MenuScreensModel_told_54 (by decide) ?_
                refine lv_icmp_ne (tgt := 63) hx hb d_MenuScreensModel_told_55 (by decide) (fun c7 => ?_) (fun c7 => ?_)
                · skip
                  refine lv_iload hx hb d_MenuScreensModel_told_63 (lv_at hl 8 rfl) ?_
                  refine lv_iconst (v := 5) hx hb d_MenuScreensModel_told_65 (by decide) ?_
                  refine lv_icmp_ne (tgt := 74) hx hb d_MenuScreensModel_told_66 (by decide) (fun c8 => ?_) (fun c8 => ?_)
                  · skip
                    refine lv_iload hx hb d_MenuScreensModel_told_74 (lv_at hl 6 rfl) ?_
                    have n0 : k ≠ 0 := fun z => c3 (by rw [ei, z]; rfl)
                    have n1 : k ≠ 1 := fun z => c4 (by rw [ei, z]; rfl)
                    have n2 : k ≠ 2 := fun z => c5 (by rw [ei, z]; rfl)
                    have n3 : k ≠ 3 := fun z => c6 (by rw [ei, z]; rfl)
                    have n4 : k ≠ 4 := fun z => c7 (by rw [ei, z]; rfl)
                    have n5 : k ≠ 5 := fun z => c8 (by rw [ei, z]; rfl)
                    exact j76 p6 ls (by unfold q7; rw [if_neg n0, if_neg n1, if_neg n2, if_neg n3, if_neg n4, if_neg n5]) (lv_sub hl [0, 1, 2, 3, 4, 5, 6, 7, 8] rfl)
                  · skip
                    refine lv_iload hx hb d_MenuScreensModel_told_69 (lv_at hl 5 rfl) ?_
                    refine lv_goto (tgt := 76) hx hb d_MenuScreensModel_told_71 (by decide) ?_
                    have n0 : k ≠ 0 := fun z => c3 (by rw [ei, z]; rfl)
                    have n1 : k ≠ 1 := fun z => c4 (by rw [ei, z]; rfl)
                    have n2 : k ≠ 2 := fun z => c5 (by rw [ei, z]; rfl)
                    have n3 : k ≠ 3 := fun z => c6 (by rw [ei, z]; rfl)
                    have n4 : k ≠ 4 := fun z => c7 (by rw [ei, z]; rfl)
                    have n5 : k = 5 := nI_eqI (by omega) (by decide) (by rw [← ei]; exact c8)
                    exact j76 p5 ls (by unfold q7; rw [if_neg n0, if_neg n1, if_neg n2, if_neg n3, if_neg n4, if_pos n5]) (lv_sub hl [0, 1, 2, 3, 4, 5, 6, 7, 8] rfl)
                · skip
                  refine lv_iload hx hb d_MenuScreensModel_told_58 (lv_at hl 4 rfl) ?_
                  refine lv_goto (tgt := 76) hx hb d_MenuScreensModel_told_60 (by decide) ?_
                  have n0 : k ≠ 0 := fun z => c3 (by rw [ei, z]; rfl)
                  have n1 : k ≠ 1 := fun z => c4 (by rw [ei, z]; rfl)
                  have n2 : k ≠ 2 := fun z => c5 (by rw [ei, z]; rfl)
                  have n3 : k ≠ 3 := fun z => c6 (by rw [ei, z]; rfl)
                  have n4 : k = 4 := nI_eqI (by omega) (by decide) (by rw [← ei]; exact c7)
                  exact j76 p4 ls (by unfold q7; rw [if_neg n0, if_neg n1, if_neg n2, if_neg n3, if_pos n4]) (lv_sub hl [0, 1, 2, 3, 4, 5, 6, 7, 8] rfl)
              · skip
                refine lv_iload_n hx hb d_MenuScreensModel_told_48 rfl (lv_at hl 3 rfl) ?_
                refine lv_goto (tgt := 76) hx hb d_MenuScreensModel_told_49 (by decide) ?_
                have n0 : k ≠ 0 := fun z => c3 (by rw [ei, z]; rfl)
                have n1 : k ≠ 1 := fun z => c4 (by rw [ei, z]; rfl)
                have n2 : k ≠ 2 := fun z => c5 (by rw [ei, z]; rfl)
                have n3 : k = 3 := nI_eqI (by omega) (by decide) (by rw [← ei]; exact c6)
                exact j76 p3 ls (by unfold q7; rw [if_neg n0, if_neg n1, if_neg n2, if_pos n3]) (lv_sub hl [0, 1, 2, 3, 4, 5, 6, 7, 8] rfl)
            · skip
              refine lv_iload_n hx hb d_MenuScreensModel_told_38 rfl (lv_at hl 2 rfl) ?_
              refine lv_goto (tgt := 76) hx hb d_MenuScreensModel_told_39 (by decide) ?_
              have n0 : k ≠ 0 := fun z => c3 (by rw [ei, z]; rfl)
              have n1 : k ≠ 1 := fun z => c4 (by rw [ei, z]; rfl)
              have n2 : k = 2 := nI_eqI (by omega) (by decide) (by rw [← ei]; exact c5)
              exact j76 p2 ls (by unfold q7; rw [if_neg n0, if_neg n1, if_pos n2]) (lv_sub hl [0, 1, 2, 3, 4, 5, 6, 7, 8] rfl)
          · skip
            refine lv_iload_n hx hb d_MenuScreensModel_told_28 rfl (lv_at hl 1 rfl) ?_
            refine lv_goto (tgt := 76) hx hb d_MenuScreensModel_told_29 (by decide) ?_
            have n0 : k ≠ 0 := fun z => c3 (by rw [ei, z]; rfl)
            have n1 : k = 1 := nI_eqI (by omega) (by decide) (by rw [← ei]; exact c4)
            exact j76 p1 ls (by unfold q7; rw [if_neg n0, if_pos n1]) (lv_sub hl [0, 1, 2, 3, 4, 5, 6, 7, 8] rfl)
        · skip
          refine lv_iload_n hx hb d_MenuScreensModel_told_18 rfl (lv_at hl 0 rfl) ?_
          refine lv_goto (tgt := 76) hx hb d_MenuScreensModel_told_19 (by decide) ?_
          have n0 : k = 0 := nI_eqI (by omega) (by decide) (by rw [← ei]; exact c3)
          exact j76 p0 ls (by unfold q7; rw [if_pos n0]) (lv_sub hl [0, 1, 2, 3, 4, 5, 6, 7, 8] rfl)
  exact lp (7 - 0 + 1) 0 0 0 ls  rfl (by omega) rfl (Nat.lt_succ_self _) (lv_sub hl [2, 3, 4, 5, 6, 7, 8, 1, 0] rfl)
end
section
theorem d_MenuScreensModel_addScreen_0 : decode prog_13_method_16_code 0 = .ok (.aload_n 0, 1) := by decide +kernel
theorem d_MenuScreensModel_addScreen_1 : decode prog_13_method_16_code 1 = .ok (.invokevirtual 205, 3) := by decide +kernel
theorem d_MenuScreensModel_addScreen_4 : decode prog_13_method_16_code 4 = .ok (.ifCond .eq 27, 3) := by decide +kernel
theorem d_MenuScreensModel_addScreen_7 : decode prog_13_method_16_code 7 = .ok (.aload_n 0, 1) := by decide +kernel
theorem d_MenuScreensModel_addScreen_8 : decode prog_13_method_16_code 8 = .ok (.aload_n 0, 1) := by decide +kernel
theorem d_MenuScreensModel_addScreen_9 : decode prog_13_method_16_code 9 = .ok (.getfield 139, 3) := by decide +kernel
theorem d_MenuScreensModel_addScreen_12 : decode prog_13_method_16_code 12 = .ok (.aload_n 0, 1) := by decide +kernel
theorem d_MenuScreensModel_addScreen_13 : decode prog_13_method_16_code 13 = .ok (.getfield 142, 3) := by decide +kernel
theorem d_MenuScreensModel_addScreen_16 : decode prog_13_method_16_code 16 = .ok (.invokevirtual 216, 3) := by decide +kernel
theorem d_MenuScreensModel_addScreen_19 : decode prog_13_method_16_code 19 = .ok (.ifCond .gt 12, 3) := by decide +kernel
theorem d_MenuScreensModel_addScreen_22 : decode prog_13_method_16_code 22 = .ok (.aload_n 0, 1) := by decide +kernel
theorem d_MenuScreensModel_addScreen_23 : decode prog_13_method_16_code 23 = .ok (.getfield 169, 3) := by decide +kernel
theorem d_MenuScreensModel_addScreen_26 : decode prog_13_method_16_code 26 = .ok (.bipush 30, 2) := by decide +kernel
theorem d_MenuScreensModel_addScreen_28 : decode prog_13_method_16_code 28 = .ok (.if_icmp .ne 5, 3) := by decide +kernel
theorem d_MenuScreensModel_addScreen_31 : decode prog_13_method_16_code 31 = .ok (.iconst 0, 1) := by decide +kernel
theorem d_MenuScreensModel_addScreen_32 : decode prog_13_method_16_code 32 = .ok (.ireturn, 1) := by decide +kernel
theorem d_MenuScreensModel_addScreen_33 : decode prog_13_method_16_code 33 = .ok (.aload_n 0, 1) := by decide +kernel
theorem d_MenuScreensModel_addScreen_34 : decode prog_13_method_16_code 34 = .ok (.getfield 139, 3) := by decide +kernel
theorem d_MenuScreensModel_addScreen_37 : decode prog_13_method_16_code 37 = .ok (.istore_n 2, 1) := by decide +kernel
theorem d_MenuScreensModel_addScreen_38 : decode prog_13_method_16_code 38 = .ok (.aload_n 0, 1) := by decide +kernel
theorem d_MenuScreensModel_addScreen_39 : decode prog_13_method_16_code 39 = .ok (.getfield 142, 3) := by decide +kernel
theorem d_MenuScreensModel_addScreen_42 : decode prog_13_method_16_code 42 = .ok (.istore_n 3, 1) := by decide +kernel
theorem d_MenuScreensModel_addScreen_43 : decode prog_13_method_16_code 43 = .ok (.aload_n 0, 1) := by decide +kernel
theorem d_MenuScreensModel_addScreen_44 : decode prog_13_method_16_code 44 = .ok (.invokevirtual 202, 3) := by decide +kernel
theorem d_MenuScreensModel_addScreen_47 : decode prog_13_method_16_code 47 = .ok (.ifCond .ne 5, 3) := by decide +kernel
theorem d_MenuScreensModel_addScreen_50 : decode prog_13_method_16_code 50 = .ok (.iconst 0, 1) := by decide +kernel
theorem d_MenuScreensModel_addScreen_51 : decode prog_13_method_16_code 51 = .ok (.ireturn, 1) := by decide +kernel
theorem d_MenuScreensModel_addScreen_52 : decode prog_13_method_16_code 52 = .ok (.aload_n 0, 1) := by decide +kernel
theorem d_MenuScreensModel_addScreen_53 : decode prog_13_method_16_code 53 = .ok (.dup, 1) := by decide +kernel
theorem d_MenuScreensModel_addScreen_54 : decode prog_13_method_16_code 54 = .ok (.getfield 169, 3) := by decide +kernel
theorem d_MenuScreensModel_addScreen_57 : decode prog_13_method_16_code 57 = .ok (.iconst 1, 1) := by decide +kernel
theorem d_MenuScreensModel_addScreen_58 : decode prog_13_method_16_code 58 = .ok (.iadd, 1) := by decide +kernel
theorem d_MenuScreensModel_addScreen_59 : decode prog_13_method_16_code 59 = .ok (.putfield 169, 3) := by decide +kernel
theorem d_MenuScreensModel_addScreen_62 : decode prog_13_method_16_code 62 = .ok (.aload_n 0, 1) := by decide +kernel
theorem d_MenuScreensModel_addScreen_63 : decode prog_13_method_16_code 63 = .ok (.getfield 39, 3) := by decide +kernel
theorem d_MenuScreensModel_addScreen_66 : decode prog_13_method_16_code 66 = .ok (.aload_n 0, 1) := by decide +kernel
theorem d_MenuScreensModel_addScreen_67 : decode prog_13_method_16_code 67 = .ok (.getfield 169, 3) := by decide +kernel
theorem d_MenuScreensModel_addScreen_70 : decode prog_13_method_16_code 70 = .ok (.iload_n 2, 1) := by decide +kernel
theorem d_MenuScreensModel_addScreen_71 : decode prog_13_method_16_code 71 = .ok (.iastore, 1) := by decide +kernel
theorem d_MenuScreensModel_addScreen_72 : decode prog_13_method_16_code 72 = .ok (.aload_n 0, 1) := by decide +kernel
theorem d_MenuScreensModel_addScreen_73 : decode prog_13_method_16_code 73 = .ok (.getfield 42, 3) := by decide +kernel
theorem d_MenuScreensModel_addScreen_76 : decode prog_13_method_16_code 76 = .ok (.aload_n 0, 1) := by decide +kernel
theorem d_MenuScreensModel_addScreen_77 : decode prog_13_method_16_code 77 = .ok (.getfield 169, 3) := by decide +kernel
theorem d_MenuScreensModel_addScreen_80 : decode prog_13_method_16_code 80 = .ok (.iload_n 3, 1) := by decide +kernel
theorem d_MenuScreensModel_addScreen_81 : decode prog_13_method_16_code 81 = .ok (.iastore, 1) := by decide +kernel
theorem d_MenuScreensModel_addScreen_82 : decode prog_13_method_16_code 82 = .ok (.aload_n 0, 1) := by decide +kernel
theorem d_MenuScreensModel_addScreen_83 : decode prog_13_method_16_code 83 = .ok (.getfield 45, 3) := by decide +kernel
theorem d_MenuScreensModel_addScreen_86 : decode prog_13_method_16_code 86 = .ok (.aload_n 0, 1) := by decide +kernel
theorem d_MenuScreensModel_addScreen_87 : decode prog_13_method_16_code 87 = .ok (.getfield 169, 3) := by decide +kernel
theorem d_MenuScreensModel_addScreen_90 : decode prog_13_method_16_code 90 = .ok (.iload_n 1, 1) := by decide +kernel
theorem d_MenuScreensModel_addScreen_91 : decode prog_13_method_16_code 91 = .ok (.iastore, 1) := by decide +kernel
theorem d_MenuScreensModel_addScreen_92 : decode prog_13_method_16_code 92 = .ok (.aload_n 0, 1) := by decide +kernel
theorem d_MenuScreensModel_addScreen_93 : decode prog_13_method_16_code 93 = .ok (.getfield 48, 3) := by decide +kernel
theorem d_MenuScreensModel_addScreen_96 : decode prog_13_method_16_code 96 = .ok (.aload_n 0, 1) := by decide +kernel
theorem d_MenuScreensModel_addScreen_97 : decode prog_13_method_16_code 97 = .ok (.getfield 169, 3) := by decide +kernel
theorem d_MenuScreensModel_addScreen_100 : decode prog_13_method_16_code 100 = .ok (.ldc2_w 220, 3) := by decide +kernel
theorem d_MenuScreensModel_addScreen_103 : decode prog_13_method_16_code 103 = .ok (.lastore, 1) := by decide +kernel
theorem d_MenuScreensModel_addScreen_104 : decode prog_13_method_16_code 104 = .ok (.iconst 0, 1) := by decide +kernel
theorem d_MenuScreensModel_addScreen_105 : decode prog_13_method_16_code 105 = .ok (.istore 4, 2) := by decide +kernel
theorem d_MenuScreensModel_addScreen_107 : decode prog_13_method_16_code 107 = .ok (.iload 4, 2) := by decide +kernel
theorem d_MenuScreensModel_addScreen_109 : decode prog_13_method_16_code 109 = .ok (.bipush 10, 2) := by decide +kernel
theorem d_MenuScreensModel_addScreen_111 : decode prog_13_method_16_code 111 = .ok (.if_icmp .ge 25, 3) := by decide +kernel
theorem d_MenuScreensModel_addScreen_114 : decode prog_13_method_16_code 114 = .ok (.aload_n 0, 1) := by decide +kernel
theorem d_MenuScreensModel_addScreen_115 : decode prog_13_method_16_code 115 = .ok (.getfield 57, 3) := by decide +kernel
theorem d_MenuScreensModel_addScreen_118 : decode prog_13_method_16_code 118 = .ok (.bipush 10, 2) := by decide +kernel
theorem d_MenuScreensModel_addScreen_120 : decode prog_13_method_16_code 120 = .ok (.aload_n 0, 1) := by decide +kernel
theorem d_MenuScreensModel_addScreen_121 : decode prog_13_method_16_code 121 = .ok (.getfield 169, 3) := by decide +kernel
theorem d_MenuScreensModel_addScreen_124 : decode prog_13_method_16_code 124 = .ok (.imul, 1) := by decide +kernel
theorem d_MenuScreensModel_addScreen_125 : decode prog_13_method_16_code 125 = .ok (.iload 4, 2) := by decide +kernel
theorem d_MenuScreensModel_addScreen_127 : decode prog_13_method_16_code 127 = .ok (.iadd, 1) := by decide +kernel
theorem d_MenuScreensModel_addScreen_128 : decode prog_13_method_16_code 128 = .ok (.iconst 0, 1) := by decide +kernel
theorem d_MenuScreensModel_addScreen_129 : decode prog_13_method_16_code 129 = .ok (.iastore, 1) := by decide +kernel
theorem d_MenuScreensModel_addScreen_130 : decode prog_13_method_16_code 130 = .ok (.iinc 4 1, 3) := by decide +kernel
theorem d_MenuScreensModel_addScreen_133 : decode prog_13_method_16_code 133 = .ok (.goto (-26), 3) := by decide +kernel
theorem d_MenuScreensModel_addScreen_136 : decode prog_13_method_16_code 136 = .ok (.iconst 1, 1) := by decide +kernel
theorem d_MenuScreensModel_addScreen_137 : decode prog_13_method_16_code 137 = .ok (.ireturn, 1) := by decide +kernel
set_option maxRecDepth 100000 in
set_option maxHeartbeats 4000000 in
theorem cm_MenuScreensModel_addScreen {l : Launch} {S0 : State} {b : Nat} {D : va_G} {dT : Nat → ClassId} (hE : vEnv S0 b D dT) {h0 : vH} {a : Nat} {ar : Nat → Nat} {x : Nat → Int32} {y : Nat → Int64} {A : Nat → Nat → Int32} {B : Nat → Nat → Int64} (M : MV S0 dT h0 a ar x y A B) (p1 : Int32) {i0 e0 : Nat} (hat : x 7 = nI i0) (hend : x 8 = nI e0) (hle : i0 ≤ e0) (he : e0 ≤ 4000) {ns : Nat} (hns : x 20 = nI ns) (hns2 : ns ≤ 30) (hR : ∀ v, 1 ≤ v → v ≤ ns → ∃ p q, A 21 v = nI p ∧ A 22 v = nI q ∧ p ≤ q ∧ q ≤ 4000) : vMi l S0 D vcl GT y_MenuScreensModel_addScreen prog_13_method_16_code 5 (some .boolean) 3 100 0 0 [.ref a, .int p1] h0 (fun r h' => ∃ x' A' B', MR S0 dT h0 h' a ar x' y A' B' ∧ (∀ k, k ≠ 7 → k ≠ 9 → k ≠ 10 → k ≠ 20 → x' k = x k) ∧ (okSc A e0 i0 ns = true ∧ r = 1 ∧ x' 20 = nI (ns + 1) ∧ A' = va_up (va_up (va_up (va_up A 21 (upd (A 21) (ns + 1) (nI (nF (A 6) e0 i0)))) 22 (upd (A 22) (ns + 1) (nI (nT (A 6) e0 i0)))) 23 (upd (A 23) (ns + 1) p1)) 27 (kz (A 27) (10 * (ns + 1)) 10) ∧ B' = va_up B 24 (vp_updL (B 24) (ns + 1) 1000) ∨ okSc A e0 i0 ns = false ∧ r = 0 ∧ x' 20 = x 20 ∧ A' = A ∧ B' = B)) := by
  unfold vMi
  refine vM_ofQ hE.1 (by decide) (Nat.le_of_ble_eq_true rfl) (fun p e s m args below meth c ls Q hQ C hr hlk hnm X hl => ?_)
  have C : vC p s m _ c _ _ "MenuScreensModel" GT D vcl (vty dT) := C
  have hx := C.1.1
  have hb := C.1.2.1
  replace M := MR.of M
  obtain ⟨H, eH⟩ : ∃ z, z = s.heap := ⟨_, rfl⟩
  obtain ⟨locs, elocs⟩ : ∃ z : List Loc, z = [] := ⟨_, rfl⟩
  rw [← eH, ← elocs] at X
  rw [← eH, ← elocs]
  clear eH elocs
  have hl : lv_has ls 5 [(0, .ref a), (1, .int p1)] := hl
  refine lv_aload_n hx hb d_MenuScreensModel_addScreen_0 rfl (lv_at hl 0 rfl) ?_
  refine mv_bi X (mv_rV (rest := []) (As := []) gt_good C X k_12_205 (cm_MenuScreensModel_name hE M.1 (i0 := i0) (e0 := e0) hat hend hle he) M.1.1 rfl rfl ⟨by decide, by decide⟩ rfl hl.1 rfl (by decide) d_MenuScreensModel_addScreen_1 ⟨Nat.le_refl _, Nat.le_refl _⟩) (fun r1 hN H locs hp X => ?_)
  obtain ⟨x1, M1, rfl, er1⟩ := hp
  replace M := M.trans M1
  replace er1 : r1 = bI (cNm (A 6) e0 i0) := er1
  have hT1 := (nT_in (A 6) hle)
  refine lv_if_eq (tgt := 31) hx hb d_MenuScreensModel_addScreen_4 (by decide) (fun c2 => ?_) (fun c2 => ?_)
  · skip
    refine lv_iconst (v := 0) hx hb d_MenuScreensModel_addScreen_31 (by decide) ?_
    exact mq_iret hQ C X hr rfl hlk (⟨(upd (upd (upd x 7 (nI (nT (A 6) e0 i0))) 9 (nI (nF (A 6) e0 i0))) 10 (nI (nT (A 6) e0 i0))), A, B, M, (fun k q7 q9 q10 q20 => by simp [upd, q7, q9, q10, q20]), Or.inr ⟨by unfold okSc; rw [show cNm (A 6) e0 i0 = false from bI_0 (er1.symm.trans c2)]; rfl, rfl, rfl, rfl, rfl⟩⟩) (Nat.le_refl _) (Nat.le_refl _) d_MenuScreensModel_addScreen_32
  · skip
    refine lv_aload_n hx hb d_MenuScreensModel_addScreen_7 rfl (lv_at hl 0 rfl) ?_
    refine lv_aload_n hx hb d_MenuScreensModel_addScreen_8 rfl (lv_at hl 0 rfl) ?_
    refine mm_get C X M 9 f_12_139_13 (.int (nI (nF (A 6) e0 i0))) rfl d_MenuScreensModel_addScreen_9 ?_
    refine lv_aload_n hx hb d_MenuScreensModel_addScreen_12 rfl (lv_at hl 0 rfl) ?_
    refine mm_get C X M 10 f_12_142_13 (.int (nI (nT (A 6) e0 i0))) rfl d_MenuScreensModel_addScreen_13 ?_
    have a1 : cNm (A 6) e0 i0 = true := bI_n (fun z => c2 (er1.trans z))
    refine mv_bi X (mv_rV (rest := []) (As := [.int (nI (nF (A 6) e0 i0)), .int (nI (nT (A 6) e0 i0))]) gt_good C X k_12_216 (cm_MenuScreensModel_findScreen hE M.1 _ _ (n := ns) hns hns2 hR (F := (nF (A 6) e0 i0)) (T := (nT (A 6) e0 i0)) rfl rfl hT1.1 (by omega)) M.1.1 rfl rfl ⟨by decide, by decide⟩ rfl hl.1 rfl (by decide) d_MenuScreensModel_addScreen_16 ⟨Nat.le_refl _, Nat.le_refl _⟩) (fun r3 hN H locs hp X => ?_)
    obtain ⟨ehr3, er3⟩ := hp
    rw [ehr3] at X
    replace er3 : r3 = nI (fS A ns (nF (A 6) e0 i0) (nT (A 6) e0 i0)) := er3
    have hfs : fS A ns (nF (A 6) e0 i0) (nT (A 6) e0 i0) ≤ 1 + ns := fnd_le _ _ _
    refine lv_if_gt (tgt := 31) hx hb d_MenuScreensModel_addScreen_19 (by decide) (fun c4 => ?_) (fun c4 => ?_)
    · skip
      refine lv_iconst (v := 0) hx hb d_MenuScreensModel_addScreen_31 (by decide) ?_
      exact mq_iret hQ C X hr rfl hlk (⟨(upd (upd (upd x 7 (nI (nT (A 6) e0 i0))) 9 (nI (nF (A 6) e0 i0))) 10 (nI (nT (A 6) e0 i0))), A, B, M, (fun k q7 q9 q10 q20 => by simp [upd, q7, q9, q10, q20]), Or.inr ⟨by unfold okSc; rw [decide_eq_false (p := fS A ns (nF (A 6) e0 i0) (nT (A 6) e0 i0) = 0) (fun z => by have := c4; rw [er3, z] at this; exact absurd this (by decide))]; simp, rfl, rfl, rfl, rfl⟩⟩) (Nat.le_refl _) (Nat.le_refl _) d_MenuScreensModel_addScreen_32
    · skip
      have a2 : fS A ns (nF (A 6) e0 i0) (nT (A 6) e0 i0) = 0 := by
        rcases Nat.eq_zero_or_pos (fS A ns (nF (A 6) e0 i0) (nT (A 6) e0 i0)) with q | q
        · exact q
        · exact absurd (by rw [er3]; exact nI_lt (a := 0) q (by omega)) c4
      refine lv_aload_n hx hb d_MenuScreensModel_addScreen_22 rfl (lv_at hl 0 rfl) ?_
      refine mm_get C X M 20 f_12_169_13 (.int (x 20)) rfl d_MenuScreensModel_addScreen_23 ?_
      refine lv_bipush (v := 30) hx hb d_MenuScreensModel_addScreen_26 (by decide) ?_
      refine lv_icmp_ne (tgt := 33) hx hb d_MenuScreensModel_addScreen_28 (by decide) (fun c5 => ?_) (fun c5 => ?_)
      · skip
        have a3 : ns ≠ 30 := fun z => c5 (by rw [hns, z]; rfl)
        refine lv_aload_n hx hb d_MenuScreensModel_addScreen_33 rfl (lv_at hl 0 rfl) ?_
        refine mm_get C X M 9 f_12_139_13 (.int (nI (nF (A 6) e0 i0))) rfl d_MenuScreensModel_addScreen_34 ?_
        refine lv_istore_n (lv' := [(2, .int (nI (nF (A 6) e0 i0))), (0, .ref a), (1, .int p1)]) hx hb d_MenuScreensModel_addScreen_37 rfl hl (by decide) rfl (fun ls hl => ?_)
        refine lv_aload_n hx hb d_MenuScreensModel_addScreen_38 rfl (lv_at hl 1 rfl) ?_
        refine mm_get C X M 10 f_12_142_13 (.int (nI (nT (A 6) e0 i0))) rfl d_MenuScreensModel_addScreen_39 ?_
        refine lv_istore_n (lv' := [(3, .int (nI (nT (A 6) e0 i0))), (2, .int (nI (nF (A 6) e0 i0))), (0, .ref a), (1, .int p1)]) hx hb d_MenuScreensModel_addScreen_42 rfl hl (by decide) rfl (fun ls hl => ?_)
        refine lv_aload_n hx hb d_MenuScreensModel_addScreen_43 rfl (lv_at hl 2 rfl) ?_
        refine mv_bi X (mv_rV (rest := []) (As := []) gt_good C X k_12_202 (cm_MenuScreensModel_through hE M.1 (i0 := (nT (A 6) e0 i0)) (e0 := e0) rfl hend hT1.2 he) M.1.1 rfl rfl ⟨by decide, by decide⟩ rfl hl.1 rfl (by decide) d_MenuScreensModel_addScreen_44 ⟨Nat.le_refl _, Nat.le_refl _⟩) (fun r6 hN H locs hp X => ?_)
        obtain ⟨x1, M1, rfl, er6⟩ := hp
        replace M := M.trans M1
        replace er6 : r6 = bI (cEnd (A 6) e0 (nT (A 6) e0 i0)) := er6
        refine lv_if_ne (tgt := 52) hx hb d_MenuScreensModel_addScreen_47 (by decide) (fun c7 => ?_) (fun c7 => ?_)
        · skip
          have a4 : cEnd (A 6) e0 (nT (A 6) e0 i0) = true := bI_n (fun z => c7 (er6.trans z))
          have e20 : x 20 + 1 = nI (ns + 1) := by rw [hns]; exact nI_1 ns
          refine lv_aload_n hx hb d_MenuScreensModel_addScreen_52 rfl (lv_at hl 2 rfl) ?_
          refine lv_dup hx hb d_MenuScreensModel_addScreen_53 rfl ?_
          refine mm_get C X M 20 f_12_169_13 (.int (x 20)) rfl d_MenuScreensModel_addScreen_54 ?_
          refine lv_iconst (v := 1) hx hb d_MenuScreensModel_addScreen_57 (by decide) ?_
          refine lv_iadd hx hb d_MenuScreensModel_addScreen_58 ?_
          refine mm_put C X M 20 p_12_169_13 (upd (upd (upd (upd x 7 (nI (nT (A 6) e0 (nT (A 6) e0 i0)))) 9 (nI (nF (A 6) e0 (nT (A 6) e0 i0)))) 10 (nI (nT (A 6) e0 (nT (A 6) e0 i0)))) 20 ((x 20) + 1)) y rfl rfl rfl (by decide) d_MenuScreensModel_addScreen_59 (fun h H locs X M => ?_)
          refine lv_aload_n hx hb d_MenuScreensModel_addScreen_62 rfl (lv_at hl 2 rfl) ?_
          refine mm_get C X M 21 f_12_39_13 (.ref (ar 21)) rfl d_MenuScreensModel_addScreen_63 ?_
          refine lv_aload_n hx hb d_MenuScreensModel_addScreen_66 rfl (lv_at hl 2 rfl) ?_
          refine mm_get C X M 20 f_12_169_13 (.int ((x 20) + 1)) rfl d_MenuScreensModel_addScreen_67 ?_
          refine lv_iload_n hx hb d_MenuScreensModel_addScreen_70 rfl (lv_at hl 1 rfl) ?_
          refine mm_iast C X M 21 31 rfl (A 21) rfl (fun _ => rfl) (by decide) (ns + 1) e20 (by omega) d_MenuScreensModel_addScreen_71 (fun h H locs X M => ?_)
          refine lv_aload_n hx hb d_MenuScreensModel_addScreen_72 rfl (lv_at hl 2 rfl) ?_
          refine mm_get C X M 22 f_12_42_13 (.ref (ar 22)) rfl d_MenuScreensModel_addScreen_73 ?_
          refine lv_aload_n hx hb d_MenuScreensModel_addScreen_76 rfl (lv_at hl 2 rfl) ?_
          refine mm_get C X M 20 f_12_169_13 (.int ((x 20) + 1)) rfl d_MenuScreensModel_addScreen_77 ?_
          refine lv_iload_n hx hb d_MenuScreensModel_addScreen_80 rfl (lv_at hl 0 rfl) ?_
          refine mm_iast C X M 22 31 rfl (A 22) rfl (fun _ => rfl) (by decide) (ns + 1) e20 (by omega) d_MenuScreensModel_addScreen_81 (fun h H locs X M => ?_)
          refine lv_aload_n hx hb d_MenuScreensModel_addScreen_82 rfl (lv_at hl 2 rfl) ?_
          refine mm_get C X M 23 f_12_45_13 (.ref (ar 23)) rfl d_MenuScreensModel_addScreen_83 ?_
          refine lv_aload_n hx hb d_MenuScreensModel_addScreen_86 rfl (lv_at hl 2 rfl) ?_
          refine mm_get C X M 20 f_12_169_13 (.int ((x 20) + 1)) rfl d_MenuScreensModel_addScreen_87 ?_
          refine lv_iload_n hx hb d_MenuScreensModel_addScreen_90 rfl (lv_at hl 3 rfl) ?_
          refine mm_iast C X M 23 31 rfl (A 23) rfl (fun _ => rfl) (by decide) (ns + 1) e20 (by omega) d_MenuScreensModel_addScreen_91 (fun h H locs X M => ?_)
          refine lv_aload_n hx hb d_MenuScreensModel_addScreen_92 rfl (lv_at hl 2 rfl) ?_
          refine mm_get C X M 24 f_12_48_13 (.ref (ar 24)) rfl d_MenuScreensModel_addScreen_93 ?_
          refine lv_aload_n hx hb d_MenuScreensModel_addScreen_96 rfl (lv_at hl 2 rfl) ?_
          refine mm_get C X M 20 f_12_169_13 (.int ((x 20) + 1)) rfl d_MenuScreensModel_addScreen_97 ?_
          refine lv_ldc2 (v := 1000) hx hb C.1.2.2.2.1 (C.1.2.2.2.2 _ (gt_6 35 (by decide +kernel) rfl)) d_MenuScreensModel_addScreen_100 ?_
          refine mm_last C X M 24 31 rfl (B 24) rfl (fun _ => rfl) (by decide) (ns + 1) e20 (by omega) d_MenuScreensModel_addScreen_103 (fun h H locs X M => ?_)
          refine lv_iconst (v := 0) hx hb d_MenuScreensModel_addScreen_104 (by decide) ?_
          refine lv_istore (lv' := [(4, .int 0), (3, .int (nI (nT (A 6) e0 i0))), (2, .int (nI (nF (A 6) e0 i0))), (0, .ref a), (1, .int p1)]) hx hb d_MenuScreensModel_addScreen_105 hl (by decide) rfl (fun ls hl => ?_)
          rw [← va_up_id (va_up (va_up (va_up A 21 (upd (A 21) (ns + 1) (nI (nF (A 6) e0 i0)))) 22 (upd (A 22) (ns + 1) (nI (nT (A 6) e0 i0)))) 23 (upd (A 23) (ns + 1) p1)) 27] at M
          have lp : ∀ (n_lp : Nat) (k : Nat) (i : Int32) (ls : Array Slot) (h : vH) (H : Heap) (locs : List Loc), (i = nI k) → (k ≤ 10) → (10 - k) < n_lp → vO S0 D vcl h s H locs → MR S0 dT h0 h a ar (upd (upd (upd (upd x 7 (nI (nT (A 6) e0 (nT (A 6) e0 i0)))) 9 (nI (nF (A 6) e0 (nT (A 6) e0 i0)))) 10 (nI (nT (A 6) e0 (nT (A 6) e0 i0)))) 20 ((x 20) + 1)) y (va_up (va_up (va_up (va_up A 21 (upd (A 21) (ns + 1) (nI (nF (A 6) e0 i0)))) 22 (upd (A 22) (ns + 1) (nI (nT (A 6) e0 i0)))) 23 (upd (A 23) (ns + 1) p1)) 27 (kz (A 27) (10 * (ns + 1)) k)) (va_up B 24 (vp_updL (B 24) (ns + 1) 1000)) → lv_has ls 5 [(0, .ref a), (4, .int i)] → W p l e (vRm 3 100 0 0) s m args below meth c H locs 0 0 Q (F0 m 107 ls []) := by
            intro n_lp
            induction n_lp with
            | zero => intros; exact absurd (by assumption) (Nat.not_lt_zero _)
            | succ n_lp ih_lp =>
              intro k i ls h H locs ei hk hmu_lp X M hl
              refine lv_iload hx hb d_MenuScreensModel_addScreen_107 (lv_at hl 1 rfl) ?_
              refine lv_bipush (v := 10) hx hb d_MenuScreensModel_addScreen_109 (by decide) ?_
              refine lv_icmp_ge (tgt := 136) hx hb d_MenuScreensModel_addScreen_111 (by decide) (fun c8 => ?_) (fun c8 => ?_)
              · skip
                refine lv_iconst (v := 1) hx hb d_MenuScreensModel_addScreen_136 (by decide) ?_
                exact mq_iret hQ C X hr rfl hlk (⟨(upd (upd (upd (upd x 7 (nI (nT (A 6) e0 (nT (A 6) e0 i0)))) 9 (nI (nF (A 6) e0 (nT (A 6) e0 i0)))) 10 (nI (nT (A 6) e0 (nT (A 6) e0 i0)))) 20 ((x 20) + 1)), (va_up (va_up (va_up (va_up A 21 (upd (A 21) (ns + 1) (nI (nF (A 6) e0 i0)))) 22 (upd (A 22) (ns + 1) (nI (nT (A 6) e0 i0)))) 23 (upd (A 23) (ns + 1) p1)) 27 (kz (A 27) (10 * (ns + 1)) k)), (va_up B 24 (vp_updL (B 24) (ns + 1) 1000)), M, (fun k q7 q9 q10 q20 => by simp [upd, q7, q9, q10, q20]), Or.inl ⟨by unfold okSc; rw [a1, a4, decide_eq_true a2, decide_eq_true a3]; rfl, rfl, e20, by
                    have : k = 10 := by
                      have := (nI_leI (a := 10) (b := k) (by decide) (by omega)).mp (by rw [← ei]; exact c8)
                      omega
                    rw [this], rfl⟩⟩) (Nat.le_refl _) (Nat.le_refl _) d_MenuScreensModel_addScreen_137
              · skip
                have hlt : k < 10 := by
                  rcases Nat.lt_or_ge k 10 with q | q
                  · exact q
                  · exact absurd (by rw [ei]; exact nI_le (a := 10) q (by omega)) c8
                have eq0 : 10 * (x 20 + 1) + i = nI ((10 * (ns + 1)) + k) := by rw [e20, ei]; exact (congrArg (· + nI k) (pk_mul 10 (ns + 1))).trans (nI_add _ _)
                refine lv_aload_n hx hb d_MenuScreensModel_addScreen_114 rfl (lv_at hl 0 rfl) ?_
                refine mm_get C X M 27 f_12_57_13 (.ref (ar 27)) rfl d_MenuScreensModel_addScreen_115 ?_
                refine lv_bipush (v := 10) hx hb d_MenuScreensModel_addScreen_118 (by decide) ?_
                refine lv_aload_n hx hb d_MenuScreensModel_addScreen_120 rfl (lv_at hl 0 rfl) ?_
                refine mm_get C X M 20 f_12_169_13 (.int ((x 20) + 1)) rfl d_MenuScreensModel_addScreen_121 ?_
                refine lv_imul hx hb d_MenuScreensModel_addScreen_124 ?_
                refine lv_iload hx hb d_MenuScreensModel_addScreen_125 (lv_at hl 1 rfl) ?_
                refine lv_iadd hx hb d_MenuScreensModel_addScreen_127 ?_
                refine lv_iconst (v := 0) hx hb d_MenuScreensModel_addScreen_128 (by decide) ?_
                refine mm_iast C X M 27 310 rfl (kz (A 27) (10 * (ns + 1)) k) rfl (fun _ => rfl) (by decide) ((10 * (ns + 1)) + k) eq0 (by omega) d_MenuScreensModel_addScreen_129 (fun h H locs X M => ?_)
                rw [bx_uu] at M
                refine lv_iinc (v := (i + 1)) (lv' := [(4, .int (i + 1)), (0, .ref a)]) hx hb d_MenuScreensModel_addScreen_130 hl (k := 1) rfl rfl (by decide) rfl (fun ls hl => ?_)
                refine lv_goto (tgt := 107) hx hb d_MenuScreensModel_addScreen_133 (by decide) ?_
                exact ih_lp (k + 1) (i + 1) ls _ _ _ (by rw [ei]; exact nI_1 k) (by omega) (by omega) X M (lv_sub hl [1, 0] rfl)
          exact lp (10 - 0 + 1) 0 0 ls _ _ _ rfl (by omega) (Nat.lt_succ_self _) X M (lv_sub hl [3, 0] rfl)
        · skip
          refine lv_iconst (v := 0) hx hb d_MenuScreensModel_addScreen_50 (by decide) ?_
          exact mq_iret hQ C X hr rfl hlk (⟨(upd (upd (upd x 7 (nI (nT (A 6) e0 (nT (A 6) e0 i0)))) 9 (nI (nF (A 6) e0 (nT (A 6) e0 i0)))) 10 (nI (nT (A 6) e0 (nT (A 6) e0 i0)))), A, B, M, (fun k q7 q9 q10 q20 => by simp [upd, q7, q9, q10, q20]), Or.inr ⟨by unfold okSc; rw [show cEnd (A 6) e0 (nT (A 6) e0 i0) = false from bI_0 (er6.symm.trans c7)]; simp, rfl, rfl, rfl, rfl⟩⟩) (Nat.le_refl _) (Nat.le_refl _) d_MenuScreensModel_addScreen_51
      · skip
        refine lv_iconst (v := 0) hx hb d_MenuScreensModel_addScreen_31 (by decide) ?_
        exact mq_iret hQ C X hr rfl hlk (⟨(upd (upd (upd x 7 (nI (nT (A 6) e0 i0))) 9 (nI (nF (A 6) e0 i0))) 10 (nI (nT (A 6) e0 i0))), A, B, M, (fun k q7 q9 q10 q20 => by simp [upd, q7, q9, q10, q20]), Or.inr ⟨by unfold okSc; rw [decide_eq_false (p := ns ≠ 30) (fun z => z (nI_eqI (by omega) (by decide) (by rw [← hns]; exact c5)))]; simp, rfl, rfl, rfl, rfl⟩⟩) (Nat.le_refl _) (Nat.le_refl _) d_MenuScreensModel_addScreen_32
end
section
theorem d_MenuScreensModel_addKey_0 : decode prog_13_method_19_code 0 = .ok (.aload_n 0, 1) := by decide +kernel
theorem d_MenuScreensModel_addKey_1 : decode prog_13_method_19_code 1 = .ok (.lconst 1, 1) := by decide +kernel
theorem d_MenuScreensModel_addKey_2 : decode prog_13_method_19_code 2 = .ok (.ldc2_w 225, 3) := by decide +kernel
theorem d_MenuScreensModel_addKey_5 : decode prog_13_method_19_code 5 = .ok (.invokevirtual 199, 3) := by decide +kernel
theorem d_MenuScreensModel_addKey_8 : decode prog_13_method_19_code 8 = .ok (.ifCond .ne 5, 3) := by decide +kernel
theorem d_MenuScreensModel_addKey_11 : decode prog_13_method_19_code 11 = .ok (.iconst 0, 1) := by decide +kernel
theorem d_MenuScreensModel_addKey_12 : decode prog_13_method_19_code 12 = .ok (.ireturn, 1) := by decide +kernel
theorem d_MenuScreensModel_addKey_13 : decode prog_13_method_19_code 13 = .ok (.bipush 10, 2) := by decide +kernel
theorem d_MenuScreensModel_addKey_15 : decode prog_13_method_19_code 15 = .ok (.aload_n 0, 1) := by decide +kernel
theorem d_MenuScreensModel_addKey_16 : decode prog_13_method_19_code 16 = .ok (.getfield 169, 3) := by decide +kernel
theorem d_MenuScreensModel_addKey_19 : decode prog_13_method_19_code 19 = .ok (.imul, 1) := by decide +kernel
theorem d_MenuScreensModel_addKey_20 : decode prog_13_method_19_code 20 = .ok (.aload_n 0, 1) := by decide +kernel
theorem d_MenuScreensModel_addKey_21 : decode prog_13_method_19_code 21 = .ok (.getfield 152, 3) := by decide +kernel
theorem d_MenuScreensModel_addKey_24 : decode prog_13_method_19_code 24 = .ok (.l2i, 1) := by decide +kernel
theorem d_MenuScreensModel_addKey_25 : decode prog_13_method_19_code 25 = .ok (.iadd, 1) := by decide +kernel
theorem d_MenuScreensModel_addKey_26 : decode prog_13_method_19_code 26 = .ok (.istore_n 1, 1) := by decide +kernel
theorem d_MenuScreensModel_addKey_27 : decode prog_13_method_19_code 27 = .ok (.aload_n 0, 1) := by decide +kernel
theorem d_MenuScreensModel_addKey_28 : decode prog_13_method_19_code 28 = .ok (.invokevirtual 205, 3) := by decide +kernel
theorem d_MenuScreensModel_addKey_31 : decode prog_13_method_19_code 31 = .ok (.ifCond .ne 5, 3) := by decide +kernel
theorem d_MenuScreensModel_addKey_34 : decode prog_13_method_19_code 34 = .ok (.iconst 0, 1) := by decide +kernel
theorem d_MenuScreensModel_addKey_35 : decode prog_13_method_19_code 35 = .ok (.ireturn, 1) := by decide +kernel
theorem d_MenuScreensModel_addKey_36 : decode prog_13_method_19_code 36 = .ok (.aload_n 0, 1) := by decide +kernel
theorem d_MenuScreensModel_addKey_37 : decode prog_13_method_19_code 37 = .ok (.getfield 139, 3) := by decide +kernel
theorem d_MenuScreensModel_addKey_40 : decode prog_13_method_19_code 40 = .ok (.istore_n 2, 1) := by decide +kernel
theorem d_MenuScreensModel_addKey_41 : decode prog_13_method_19_code 41 = .ok (.aload_n 0, 1) := by decide +kernel
theorem d_MenuScreensModel_addKey_42 : decode prog_13_method_19_code 42 = .ok (.getfield 142, 3) := by decide +kernel
theorem d_MenuScreensModel_addKey_45 : decode prog_13_method_19_code 45 = .ok (.istore_n 3, 1) := by decide +kernel
theorem d_MenuScreensModel_addKey_46 : decode prog_13_method_19_code 46 = .ok (.aload_n 0, 1) := by decide +kernel
theorem d_MenuScreensModel_addKey_47 : decode prog_13_method_19_code 47 = .ok (.invokevirtual 202, 3) := by decide +kernel
theorem d_MenuScreensModel_addKey_50 : decode prog_13_method_19_code 50 = .ok (.ifCond .eq 12, 3) := by decide +kernel
theorem d_MenuScreensModel_addKey_53 : decode prog_13_method_19_code 53 = .ok (.aload_n 0, 1) := by decide +kernel
theorem d_MenuScreensModel_addKey_54 : decode prog_13_method_19_code 54 = .ok (.getfield 57, 3) := by decide +kernel
theorem d_MenuScreensModel_addKey_57 : decode prog_13_method_19_code 57 = .ok (.iload_n 1, 1) := by decide +kernel
theorem d_MenuScreensModel_addKey_58 : decode prog_13_method_19_code 58 = .ok (.iaload, 1) := by decide +kernel
theorem d_MenuScreensModel_addKey_59 : decode prog_13_method_19_code 59 = .ok (.ifCond .le 5, 3) := by decide +kernel
theorem d_MenuScreensModel_addKey_62 : decode prog_13_method_19_code 62 = .ok (.iconst 0, 1) := by decide +kernel
theorem d_MenuScreensModel_addKey_63 : decode prog_13_method_19_code 63 = .ok (.ireturn, 1) := by decide +kernel
theorem d_MenuScreensModel_addKey_64 : decode prog_13_method_19_code 64 = .ok (.aload_n 0, 1) := by decide +kernel
theorem d_MenuScreensModel_addKey_65 : decode prog_13_method_19_code 65 = .ok (.getfield 54, 3) := by decide +kernel
theorem d_MenuScreensModel_addKey_68 : decode prog_13_method_19_code 68 = .ok (.iload_n 1, 1) := by decide +kernel
theorem d_MenuScreensModel_addKey_69 : decode prog_13_method_19_code 69 = .ok (.iload_n 2, 1) := by decide +kernel
theorem d_MenuScreensModel_addKey_70 : decode prog_13_method_19_code 70 = .ok (.iastore, 1) := by decide +kernel
theorem d_MenuScreensModel_addKey_71 : decode prog_13_method_19_code 71 = .ok (.aload_n 0, 1) := by decide +kernel
theorem d_MenuScreensModel_addKey_72 : decode prog_13_method_19_code 72 = .ok (.getfield 57, 3) := by decide +kernel
theorem d_MenuScreensModel_addKey_75 : decode prog_13_method_19_code 75 = .ok (.iload_n 1, 1) := by decide +kernel
theorem d_MenuScreensModel_addKey_76 : decode prog_13_method_19_code 76 = .ok (.iload_n 3, 1) := by decide +kernel
theorem d_MenuScreensModel_addKey_77 : decode prog_13_method_19_code 77 = .ok (.iastore, 1) := by decide +kernel
theorem d_MenuScreensModel_addKey_78 : decode prog_13_method_19_code 78 = .ok (.iconst 1, 1) := by decide +kernel
theorem d_MenuScreensModel_addKey_79 : decode prog_13_method_19_code 79 = .ok (.ireturn, 1) := by decide +kernel
set_option maxRecDepth 100000 in
set_option maxHeartbeats 4000000 in
theorem cm_MenuScreensModel_addKey {l : Launch} {S0 : State} {b : Nat} {D : va_G} {dT : Nat → ClassId} (hE : vEnv S0 b D dT) {h0 : vH} {a : Nat} {ar : Nat → Nat} {x : Nat → Int32} {y : Nat → Int64} {A : Nat → Nat → Int32} {B : Nat → Nat → Int64} (M : MV S0 dT h0 a ar x y A B) {i0 e0 : Nat} (hat : x 7 = nI i0) (hend : x 8 = nI e0) (hle : i0 ≤ e0) (he : e0 ≤ 4000) {ns : Nat} (hns : x 20 = nI ns) (hns2 : ns ≤ 30) : vMi l S0 D vcl GT y_MenuScreensModel_addKey prog_13_method_19_code 4 (some .boolean) 3 100 0 0 [.ref a] h0 (fun r h' => ∃ x' y' A', MR S0 dT h0 h' a ar x' y' A' B ∧ (∀ k, k ≠ 7 → k ≠ 9 → k ≠ 10 → x' k = x k) ∧ (∀ k, k ≠ 11 → y' k = y k) ∧ (okKe A e0 i0 ns = true ∧ r = 1 ∧ A' = va_up (va_up A 26 (upd (A 26) (10 * ns + (vNu (A 6) e0 i0).toInt32.toNatClampNeg) (nI (nF (A 6) e0 (nT (A 6) e0 i0))))) 27 (upd (A 27) (10 * ns + (vNu (A 6) e0 i0).toInt32.toNatClampNeg) (nI (nT (A 6) e0 (nT (A 6) e0 i0)))) ∨ okKe A e0 i0 ns = false ∧ r = 0 ∧ A' = A)) := by
  unfold vMi
  refine vM_ofQ hE.1 (by decide) (Nat.le_of_ble_eq_true rfl) (fun p e s m args below meth c ls Q hQ C hr hlk hnm X hl => ?_)
  have C : vC p s m _ c _ _ "MenuScreensModel" GT D vcl (vty dT) := C
  have hx := C.1.1
  have hb := C.1.2.1
  replace M := MR.of M
  obtain ⟨H, eH⟩ : ∃ z, z = s.heap := ⟨_, rfl⟩
  obtain ⟨locs, elocs⟩ : ∃ z : List Loc, z = [] := ⟨_, rfl⟩
  rw [← eH, ← elocs] at X
  rw [← eH, ← elocs]
  clear eH elocs
  have hl : lv_has ls 4 [(0, .ref a)] := hl
  refine lv_aload_n hx hb d_MenuScreensModel_addKey_0 rfl (lv_at hl 0 rfl) ?_
  refine lv_lconst (v := 1) hx hb d_MenuScreensModel_addKey_1 (by decide) ?_
  refine lv_ldc2 (v := 9) hx hb C.1.2.2.2.1 (C.1.2.2.2.2 _ (gt_6 40 (by decide +kernel) rfl)) d_MenuScreensModel_addKey_2 ?_
  refine mv_bi X (mv_rV (rest := []) (As := [.long 1, .long 9]) gt_good C X k_12_199 (cm_MenuScreensModel_number hE M.1 _ _ (i0 := i0) (e0 := e0) hat hend hle he) M.1.1 rfl rfl ⟨by decide, by decide⟩ rfl hl.1 rfl (by decide) d_MenuScreensModel_addKey_5 ⟨Nat.le_refl _, Nat.le_refl _⟩) (fun r1 hN H locs hp X => ?_)
  obtain ⟨x1, yn2, M1, rfl, kyn2, vyn2, er1⟩ := hp
  replace M := M.trans M1
  replace er1 : r1 = bI (cNu (A 6) e0 i0 1 9) := er1
  replace vyn2 : r1 = 1 → yn2 11 = vNu (A 6) e0 i0 := vyn2
  have hT1 := (nT_in (A 6) hle)
  have hT2 := (nT_in (A 6) hT1.2)
  refine lv_if_ne (tgt := 13) hx hb d_MenuScreensModel_addKey_8 (by decide) (fun c3 => ?_) (fun c3 => ?_)
  · skip
    have a1 : cNu (A 6) e0 i0 1 9 = true := bI_n (fun z => c3 (er1.trans z))
    have er : r1 = 1 := by rw [er1, a1]; rfl
    have ev := vyn2 er
    obtain ⟨K, hK1, hK2, eK⟩ := l64_in (lo := 1) (hi := 9) (cNu_in a1).1 (cNu_in a1).2 (by decide) (by decide)
    have eKc : (vNu (A 6) e0 i0).toInt32.toNatClampNeg = K := by rw [eK, lN_i]; exact nI_clamp (by omega)
    have ek : 10 * x 20 + ((yn2 11) : Int64).toInt32 = nI (10 * ns + K) := by rw [hns, ev, eK, lN_i]; exact (congrArg (· + nI K) (pk_mul 10 ns)).trans (nI_add _ _)
    refine lv_bipush (v := 10) hx hb d_MenuScreensModel_addKey_13 (by decide) ?_
    refine lv_aload_n hx hb d_MenuScreensModel_addKey_15 rfl (lv_at hl 0 rfl) ?_
    refine mm_get C X M 20 f_12_169_13 (.int (x 20)) rfl d_MenuScreensModel_addKey_16 ?_
    refine lv_imul hx hb d_MenuScreensModel_addKey_19 ?_
    refine lv_aload_n hx hb d_MenuScreensModel_addKey_20 rfl (lv_at hl 0 rfl) ?_
    refine mm_get C X M 11 f_12_152_13 (.long (yn2 11)) rfl d_MenuScreensModel_addKey_21 ?_
    refine lv_l2i (v := ((yn2 11) : Int64).toInt32) hx hb d_MenuScreensModel_addKey_24 rfl ?_
    refine lv_iadd hx hb d_MenuScreensModel_addKey_25 ?_
    refine lv_istore_n (lv' := [(1, .int ((10 * (x 20)) + (((yn2 11) : Int64).toInt32))), (0, .ref a)]) hx hb d_MenuScreensModel_addKey_26 rfl hl (by decide) rfl (fun ls hl => ?_)
    refine lv_aload_n hx hb d_MenuScreensModel_addKey_27 rfl (lv_at hl 1 rfl) ?_
    refine mv_bi X (mv_rV (rest := []) (As := []) gt_good C X k_12_205 (cm_MenuScreensModel_name hE M.1 (i0 := (nT (A 6) e0 i0)) (e0 := e0) rfl hend hT1.2 he) M.1.1 rfl rfl ⟨by decide, by decide⟩ rfl hl.1 rfl (by decide) d_MenuScreensModel_addKey_28 ⟨Nat.le_refl _, Nat.le_refl _⟩) (fun r4 hN H locs hp X => ?_)
    obtain ⟨x1, M1, rfl, er4⟩ := hp
    replace M := M.trans M1
    replace er4 : r4 = bI (cNm (A 6) e0 (nT (A 6) e0 i0)) := er4
    refine lv_if_ne (tgt := 36) hx hb d_MenuScreensModel_addKey_31 (by decide) (fun c5 => ?_) (fun c5 => ?_)
    · skip
      have a2 : cNm (A 6) e0 (nT (A 6) e0 i0) = true := bI_n (fun z => c5 (er4.trans z))
      refine lv_aload_n hx hb d_MenuScreensModel_addKey_36 rfl (lv_at hl 1 rfl) ?_
      refine mm_get C X M 9 f_12_139_13 (.int (nI (nF (A 6) e0 (nT (A 6) e0 i0)))) rfl d_MenuScreensModel_addKey_37 ?_
      refine lv_istore_n (lv' := [(2, .int (nI (nF (A 6) e0 (nT (A 6) e0 i0)))), (1, .int ((10 * (x 20)) + (((yn2 11) : Int64).toInt32))), (0, .ref a)]) hx hb d_MenuScreensModel_addKey_40 rfl hl (by decide) rfl (fun ls hl => ?_)
      refine lv_aload_n hx hb d_MenuScreensModel_addKey_41 rfl (lv_at hl 2 rfl) ?_
      refine mm_get C X M 10 f_12_142_13 (.int (nI (nT (A 6) e0 (nT (A 6) e0 i0)))) rfl d_MenuScreensModel_addKey_42 ?_
      refine lv_istore_n (lv' := [(3, .int (nI (nT (A 6) e0 (nT (A 6) e0 i0)))), (2, .int (nI (nF (A 6) e0 (nT (A 6) e0 i0)))), (1, .int ((10 * (x 20)) + (((yn2 11) : Int64).toInt32))), (0, .ref a)]) hx hb d_MenuScreensModel_addKey_45 rfl hl (by decide) rfl (fun ls hl => ?_)
      refine lv_aload_n hx hb d_MenuScreensModel_addKey_46 rfl (lv_at hl 3 rfl) ?_
      refine mv_bi X (mv_rV (rest := []) (As := []) gt_good C X k_12_202 (cm_MenuScreensModel_through hE M.1 (i0 := (nT (A 6) e0 (nT (A 6) e0 i0))) (e0 := e0) rfl hend hT2.2 he) M.1.1 rfl rfl ⟨by decide, by decide⟩ rfl hl.1 rfl (by decide) d_MenuScreensModel_addKey_47 ⟨Nat.le_refl _, Nat.le_refl _⟩) (fun r6 hN H locs hp X => ?_)
      obtain ⟨x1, M1, rfl, er6⟩ := hp
      replace M := M.trans M1
      replace er6 : r6 = bI (cEnd (A 6) e0 (nT (A 6) e0 (nT (A 6) e0 i0))) := er6
      refine lv_if_eq (tgt := 62) hx hb d_MenuScreensModel_addKey_50 (by decide) (fun c7 => ?_) (fun c7 => ?_)
      · skip
        refine lv_iconst (v := 0) hx hb d_MenuScreensModel_addKey_62 (by decide) ?_
        exact mq_iret hQ C X hr rfl hlk (⟨(upd (upd (upd x 7 (nI (nT (A 6) e0 (nT (A 6) e0 (nT (A 6) e0 i0))))) 9 (nI (nF (A 6) e0 (nT (A 6) e0 (nT (A 6) e0 i0))))) 10 (nI (nT (A 6) e0 (nT (A 6) e0 (nT (A 6) e0 i0))))), yn2, A, M, (fun k q7 q9 q10 => by simp [upd, q7, q9, q10]), (fun k q11 => by rw [kyn2 k q11]), Or.inr ⟨by unfold okKe; rw [show cEnd (A 6) e0 (nT (A 6) e0 (nT (A 6) e0 i0)) = false from bI_0 (er6.symm.trans c7)]; simp, rfl, rfl⟩⟩) (Nat.le_refl _) (Nat.le_refl _) d_MenuScreensModel_addKey_63
      · skip
        have a3 : cEnd (A 6) e0 (nT (A 6) e0 (nT (A 6) e0 i0)) = true := bI_n (fun z => c7 (er6.trans z))
        refine lv_aload_n hx hb d_MenuScreensModel_addKey_53 rfl (lv_at hl 3 rfl) ?_
        refine mm_get C X M 27 f_12_57_13 (.ref (ar 27)) rfl d_MenuScreensModel_addKey_54 ?_
        refine lv_iload_n hx hb d_MenuScreensModel_addKey_57 rfl (lv_at hl 2 rfl) ?_
        refine mm_iald C X M 27 310 rfl (A 27) rfl (by decide) (10 * ns + K) ek (by omega) d_MenuScreensModel_addKey_58 ?_
        refine lv_if_le (tgt := 64) hx hb d_MenuScreensModel_addKey_59 (by decide) (fun c8 => ?_) (fun c8 => ?_)
        · skip
          refine lv_aload_n hx hb d_MenuScreensModel_addKey_64 rfl (lv_at hl 3 rfl) ?_
          refine mm_get C X M 26 f_12_54_13 (.ref (ar 26)) rfl d_MenuScreensModel_addKey_65 ?_
          refine lv_iload_n hx hb d_MenuScreensModel_addKey_68 rfl (lv_at hl 2 rfl) ?_
          refine lv_iload_n hx hb d_MenuScreensModel_addKey_69 rfl (lv_at hl 1 rfl) ?_
          refine mm_iast C X M 26 310 rfl (A 26) rfl (fun _ => rfl) (by decide) (10 * ns + K) ek (by omega) d_MenuScreensModel_addKey_70 (fun h H locs X M => ?_)
          refine lv_aload_n hx hb d_MenuScreensModel_addKey_71 rfl (lv_at hl 3 rfl) ?_
          refine mm_get C X M 27 f_12_57_13 (.ref (ar 27)) rfl d_MenuScreensModel_addKey_72 ?_
          refine lv_iload_n hx hb d_MenuScreensModel_addKey_75 rfl (lv_at hl 2 rfl) ?_
          refine lv_iload_n hx hb d_MenuScreensModel_addKey_76 rfl (lv_at hl 0 rfl) ?_
          refine mm_iast C X M 27 310 rfl (A 27) rfl (fun _ => rfl) (by decide) (10 * ns + K) ek (by omega) d_MenuScreensModel_addKey_77 (fun h H locs X M => ?_)
          refine lv_iconst (v := 1) hx hb d_MenuScreensModel_addKey_78 (by decide) ?_
          exact mq_iret hQ C X hr rfl hlk (⟨(upd (upd (upd x 7 (nI (nT (A 6) e0 (nT (A 6) e0 (nT (A 6) e0 i0))))) 9 (nI (nF (A 6) e0 (nT (A 6) e0 (nT (A 6) e0 i0))))) 10 (nI (nT (A 6) e0 (nT (A 6) e0 (nT (A 6) e0 i0))))), yn2, (va_up (va_up A 26 (upd (A 26) (10 * ns + K) (nI (nF (A 6) e0 (nT (A 6) e0 i0))))) 27 (upd (A 27) (10 * ns + K) (nI (nT (A 6) e0 (nT (A 6) e0 i0))))), M, (fun k q7 q9 q10 => by simp [upd, q7, q9, q10]), (fun k q11 => by rw [kyn2 k q11]), Or.inl ⟨by unfold okKe; rw [a1, a2, a3, eKc, decide_eq_true (p := A 27 (10 * ns + K) ≤ 0) c8]; rfl, rfl, by rw [eKc]⟩⟩) (Nat.le_refl _) (Nat.le_refl _) d_MenuScreensModel_addKey_79
        · skip
          refine lv_iconst (v := 0) hx hb d_MenuScreensModel_addKey_62 (by decide) ?_
          exact mq_iret hQ C X hr rfl hlk (⟨(upd (upd (upd x 7 (nI (nT (A 6) e0 (nT (A 6) e0 (nT (A 6) e0 i0))))) 9 (nI (nF (A 6) e0 (nT (A 6) e0 (nT (A 6) e0 i0))))) 10 (nI (nT (A 6) e0 (nT (A 6) e0 (nT (A 6) e0 i0))))), yn2, A, M, (fun k q7 q9 q10 => by simp [upd, q7, q9, q10]), (fun k q11 => by rw [kyn2 k q11]), Or.inr ⟨by unfold okKe; rw [eKc, decide_eq_false (p := A 27 (10 * ns + K) ≤ 0) c8]; simp, rfl, rfl⟩⟩) (Nat.le_refl _) (Nat.le_refl _) d_MenuScreensModel_addKey_63
    · skip
      refine lv_iconst (v := 0) hx hb d_MenuScreensModel_addKey_34 (by decide) ?_
      exact mq_iret hQ C X hr rfl hlk (⟨(upd (upd (upd x 7 (nI (nT (A 6) e0 (nT (A 6) e0 i0)))) 9 (nI (nF (A 6) e0 (nT (A 6) e0 i0)))) 10 (nI (nT (A 6) e0 (nT (A 6) e0 i0)))), yn2, A, M, (fun k q7 q9 q10 => by simp [upd, q7, q9, q10]), (fun k q11 => by rw [kyn2 k q11]), Or.inr ⟨by unfold okKe; rw [show cNm (A 6) e0 (nT (A 6) e0 i0) = false from bI_0 (er4.symm.trans c5)]; simp, rfl, rfl⟩⟩) (Nat.le_refl _) (Nat.le_refl _) d_MenuScreensModel_addKey_35
  · skip
    refine lv_iconst (v := 0) hx hb d_MenuScreensModel_addKey_11 (by decide) ?_
    exact mq_iret hQ C X hr rfl hlk (⟨(upd (upd (upd x 7 (nI (nT (A 6) e0 i0))) 9 (nI (nF (A 6) e0 i0))) 10 (nI (nT (A 6) e0 i0))), yn2, A, M, (fun k q7 q9 q10 => by simp [upd, q7, q9, q10]), (fun k q11 => by rw [kyn2 k q11]), Or.inr ⟨by unfold okKe; rw [show cNu (A 6) e0 i0 1 9 = false from bI_0 (er1.symm.trans c3)]; rfl, rfl, rfl⟩⟩) (Nat.le_refl _) (Nat.le_refl _) d_MenuScreensModel_addKey_12
theorem d_MenuScreensModel_addCondition_0 : decode prog_13_method_18_code 0 = .ok (.aload_n 0, 1) := by decide +kernel
theorem d_MenuScreensModel_addCondition_1 : decode prog_13_method_18_code 1 = .ok (.invokevirtual 205, 3) := by decide +kernel
theorem d_MenuScreensModel_addCondition_4 : decode prog_13_method_18_code 4 = .ok (.ifCond .ne 5, 3) := by decide +kernel
theorem d_MenuScreensModel_addCondition_7 : decode prog_13_method_18_code 7 = .ok (.iconst 0, 1) := by decide +kernel
theorem d_MenuScreensModel_addCondition_8 : decode prog_13_method_18_code 8 = .ok (.ireturn, 1) := by decide +kernel
theorem d_MenuScreensModel_addCondition_9 : decode prog_13_method_18_code 9 = .ok (.aload_n 0, 1) := by decide +kernel
theorem d_MenuScreensModel_addCondition_10 : decode prog_13_method_18_code 10 = .ok (.invokevirtual 208, 3) := by decide +kernel
theorem d_MenuScreensModel_addCondition_13 : decode prog_13_method_18_code 13 = .ok (.istore_n 1, 1) := by decide +kernel
theorem d_MenuScreensModel_addCondition_14 : decode prog_13_method_18_code 14 = .ok (.iload_n 1, 1) := by decide +kernel
theorem d_MenuScreensModel_addCondition_15 : decode prog_13_method_18_code 15 = .ok (.ifCond .eq 23, 3) := by decide +kernel
theorem d_MenuScreensModel_addCondition_18 : decode prog_13_method_18_code 18 = .ok (.aload_n 0, 1) := by decide +kernel
theorem d_MenuScreensModel_addCondition_19 : decode prog_13_method_18_code 19 = .ok (.invokevirtual 145, 3) := by decide +kernel
theorem d_MenuScreensModel_addCondition_22 : decode prog_13_method_18_code 22 = .ok (.ifCond .eq 16, 3) := by decide +kernel
theorem d_MenuScreensModel_addCondition_25 : decode prog_13_method_18_code 25 = .ok (.aload_n 0, 1) := by decide +kernel
theorem d_MenuScreensModel_addCondition_26 : decode prog_13_method_18_code 26 = .ok (.getfield 142, 3) := by decide +kernel
theorem d_MenuScreensModel_addCondition_29 : decode prog_13_method_18_code 29 = .ok (.aload_n 0, 1) := by decide +kernel
theorem d_MenuScreensModel_addCondition_30 : decode prog_13_method_18_code 30 = .ok (.getfield 139, 3) := by decide +kernel
theorem d_MenuScreensModel_addCondition_33 : decode prog_13_method_18_code 33 = .ok (.isub, 1) := by decide +kernel
theorem d_MenuScreensModel_addCondition_34 : decode prog_13_method_18_code 34 = .ok (.iconst 1, 1) := by decide +kernel
theorem d_MenuScreensModel_addCondition_35 : decode prog_13_method_18_code 35 = .ok (.if_icmp .eq 5, 3) := by decide +kernel
theorem d_MenuScreensModel_addCondition_38 : decode prog_13_method_18_code 38 = .ok (.iconst 0, 1) := by decide +kernel
theorem d_MenuScreensModel_addCondition_39 : decode prog_13_method_18_code 39 = .ok (.ireturn, 1) := by decide +kernel
theorem d_MenuScreensModel_addCondition_40 : decode prog_13_method_18_code 40 = .ok (.aload_n 0, 1) := by decide +kernel
theorem d_MenuScreensModel_addCondition_41 : decode prog_13_method_18_code 41 = .ok (.getfield 13, 3) := by decide +kernel
theorem d_MenuScreensModel_addCondition_44 : decode prog_13_method_18_code 44 = .ok (.aload_n 0, 1) := by decide +kernel
theorem d_MenuScreensModel_addCondition_45 : decode prog_13_method_18_code 45 = .ok (.getfield 139, 3) := by decide +kernel
theorem d_MenuScreensModel_addCondition_48 : decode prog_13_method_18_code 48 = .ok (.iaload, 1) := by decide +kernel
theorem d_MenuScreensModel_addCondition_49 : decode prog_13_method_18_code 49 = .ok (.istore_n 2, 1) := by decide +kernel
theorem d_MenuScreensModel_addCondition_50 : decode prog_13_method_18_code 50 = .ok (.iload_n 2, 1) := by decide +kernel
theorem d_MenuScreensModel_addCondition_51 : decode prog_13_method_18_code 51 = .ok (.bipush 61, 2) := by decide +kernel
theorem d_MenuScreensModel_addCondition_53 : decode prog_13_method_18_code 53 = .ok (.if_icmp .eq 17, 3) := by decide +kernel
theorem d_MenuScreensModel_addCondition_56 : decode prog_13_method_18_code 56 = .ok (.iload_n 2, 1) := by decide +kernel
theorem d_MenuScreensModel_addCondition_57 : decode prog_13_method_18_code 57 = .ok (.bipush 60, 2) := by decide +kernel
theorem d_MenuScreensModel_addCondition_59 : decode prog_13_method_18_code 59 = .ok (.if_icmp .eq 11, 3) := by decide +kernel
theorem d_MenuScreensModel_addCondition_62 : decode prog_13_method_18_code 62 = .ok (.iload_n 2, 1) := by decide +kernel
theorem d_MenuScreensModel_addCondition_63 : decode prog_13_method_18_code 63 = .ok (.bipush 62, 2) := by decide +kernel
theorem d_MenuScreensModel_addCondition_65 : decode prog_13_method_18_code 65 = .ok (.if_icmp .eq 5, 3) := by decide +kernel
theorem d_MenuScreensModel_addCondition_68 : decode prog_13_method_18_code 68 = .ok (.iconst 0, 1) := by decide +kernel
theorem d_MenuScreensModel_addCondition_69 : decode prog_13_method_18_code 69 = .ok (.ireturn, 1) := by decide +kernel
theorem d_MenuScreensModel_addCondition_70 : decode prog_13_method_18_code 70 = .ok (.aload_n 0, 1) := by decide +kernel
theorem d_MenuScreensModel_addCondition_71 : decode prog_13_method_18_code 71 = .ok (.ldc2_w 212, 3) := by decide +kernel
theorem d_MenuScreensModel_addCondition_74 : decode prog_13_method_18_code 74 = .ok (.ldc2_w 214, 3) := by decide +kernel
theorem d_MenuScreensModel_addCondition_77 : decode prog_13_method_18_code 77 = .ok (.invokevirtual 199, 3) := by decide +kernel
theorem d_MenuScreensModel_addCondition_80 : decode prog_13_method_18_code 80 = .ok (.ifCond .eq 10, 3) := by decide +kernel
theorem d_MenuScreensModel_addCondition_83 : decode prog_13_method_18_code 83 = .ok (.aload_n 0, 1) := by decide +kernel
theorem d_MenuScreensModel_addCondition_84 : decode prog_13_method_18_code 84 = .ok (.invokevirtual 202, 3) := by decide +kernel
theorem d_MenuScreensModel_addCondition_87 : decode prog_13_method_18_code 87 = .ok (.ifCond .ne 5, 3) := by decide +kernel
theorem d_MenuScreensModel_addCondition_90 : decode prog_13_method_18_code 90 = .ok (.iconst 0, 1) := by decide +kernel
theorem d_MenuScreensModel_addCondition_91 : decode prog_13_method_18_code 91 = .ok (.ireturn, 1) := by decide +kernel
theorem d_MenuScreensModel_addCondition_92 : decode prog_13_method_18_code 92 = .ok (.aload_n 0, 1) := by decide +kernel
theorem d_MenuScreensModel_addCondition_93 : decode prog_13_method_18_code 93 = .ok (.getfield 90, 3) := by decide +kernel
theorem d_MenuScreensModel_addCondition_96 : decode prog_13_method_18_code 96 = .ok (.aload_n 0, 1) := by decide +kernel
theorem d_MenuScreensModel_addCondition_97 : decode prog_13_method_18_code 97 = .ok (.getfield 227, 3) := by decide +kernel
theorem d_MenuScreensModel_addCondition_100 : decode prog_13_method_18_code 100 = .ok (.aload_n 0, 1) := by decide +kernel
theorem d_MenuScreensModel_addCondition_101 : decode prog_13_method_18_code 101 = .ok (.getfield 169, 3) := by decide +kernel
theorem d_MenuScreensModel_addCondition_104 : decode prog_13_method_18_code 104 = .ok (.iastore, 1) := by decide +kernel
theorem d_MenuScreensModel_addCondition_105 : decode prog_13_method_18_code 105 = .ok (.aload_n 0, 1) := by decide +kernel
theorem d_MenuScreensModel_addCondition_106 : decode prog_13_method_18_code 106 = .ok (.getfield 93, 3) := by decide +kernel
theorem d_MenuScreensModel_addCondition_109 : decode prog_13_method_18_code 109 = .ok (.aload_n 0, 1) := by decide +kernel
theorem d_MenuScreensModel_addCondition_110 : decode prog_13_method_18_code 110 = .ok (.getfield 227, 3) := by decide +kernel
theorem d_MenuScreensModel_addCondition_113 : decode prog_13_method_18_code 113 = .ok (.iconst (-1), 1) := by decide +kernel
theorem d_MenuScreensModel_addCondition_114 : decode prog_13_method_18_code 114 = .ok (.iastore, 1) := by decide +kernel
theorem d_MenuScreensModel_addCondition_115 : decode prog_13_method_18_code 115 = .ok (.aload_n 0, 1) := by decide +kernel
theorem d_MenuScreensModel_addCondition_116 : decode prog_13_method_18_code 116 = .ok (.getfield 96, 3) := by decide +kernel
theorem d_MenuScreensModel_addCondition_119 : decode prog_13_method_18_code 119 = .ok (.aload_n 0, 1) := by decide +kernel
theorem d_MenuScreensModel_addCondition_120 : decode prog_13_method_18_code 120 = .ok (.getfield 227, 3) := by decide +kernel
theorem d_MenuScreensModel_addCondition_123 : decode prog_13_method_18_code 123 = .ok (.iload_n 1, 1) := by decide +kernel
theorem d_MenuScreensModel_addCondition_124 : decode prog_13_method_18_code 124 = .ok (.iastore, 1) := by decide +kernel
theorem d_MenuScreensModel_addCondition_125 : decode prog_13_method_18_code 125 = .ok (.aload_n 0, 1) := by decide +kernel
theorem d_MenuScreensModel_addCondition_126 : decode prog_13_method_18_code 126 = .ok (.getfield 99, 3) := by decide +kernel
theorem d_MenuScreensModel_addCondition_129 : decode prog_13_method_18_code 129 = .ok (.aload_n 0, 1) := by decide +kernel
theorem d_MenuScreensModel_addCondition_130 : decode prog_13_method_18_code 130 = .ok (.getfield 227, 3) := by decide +kernel
theorem d_MenuScreensModel_addCondition_133 : decode prog_13_method_18_code 133 = .ok (.iload_n 2, 1) := by decide +kernel
theorem d_MenuScreensModel_addCondition_134 : decode prog_13_method_18_code 134 = .ok (.iastore, 1) := by decide +kernel
theorem d_MenuScreensModel_addCondition_135 : decode prog_13_method_18_code 135 = .ok (.aload_n 0, 1) := by decide +kernel
theorem d_MenuScreensModel_addCondition_136 : decode prog_13_method_18_code 136 = .ok (.getfield 102, 3) := by decide +kernel
theorem d_MenuScreensModel_addCondition_139 : decode prog_13_method_18_code 139 = .ok (.aload_n 0, 1) := by decide +kernel
theorem d_MenuScreensModel_addCondition_140 : decode prog_13_method_18_code 140 = .ok (.getfield 227, 3) := by decide +kernel
theorem d_MenuScreensModel_addCondition_143 : decode prog_13_method_18_code 143 = .ok (.aload_n 0, 1) := by decide +kernel
theorem d_MenuScreensModel_addCondition_144 : decode prog_13_method_18_code 144 = .ok (.getfield 152, 3) := by decide +kernel
theorem d_MenuScreensModel_addCondition_147 : decode prog_13_method_18_code 147 = .ok (.lastore, 1) := by decide +kernel
theorem d_MenuScreensModel_addCondition_148 : decode prog_13_method_18_code 148 = .ok (.aload_n 0, 1) := by decide +kernel
theorem d_MenuScreensModel_addCondition_149 : decode prog_13_method_18_code 149 = .ok (.dup, 1) := by decide +kernel
theorem d_MenuScreensModel_addCondition_150 : decode prog_13_method_18_code 150 = .ok (.getfield 227, 3) := by decide +kernel
theorem d_MenuScreensModel_addCondition_153 : decode prog_13_method_18_code 153 = .ok (.iconst 1, 1) := by decide +kernel
theorem d_MenuScreensModel_addCondition_154 : decode prog_13_method_18_code 154 = .ok (.iadd, 1) := by decide +kernel
theorem d_MenuScreensModel_addCondition_155 : decode prog_13_method_18_code 155 = .ok (.putfield 227, 3) := by decide +kernel
theorem d_MenuScreensModel_addCondition_158 : decode prog_13_method_18_code 158 = .ok (.iconst 1, 1) := by decide +kernel
theorem d_MenuScreensModel_addCondition_159 : decode prog_13_method_18_code 159 = .ok (.ireturn, 1) := by decide +kernel
set_option maxRecDepth 100000 in
set_option maxHeartbeats 4000000 in
theorem cm_MenuScreensModel_addCondition {l : Launch} {S0 : State} {b : Nat} {D : va_G} {dT : Nat → ClassId} (hE : vEnv S0 b D dT) {h0 : vH} {a : Nat} {ar : Nat → Nat} {x : Nat → Int32} {y : Nat → Int64} {A : Nat → Nat → Int32} {B : Nat → Nat → Int64} (M : MV S0 dT h0 a ar x y A B) {i0 e0 : Nat} (hat : x 7 = nI i0) (hend : x 8 = nI e0) (hle : i0 ≤ e0) (he : e0 ≤ 4000) {nv : Nat} (hnv : x 12 = nI nv) (hnv2 : nv ≤ 40) (hRV : ∀ v, 1 ≤ v → v ≤ nv → ∃ p q, A 13 v = nI p ∧ A 14 v = nI q ∧ p ≤ q ∧ q ≤ 4000) {nc : Nat} (hnc : x 39 = nI nc) (hnc2 : nc < 512) : vMi l S0 D vcl GT y_MenuScreensModel_addCondition prog_13_method_18_code 3 (some .boolean) 3 100 0 0 [.ref a] h0 (fun r h' => ∃ x' y' A' B', MR S0 dT h0 h' a ar x' y' A' B' ∧ (∀ k, k ≠ 7 → k ≠ 9 → k ≠ 10 → k ≠ 39 → x' k = x k) ∧ (∀ k, k ≠ 11 → y' k = y k) ∧ (okIf A e0 i0 nv = true ∧ r = 1 ∧ x' 39 = nI (nc + 1) ∧ A' = va_up (va_up (va_up (va_up A 40 (upd (A 40) nc (x 20))) 41 (upd (A 41) nc (-1))) 42 (upd (A 42) nc (nI (fV A nv (nF (A 6) e0 i0) (nT (A 6) e0 i0))))) 43 (upd (A 43) nc (A 6 (nF (A 6) e0 (nT (A 6) e0 i0)))) ∧ B' = va_up B 44 (vp_updL (B 44) nc (vNu (A 6) e0 (nT (A 6) e0 (nT (A 6) e0 i0)))) ∨ okIf A e0 i0 nv = false ∧ r = 0 ∧ x' 39 = x 39 ∧ A' = A ∧ B' = B)) := by
  unfold vMi
  refine vM_ofQ hE.1 (by decide) (Nat.le_of_ble_eq_true rfl) (fun p e s m args below meth c ls Q hQ C hr hlk hnm X hl => ?_)
  have C : vC p s m _ c _ _ "MenuScreensModel" GT D vcl (vty dT) := C
  have hx := C.1.1
  have hb := C.1.2.1
  replace M := MR.of M
  obtain ⟨H, eH⟩ : ∃ z, z = s.heap := ⟨_, rfl⟩
  obtain ⟨locs, elocs⟩ : ∃ z : List Loc, z = [] := ⟨_, rfl⟩
  rw [← eH, ← elocs] at X
  rw [← eH, ← elocs]
  clear eH elocs
  have hl : lv_has ls 3 [(0, .ref a)] := hl
  refine lv_aload_n hx hb d_MenuScreensModel_addCondition_0 rfl (lv_at hl 0 rfl) ?_
  refine mv_bi X (mv_rV (rest := []) (As := []) gt_good C X k_12_205 (cm_MenuScreensModel_name hE M.1 (i0 := i0) (e0 := e0) hat hend hle he) M.1.1 rfl rfl ⟨by decide, by decide⟩ rfl hl.1 rfl (by decide) d_MenuScreensModel_addCondition_1 ⟨Nat.le_refl _, Nat.le_refl _⟩) (fun r1 hN H locs hp X => ?_)
  obtain ⟨x1, M1, rfl, er1⟩ := hp
  replace M := M.trans M1
  replace er1 : r1 = bI (cNm (A 6) e0 i0) := er1
  have hT1 := (nT_in (A 6) hle)
  have hT2 := (nT_in (A 6) hT1.2)
  have hT3 := (nT_in (A 6) hT2.2)
  refine lv_if_ne (tgt := 9) hx hb d_MenuScreensModel_addCondition_4 (by decide) (fun c2 => ?_) (fun c2 => ?_)
  · skip
    refine lv_aload_n hx hb d_MenuScreensModel_addCondition_9 rfl (lv_at hl 0 rfl) ?_
    have a1 : cNm (A 6) e0 i0 = true := bI_n (fun z => c2 (er1.trans z))
    refine mv_bi X (mv_rV (rest := []) (As := []) gt_good C X k_12_208 (cm_MenuScreensModel_findValue hE M.1 (n := nv) hnv hnv2 hRV (F := (nF (A 6) e0 i0)) (T := (nT (A 6) e0 i0)) rfl rfl hT1.1 (by omega)) M.1.1 rfl rfl ⟨by decide, by decide⟩ rfl hl.1 rfl (by decide) d_MenuScreensModel_addCondition_10 ⟨Nat.le_refl _, Nat.le_refl _⟩) (fun r3 hN H locs hp X => ?_)
    obtain ⟨ehr3, er3⟩ := hp
    rw [ehr3] at X
    replace er3 : r3 = nI (fV A nv (nF (A 6) e0 i0) (nT (A 6) e0 i0)) := er3
    have hfv : fV A nv (nF (A 6) e0 i0) (nT (A 6) e0 i0) ≤ 1 + nv := fnd_le _ _ _
    refine lv_istore_n (lv' := [(1, .int r3), (0, .ref a)]) hx hb d_MenuScreensModel_addCondition_13 rfl hl (by decide) rfl (fun ls hl => ?_)
    refine lv_iload_n hx hb d_MenuScreensModel_addCondition_14 rfl (lv_at hl 0 rfl) ?_
    refine lv_if_eq (tgt := 38) hx hb d_MenuScreensModel_addCondition_15 (by decide) (fun c4 => ?_) (fun c4 => ?_)
    · skip
      refine lv_iconst (v := 0) hx hb d_MenuScreensModel_addCondition_38 (by decide) ?_
      exact mq_iret hQ C X hr rfl hlk (⟨(upd (upd (upd x 7 (nI (nT (A 6) e0 i0))) 9 (nI (nF (A 6) e0 i0))) 10 (nI (nT (A 6) e0 i0))), y, A, B, M, (fun k q7 q9 q10 q39 => by simp [upd, q7, q9, q10, q39]), (fun k q11 => rfl), Or.inr ⟨by unfold okIf; rw [decide_eq_false (p := fV A nv (nF (A 6) e0 i0) (nT (A 6) e0 i0) ≠ 0) (fun z => z (nI_eqI (by omega) (by decide) (by rw [← er3]; exact c4)))]; simp, rfl, rfl, rfl, rfl⟩⟩) (Nat.le_refl _) (Nat.le_refl _) d_MenuScreensModel_addCondition_39
    · skip
      have a2 : fV A nv (nF (A 6) e0 i0) (nT (A 6) e0 i0) ≠ 0 := fun z => c4 (by rw [er3, z]; rfl)
      refine lv_aload_n hx hb d_MenuScreensModel_addCondition_18 rfl (lv_at hl 1 rfl) ?_
      refine mv_bi X (mv_rV (rest := []) (As := []) gt_good C X k_12_145 (cm_MenuScreensModel_next hE M.1 (i0 := (nT (A 6) e0 i0)) (e0 := e0) (F := (nF (A 6) e0 (nT (A 6) e0 i0))) (T := (nT (A 6) e0 (nT (A 6) e0 i0))) rfl hend hT1.2 he rfl rfl) M.1.1 rfl rfl ⟨by decide, by decide⟩ rfl hl.1 rfl (by decide) d_MenuScreensModel_addCondition_19 ⟨Nat.le_refl _, Nat.le_refl _⟩) (fun r5 hN H locs hp X => ?_)
      obtain ⟨x1, M1, rfl, er5⟩ := hp
      replace M := M.trans M1
      replace er5 : r5 = if (nF (A 6) e0 (nT (A 6) e0 i0)) < (nT (A 6) e0 (nT (A 6) e0 i0)) then 1 else 0 := er5
      refine lv_if_eq (tgt := 38) hx hb d_MenuScreensModel_addCondition_22 (by decide) (fun c6 => ?_) (fun c6 => ?_)
      · skip
        refine lv_iconst (v := 0) hx hb d_MenuScreensModel_addCondition_38 (by decide) ?_
        exact mq_iret hQ C X hr rfl hlk (⟨(upd (upd (upd x 7 (nI (nT (A 6) e0 (nT (A 6) e0 i0)))) 9 (nI (nF (A 6) e0 (nT (A 6) e0 i0)))) 10 (nI (nT (A 6) e0 (nT (A 6) e0 i0)))), y, A, B, M, (fun k q7 q9 q10 q39 => by simp [upd, q7, q9, q10, q39]), (fun k q11 => rfl), Or.inr ⟨by unfold okIf; rw [decide_eq_false (p := (nF (A 6) e0 (nT (A 6) e0 i0)) < (nT (A 6) e0 (nT (A 6) e0 i0))) (fun q => absurd ((er5.trans (if_pos q)).symm.trans c6) (by decide))]; simp, rfl, rfl, rfl, rfl⟩⟩) (Nat.le_refl _) (Nat.le_refl _) d_MenuScreensModel_addCondition_39
      · skip
        have a3 : (nF (A 6) e0 (nT (A 6) e0 i0)) < (nT (A 6) e0 (nT (A 6) e0 i0)) := by
          apply Classical.byContradiction
          intro q
          exact c6 (er5.trans (if_neg q))
        have ed : nI (nT (A 6) e0 (nT (A 6) e0 i0)) - nI (nF (A 6) e0 (nT (A 6) e0 i0)) = nI ((nT (A 6) e0 (nT (A 6) e0 i0)) - (nF (A 6) e0 (nT (A 6) e0 i0))) := nI_sub hT2.1
        refine lv_aload_n hx hb d_MenuScreensModel_addCondition_25 rfl (lv_at hl 1 rfl) ?_
        refine mm_get C X M 10 f_12_142_13 (.int (nI (nT (A 6) e0 (nT (A 6) e0 i0)))) rfl d_MenuScreensModel_addCondition_26 ?_
        refine lv_aload_n hx hb d_MenuScreensModel_addCondition_29 rfl (lv_at hl 1 rfl) ?_
        refine mm_get C X M 9 f_12_139_13 (.int (nI (nF (A 6) e0 (nT (A 6) e0 i0)))) rfl d_MenuScreensModel_addCondition_30 ?_
        refine lv_isub hx hb d_MenuScreensModel_addCondition_33 ?_
        refine lv_iconst (v := 1) hx hb d_MenuScreensModel_addCondition_34 (by decide) ?_
        refine lv_icmp_eq (tgt := 40) hx hb d_MenuScreensModel_addCondition_35 (by decide) (fun c7 => ?_) (fun c7 => ?_)
        · skip
          have a4 : (nT (A 6) e0 (nT (A 6) e0 i0)) - (nF (A 6) e0 (nT (A 6) e0 i0)) = 1 := nI_eqI (by omega) (by decide) (by rw [← ed]; exact c7)
          refine lv_aload_n hx hb d_MenuScreensModel_addCondition_40 rfl (lv_at hl 1 rfl) ?_
          refine mm_get C X M 6 f_12_13_13 (.ref (ar 6)) rfl d_MenuScreensModel_addCondition_41 ?_
          refine lv_aload_n hx hb d_MenuScreensModel_addCondition_44 rfl (lv_at hl 1 rfl) ?_
          refine mm_get C X M 9 f_12_139_13 (.int (nI (nF (A 6) e0 (nT (A 6) e0 i0)))) rfl d_MenuScreensModel_addCondition_45 ?_
          refine mm_iald C X M 6 4000 rfl (A 6) rfl (by decide) (nF (A 6) e0 (nT (A 6) e0 i0)) rfl (by omega) d_MenuScreensModel_addCondition_48 ?_
          refine lv_istore_n (lv' := [(2, .int ((A 6) (nF (A 6) e0 (nT (A 6) e0 i0)))), (1, .int r3), (0, .ref a)]) hx hb d_MenuScreensModel_addCondition_49 rfl hl (by decide) rfl (fun ls hl => ?_)
          have j70 : ∀ (ls : Array Slot), (A 6 (nF (A 6) e0 (nT (A 6) e0 i0)) = 61 ∨ A 6 (nF (A 6) e0 (nT (A 6) e0 i0)) = 60 ∨ A 6 (nF (A 6) e0 (nT (A 6) e0 i0)) = 62) → lv_has ls 3 [(0, .ref a), (1, .int r3), (2, .int (A 6 (nF (A 6) e0 (nT (A 6) e0 i0))))] → W p l e (vRm 3 100 0 0) s m args below meth c H locs 0 0 Q (F0 m 70 ls []) := by
            intro  ls a5 hl
            have a5b : (decide (A 6 (nF (A 6) e0 (nT (A 6) e0 i0)) = 61) || (decide (A 6 (nF (A 6) e0 (nT (A 6) e0 i0)) = 60) || decide (A 6 (nF (A 6) e0 (nT (A 6) e0 i0)) = 62))) = true := by
              rcases a5 with z | z | z
              · rw [decide_eq_true z]; rfl
              · rw [decide_eq_true z]; simp
              · rw [decide_eq_true z]; simp
            refine lv_aload_n hx hb d_MenuScreensModel_addCondition_70 rfl (lv_at hl 0 rfl) ?_
            refine lv_ldc2 (v := (-999999)) hx hb C.1.2.2.2.1 (C.1.2.2.2.2 _ (gt_6 15 (by decide +kernel) rfl)) d_MenuScreensModel_addCondition_71 ?_
            refine lv_ldc2 (v := 999999) hx hb C.1.2.2.2.1 (C.1.2.2.2.2 _ (gt_6 16 (by decide +kernel) rfl)) d_MenuScreensModel_addCondition_74 ?_
            refine mv_bi X (mv_rV (rest := []) (As := [.long (-999999), .long 999999]) gt_good C X k_12_199 (cm_MenuScreensModel_number hE M.1 _ _ (i0 := (nT (A 6) e0 (nT (A 6) e0 i0))) (e0 := e0) rfl hend hT2.2 he) M.1.1 rfl rfl ⟨by decide, by decide⟩ rfl hl.1 rfl (by decide) d_MenuScreensModel_addCondition_77 ⟨Nat.le_refl _, Nat.le_refl _⟩) (fun r8 hN H locs hp X => ?_)
            obtain ⟨x1, yn9, M1, rfl, kyn9, vyn9, er8⟩ := hp
            replace M := M.trans M1
            replace er8 : r8 = bI (cNu (A 6) e0 (nT (A 6) e0 (nT (A 6) e0 i0)) (-999999) 999999) := er8
            replace vyn9 : r8 = 1 → yn9 11 = vNu (A 6) e0 (nT (A 6) e0 (nT (A 6) e0 i0)) := vyn9
            refine lv_if_eq (tgt := 90) hx hb d_MenuScreensModel_addCondition_80 (by decide) (fun c10 => ?_) (fun c10 => ?_)
            · skip
              refine lv_iconst (v := 0) hx hb d_MenuScreensModel_addCondition_90 (by decide) ?_
              exact mq_iret hQ C X hr rfl hlk (⟨(upd (upd (upd x 7 (nI (nT (A 6) e0 (nT (A 6) e0 (nT (A 6) e0 i0))))) 9 (nI (nF (A 6) e0 (nT (A 6) e0 (nT (A 6) e0 i0))))) 10 (nI (nT (A 6) e0 (nT (A 6) e0 (nT (A 6) e0 i0))))), yn9, A, B, M, (fun k q7 q9 q10 q39 => by simp [upd, q7, q9, q10, q39]), (fun k q11 => by rw [kyn9 k q11]), Or.inr ⟨by unfold okIf; rw [show cNu (A 6) e0 (nT (A 6) e0 (nT (A 6) e0 i0)) (-999999) 999999 = false from bI_0 (er8.symm.trans c10)]; simp, rfl, rfl, rfl, rfl⟩⟩) (Nat.le_refl _) (Nat.le_refl _) d_MenuScreensModel_addCondition_91
            · skip
              have a6 : cNu (A 6) e0 (nT (A 6) e0 (nT (A 6) e0 i0)) (-999999) 999999 = true := bI_n (fun z => c10 (er8.trans z))
              refine lv_aload_n hx hb d_MenuScreensModel_addCondition_83 rfl (lv_at hl 0 rfl) ?_
              refine mv_bi X (mv_rV (rest := []) (As := []) gt_good C X k_12_202 (cm_MenuScreensModel_through hE M.1 (i0 := (nT (A 6) e0 (nT (A 6) e0 (nT (A 6) e0 i0)))) (e0 := e0) rfl hend hT3.2 he) M.1.1 rfl rfl ⟨by decide, by decide⟩ rfl hl.1 rfl (by decide) d_MenuScreensModel_addCondition_84 ⟨Nat.le_refl _, Nat.le_refl _⟩) (fun r11 hN H locs hp X => ?_)
              obtain ⟨x1, M1, rfl, er11⟩ := hp
              replace M := M.trans M1
              replace er11 : r11 = bI (cEnd (A 6) e0 (nT (A 6) e0 (nT (A 6) e0 (nT (A 6) e0 i0)))) := er11
              refine lv_if_ne (tgt := 92) hx hb d_MenuScreensModel_addCondition_87 (by decide) (fun c12 => ?_) (fun c12 => ?_)
              · skip
                have a7 : cEnd (A 6) e0 (nT (A 6) e0 (nT (A 6) e0 (nT (A 6) e0 i0))) = true := bI_n (fun z => c12 (er11.trans z))
                have ev := vyn9 (by rw [er8, a6]; rfl)
                have enc : x 39 + 1 = nI (nc + 1) := by rw [hnc]; exact nI_1 nc
                refine lv_aload_n hx hb d_MenuScreensModel_addCondition_92 rfl (lv_at hl 0 rfl) ?_
                refine mm_get C X M 40 f_12_90_13 (.ref (ar 40)) rfl d_MenuScreensModel_addCondition_93 ?_
                refine lv_aload_n hx hb d_MenuScreensModel_addCondition_96 rfl (lv_at hl 0 rfl) ?_
                refine mm_get C X M 39 f_12_227_13 (.int (x 39)) rfl d_MenuScreensModel_addCondition_97 ?_
                refine lv_aload_n hx hb d_MenuScreensModel_addCondition_100 rfl (lv_at hl 0 rfl) ?_
                refine mm_get C X M 20 f_12_169_13 (.int (x 20)) rfl d_MenuScreensModel_addCondition_101 ?_
                refine mm_iast C X M 40 512 rfl (A 40) rfl (fun _ => rfl) (by decide) nc hnc (by omega) d_MenuScreensModel_addCondition_104 (fun h H locs X M => ?_)
                refine lv_aload_n hx hb d_MenuScreensModel_addCondition_105 rfl (lv_at hl 0 rfl) ?_
                refine mm_get C X M 41 f_12_93_13 (.ref (ar 41)) rfl d_MenuScreensModel_addCondition_106 ?_
                refine lv_aload_n hx hb d_MenuScreensModel_addCondition_109 rfl (lv_at hl 0 rfl) ?_
                refine mm_get C X M 39 f_12_227_13 (.int (x 39)) rfl d_MenuScreensModel_addCondition_110 ?_
                refine lv_iconst (v := (-1)) hx hb d_MenuScreensModel_addCondition_113 (by decide) ?_
                refine mm_iast C X M 41 512 rfl (A 41) rfl (fun _ => rfl) (by decide) nc hnc (by omega) d_MenuScreensModel_addCondition_114 (fun h H locs X M => ?_)
                refine lv_aload_n hx hb d_MenuScreensModel_addCondition_115 rfl (lv_at hl 0 rfl) ?_
                refine mm_get C X M 42 f_12_96_13 (.ref (ar 42)) rfl d_MenuScreensModel_addCondition_116 ?_
                refine lv_aload_n hx hb d_MenuScreensModel_addCondition_119 rfl (lv_at hl 0 rfl) ?_
                refine mm_get C X M 39 f_12_227_13 (.int (x 39)) rfl d_MenuScreensModel_addCondition_120 ?_
                refine lv_iload_n hx hb d_MenuScreensModel_addCondition_123 rfl (lv_at hl 1 rfl) ?_
                refine mm_iast C X M 42 512 rfl (A 42) rfl (fun _ => rfl) (by decide) nc hnc (by omega) d_MenuScreensModel_addCondition_124 (fun h H locs X M => ?_)
                refine lv_aload_n hx hb d_MenuScreensModel_addCondition_125 rfl (lv_at hl 0 rfl) ?_
                refine mm_get C X M 43 f_12_99_13 (.ref (ar 43)) rfl d_MenuScreensModel_addCondition_126 ?_
                refine lv_aload_n hx hb d_MenuScreensModel_addCondition_129 rfl (lv_at hl 0 rfl) ?_
                refine mm_get C X M 39 f_12_227_13 (.int (x 39)) rfl d_MenuScreensModel_addCondition_130 ?_
                refine lv_iload_n hx hb d_MenuScreensModel_addCondition_133 rfl (lv_at hl 2 rfl) ?_
                refine mm_iast C X M 43 512 rfl (A 43) rfl (fun _ => rfl) (by decide) nc hnc (by omega) d_MenuScreensModel_addCondition_134 (fun h H locs X M => ?_)
                refine lv_aload_n hx hb d_MenuScreensModel_addCondition_135 rfl (lv_at hl 0 rfl) ?_
                refine mm_get C X M 44 f_12_102_13 (.ref (ar 44)) rfl d_MenuScreensModel_addCondition_136 ?_
                refine lv_aload_n hx hb d_MenuScreensModel_addCondition_139 rfl (lv_at hl 0 rfl) ?_
                refine mm_get C X M 39 f_12_227_13 (.int (x 39)) rfl d_MenuScreensModel_addCondition_140 ?_
                refine lv_aload_n hx hb d_MenuScreensModel_addCondition_143 rfl (lv_at hl 0 rfl) ?_
                refine mm_get C X M 11 f_12_152_13 (.long (yn9 11)) rfl d_MenuScreensModel_addCondition_144 ?_
                refine mm_last C X M 44 512 rfl (B 44) rfl (fun _ => rfl) (by decide) nc hnc (by omega) d_MenuScreensModel_addCondition_147 (fun h H locs X M => ?_)
                refine lv_aload_n hx hb d_MenuScreensModel_addCondition_148 rfl (lv_at hl 0 rfl) ?_
                refine lv_dup hx hb d_MenuScreensModel_addCondition_149 rfl ?_
                refine mm_get C X M 39 f_12_227_13 (.int (x 39)) rfl d_MenuScreensModel_addCondition_150 ?_
                refine lv_iconst (v := 1) hx hb d_MenuScreensModel_addCondition_153 (by decide) ?_
                refine lv_iadd hx hb d_MenuScreensModel_addCondition_154 ?_
                refine mm_put C X M 39 p_12_227_13 (upd (upd (upd (upd x 7 (nI (nT (A 6) e0 (nT (A 6) e0 (nT (A 6) e0 (nT (A 6) e0 i0)))))) 9 (nI (nF (A 6) e0 (nT (A 6) e0 (nT (A 6) e0 (nT (A 6) e0 i0)))))) 10 (nI (nT (A 6) e0 (nT (A 6) e0 (nT (A 6) e0 (nT (A 6) e0 i0)))))) 39 ((x 39) + 1)) yn9 rfl rfl rfl (by decide) d_MenuScreensModel_addCondition_155 (fun h H locs X M => ?_)
                refine lv_iconst (v := 1) hx hb d_MenuScreensModel_addCondition_158 (by decide) ?_
                exact mq_iret hQ C X hr rfl hlk (⟨(upd (upd (upd (upd x 7 (nI (nT (A 6) e0 (nT (A 6) e0 (nT (A 6) e0 (nT (A 6) e0 i0)))))) 9 (nI (nF (A 6) e0 (nT (A 6) e0 (nT (A 6) e0 (nT (A 6) e0 i0)))))) 10 (nI (nT (A 6) e0 (nT (A 6) e0 (nT (A 6) e0 (nT (A 6) e0 i0)))))) 39 ((x 39) + 1)), yn9, (va_up (va_up (va_up (va_up A 40 (upd (A 40) nc (x 20))) 41 (upd (A 41) nc (-1))) 42 (upd (A 42) nc r3)) 43 (upd (A 43) nc (A 6 (nF (A 6) e0 (nT (A 6) e0 i0))))), (va_up B 44 (vp_updL (B 44) nc (yn9 11))), M, (fun k q7 q9 q10 q39 => by simp [upd, q7, q9, q10, q39]), (fun k q11 => by rw [kyn9 k q11]), Or.inl ⟨by unfold okIf; rw [a1, decide_eq_true a2, decide_eq_true a3, decide_eq_true a4, a5b, a6, a7]; rfl, rfl, enc, by rw [← er3], by rw [ev]⟩⟩) (Nat.le_refl _) (Nat.le_refl _) d_MenuScreensModel_addCondition_159
              · skip
                refine lv_iconst (v := 0) hx hb d_MenuScreensModel_addCondition_90 (by decide) ?_
                exact mq_iret hQ C X hr rfl hlk (⟨(upd (upd (upd x 7 (nI (nT (A 6) e0 (nT (A 6) e0 (nT (A 6) e0 (nT (A 6) e0 i0)))))) 9 (nI (nF (A 6) e0 (nT (A 6) e0 (nT (A 6) e0 (nT (A 6) e0 i0)))))) 10 (nI (nT (A 6) e0 (nT (A 6) e0 (nT (A 6) e0 (nT (A 6) e0 i0)))))), yn9, A, B, M, (fun k q7 q9 q10 q39 => by simp [upd, q7, q9, q10, q39]), (fun k q11 => by rw [kyn9 k q11]), Or.inr ⟨by unfold okIf; rw [show cEnd (A 6) e0 (nT (A 6) e0 (nT (A 6) e0 (nT (A 6) e0 i0))) = false from bI_0 (er11.symm.trans c12)]; simp, rfl, rfl, rfl, rfl⟩⟩) (Nat.le_refl _) (Nat.le_refl _) d_MenuScreensModel_addCondition_91
          refine lv_iload_n hx hb d_MenuScreensModel_addCondition_50 rfl (lv_at hl 0 rfl) ?_
          refine lv_bipush (v := 61) hx hb d_MenuScreensModel_addCondition_51 (by decide) ?_
          refine lv_icmp_eq (tgt := 70) hx hb d_MenuScreensModel_addCondition_53 (by decide) (fun c13 => ?_) (fun c13 => ?_)
          · skip
            exact j70 ls (Or.inl c13) (lv_sub hl [2, 1, 0] rfl)
          · skip
            refine lv_iload_n hx hb d_MenuScreensModel_addCondition_56 rfl (lv_at hl 0 rfl) ?_
            refine lv_bipush (v := 60) hx hb d_MenuScreensModel_addCondition_57 (by decide) ?_
            refine lv_icmp_eq (tgt := 70) hx hb d_MenuScreensModel_addCondition_59 (by decide) (fun c14 => ?_) (fun c14 => ?_)
            · skip
              exact j70 ls (Or.inr (Or.inl c14)) (lv_sub hl [2, 1, 0] rfl)
            · skip
              refine lv_iload_n hx hb d_MenuScreensModel_addCondition_62 rfl (lv_at hl 0 rfl) ?_
              refine lv_bipush (v := 62) hx hb d_MenuScreensModel_addCondition_63 (by decide) ?_
              refine lv_icmp_eq (tgt := 70) hx hb d_MenuScreensModel_addCondition_65 (by decide) (fun c15 => ?_) (fun c15 => ?_)
              · skip
                exact j70 ls (Or.inr (Or.inr c15)) (lv_sub hl [2, 1, 0] rfl)
              · skip
                refine lv_iconst (v := 0) hx hb d_MenuScreensModel_addCondition_68 (by decide) ?_
                exact mq_iret hQ C X hr rfl hlk (⟨(upd (upd (upd x 7 (nI (nT (A 6) e0 (nT (A 6) e0 i0)))) 9 (nI (nF (A 6) e0 (nT (A 6) e0 i0)))) 10 (nI (nT (A 6) e0 (nT (A 6) e0 i0)))), y, A, B, M, (fun k q7 q9 q10 q39 => by simp [upd, q7, q9, q10, q39]), (fun k q11 => rfl), Or.inr ⟨by unfold okIf; rw [decide_eq_false (p := A 6 (nF (A 6) e0 (nT (A 6) e0 i0)) = 61) c13, decide_eq_false (p := A 6 (nF (A 6) e0 (nT (A 6) e0 i0)) = 60) c14, decide_eq_false (p := A 6 (nF (A 6) e0 (nT (A 6) e0 i0)) = 62) c15]; simp, rfl, rfl, rfl, rfl⟩⟩) (Nat.le_refl _) (Nat.le_refl _) d_MenuScreensModel_addCondition_69
        · skip
          refine lv_iconst (v := 0) hx hb d_MenuScreensModel_addCondition_38 (by decide) ?_
          exact mq_iret hQ C X hr rfl hlk (⟨(upd (upd (upd x 7 (nI (nT (A 6) e0 (nT (A 6) e0 i0)))) 9 (nI (nF (A 6) e0 (nT (A 6) e0 i0)))) 10 (nI (nT (A 6) e0 (nT (A 6) e0 i0)))), y, A, B, M, (fun k q7 q9 q10 q39 => by simp [upd, q7, q9, q10, q39]), (fun k q11 => rfl), Or.inr ⟨by unfold okIf; rw [decide_eq_false (p := (nT (A 6) e0 (nT (A 6) e0 i0)) - (nF (A 6) e0 (nT (A 6) e0 i0)) = 1) (fun z => c7 (by rw [ed, z]; rfl))]; simp, rfl, rfl, rfl, rfl⟩⟩) (Nat.le_refl _) (Nat.le_refl _) d_MenuScreensModel_addCondition_39
  · skip
    refine lv_iconst (v := 0) hx hb d_MenuScreensModel_addCondition_7 (by decide) ?_
    exact mq_iret hQ C X hr rfl hlk (⟨(upd (upd (upd x 7 (nI (nT (A 6) e0 i0))) 9 (nI (nF (A 6) e0 i0))) 10 (nI (nT (A 6) e0 i0))), y, A, B, M, (fun k q7 q9 q10 q39 => by simp [upd, q7, q9, q10, q39]), (fun k q11 => rfl), Or.inr ⟨by unfold okIf; rw [show cNm (A 6) e0 i0 = false from bI_0 (er1.symm.trans c2)]; rfl, rfl, rfl, rfl, rfl⟩⟩) (Nat.le_refl _) (Nat.le_refl _) d_MenuScreensModel_addCondition_8
end
section
/-- the places behind words -/
def nT2 (f : Nat → Int32) (e i : Nat) : Nat := nT f e (nT f e i)
def nT3 (f : Nat → Int32) (e i : Nat) : Nat := nT f e (nT2 f e i)
def nT4 (f : Nat → Int32) (e i : Nat) : Nat := nT f e (nT3 f e i)
/-- a name line (p1 = 0) or a setting line -/
def okVa (A : Nat → Nat → Int32) (e i nv : Nat) (p1 : Int32) : Bool := cNm (A 6) e i && (decide (fV A nv (nF (A 6) e i) (nT (A 6) e i) = 0) && (decide (nv ≠ 40) && (if p1 = 0 then cEnd (A 6) e (nT (A 6) e i) else cNu (A 6) e (nT (A 6) e i) (-999999) 999999 && (cNu (A 6) e (nT2 (A 6) e i) (vNu (A 6) e (nT (A 6) e i)) 999999 && (cNu (A 6) e (nT3 (A 6) e i) (vNu (A 6) e (nT (A 6) e i)) (vNu (A 6) e (nT2 (A 6) e i)) && cEnd (A 6) e (nT4 (A 6) e i))))))
end
section
theorem d_MenuScreensModel_addValue_0 : decode prog_13_method_15_code 0 = .ok (.aload_n 0, 1) := by decide +kernel
theorem d_MenuScreensModel_addValue_1 : decode prog_13_method_15_code 1 = .ok (.invokevirtual 205, 3) := by decide +kernel
theorem d_MenuScreensModel_addValue_4 : decode prog_13_method_15_code 4 = .ok (.ifCond .eq 19, 3) := by decide +kernel
theorem d_MenuScreensModel_addValue_7 : decode prog_13_method_15_code 7 = .ok (.aload_n 0, 1) := by decide +kernel
theorem d_MenuScreensModel_addValue_8 : decode prog_13_method_15_code 8 = .ok (.invokevirtual 208, 3) := by decide +kernel
theorem d_MenuScreensModel_addValue_11 : decode prog_13_method_15_code 11 = .ok (.ifCond .gt 12, 3) := by decide +kernel
theorem d_MenuScreensModel_addValue_14 : decode prog_13_method_15_code 14 = .ok (.aload_n 0, 1) := by decide +kernel
theorem d_MenuScreensModel_addValue_15 : decode prog_13_method_15_code 15 = .ok (.getfield 162, 3) := by decide +kernel
theorem d_MenuScreensModel_addValue_18 : decode prog_13_method_15_code 18 = .ok (.bipush 40, 2) := by decide +kernel
theorem d_MenuScreensModel_addValue_20 : decode prog_13_method_15_code 20 = .ok (.if_icmp .ne 5, 3) := by decide +kernel
theorem d_MenuScreensModel_addValue_23 : decode prog_13_method_15_code 23 = .ok (.iconst 0, 1) := by decide +kernel
theorem d_MenuScreensModel_addValue_24 : decode prog_13_method_15_code 24 = .ok (.ireturn, 1) := by decide +kernel
theorem d_MenuScreensModel_addValue_25 : decode prog_13_method_15_code 25 = .ok (.aload_n 0, 1) := by decide +kernel
theorem d_MenuScreensModel_addValue_26 : decode prog_13_method_15_code 26 = .ok (.getfield 139, 3) := by decide +kernel
theorem d_MenuScreensModel_addValue_29 : decode prog_13_method_15_code 29 = .ok (.istore_n 2, 1) := by decide +kernel
theorem d_MenuScreensModel_addValue_30 : decode prog_13_method_15_code 30 = .ok (.aload_n 0, 1) := by decide +kernel
theorem d_MenuScreensModel_addValue_31 : decode prog_13_method_15_code 31 = .ok (.getfield 142, 3) := by decide +kernel
theorem d_MenuScreensModel_addValue_34 : decode prog_13_method_15_code 34 = .ok (.istore_n 3, 1) := by decide +kernel
theorem d_MenuScreensModel_addValue_35 : decode prog_13_method_15_code 35 = .ok (.lconst 0, 1) := by decide +kernel
theorem d_MenuScreensModel_addValue_36 : decode prog_13_method_15_code 36 = .ok (.lstore 4, 2) := by decide +kernel
theorem d_MenuScreensModel_addValue_38 : decode prog_13_method_15_code 38 = .ok (.lconst 0, 1) := by decide +kernel
theorem d_MenuScreensModel_addValue_39 : decode prog_13_method_15_code 39 = .ok (.lstore 6, 2) := by decide +kernel
theorem d_MenuScreensModel_addValue_41 : decode prog_13_method_15_code 41 = .ok (.lconst 0, 1) := by decide +kernel
theorem d_MenuScreensModel_addValue_42 : decode prog_13_method_15_code 42 = .ok (.lstore 8, 2) := by decide +kernel
theorem d_MenuScreensModel_addValue_44 : decode prog_13_method_15_code 44 = .ok (.iload_n 1, 1) := by decide +kernel
theorem d_MenuScreensModel_addValue_45 : decode prog_13_method_15_code 45 = .ok (.ifCond .eq 63, 3) := by decide +kernel
theorem d_MenuScreensModel_addValue_48 : decode prog_13_method_15_code 48 = .ok (.aload_n 0, 1) := by decide +kernel
theorem d_MenuScreensModel_addValue_49 : decode prog_13_method_15_code 49 = .ok (.ldc2_w 212, 3) := by decide +kernel
theorem d_MenuScreensModel_addValue_52 : decode prog_13_method_15_code 52 = .ok (.ldc2_w 214, 3) := by decide +kernel
theorem d_MenuScreensModel_addValue_55 : decode prog_13_method_15_code 55 = .ok (.invokevirtual 199, 3) := by decide +kernel
theorem d_MenuScreensModel_addValue_58 : decode prog_13_method_15_code 58 = .ok (.ifCond .ne 5, 3) := by decide +kernel
theorem d_MenuScreensModel_addValue_61 : decode prog_13_method_15_code 61 = .ok (.iconst 0, 1) := by decide +kernel
theorem d_MenuScreensModel_addValue_62 : decode prog_13_method_15_code 62 = .ok (.ireturn, 1) := by decide +kernel
theorem d_MenuScreensModel_addValue_63 : decode prog_13_method_15_code 63 = .ok (.aload_n 0, 1) := by decide +kernel
theorem d_MenuScreensModel_addValue_64 : decode prog_13_method_15_code 64 = .ok (.getfield 152, 3) := by decide +kernel
theorem d_MenuScreensModel_addValue_67 : decode prog_13_method_15_code 67 = .ok (.lstore 4, 2) := by decide +kernel
theorem d_MenuScreensModel_addValue_69 : decode prog_13_method_15_code 69 = .ok (.aload_n 0, 1) := by decide +kernel
theorem d_MenuScreensModel_addValue_70 : decode prog_13_method_15_code 70 = .ok (.lload 4, 2) := by decide +kernel
theorem d_MenuScreensModel_addValue_72 : decode prog_13_method_15_code 72 = .ok (.ldc2_w 214, 3) := by decide +kernel
theorem d_MenuScreensModel_addValue_75 : decode prog_13_method_15_code 75 = .ok (.invokevirtual 199, 3) := by decide +kernel
theorem d_MenuScreensModel_addValue_78 : decode prog_13_method_15_code 78 = .ok (.ifCond .ne 5, 3) := by decide +kernel
theorem d_MenuScreensModel_addValue_81 : decode prog_13_method_15_code 81 = .ok (.iconst 0, 1) := by decide +kernel
theorem d_MenuScreensModel_addValue_82 : decode prog_13_method_15_code 82 = .ok (.ireturn, 1) := by decide +kernel
theorem d_MenuScreensModel_addValue_83 : decode prog_13_method_15_code 83 = .ok (.aload_n 0, 1) := by decide +kernel
theorem d_MenuScreensModel_addValue_84 : decode prog_13_method_15_code 84 = .ok (.getfield 152, 3) := by decide +kernel
theorem d_MenuScreensModel_addValue_87 : decode prog_13_method_15_code 87 = .ok (.lstore 6, 2) := by decide +kernel
theorem d_MenuScreensModel_addValue_89 : decode prog_13_method_15_code 89 = .ok (.aload_n 0, 1) := by decide +kernel
theorem d_MenuScreensModel_addValue_90 : decode prog_13_method_15_code 90 = .ok (.lload 4, 2) := by decide +kernel
theorem d_MenuScreensModel_addValue_92 : decode prog_13_method_15_code 92 = .ok (.lload 6, 2) := by decide +kernel
theorem d_MenuScreensModel_addValue_94 : decode prog_13_method_15_code 94 = .ok (.invokevirtual 199, 3) := by decide +kernel
theorem d_MenuScreensModel_addValue_97 : decode prog_13_method_15_code 97 = .ok (.ifCond .ne 5, 3) := by decide +kernel
theorem d_MenuScreensModel_addValue_100 : decode prog_13_method_15_code 100 = .ok (.iconst 0, 1) := by decide +kernel
theorem d_MenuScreensModel_addValue_101 : decode prog_13_method_15_code 101 = .ok (.ireturn, 1) := by decide +kernel
theorem d_MenuScreensModel_addValue_102 : decode prog_13_method_15_code 102 = .ok (.aload_n 0, 1) := by decide +kernel
theorem d_MenuScreensModel_addValue_103 : decode prog_13_method_15_code 103 = .ok (.getfield 152, 3) := by decide +kernel
theorem d_MenuScreensModel_addValue_106 : decode prog_13_method_15_code 106 = .ok (.lstore 8, 2) := by decide +kernel
theorem d_MenuScreensModel_addValue_108 : decode prog_13_method_15_code 108 = .ok (.aload_n 0, 1) := by decide +kernel
theorem d_MenuScreensModel_addValue_109 : decode prog_13_method_15_code 109 = .ok (.invokevirtual 202, 3) := by decide +kernel
theorem d_MenuScreensModel_addValue_112 : decode prog_13_method_15_code 112 = .ok (.ifCond .ne 5, 3) := by decide +kernel
theorem d_MenuScreensModel_addValue_115 : decode prog_13_method_15_code 115 = .ok (.iconst 0, 1) := by decide +kernel
theorem d_MenuScreensModel_addValue_116 : decode prog_13_method_15_code 116 = .ok (.ireturn, 1) := by decide +kernel
theorem d_MenuScreensModel_addValue_117 : decode prog_13_method_15_code 117 = .ok (.aload_n 0, 1) := by decide +kernel
theorem d_MenuScreensModel_addValue_118 : decode prog_13_method_15_code 118 = .ok (.dup, 1) := by decide +kernel
theorem d_MenuScreensModel_addValue_119 : decode prog_13_method_15_code 119 = .ok (.getfield 162, 3) := by decide +kernel
theorem d_MenuScreensModel_addValue_122 : decode prog_13_method_15_code 122 = .ok (.iconst 1, 1) := by decide +kernel
theorem d_MenuScreensModel_addValue_123 : decode prog_13_method_15_code 123 = .ok (.iadd, 1) := by decide +kernel
theorem d_MenuScreensModel_addValue_124 : decode prog_13_method_15_code 124 = .ok (.putfield 162, 3) := by decide +kernel
theorem d_MenuScreensModel_addValue_127 : decode prog_13_method_15_code 127 = .ok (.aload_n 0, 1) := by decide +kernel
theorem d_MenuScreensModel_addValue_128 : decode prog_13_method_15_code 128 = .ok (.getfield 16, 3) := by decide +kernel
theorem d_MenuScreensModel_addValue_131 : decode prog_13_method_15_code 131 = .ok (.aload_n 0, 1) := by decide +kernel
theorem d_MenuScreensModel_addValue_132 : decode prog_13_method_15_code 132 = .ok (.getfield 162, 3) := by decide +kernel
theorem d_MenuScreensModel_addValue_135 : decode prog_13_method_15_code 135 = .ok (.iload_n 2, 1) := by decide +kernel
theorem d_MenuScreensModel_addValue_136 : decode prog_13_method_15_code 136 = .ok (.iastore, 1) := by decide +kernel
theorem d_MenuScreensModel_addValue_137 : decode prog_13_method_15_code 137 = .ok (.aload_n 0, 1) := by decide +kernel
theorem d_MenuScreensModel_addValue_138 : decode prog_13_method_15_code 138 = .ok (.getfield 19, 3) := by decide +kernel
theorem d_MenuScreensModel_addValue_141 : decode prog_13_method_15_code 141 = .ok (.aload_n 0, 1) := by decide +kernel
theorem d_MenuScreensModel_addValue_142 : decode prog_13_method_15_code 142 = .ok (.getfield 162, 3) := by decide +kernel
theorem d_MenuScreensModel_addValue_145 : decode prog_13_method_15_code 145 = .ok (.iload_n 3, 1) := by decide +kernel
theorem d_MenuScreensModel_addValue_146 : decode prog_13_method_15_code 146 = .ok (.iastore, 1) := by decide +kernel
theorem d_MenuScreensModel_addValue_147 : decode prog_13_method_15_code 147 = .ok (.aload_n 0, 1) := by decide +kernel
theorem d_MenuScreensModel_addValue_148 : decode prog_13_method_15_code 148 = .ok (.getfield 22, 3) := by decide +kernel
theorem d_MenuScreensModel_addValue_151 : decode prog_13_method_15_code 151 = .ok (.aload_n 0, 1) := by decide +kernel
theorem d_MenuScreensModel_addValue_152 : decode prog_13_method_15_code 152 = .ok (.getfield 162, 3) := by decide +kernel
theorem d_MenuScreensModel_addValue_155 : decode prog_13_method_15_code 155 = .ok (.iload_n 1, 1) := by decide +kernel
theorem d_MenuScreensModel_addValue_156 : decode prog_13_method_15_code 156 = .ok (.bastore, 1) := by decide +kernel
theorem d_MenuScreensModel_addValue_157 : decode prog_13_method_15_code 157 = .ok (.aload_n 0, 1) := by decide +kernel
theorem d_MenuScreensModel_addValue_158 : decode prog_13_method_15_code 158 = .ok (.getfield 26, 3) := by decide +kernel
theorem d_MenuScreensModel_addValue_161 : decode prog_13_method_15_code 161 = .ok (.aload_n 0, 1) := by decide +kernel
theorem d_MenuScreensModel_addValue_162 : decode prog_13_method_15_code 162 = .ok (.getfield 162, 3) := by decide +kernel
theorem d_MenuScreensModel_addValue_165 : decode prog_13_method_15_code 165 = .ok (.lload 4, 2) := by decide +kernel
theorem d_MenuScreensModel_addValue_167 : decode prog_13_method_15_code 167 = .ok (.lastore, 1) := by decide +kernel
theorem d_MenuScreensModel_addValue_168 : decode prog_13_method_15_code 168 = .ok (.aload_n 0, 1) := by decide +kernel
theorem d_MenuScreensModel_addValue_169 : decode prog_13_method_15_code 169 = .ok (.getfield 30, 3) := by decide +kernel
theorem d_MenuScreensModel_addValue_172 : decode prog_13_method_15_code 172 = .ok (.aload_n 0, 1) := by decide +kernel
theorem d_MenuScreensModel_addValue_173 : decode prog_13_method_15_code 173 = .ok (.getfield 162, 3) := by decide +kernel
theorem d_MenuScreensModel_addValue_176 : decode prog_13_method_15_code 176 = .ok (.lload 6, 2) := by decide +kernel
theorem d_MenuScreensModel_addValue_178 : decode prog_13_method_15_code 178 = .ok (.lastore, 1) := by decide +kernel
theorem d_MenuScreensModel_addValue_179 : decode prog_13_method_15_code 179 = .ok (.aload_n 0, 1) := by decide +kernel
theorem d_MenuScreensModel_addValue_180 : decode prog_13_method_15_code 180 = .ok (.getfield 33, 3) := by decide +kernel
theorem d_MenuScreensModel_addValue_183 : decode prog_13_method_15_code 183 = .ok (.aload_n 0, 1) := by decide +kernel
theorem d_MenuScreensModel_addValue_184 : decode prog_13_method_15_code 184 = .ok (.getfield 162, 3) := by decide +kernel
theorem d_MenuScreensModel_addValue_187 : decode prog_13_method_15_code 187 = .ok (.lload 8, 2) := by decide +kernel
theorem d_MenuScreensModel_addValue_189 : decode prog_13_method_15_code 189 = .ok (.lastore, 1) := by decide +kernel
theorem d_MenuScreensModel_addValue_190 : decode prog_13_method_15_code 190 = .ok (.aload_n 0, 1) := by decide +kernel
theorem d_MenuScreensModel_addValue_191 : decode prog_13_method_15_code 191 = .ok (.getfield 36, 3) := by decide +kernel
theorem d_MenuScreensModel_addValue_194 : decode prog_13_method_15_code 194 = .ok (.aload_n 0, 1) := by decide +kernel
theorem d_MenuScreensModel_addValue_195 : decode prog_13_method_15_code 195 = .ok (.getfield 162, 3) := by decide +kernel
theorem d_MenuScreensModel_addValue_198 : decode prog_13_method_15_code 198 = .ok (.iload_n 1, 1) := by decide +kernel
theorem d_MenuScreensModel_addValue_199 : decode prog_13_method_15_code 199 = .ok (.bastore, 1) := by decide +kernel
theorem d_MenuScreensModel_addValue_200 : decode prog_13_method_15_code 200 = .ok (.iconst 1, 1) := by decide +kernel
theorem d_MenuScreensModel_addValue_201 : decode prog_13_method_15_code 201 = .ok (.ireturn, 1) := by decide +kernel
set_option maxRecDepth 100000 in
set_option maxHeartbeats 4000000 in
theorem cm_MenuScreensModel_addValue {l : Launch} {S0 : State} {b : Nat} {D : va_G} {dT : Nat → ClassId} (hE : vEnv S0 b D dT) {h0 : vH} {a : Nat} {ar : Nat → Nat} {x : Nat → Int32} {y : Nat → Int64} {A : Nat → Nat → Int32} {B : Nat → Nat → Int64} (M : MV S0 dT h0 a ar x y A B) (p1 : Int32) {i0 e0 : Nat} (hat : x 7 = nI i0) (hend : x 8 = nI e0) (hle : i0 ≤ e0) (he : e0 ≤ 4000) {nv : Nat} (hnv : x 12 = nI nv) (hnv2 : nv ≤ 40) (hRV : ∀ v, 1 ≤ v → v ≤ nv → ∃ p q, A 13 v = nI p ∧ A 14 v = nI q ∧ p ≤ q ∧ q ≤ 4000) (hb1 : vp_nar .boolean p1 = p1) : vMi l S0 D vcl GT y_MenuScreensModel_addValue prog_13_method_15_code 10 (some .boolean) 3 100 0 0 [.ref a, .int p1] h0 (fun r h' => ∃ x' y' A' B', MR S0 dT h0 h' a ar x' y' A' B' ∧ (∀ k, k ≠ 7 → k ≠ 9 → k ≠ 10 → k ≠ 12 → x' k = x k) ∧ (∀ k, k ≠ 11 → y' k = y k) ∧ (okVa A e0 i0 nv p1 = true ∧ r = 1 ∧ x' 12 = nI (nv + 1) ∧ A' = va_up (va_up (va_up (va_up A 13 (upd (A 13) (nv + 1) (nI (nF (A 6) e0 i0)))) 14 (upd (A 14) (nv + 1) (nI (nT (A 6) e0 i0)))) 15 (upd (A 15) (nv + 1) p1)) 19 (upd (A 19) (nv + 1) p1) ∧ B' = va_up (va_up (va_up B 16 (vp_updL (B 16) (nv + 1) (if p1 = 0 then 0 else (vNu (A 6) e0 (nT (A 6) e0 i0))))) 17 (vp_updL (B 17) (nv + 1) (if p1 = 0 then 0 else (vNu (A 6) e0 (nT2 (A 6) e0 i0))))) 18 (vp_updL (B 18) (nv + 1) (if p1 = 0 then 0 else (vNu (A 6) e0 (nT3 (A 6) e0 i0)))) ∨ okVa A e0 i0 nv p1 = false ∧ r = 0 ∧ x' 12 = x 12 ∧ A' = A ∧ B' = B)) := by
  unfold vMi
  refine vM_ofQ hE.1 (by decide) (Nat.le_of_ble_eq_true rfl) (fun p e s m args below meth c ls Q hQ C hr hlk hnm X hl => ?_)
  have C : vC p s m _ c _ _ "MenuScreensModel" GT D vcl (vty dT) := C
  have hx := C.1.1
  have hb := C.1.2.1
  replace M := MR.of M
  obtain ⟨H, eH⟩ : ∃ z, z = s.heap := ⟨_, rfl⟩
  obtain ⟨locs, elocs⟩ : ∃ z : List Loc, z = [] := ⟨_, rfl⟩
  rw [← eH, ← elocs] at X
  rw [← eH, ← elocs]
  clear eH elocs
  have hl : lv_has ls 10 [(0, .ref a), (1, .int p1)] := hl
  refine lv_aload_n hx hb d_MenuScreensModel_addValue_0 rfl (lv_at hl 0 rfl) ?_
  refine mv_bi X (mv_rV (rest := []) (As := []) gt_good C X k_12_205 (cm_MenuScreensModel_name hE M.1 (i0 := i0) (e0 := e0) hat hend hle he) M.1.1 rfl rfl ⟨by decide, by decide⟩ rfl hl.1 rfl (by decide) d_MenuScreensModel_addValue_1 ⟨Nat.le_refl _, Nat.le_refl _⟩) (fun r1 hN H locs hp X => ?_)
  obtain ⟨x1, M1, rfl, er1⟩ := hp
  replace M := M.trans M1
  replace er1 : r1 = bI (cNm (A 6) e0 i0) := er1
  have hT1 := (nT_in (A 6) hle)
  have hT2 : (nT2 (A 6) e0 i0) ≤ e0 := (nT_in (A 6) hT1.2).2
  have hT3 : (nT3 (A 6) e0 i0) ≤ e0 := (nT_in (A 6) hT2).2
  have hT4 : (nT4 (A 6) e0 i0) ≤ e0 := (nT_in (A 6) hT3).2
  refine lv_if_eq (tgt := 23) hx hb d_MenuScreensModel_addValue_4 (by decide) (fun c2 => ?_) (fun c2 => ?_)
  · skip
    refine lv_iconst (v := 0) hx hb d_MenuScreensModel_addValue_23 (by decide) ?_
    exact mq_iret hQ C X hr rfl hlk (⟨(upd (upd (upd x 7 (nI (nT (A 6) e0 i0))) 9 (nI (nF (A 6) e0 i0))) 10 (nI (nT (A 6) e0 i0))), y, A, B, M, (fun k q7 q9 q10 q12 => by simp [upd, q7, q9, q10, q12]), (fun k q11 => rfl), Or.inr ⟨by unfold okVa; rw [show cNm (A 6) e0 i0 = false from bI_0 (er1.symm.trans c2)]; rfl, rfl, rfl, rfl, rfl⟩⟩) (Nat.le_refl _) (Nat.le_refl _) d_MenuScreensModel_addValue_24
  · skip
    refine lv_aload_n hx hb d_MenuScreensModel_addValue_7 rfl (lv_at hl 0 rfl) ?_
    have a1 : cNm (A 6) e0 i0 = true := bI_n (fun z => c2 (er1.trans z))
    refine mv_bi X (mv_rV (rest := []) (As := []) gt_good C X k_12_208 (cm_MenuScreensModel_findValue hE M.1 (n := nv) hnv hnv2 hRV (F := (nF (A 6) e0 i0)) (T := (nT (A 6) e0 i0)) rfl rfl hT1.1 (by omega)) M.1.1 rfl rfl ⟨by decide, by decide⟩ rfl hl.1 rfl (by decide) d_MenuScreensModel_addValue_8 ⟨Nat.le_refl _, Nat.le_refl _⟩) (fun r3 hN H locs hp X => ?_)
    obtain ⟨ehr3, er3⟩ := hp
    rw [ehr3] at X
    replace er3 : r3 = nI (fV A nv (nF (A 6) e0 i0) (nT (A 6) e0 i0)) := er3
    have hfv : fV A nv (nF (A 6) e0 i0) (nT (A 6) e0 i0) ≤ 1 + nv := fnd_le _ _ _
    refine lv_if_gt (tgt := 23) hx hb d_MenuScreensModel_addValue_11 (by decide) (fun c4 => ?_) (fun c4 => ?_)
    · skip
      refine lv_iconst (v := 0) hx hb d_MenuScreensModel_addValue_23 (by decide) ?_
      exact mq_iret hQ C X hr rfl hlk (⟨(upd (upd (upd x 7 (nI (nT (A 6) e0 i0))) 9 (nI (nF (A 6) e0 i0))) 10 (nI (nT (A 6) e0 i0))), y, A, B, M, (fun k q7 q9 q10 q12 => by simp [upd, q7, q9, q10, q12]), (fun k q11 => rfl), Or.inr ⟨by unfold okVa; rw [decide_eq_false (p := fV A nv (nF (A 6) e0 i0) (nT (A 6) e0 i0) = 0) (fun z => by have := c4; rw [er3, z] at this; exact absurd this (by decide))]; simp, rfl, rfl, rfl, rfl⟩⟩) (Nat.le_refl _) (Nat.le_refl _) d_MenuScreensModel_addValue_24
    · skip
      have a2 : fV A nv (nF (A 6) e0 i0) (nT (A 6) e0 i0) = 0 := by
        rcases Nat.eq_zero_or_pos (fV A nv (nF (A 6) e0 i0) (nT (A 6) e0 i0)) with q | q
        · exact q
        · exact absurd (by rw [er3]; exact nI_lt (a := 0) q (by omega)) c4
      refine lv_aload_n hx hb d_MenuScreensModel_addValue_14 rfl (lv_at hl 0 rfl) ?_
      refine mm_get C X M 12 f_12_162_13 (.int (x 12)) rfl d_MenuScreensModel_addValue_15 ?_
      refine lv_bipush (v := 40) hx hb d_MenuScreensModel_addValue_18 (by decide) ?_
      refine lv_icmp_ne (tgt := 25) hx hb d_MenuScreensModel_addValue_20 (by decide) (fun c5 => ?_) (fun c5 => ?_)
      · skip
        have a3 : nv ≠ 40 := fun z => c5 (by rw [hnv, z]; rfl)
        refine lv_aload_n hx hb d_MenuScreensModel_addValue_25 rfl (lv_at hl 0 rfl) ?_
        refine mm_get C X M 9 f_12_139_13 (.int (nI (nF (A 6) e0 i0))) rfl d_MenuScreensModel_addValue_26 ?_
        refine lv_istore_n (lv' := [(2, .int (nI (nF (A 6) e0 i0))), (0, .ref a), (1, .int p1)]) hx hb d_MenuScreensModel_addValue_29 rfl hl (by decide) rfl (fun ls hl => ?_)
        refine lv_aload_n hx hb d_MenuScreensModel_addValue_30 rfl (lv_at hl 1 rfl) ?_
        refine mm_get C X M 10 f_12_142_13 (.int (nI (nT (A 6) e0 i0))) rfl d_MenuScreensModel_addValue_31 ?_
        refine lv_istore_n (lv' := [(3, .int (nI (nT (A 6) e0 i0))), (2, .int (nI (nF (A 6) e0 i0))), (0, .ref a), (1, .int p1)]) hx hb d_MenuScreensModel_addValue_34 rfl hl (by decide) rfl (fun ls hl => ?_)
        refine lv_lconst (v := 0) hx hb d_MenuScreensModel_addValue_35 (by decide) ?_
        refine lv_lstore (lv' := [(4, .long 0), (3, .int (nI (nT (A 6) e0 i0))), (2, .int (nI (nF (A 6) e0 i0))), (0, .ref a), (1, .int p1)]) hx hb d_MenuScreensModel_addValue_36 hl (by decide) rfl (fun ls hl => ?_)
        refine lv_lconst (v := 0) hx hb d_MenuScreensModel_addValue_38 (by decide) ?_
        refine lv_lstore (lv' := [(6, .long 0), (4, .long 0), (3, .int (nI (nT (A 6) e0 i0))), (2, .int (nI (nF (A 6) e0 i0))), (0, .ref a), (1, .int p1)]) hx hb d_MenuScreensModel_addValue_39 hl (by decide) rfl (fun ls hl => ?_)
        refine lv_lconst (v := 0) hx hb d_MenuScreensModel_addValue_41 (by decide) ?_
        refine lv_lstore (lv' := [(8, .long 0), (6, .long 0), (4, .long 0), (3, .int (nI (nT (A 6) e0 i0))), (2, .int (nI (nF (A 6) e0 i0))), (0, .ref a), (1, .int p1)]) hx hb d_MenuScreensModel_addValue_42 hl (by decide) rfl (fun ls hl => ?_)
        refine lv_iload_n hx hb d_MenuScreensModel_addValue_44 rfl (lv_at hl 6 rfl) ?_
        refine lv_if_eq (tgt := 108) hx hb d_MenuScreensModel_addValue_45 (by decide) (fun c6 => ?_) (fun c6 => ?_)
        · skip
          refine lv_aload_n hx hb d_MenuScreensModel_addValue_108 rfl (lv_at hl 5 rfl) ?_
          refine mv_bi X (mv_rV (rest := []) (As := []) gt_good C X k_12_202 (cm_MenuScreensModel_through hE M.1 (i0 := (nT (A 6) e0 i0)) (e0 := e0) rfl hend hT1.2 he) M.1.1 rfl rfl ⟨by decide, by decide⟩ rfl hl.1 rfl (by decide) d_MenuScreensModel_addValue_109 ⟨Nat.le_refl _, Nat.le_refl _⟩) (fun r7 hN H locs hp X => ?_)
          obtain ⟨x1, M1, rfl, er7⟩ := hp
          replace M := M.trans M1
          replace er7 : r7 = bI (cEnd (A 6) e0 (nT (A 6) e0 i0)) := er7
          refine lv_if_ne (tgt := 117) hx hb d_MenuScreensModel_addValue_112 (by decide) (fun c8 => ?_) (fun c8 => ?_)
          · skip
            have a4 : cEnd (A 6) e0 (nT (A 6) e0 i0) = true := bI_n (fun z => c8 (er7.trans z))
            have e12 : x 12 + 1 = nI (nv + 1) := by rw [hnv]; exact nI_1 nv
            refine lv_aload_n hx hb d_MenuScreensModel_addValue_117 rfl (lv_at hl 5 rfl) ?_
            refine lv_dup hx hb d_MenuScreensModel_addValue_118 rfl ?_
            refine mm_get C X M 12 f_12_162_13 (.int (x 12)) rfl d_MenuScreensModel_addValue_119 ?_
            refine lv_iconst (v := 1) hx hb d_MenuScreensModel_addValue_122 (by decide) ?_
            refine lv_iadd hx hb d_MenuScreensModel_addValue_123 ?_
            refine mm_put C X M 12 p_12_162_13 (upd (upd (upd (upd x 7 (nI (nT (A 6) e0 (nT (A 6) e0 i0)))) 9 (nI (nF (A 6) e0 (nT (A 6) e0 i0)))) 10 (nI (nT (A 6) e0 (nT (A 6) e0 i0)))) 12 ((x 12) + 1)) y rfl rfl rfl (by decide) d_MenuScreensModel_addValue_124 (fun h H locs X M => ?_)
            refine lv_aload_n hx hb d_MenuScreensModel_addValue_127 rfl (lv_at hl 5 rfl) ?_
            refine mm_get C X M 13 f_12_16_13 (.ref (ar 13)) rfl d_MenuScreensModel_addValue_128 ?_
            refine lv_aload_n hx hb d_MenuScreensModel_addValue_131 rfl (lv_at hl 5 rfl) ?_
            refine mm_get C X M 12 f_12_162_13 (.int ((x 12) + 1)) rfl d_MenuScreensModel_addValue_132 ?_
            refine lv_iload_n hx hb d_MenuScreensModel_addValue_135 rfl (lv_at hl 4 rfl) ?_
            refine mm_iast C X M 13 41 rfl (A 13) rfl (fun _ => rfl) (by decide) (nv + 1) e12 (by omega) d_MenuScreensModel_addValue_136 (fun h H locs X M => ?_)
            refine lv_aload_n hx hb d_MenuScreensModel_addValue_137 rfl (lv_at hl 5 rfl) ?_
            refine mm_get C X M 14 f_12_19_13 (.ref (ar 14)) rfl d_MenuScreensModel_addValue_138 ?_
            refine lv_aload_n hx hb d_MenuScreensModel_addValue_141 rfl (lv_at hl 5 rfl) ?_
            refine mm_get C X M 12 f_12_162_13 (.int ((x 12) + 1)) rfl d_MenuScreensModel_addValue_142 ?_
            refine lv_iload_n hx hb d_MenuScreensModel_addValue_145 rfl (lv_at hl 3 rfl) ?_
            refine mm_iast C X M 14 41 rfl (A 14) rfl (fun _ => rfl) (by decide) (nv + 1) e12 (by omega) d_MenuScreensModel_addValue_146 (fun h H locs X M => ?_)
            refine lv_aload_n hx hb d_MenuScreensModel_addValue_147 rfl (lv_at hl 5 rfl) ?_
            refine mm_get C X M 15 f_12_22_13 (.ref (ar 15)) rfl d_MenuScreensModel_addValue_148 ?_
            refine lv_aload_n hx hb d_MenuScreensModel_addValue_151 rfl (lv_at hl 5 rfl) ?_
            refine mm_get C X M 12 f_12_162_13 (.int ((x 12) + 1)) rfl d_MenuScreensModel_addValue_152 ?_
            refine lv_iload_n hx hb d_MenuScreensModel_addValue_155 rfl (lv_at hl 6 rfl) ?_
            refine mm_zast C X M 15 41 rfl (A 15) rfl (fun _ => rfl) (by decide) hb1 (nv + 1) e12 (by omega) d_MenuScreensModel_addValue_156 (fun h H locs X M => ?_)
            refine lv_aload_n hx hb d_MenuScreensModel_addValue_157 rfl (lv_at hl 5 rfl) ?_
            refine mm_get C X M 16 f_12_26_13 (.ref (ar 16)) rfl d_MenuScreensModel_addValue_158 ?_
            refine lv_aload_n hx hb d_MenuScreensModel_addValue_161 rfl (lv_at hl 5 rfl) ?_
            refine mm_get C X M 12 f_12_162_13 (.int ((x 12) + 1)) rfl d_MenuScreensModel_addValue_162 ?_
            refine lv_lload hx hb d_MenuScreensModel_addValue_165 (lv_at hl 2 rfl) ?_
            refine mm_last C X M 16 41 rfl (B 16) rfl (fun _ => rfl) (by decide) (nv + 1) e12 (by omega) d_MenuScreensModel_addValue_167 (fun h H locs X M => ?_)
            refine lv_aload_n hx hb d_MenuScreensModel_addValue_168 rfl (lv_at hl 5 rfl) ?_
            refine mm_get C X M 17 f_12_30_13 (.ref (ar 17)) rfl d_MenuScreensModel_addValue_169 ?_
            refine lv_aload_n hx hb d_MenuScreensModel_addValue_172 rfl (lv_at hl 5 rfl) ?_
            refine mm_get C X M 12 f_12_162_13 (.int ((x 12) + 1)) rfl d_MenuScreensModel_addValue_173 ?_
            refine lv_lload hx hb d_MenuScreensModel_addValue_176 (lv_at hl 1 rfl) ?_
            refine mm_last C X M 17 41 rfl (B 17) rfl (fun _ => rfl) (by decide) (nv + 1) e12 (by omega) d_MenuScreensModel_addValue_178 (fun h H locs X M => ?_)
            refine lv_aload_n hx hb d_MenuScreensModel_addValue_179 rfl (lv_at hl 5 rfl) ?_
            refine mm_get C X M 18 f_12_33_13 (.ref (ar 18)) rfl d_MenuScreensModel_addValue_180 ?_
            refine lv_aload_n hx hb d_MenuScreensModel_addValue_183 rfl (lv_at hl 5 rfl) ?_
            refine mm_get C X M 12 f_12_162_13 (.int ((x 12) + 1)) rfl d_MenuScreensModel_addValue_184 ?_
            refine lv_lload hx hb d_MenuScreensModel_addValue_187 (lv_at hl 0 rfl) ?_
            refine mm_last C X M 18 41 rfl (B 18) rfl (fun _ => rfl) (by decide) (nv + 1) e12 (by omega) d_MenuScreensModel_addValue_189 (fun h H locs X M => ?_)
            refine lv_aload_n hx hb d_MenuScreensModel_addValue_190 rfl (lv_at hl 5 rfl) ?_
            refine mm_get C X M 19 f_12_36_13 (.ref (ar 19)) rfl d_MenuScreensModel_addValue_191 ?_
            refine lv_aload_n hx hb d_MenuScreensModel_addValue_194 rfl (lv_at hl 5 rfl) ?_
            refine mm_get C X M 12 f_12_162_13 (.int ((x 12) + 1)) rfl d_MenuScreensModel_addValue_195 ?_
            refine lv_iload_n hx hb d_MenuScreensModel_addValue_198 rfl (lv_at hl 6 rfl) ?_
            refine mm_zast C X M 19 41 rfl (A 19) rfl (fun _ => rfl) (by decide) hb1 (nv + 1) e12 (by omega) d_MenuScreensModel_addValue_199 (fun h H locs X M => ?_)
            refine lv_iconst (v := 1) hx hb d_MenuScreensModel_addValue_200 (by decide) ?_
            exact mq_iret hQ C X hr rfl hlk (⟨(upd (upd (upd (upd x 7 (nI (nT (A 6) e0 (nT (A 6) e0 i0)))) 9 (nI (nF (A 6) e0 (nT (A 6) e0 i0)))) 10 (nI (nT (A 6) e0 (nT (A 6) e0 i0)))) 12 ((x 12) + 1)), y, (va_up (va_up (va_up (va_up A 13 (upd (A 13) (nv + 1) (nI (nF (A 6) e0 i0)))) 14 (upd (A 14) (nv + 1) (nI (nT (A 6) e0 i0)))) 15 (upd (A 15) (nv + 1) p1)) 19 (upd (A 19) (nv + 1) p1)), (va_up (va_up (va_up B 16 (vp_updL (B 16) (nv + 1) 0)) 17 (vp_updL (B 17) (nv + 1) 0)) 18 (vp_updL (B 18) (nv + 1) 0)), M, (fun k q7 q9 q10 q12 => by simp [upd, q7, q9, q10, q12]), (fun k q11 => rfl), Or.inl ⟨by unfold okVa; rw [if_pos c6]; rw [a1, decide_eq_true a2, decide_eq_true a3, a4]; rfl, rfl, e12, rfl, by rw [if_pos c6, if_pos c6, if_pos c6]⟩⟩) (Nat.le_refl _) (Nat.le_refl _) d_MenuScreensModel_addValue_201
          · skip
            refine lv_iconst (v := 0) hx hb d_MenuScreensModel_addValue_115 (by decide) ?_
            exact mq_iret hQ C X hr rfl hlk (⟨(upd (upd (upd x 7 (nI (nT (A 6) e0 (nT (A 6) e0 i0)))) 9 (nI (nF (A 6) e0 (nT (A 6) e0 i0)))) 10 (nI (nT (A 6) e0 (nT (A 6) e0 i0)))), y, A, B, M, (fun k q7 q9 q10 q12 => by simp [upd, q7, q9, q10, q12]), (fun k q11 => rfl), Or.inr ⟨by unfold okVa; rw [if_pos c6]; rw [show cEnd (A 6) e0 (nT (A 6) e0 i0) = false from bI_0 (er7.symm.trans c8)]; simp, rfl, rfl, rfl, rfl⟩⟩) (Nat.le_refl _) (Nat.le_refl _) d_MenuScreensModel_addValue_116
        · skip
          refine lv_aload_n hx hb d_MenuScreensModel_addValue_48 rfl (lv_at hl 5 rfl) ?_
          refine lv_ldc2 (v := (-999999)) hx hb C.1.2.2.2.1 (C.1.2.2.2.2 _ (gt_6 15 (by decide +kernel) rfl)) d_MenuScreensModel_addValue_49 ?_
          refine lv_ldc2 (v := 999999) hx hb C.1.2.2.2.1 (C.1.2.2.2.2 _ (gt_6 16 (by decide +kernel) rfl)) d_MenuScreensModel_addValue_52 ?_
          refine mv_bi X (mv_rV (rest := []) (As := [.long (-999999), .long 999999]) gt_good C X k_12_199 (cm_MenuScreensModel_number hE M.1 _ _ (i0 := (nT (A 6) e0 i0)) (e0 := e0) rfl hend hT1.2 he) M.1.1 rfl rfl ⟨by decide, by decide⟩ rfl hl.1 rfl (by decide) d_MenuScreensModel_addValue_55 ⟨Nat.le_refl _, Nat.le_refl _⟩) (fun r9 hN H locs hp X => ?_)
          obtain ⟨x1, yn10, M1, rfl, kyn10, vyn10, er9⟩ := hp
          replace M := M.trans M1
          replace er9 : r9 = bI (cNu (A 6) e0 (nT (A 6) e0 i0) (-999999) 999999) := er9
          replace vyn10 : r9 = 1 → yn10 11 = vNu (A 6) e0 (nT (A 6) e0 i0) := vyn10
          refine lv_if_ne (tgt := 63) hx hb d_MenuScreensModel_addValue_58 (by decide) (fun c11 => ?_) (fun c11 => ?_)
          · skip
            have b1 : cNu (A 6) e0 (nT (A 6) e0 i0) (-999999) 999999 = true := bI_n (fun z => c11 (er9.trans z))
            have v1 := vyn10 (by rw [er9, b1]; rfl)
            refine lv_aload_n hx hb d_MenuScreensModel_addValue_63 rfl (lv_at hl 5 rfl) ?_
            refine mm_get C X M 11 f_12_152_13 (.long (yn10 11)) rfl d_MenuScreensModel_addValue_64 ?_
            rw [v1]
            skip
            refine lv_lstore (lv' := [(4, .long (vNu (A 6) e0 (nT (A 6) e0 i0))), (8, .long 0), (6, .long 0), (3, .int (nI (nT (A 6) e0 i0))), (2, .int (nI (nF (A 6) e0 i0))), (0, .ref a), (1, .int p1)]) hx hb d_MenuScreensModel_addValue_67 hl (by decide) rfl (fun ls hl => ?_)
            refine lv_aload_n hx hb d_MenuScreensModel_addValue_69 rfl (lv_at hl 5 rfl) ?_
            refine lv_lload hx hb d_MenuScreensModel_addValue_70 (lv_at hl 0 rfl) ?_
            refine lv_ldc2 (v := 999999) hx hb C.1.2.2.2.1 (C.1.2.2.2.2 _ (gt_6 16 (by decide +kernel) rfl)) d_MenuScreensModel_addValue_72 ?_
            refine mv_bi X (mv_rV (rest := []) (As := [.long (vNu (A 6) e0 (nT (A 6) e0 i0)), .long 999999]) gt_good C X k_12_199 (cm_MenuScreensModel_number hE M.1 _ _ (i0 := (nT2 (A 6) e0 i0)) (e0 := e0) rfl hend hT2 he) M.1.1 rfl rfl ⟨by decide, by decide⟩ rfl hl.1 rfl (by decide) d_MenuScreensModel_addValue_75 ⟨Nat.le_refl _, Nat.le_refl _⟩) (fun r12 hN H locs hp X => ?_)
            obtain ⟨x1, yn13, M1, rfl, kyn13, vyn13, er12⟩ := hp
            replace M := M.trans M1
            replace er12 : r12 = bI (cNu (A 6) e0 (nT2 (A 6) e0 i0) (vNu (A 6) e0 (nT (A 6) e0 i0)) 999999) := er12
            replace vyn13 : r12 = 1 → yn13 11 = vNu (A 6) e0 (nT2 (A 6) e0 i0) := vyn13
            refine lv_if_ne (tgt := 83) hx hb d_MenuScreensModel_addValue_78 (by decide) (fun c14 => ?_) (fun c14 => ?_)
            · skip
              have b2 : cNu (A 6) e0 (nT2 (A 6) e0 i0) (vNu (A 6) e0 (nT (A 6) e0 i0)) 999999 = true := bI_n (fun z => c14 (er12.trans z))
              have v2 := vyn13 (by rw [er12, b2]; rfl)
              refine lv_aload_n hx hb d_MenuScreensModel_addValue_83 rfl (lv_at hl 5 rfl) ?_
              refine mm_get C X M 11 f_12_152_13 (.long (yn13 11)) rfl d_MenuScreensModel_addValue_84 ?_
              rw [v2]
              skip
              refine lv_lstore (lv' := [(6, .long (vNu (A 6) e0 (nT2 (A 6) e0 i0))), (4, .long (vNu (A 6) e0 (nT (A 6) e0 i0))), (8, .long 0), (3, .int (nI (nT (A 6) e0 i0))), (2, .int (nI (nF (A 6) e0 i0))), (0, .ref a), (1, .int p1)]) hx hb d_MenuScreensModel_addValue_87 hl (by decide) rfl (fun ls hl => ?_)
              refine lv_aload_n hx hb d_MenuScreensModel_addValue_89 rfl (lv_at hl 5 rfl) ?_
              refine lv_lload hx hb d_MenuScreensModel_addValue_90 (lv_at hl 1 rfl) ?_
              refine lv_lload hx hb d_MenuScreensModel_addValue_92 (lv_at hl 0 rfl) ?_
              refine mv_bi X (mv_rV (rest := []) (As := [.long (vNu (A 6) e0 (nT (A 6) e0 i0)), .long (vNu (A 6) e0 (nT2 (A 6) e0 i0))]) gt_good C X k_12_199 (cm_MenuScreensModel_number hE M.1 _ _ (i0 := (nT3 (A 6) e0 i0)) (e0 := e0) rfl hend hT3 he) M.1.1 rfl rfl ⟨by decide, by decide⟩ rfl hl.1 rfl (by decide) d_MenuScreensModel_addValue_94 ⟨Nat.le_refl _, Nat.le_refl _⟩) (fun r15 hN H locs hp X => ?_)
              obtain ⟨x1, yn16, M1, rfl, kyn16, vyn16, er15⟩ := hp
              replace M := M.trans M1
              replace er15 : r15 = bI (cNu (A 6) e0 (nT3 (A 6) e0 i0) (vNu (A 6) e0 (nT (A 6) e0 i0)) (vNu (A 6) e0 (nT2 (A 6) e0 i0))) := er15
              replace vyn16 : r15 = 1 → yn16 11 = vNu (A 6) e0 (nT3 (A 6) e0 i0) := vyn16
              refine lv_if_ne (tgt := 102) hx hb d_MenuScreensModel_addValue_97 (by decide) (fun c17 => ?_) (fun c17 => ?_)
              · skip
                have b3 : cNu (A 6) e0 (nT3 (A 6) e0 i0) (vNu (A 6) e0 (nT (A 6) e0 i0)) (vNu (A 6) e0 (nT2 (A 6) e0 i0)) = true := bI_n (fun z => c17 (er15.trans z))
                have v3 := vyn16 (by rw [er15, b3]; rfl)
                refine lv_aload_n hx hb d_MenuScreensModel_addValue_102 rfl (lv_at hl 5 rfl) ?_
                refine mm_get C X M 11 f_12_152_13 (.long (yn16 11)) rfl d_MenuScreensModel_addValue_103 ?_
                rw [v3]
                skip
                refine lv_lstore (lv' := [(8, .long (vNu (A 6) e0 (nT3 (A 6) e0 i0))), (6, .long (vNu (A 6) e0 (nT2 (A 6) e0 i0))), (4, .long (vNu (A 6) e0 (nT (A 6) e0 i0))), (3, .int (nI (nT (A 6) e0 i0))), (2, .int (nI (nF (A 6) e0 i0))), (0, .ref a), (1, .int p1)]) hx hb d_MenuScreensModel_addValue_106 hl (by decide) rfl (fun ls hl => ?_)
                refine lv_aload_n hx hb d_MenuScreensModel_addValue_108 rfl (lv_at hl 5 rfl) ?_
                refine mv_bi X (mv_rV (rest := []) (As := []) gt_good C X k_12_202 (cm_MenuScreensModel_through hE M.1 (i0 := (nT4 (A 6) e0 i0)) (e0 := e0) rfl hend hT4 he) M.1.1 rfl rfl ⟨by decide, by decide⟩ rfl hl.1 rfl (by decide) d_MenuScreensModel_addValue_109 ⟨Nat.le_refl _, Nat.le_refl _⟩) (fun r18 hN H locs hp X => ?_)
                obtain ⟨x1, M1, rfl, er18⟩ := hp
                replace M := M.trans M1
                replace er18 : r18 = bI (cEnd (A 6) e0 (nT4 (A 6) e0 i0)) := er18
                refine lv_if_ne (tgt := 117) hx hb d_MenuScreensModel_addValue_112 (by decide) (fun c19 => ?_) (fun c19 => ?_)
                · skip
                  have a4 : cEnd (A 6) e0 (nT4 (A 6) e0 i0) = true := bI_n (fun z => c19 (er18.trans z))
                  have e12 : x 12 + 1 = nI (nv + 1) := by rw [hnv]; exact nI_1 nv
                  refine lv_aload_n hx hb d_MenuScreensModel_addValue_117 rfl (lv_at hl 5 rfl) ?_
                  refine lv_dup hx hb d_MenuScreensModel_addValue_118 rfl ?_
                  refine mm_get C X M 12 f_12_162_13 (.int (x 12)) rfl d_MenuScreensModel_addValue_119 ?_
                  refine lv_iconst (v := 1) hx hb d_MenuScreensModel_addValue_122 (by decide) ?_
                  refine lv_iadd hx hb d_MenuScreensModel_addValue_123 ?_
                  refine mm_put C X M 12 p_12_162_13 (upd (upd (upd (upd x 7 (nI (nT (A 6) e0 (nT4 (A 6) e0 i0)))) 9 (nI (nF (A 6) e0 (nT4 (A 6) e0 i0)))) 10 (nI (nT (A 6) e0 (nT4 (A 6) e0 i0)))) 12 ((x 12) + 1)) yn16 rfl rfl rfl (by decide) d_MenuScreensModel_addValue_124 (fun h H locs X M => ?_)
                  refine lv_aload_n hx hb d_MenuScreensModel_addValue_127 rfl (lv_at hl 5 rfl) ?_
                  refine mm_get C X M 13 f_12_16_13 (.ref (ar 13)) rfl d_MenuScreensModel_addValue_128 ?_
                  refine lv_aload_n hx hb d_MenuScreensModel_addValue_131 rfl (lv_at hl 5 rfl) ?_
                  refine mm_get C X M 12 f_12_162_13 (.int ((x 12) + 1)) rfl d_MenuScreensModel_addValue_132 ?_
                  refine lv_iload_n hx hb d_MenuScreensModel_addValue_135 rfl (lv_at hl 4 rfl) ?_
                  refine mm_iast C X M 13 41 rfl (A 13) rfl (fun _ => rfl) (by decide) (nv + 1) e12 (by omega) d_MenuScreensModel_addValue_136 (fun h H locs X M => ?_)
                  refine lv_aload_n hx hb d_MenuScreensModel_addValue_137 rfl (lv_at hl 5 rfl) ?_
                  refine mm_get C X M 14 f_12_19_13 (.ref (ar 14)) rfl d_MenuScreensModel_addValue_138 ?_
                  refine lv_aload_n hx hb d_MenuScreensModel_addValue_141 rfl (lv_at hl 5 rfl) ?_
                  refine mm_get C X M 12 f_12_162_13 (.int ((x 12) + 1)) rfl d_MenuScreensModel_addValue_142 ?_
                  refine lv_iload_n hx hb d_MenuScreensModel_addValue_145 rfl (lv_at hl 3 rfl) ?_
                  refine mm_iast C X M 14 41 rfl (A 14) rfl (fun _ => rfl) (by decide) (nv + 1) e12 (by omega) d_MenuScreensModel_addValue_146 (fun h H locs X M => ?_)
                  refine lv_aload_n hx hb d_MenuScreensModel_addValue_147 rfl (lv_at hl 5 rfl) ?_
                  refine mm_get C X M 15 f_12_22_13 (.ref (ar 15)) rfl d_MenuScreensModel_addValue_148 ?_
                  refine lv_aload_n hx hb d_MenuScreensModel_addValue_151 rfl (lv_at hl 5 rfl) ?_
                  refine mm_get C X M 12 f_12_162_13 (.int ((x 12) + 1)) rfl d_MenuScreensModel_addValue_152 ?_
                  refine lv_iload_n hx hb d_MenuScreensModel_addValue_155 rfl (lv_at hl 6 rfl) ?_
                  refine mm_zast C X M 15 41 rfl (A 15) rfl (fun _ => rfl) (by decide) hb1 (nv + 1) e12 (by omega) d_MenuScreensModel_addValue_156 (fun h H locs X M => ?_)
                  refine lv_aload_n hx hb d_MenuScreensModel_addValue_157 rfl (lv_at hl 5 rfl) ?_
                  refine mm_get C X M 16 f_12_26_13 (.ref (ar 16)) rfl d_MenuScreensModel_addValue_158 ?_
                  refine lv_aload_n hx hb d_MenuScreensModel_addValue_161 rfl (lv_at hl 5 rfl) ?_
                  refine mm_get C X M 12 f_12_162_13 (.int ((x 12) + 1)) rfl d_MenuScreensModel_addValue_162 ?_
                  refine lv_lload hx hb d_MenuScreensModel_addValue_165 (lv_at hl 2 rfl) ?_
                  refine mm_last C X M 16 41 rfl (B 16) rfl (fun _ => rfl) (by decide) (nv + 1) e12 (by omega) d_MenuScreensModel_addValue_167 (fun h H locs X M => ?_)
                  refine lv_aload_n hx hb d_MenuScreensModel_addValue_168 rfl (lv_at hl 5 rfl) ?_
                  refine mm_get C X M 17 f_12_30_13 (.ref (ar 17)) rfl d_MenuScreensModel_addValue_169 ?_
                  refine lv_aload_n hx hb d_MenuScreensModel_addValue_172 rfl (lv_at hl 5 rfl) ?_
                  refine mm_get C X M 12 f_12_162_13 (.int ((x 12) + 1)) rfl d_MenuScreensModel_addValue_173 ?_
                  refine lv_lload hx hb d_MenuScreensModel_addValue_176 (lv_at hl 1 rfl) ?_
                  refine mm_last C X M 17 41 rfl (B 17) rfl (fun _ => rfl) (by decide) (nv + 1) e12 (by omega) d_MenuScreensModel_addValue_178 (fun h H locs X M => ?_)
                  refine lv_aload_n hx hb d_MenuScreensModel_addValue_179 rfl (lv_at hl 5 rfl) ?_
                  refine mm_get C X M 18 f_12_33_13 (.ref (ar 18)) rfl d_MenuScreensModel_addValue_180 ?_
                  refine lv_aload_n hx hb d_MenuScreensModel_addValue_183 rfl (lv_at hl 5 rfl) ?_
                  refine mm_get C X M 12 f_12_162_13 (.int ((x 12) + 1)) rfl d_MenuScreensModel_addValue_184 ?_
                  refine lv_lload hx hb d_MenuScreensModel_addValue_187 (lv_at hl 0 rfl) ?_
                  refine mm_last C X M 18 41 rfl (B 18) rfl (fun _ => rfl) (by decide) (nv + 1) e12 (by omega) d_MenuScreensModel_addValue_189 (fun h H locs X M => ?_)
                  refine lv_aload_n hx hb d_MenuScreensModel_addValue_190 rfl (lv_at hl 5 rfl) ?_
                  refine mm_get C X M 19 f_12_36_13 (.ref (ar 19)) rfl d_MenuScreensModel_addValue_191 ?_
                  refine lv_aload_n hx hb d_MenuScreensModel_addValue_194 rfl (lv_at hl 5 rfl) ?_
                  refine mm_get C X M 12 f_12_162_13 (.int ((x 12) + 1)) rfl d_MenuScreensModel_addValue_195 ?_
                  refine lv_iload_n hx hb d_MenuScreensModel_addValue_198 rfl (lv_at hl 6 rfl) ?_
                  refine mm_zast C X M 19 41 rfl (A 19) rfl (fun _ => rfl) (by decide) hb1 (nv + 1) e12 (by omega) d_MenuScreensModel_addValue_199 (fun h H locs X M => ?_)
                  refine lv_iconst (v := 1) hx hb d_MenuScreensModel_addValue_200 (by decide) ?_
                  exact mq_iret hQ C X hr rfl hlk (⟨(upd (upd (upd (upd x 7 (nI (nT (A 6) e0 (nT4 (A 6) e0 i0)))) 9 (nI (nF (A 6) e0 (nT4 (A 6) e0 i0)))) 10 (nI (nT (A 6) e0 (nT4 (A 6) e0 i0)))) 12 ((x 12) + 1)), yn16, (va_up (va_up (va_up (va_up A 13 (upd (A 13) (nv + 1) (nI (nF (A 6) e0 i0)))) 14 (upd (A 14) (nv + 1) (nI (nT (A 6) e0 i0)))) 15 (upd (A 15) (nv + 1) p1)) 19 (upd (A 19) (nv + 1) p1)), (va_up (va_up (va_up B 16 (vp_updL (B 16) (nv + 1) (vNu (A 6) e0 (nT (A 6) e0 i0)))) 17 (vp_updL (B 17) (nv + 1) (vNu (A 6) e0 (nT2 (A 6) e0 i0)))) 18 (vp_updL (B 18) (nv + 1) (vNu (A 6) e0 (nT3 (A 6) e0 i0)))), M, (fun k q7 q9 q10 q12 => by simp [upd, q7, q9, q10, q12]), (fun k q11 => by rw [kyn16 k q11, kyn13 k q11, kyn10 k q11]), Or.inl ⟨by unfold okVa; rw [if_neg c6]; rw [a1, decide_eq_true a2, decide_eq_true a3, a4, b1, b2, b3]; rfl, rfl, e12, rfl, by rw [if_neg c6, if_neg c6, if_neg c6]⟩⟩) (Nat.le_refl _) (Nat.le_refl _) d_MenuScreensModel_addValue_201
                · skip
                  refine lv_iconst (v := 0) hx hb d_MenuScreensModel_addValue_115 (by decide) ?_
                  exact mq_iret hQ C X hr rfl hlk (⟨(upd (upd (upd x 7 (nI (nT (A 6) e0 (nT4 (A 6) e0 i0)))) 9 (nI (nF (A 6) e0 (nT4 (A 6) e0 i0)))) 10 (nI (nT (A 6) e0 (nT4 (A 6) e0 i0)))), yn16, A, B, M, (fun k q7 q9 q10 q12 => by simp [upd, q7, q9, q10, q12]), (fun k q11 => by rw [kyn16 k q11, kyn13 k q11, kyn10 k q11]), Or.inr ⟨by unfold okVa; rw [if_neg c6]; rw [show cEnd (A 6) e0 (nT4 (A 6) e0 i0) = false from bI_0 (er18.symm.trans c19)]; simp, rfl, rfl, rfl, rfl⟩⟩) (Nat.le_refl _) (Nat.le_refl _) d_MenuScreensModel_addValue_116
              · skip
                refine lv_iconst (v := 0) hx hb d_MenuScreensModel_addValue_100 (by decide) ?_
                exact mq_iret hQ C X hr rfl hlk (⟨(upd (upd (upd x 7 (nI (nT4 (A 6) e0 i0))) 9 (nI (nF (A 6) e0 (nT3 (A 6) e0 i0)))) 10 (nI (nT4 (A 6) e0 i0))), yn16, A, B, M, (fun k q7 q9 q10 q12 => by simp [upd, q7, q9, q10, q12]), (fun k q11 => by rw [kyn16 k q11, kyn13 k q11, kyn10 k q11]), Or.inr ⟨by unfold okVa; rw [if_neg c6]; rw [show cNu (A 6) e0 (nT3 (A 6) e0 i0) (vNu (A 6) e0 (nT (A 6) e0 i0)) (vNu (A 6) e0 (nT2 (A 6) e0 i0)) = false from bI_0 (er15.symm.trans c17)]; simp, rfl, rfl, rfl, rfl⟩⟩) (Nat.le_refl _) (Nat.le_refl _) d_MenuScreensModel_addValue_101
            · skip
              refine lv_iconst (v := 0) hx hb d_MenuScreensModel_addValue_81 (by decide) ?_
              exact mq_iret hQ C X hr rfl hlk (⟨(upd (upd (upd x 7 (nI (nT3 (A 6) e0 i0))) 9 (nI (nF (A 6) e0 (nT2 (A 6) e0 i0)))) 10 (nI (nT3 (A 6) e0 i0))), yn13, A, B, M, (fun k q7 q9 q10 q12 => by simp [upd, q7, q9, q10, q12]), (fun k q11 => by rw [kyn13 k q11, kyn10 k q11]), Or.inr ⟨by unfold okVa; rw [if_neg c6]; rw [show cNu (A 6) e0 (nT2 (A 6) e0 i0) (vNu (A 6) e0 (nT (A 6) e0 i0)) 999999 = false from bI_0 (er12.symm.trans c14)]; simp, rfl, rfl, rfl, rfl⟩⟩) (Nat.le_refl _) (Nat.le_refl _) d_MenuScreensModel_addValue_82
          · skip
            refine lv_iconst (v := 0) hx hb d_MenuScreensModel_addValue_61 (by decide) ?_
            exact mq_iret hQ C X hr rfl hlk (⟨(upd (upd (upd x 7 (nI (nT2 (A 6) e0 i0))) 9 (nI (nF (A 6) e0 (nT (A 6) e0 i0)))) 10 (nI (nT2 (A 6) e0 i0))), yn10, A, B, M, (fun k q7 q9 q10 q12 => by simp [upd, q7, q9, q10, q12]), (fun k q11 => by rw [kyn10 k q11]), Or.inr ⟨by unfold okVa; rw [if_neg c6]; rw [show cNu (A 6) e0 (nT (A 6) e0 i0) (-999999) 999999 = false from bI_0 (er9.symm.trans c11)]; simp, rfl, rfl, rfl, rfl⟩⟩) (Nat.le_refl _) (Nat.le_refl _) d_MenuScreensModel_addValue_62
      · skip
        refine lv_iconst (v := 0) hx hb d_MenuScreensModel_addValue_23 (by decide) ?_
        exact mq_iret hQ C X hr rfl hlk (⟨(upd (upd (upd x 7 (nI (nT (A 6) e0 i0))) 9 (nI (nF (A 6) e0 i0))) 10 (nI (nT (A 6) e0 i0))), y, A, B, M, (fun k q7 q9 q10 q12 => by simp [upd, q7, q9, q10, q12]), (fun k q11 => rfl), Or.inr ⟨by unfold okVa; rw [decide_eq_false (p := nv ≠ 40) (fun z => z (nI_eqI (by omega) (by decide) (by rw [← hnv]; exact c5)))]; simp, rfl, rfl, rfl, rfl⟩⟩) (Nat.le_refl _) (Nat.le_refl _) d_MenuScreensModel_addValue_24
end
section
def wB (f : Nat → Int32) (e i : Nat) : Bool := decide (nF f e i < nT f e i)
/-- a put (0), say (1) or show (2) line -/
def okPa (A : Nat → Nat → Int32) (e i nv : Nat) (p1 : Int32) : Bool := cNu (A 6) e i 0 999999 && (cNu (A 6) e (nT (A 6) e i) 0 999999 && (if p1 = 2 then cNu (A 6) e (nT2 (A 6) e i) 1 9 && (cNm (A 6) e (nT3 (A 6) e i) && (decide (fV A nv (nF (A 6) e (nT3 (A 6) e i)) (nT4 (A 6) e i) ≠ 0) && cEnd (A 6) e (nT4 (A 6) e i))) else wB (A 6) e (nT2 (A 6) e i) && (if p1 = 1 then wB (A 6) e (nT3 (A 6) e i) && cEnd (A 6) e (nT4 (A 6) e i) else cEnd (A 6) e (nT3 (A 6) e i))))
/-- the conditions that waited get the part -/
def pq (os f : Nat → Int32) (s v : Int32) : Nat → (Nat → Int32)
  | 0 => f
  | k + 1 => if os k = s ∧ pq os f s v k k < 0 then upd (pq os f s v k) k v else pq os f s v k
/-- what a part's line makes of the arrays -/
def paA (A : Nat → Nat → Int32) (e i nv np nc : Nat) (p1 sc pv : Int32) : Nat → Nat → Int32 :=
  if p1 = 2 then va_up (va_up (va_up (va_up (va_up (va_up (va_up A 31 (upd (A 31) np (vNu (A 6) e i).toInt32)) 32 (upd (A 32) np (vNu (A 6) e (nT (A 6) e i)).toInt32)) 34 (upd (A 34) np (vNu (A 6) e (nT2 (A 6) e i)).toInt32)) 33 (upd (A 33) np (nI (fV A nv (nF (A 6) e (nT3 (A 6) e i)) (nT4 (A 6) e i))))) 30 (upd (A 30) np p1)) 29 (upd (A 29) np sc)) 41 (pq (A 40) (A 41) sc pv nc)
  else va_up (va_up (va_up (va_up (va_up (va_up (va_up (va_up (va_up A 31 (upd (A 31) np (vNu (A 6) e i).toInt32)) 32 (upd (A 32) np (vNu (A 6) e (nT (A 6) e i)).toInt32)) 35 (upd (A 35) np (nI (nF (A 6) e (nT2 (A 6) e i))))) 36 (upd (A 36) np (nI (nT3 (A 6) e i)))) 37 (upd (A 37) np (if p1 = 1 then nI (nF (A 6) e (nT3 (A 6) e i)) else nI (nF (A 6) e (nT2 (A 6) e i))))) 38 (upd (A 38) np (if p1 = 1 then nI (nT4 (A 6) e i) else nI (nT3 (A 6) e i)))) 30 (upd (A 30) np p1)) 29 (upd (A 29) np sc)) 41 (pq (A 40) (A 41) sc pv nc)
end
section
theorem d_MenuScreensModel_addPart_0 : decode prog_13_method_17_code 0 = .ok (.aload_n 0, 1) := by decide +kernel
theorem d_MenuScreensModel_addPart_1 : decode prog_13_method_17_code 1 = .ok (.lconst 0, 1) := by decide +kernel
theorem d_MenuScreensModel_addPart_2 : decode prog_13_method_17_code 2 = .ok (.ldc2_w 214, 3) := by decide +kernel
theorem d_MenuScreensModel_addPart_5 : decode prog_13_method_17_code 5 = .ok (.invokevirtual 199, 3) := by decide +kernel
theorem d_MenuScreensModel_addPart_8 : decode prog_13_method_17_code 8 = .ok (.ifCond .ne 5, 3) := by decide +kernel
theorem d_MenuScreensModel_addPart_11 : decode prog_13_method_17_code 11 = .ok (.iconst 0, 1) := by decide +kernel
theorem d_MenuScreensModel_addPart_12 : decode prog_13_method_17_code 12 = .ok (.ireturn, 1) := by decide +kernel
theorem d_MenuScreensModel_addPart_13 : decode prog_13_method_17_code 13 = .ok (.aload_n 0, 1) := by decide +kernel
theorem d_MenuScreensModel_addPart_14 : decode prog_13_method_17_code 14 = .ok (.getfield 66, 3) := by decide +kernel
theorem d_MenuScreensModel_addPart_17 : decode prog_13_method_17_code 17 = .ok (.aload_n 0, 1) := by decide +kernel
theorem d_MenuScreensModel_addPart_18 : decode prog_13_method_17_code 18 = .ok (.getfield 222, 3) := by decide +kernel
theorem d_MenuScreensModel_addPart_21 : decode prog_13_method_17_code 21 = .ok (.aload_n 0, 1) := by decide +kernel
theorem d_MenuScreensModel_addPart_22 : decode prog_13_method_17_code 22 = .ok (.getfield 152, 3) := by decide +kernel
theorem d_MenuScreensModel_addPart_25 : decode prog_13_method_17_code 25 = .ok (.l2i, 1) := by decide +kernel
theorem d_MenuScreensModel_addPart_26 : decode prog_13_method_17_code 26 = .ok (.iastore, 1) := by decide +kernel
theorem d_MenuScreensModel_addPart_27 : decode prog_13_method_17_code 27 = .ok (.aload_n 0, 1) := by decide +kernel
theorem d_MenuScreensModel_addPart_28 : decode prog_13_method_17_code 28 = .ok (.lconst 0, 1) := by decide +kernel
theorem d_MenuScreensModel_addPart_29 : decode prog_13_method_17_code 29 = .ok (.ldc2_w 214, 3) := by decide +kernel
theorem d_MenuScreensModel_addPart_32 : decode prog_13_method_17_code 32 = .ok (.invokevirtual 199, 3) := by decide +kernel
theorem d_MenuScreensModel_addPart_35 : decode prog_13_method_17_code 35 = .ok (.ifCond .ne 5, 3) := by decide +kernel
theorem d_MenuScreensModel_addPart_38 : decode prog_13_method_17_code 38 = .ok (.iconst 0, 1) := by decide +kernel
theorem d_MenuScreensModel_addPart_39 : decode prog_13_method_17_code 39 = .ok (.ireturn, 1) := by decide +kernel
theorem d_MenuScreensModel_addPart_40 : decode prog_13_method_17_code 40 = .ok (.aload_n 0, 1) := by decide +kernel
theorem d_MenuScreensModel_addPart_41 : decode prog_13_method_17_code 41 = .ok (.getfield 69, 3) := by decide +kernel
theorem d_MenuScreensModel_addPart_44 : decode prog_13_method_17_code 44 = .ok (.aload_n 0, 1) := by decide +kernel
theorem d_MenuScreensModel_addPart_45 : decode prog_13_method_17_code 45 = .ok (.getfield 222, 3) := by decide +kernel
theorem d_MenuScreensModel_addPart_48 : decode prog_13_method_17_code 48 = .ok (.aload_n 0, 1) := by decide +kernel
theorem d_MenuScreensModel_addPart_49 : decode prog_13_method_17_code 49 = .ok (.getfield 152, 3) := by decide +kernel
theorem d_MenuScreensModel_addPart_52 : decode prog_13_method_17_code 52 = .ok (.l2i, 1) := by decide +kernel
theorem d_MenuScreensModel_addPart_53 : decode prog_13_method_17_code 53 = .ok (.iastore, 1) := by decide +kernel
theorem d_MenuScreensModel_addPart_54 : decode prog_13_method_17_code 54 = .ok (.iload_n 1, 1) := by decide +kernel
theorem d_MenuScreensModel_addPart_55 : decode prog_13_method_17_code 55 = .ok (.iconst 2, 1) := by decide +kernel
theorem d_MenuScreensModel_addPart_56 : decode prog_13_method_17_code 56 = .ok (.if_icmp .ne 66, 3) := by decide +kernel
theorem d_MenuScreensModel_addPart_59 : decode prog_13_method_17_code 59 = .ok (.aload_n 0, 1) := by decide +kernel
theorem d_MenuScreensModel_addPart_60 : decode prog_13_method_17_code 60 = .ok (.lconst 1, 1) := by decide +kernel
theorem d_MenuScreensModel_addPart_61 : decode prog_13_method_17_code 61 = .ok (.ldc2_w 225, 3) := by decide +kernel
theorem d_MenuScreensModel_addPart_64 : decode prog_13_method_17_code 64 = .ok (.invokevirtual 199, 3) := by decide +kernel
theorem d_MenuScreensModel_addPart_67 : decode prog_13_method_17_code 67 = .ok (.ifCond .ne 5, 3) := by decide +kernel
theorem d_MenuScreensModel_addPart_70 : decode prog_13_method_17_code 70 = .ok (.iconst 0, 1) := by decide +kernel
theorem d_MenuScreensModel_addPart_71 : decode prog_13_method_17_code 71 = .ok (.ireturn, 1) := by decide +kernel
theorem d_MenuScreensModel_addPart_72 : decode prog_13_method_17_code 72 = .ok (.aload_n 0, 1) := by decide +kernel
theorem d_MenuScreensModel_addPart_73 : decode prog_13_method_17_code 73 = .ok (.getfield 75, 3) := by decide +kernel
theorem d_MenuScreensModel_addPart_76 : decode prog_13_method_17_code 76 = .ok (.aload_n 0, 1) := by decide +kernel
theorem d_MenuScreensModel_addPart_77 : decode prog_13_method_17_code 77 = .ok (.getfield 222, 3) := by decide +kernel
theorem d_MenuScreensModel_addPart_80 : decode prog_13_method_17_code 80 = .ok (.aload_n 0, 1) := by decide +kernel
theorem d_MenuScreensModel_addPart_81 : decode prog_13_method_17_code 81 = .ok (.getfield 152, 3) := by decide +kernel
theorem d_MenuScreensModel_addPart_84 : decode prog_13_method_17_code 84 = .ok (.l2i, 1) := by decide +kernel
theorem d_MenuScreensModel_addPart_85 : decode prog_13_method_17_code 85 = .ok (.iastore, 1) := by decide +kernel
theorem d_MenuScreensModel_addPart_86 : decode prog_13_method_17_code 86 = .ok (.aload_n 0, 1) := by decide +kernel
theorem d_MenuScreensModel_addPart_87 : decode prog_13_method_17_code 87 = .ok (.invokevirtual 205, 3) := by decide +kernel
theorem d_MenuScreensModel_addPart_90 : decode prog_13_method_17_code 90 = .ok (.ifCond .ne 5, 3) := by decide +kernel
theorem d_MenuScreensModel_addPart_93 : decode prog_13_method_17_code 93 = .ok (.iconst 0, 1) := by decide +kernel
theorem d_MenuScreensModel_addPart_94 : decode prog_13_method_17_code 94 = .ok (.ireturn, 1) := by decide +kernel
theorem d_MenuScreensModel_addPart_95 : decode prog_13_method_17_code 95 = .ok (.aload_n 0, 1) := by decide +kernel
theorem d_MenuScreensModel_addPart_96 : decode prog_13_method_17_code 96 = .ok (.getfield 72, 3) := by decide +kernel
theorem d_MenuScreensModel_addPart_99 : decode prog_13_method_17_code 99 = .ok (.aload_n 0, 1) := by decide +kernel
theorem d_MenuScreensModel_addPart_100 : decode prog_13_method_17_code 100 = .ok (.getfield 222, 3) := by decide +kernel
theorem d_MenuScreensModel_addPart_103 : decode prog_13_method_17_code 103 = .ok (.aload_n 0, 1) := by decide +kernel
theorem d_MenuScreensModel_addPart_104 : decode prog_13_method_17_code 104 = .ok (.invokevirtual 208, 3) := by decide +kernel
theorem d_MenuScreensModel_addPart_107 : decode prog_13_method_17_code 107 = .ok (.iastore, 1) := by decide +kernel
theorem d_MenuScreensModel_addPart_108 : decode prog_13_method_17_code 108 = .ok (.aload_n 0, 1) := by decide +kernel
theorem d_MenuScreensModel_addPart_109 : decode prog_13_method_17_code 109 = .ok (.getfield 72, 3) := by decide +kernel
theorem d_MenuScreensModel_addPart_112 : decode prog_13_method_17_code 112 = .ok (.aload_n 0, 1) := by decide +kernel
theorem d_MenuScreensModel_addPart_113 : decode prog_13_method_17_code 113 = .ok (.getfield 222, 3) := by decide +kernel
theorem d_MenuScreensModel_addPart_116 : decode prog_13_method_17_code 116 = .ok (.iaload, 1) := by decide +kernel
theorem d_MenuScreensModel_addPart_117 : decode prog_13_method_17_code 117 = .ok (.ifCond .ne 80, 3) := by decide +kernel
theorem d_MenuScreensModel_addPart_120 : decode prog_13_method_17_code 120 = .ok (.iconst 0, 1) := by decide +kernel
theorem d_MenuScreensModel_addPart_121 : decode prog_13_method_17_code 121 = .ok (.ireturn, 1) := by decide +kernel
theorem d_MenuScreensModel_addPart_122 : decode prog_13_method_17_code 122 = .ok (.aload_n 0, 1) := by decide +kernel
theorem d_MenuScreensModel_addPart_123 : decode prog_13_method_17_code 123 = .ok (.invokevirtual 145, 3) := by decide +kernel
theorem d_MenuScreensModel_addPart_126 : decode prog_13_method_17_code 126 = .ok (.ifCond .ne 5, 3) := by decide +kernel
theorem d_MenuScreensModel_addPart_129 : decode prog_13_method_17_code 129 = .ok (.iconst 0, 1) := by decide +kernel
theorem d_MenuScreensModel_addPart_130 : decode prog_13_method_17_code 130 = .ok (.ireturn, 1) := by decide +kernel
theorem d_MenuScreensModel_addPart_131 : decode prog_13_method_17_code 131 = .ok (.aload_n 0, 1) := by decide +kernel
theorem d_MenuScreensModel_addPart_132 : decode prog_13_method_17_code 132 = .ok (.getfield 78, 3) := by decide +kernel
theorem d_MenuScreensModel_addPart_135 : decode prog_13_method_17_code 135 = .ok (.aload_n 0, 1) := by decide +kernel
theorem d_MenuScreensModel_addPart_136 : decode prog_13_method_17_code 136 = .ok (.getfield 222, 3) := by decide +kernel
theorem d_MenuScreensModel_addPart_139 : decode prog_13_method_17_code 139 = .ok (.aload_n 0, 1) := by decide +kernel
theorem d_MenuScreensModel_addPart_140 : decode prog_13_method_17_code 140 = .ok (.getfield 139, 3) := by decide +kernel
theorem d_MenuScreensModel_addPart_143 : decode prog_13_method_17_code 143 = .ok (.iastore, 1) := by decide +kernel
theorem d_MenuScreensModel_addPart_144 : decode prog_13_method_17_code 144 = .ok (.aload_n 0, 1) := by decide +kernel
theorem d_MenuScreensModel_addPart_145 : decode prog_13_method_17_code 145 = .ok (.getfield 81, 3) := by decide +kernel
theorem d_MenuScreensModel_addPart_148 : decode prog_13_method_17_code 148 = .ok (.aload_n 0, 1) := by decide +kernel
theorem d_MenuScreensModel_addPart_149 : decode prog_13_method_17_code 149 = .ok (.getfield 222, 3) := by decide +kernel
theorem d_MenuScreensModel_addPart_152 : decode prog_13_method_17_code 152 = .ok (.aload_n 0, 1) := by decide +kernel
theorem d_MenuScreensModel_addPart_153 : decode prog_13_method_17_code 153 = .ok (.getfield 142, 3) := by decide +kernel
theorem d_MenuScreensModel_addPart_156 : decode prog_13_method_17_code 156 = .ok (.iastore, 1) := by decide +kernel
theorem d_MenuScreensModel_addPart_157 : decode prog_13_method_17_code 157 = .ok (.iload_n 1, 1) := by decide +kernel
theorem d_MenuScreensModel_addPart_158 : decode prog_13_method_17_code 158 = .ok (.iconst 1, 1) := by decide +kernel
theorem d_MenuScreensModel_addPart_159 : decode prog_13_method_17_code 159 = .ok (.if_icmp .ne 12, 3) := by decide +kernel
theorem d_MenuScreensModel_addPart_162 : decode prog_13_method_17_code 162 = .ok (.aload_n 0, 1) := by decide +kernel
theorem d_MenuScreensModel_addPart_163 : decode prog_13_method_17_code 163 = .ok (.invokevirtual 145, 3) := by decide +kernel
theorem d_MenuScreensModel_addPart_166 : decode prog_13_method_17_code 166 = .ok (.ifCond .ne 5, 3) := by decide +kernel
theorem d_MenuScreensModel_addPart_169 : decode prog_13_method_17_code 169 = .ok (.iconst 0, 1) := by decide +kernel
theorem d_MenuScreensModel_addPart_170 : decode prog_13_method_17_code 170 = .ok (.ireturn, 1) := by decide +kernel
theorem d_MenuScreensModel_addPart_171 : decode prog_13_method_17_code 171 = .ok (.aload_n 0, 1) := by decide +kernel
theorem d_MenuScreensModel_addPart_172 : decode prog_13_method_17_code 172 = .ok (.getfield 84, 3) := by decide +kernel
theorem d_MenuScreensModel_addPart_175 : decode prog_13_method_17_code 175 = .ok (.aload_n 0, 1) := by decide +kernel
theorem d_MenuScreensModel_addPart_176 : decode prog_13_method_17_code 176 = .ok (.getfield 222, 3) := by decide +kernel
theorem d_MenuScreensModel_addPart_179 : decode prog_13_method_17_code 179 = .ok (.aload_n 0, 1) := by decide +kernel
theorem d_MenuScreensModel_addPart_180 : decode prog_13_method_17_code 180 = .ok (.getfield 139, 3) := by decide +kernel
theorem d_MenuScreensModel_addPart_183 : decode prog_13_method_17_code 183 = .ok (.iastore, 1) := by decide +kernel
theorem d_MenuScreensModel_addPart_184 : decode prog_13_method_17_code 184 = .ok (.aload_n 0, 1) := by decide +kernel
theorem d_MenuScreensModel_addPart_185 : decode prog_13_method_17_code 185 = .ok (.getfield 87, 3) := by decide +kernel
theorem d_MenuScreensModel_addPart_188 : decode prog_13_method_17_code 188 = .ok (.aload_n 0, 1) := by decide +kernel
theorem d_MenuScreensModel_addPart_189 : decode prog_13_method_17_code 189 = .ok (.getfield 222, 3) := by decide +kernel
theorem d_MenuScreensModel_addPart_192 : decode prog_13_method_17_code 192 = .ok (.aload_n 0, 1) := by decide +kernel
theorem d_MenuScreensModel_addPart_193 : decode prog_13_method_17_code 193 = .ok (.getfield 142, 3) := by decide +kernel
theorem d_MenuScreensModel_addPart_196 : decode prog_13_method_17_code 196 = .ok (.iastore, 1) := by decide +kernel
theorem d_MenuScreensModel_addPart_197 : decode prog_13_method_17_code 197 = .ok (.aload_n 0, 1) := by decide +kernel
theorem d_MenuScreensModel_addPart_198 : decode prog_13_method_17_code 198 = .ok (.invokevirtual 202, 3) := by decide +kernel
theorem d_MenuScreensModel_addPart_201 : decode prog_13_method_17_code 201 = .ok (.ifCond .ne 5, 3) := by decide +kernel
theorem d_MenuScreensModel_addPart_204 : decode prog_13_method_17_code 204 = .ok (.iconst 0, 1) := by decide +kernel
theorem d_MenuScreensModel_addPart_205 : decode prog_13_method_17_code 205 = .ok (.ireturn, 1) := by decide +kernel
theorem d_MenuScreensModel_addPart_206 : decode prog_13_method_17_code 206 = .ok (.aload_n 0, 1) := by decide +kernel
theorem d_MenuScreensModel_addPart_207 : decode prog_13_method_17_code 207 = .ok (.getfield 63, 3) := by decide +kernel
theorem d_MenuScreensModel_addPart_210 : decode prog_13_method_17_code 210 = .ok (.aload_n 0, 1) := by decide +kernel
theorem d_MenuScreensModel_addPart_211 : decode prog_13_method_17_code 211 = .ok (.getfield 222, 3) := by decide +kernel
theorem d_MenuScreensModel_addPart_214 : decode prog_13_method_17_code 214 = .ok (.iload_n 1, 1) := by decide +kernel
theorem d_MenuScreensModel_addPart_215 : decode prog_13_method_17_code 215 = .ok (.iastore, 1) := by decide +kernel
theorem d_MenuScreensModel_addPart_216 : decode prog_13_method_17_code 216 = .ok (.aload_n 0, 1) := by decide +kernel
theorem d_MenuScreensModel_addPart_217 : decode prog_13_method_17_code 217 = .ok (.getfield 60, 3) := by decide +kernel
theorem d_MenuScreensModel_addPart_220 : decode prog_13_method_17_code 220 = .ok (.aload_n 0, 1) := by decide +kernel
theorem d_MenuScreensModel_addPart_221 : decode prog_13_method_17_code 221 = .ok (.getfield 222, 3) := by decide +kernel
theorem d_MenuScreensModel_addPart_224 : decode prog_13_method_17_code 224 = .ok (.aload_n 0, 1) := by decide +kernel
theorem d_MenuScreensModel_addPart_225 : decode prog_13_method_17_code 225 = .ok (.getfield 169, 3) := by decide +kernel
theorem d_MenuScreensModel_addPart_228 : decode prog_13_method_17_code 228 = .ok (.iastore, 1) := by decide +kernel
theorem d_MenuScreensModel_addPart_229 : decode prog_13_method_17_code 229 = .ok (.iconst 0, 1) := by decide +kernel
theorem d_MenuScreensModel_addPart_230 : decode prog_13_method_17_code 230 = .ok (.istore_n 2, 1) := by decide +kernel
theorem d_MenuScreensModel_addPart_231 : decode prog_13_method_17_code 231 = .ok (.iload_n 2, 1) := by decide +kernel
theorem d_MenuScreensModel_addPart_232 : decode prog_13_method_17_code 232 = .ok (.aload_n 0, 1) := by decide +kernel
theorem d_MenuScreensModel_addPart_233 : decode prog_13_method_17_code 233 = .ok (.getfield 227, 3) := by decide +kernel
theorem d_MenuScreensModel_addPart_236 : decode prog_13_method_17_code 236 = .ok (.if_icmp .ge 41, 3) := by decide +kernel
theorem d_MenuScreensModel_addPart_239 : decode prog_13_method_17_code 239 = .ok (.aload_n 0, 1) := by decide +kernel
theorem d_MenuScreensModel_addPart_240 : decode prog_13_method_17_code 240 = .ok (.getfield 90, 3) := by decide +kernel
theorem d_MenuScreensModel_addPart_243 : decode prog_13_method_17_code 243 = .ok (.iload_n 2, 1) := by decide +kernel
theorem d_MenuScreensModel_addPart_244 : decode prog_13_method_17_code 244 = .ok (.iaload, 1) := by decide +kernel
theorem d_MenuScreensModel_addPart_245 : decode prog_13_method_17_code 245 = .ok (.aload_n 0, 1) := by decide +kernel
theorem d_MenuScreensModel_addPart_246 : decode prog_13_method_17_code 246 = .ok (.getfield 169, 3) := by decide +kernel
theorem d_MenuScreensModel_addPart_249 : decode prog_13_method_17_code 249 = .ok (.if_icmp .ne 22, 3) := by decide +kernel
theorem d_MenuScreensModel_addPart_252 : decode prog_13_method_17_code 252 = .ok (.aload_n 0, 1) := by decide +kernel
theorem d_MenuScreensModel_addPart_253 : decode prog_13_method_17_code 253 = .ok (.getfield 93, 3) := by decide +kernel
theorem d_MenuScreensModel_addPart_256 : decode prog_13_method_17_code 256 = .ok (.iload_n 2, 1) := by decide +kernel
theorem d_MenuScreensModel_addPart_257 : decode prog_13_method_17_code 257 = .ok (.iaload, 1) := by decide +kernel
theorem d_MenuScreensModel_addPart_258 : decode prog_13_method_17_code 258 = .ok (.ifCond .ge 13, 3) := by decide +kernel
theorem d_MenuScreensModel_addPart_261 : decode prog_13_method_17_code 261 = .ok (.aload_n 0, 1) := by decide +kernel
theorem d_MenuScreensModel_addPart_262 : decode prog_13_method_17_code 262 = .ok (.getfield 93, 3) := by decide +kernel
theorem d_MenuScreensModel_addPart_265 : decode prog_13_method_17_code 265 = .ok (.iload_n 2, 1) := by decide +kernel
theorem d_MenuScreensModel_addPart_266 : decode prog_13_method_17_code 266 = .ok (.aload_n 0, 1) := by decide +kernel
theorem d_MenuScreensModel_addPart_267 : decode prog_13_method_17_code 267 = .ok (.getfield 222, 3) := by decide +kernel
theorem d_MenuScreensModel_addPart_270 : decode prog_13_method_17_code 270 = .ok (.iastore, 1) := by decide +kernel
theorem d_MenuScreensModel_addPart_271 : decode prog_13_method_17_code 271 = .ok (.iinc 2 1, 3) := by decide +kernel
theorem d_MenuScreensModel_addPart_274 : decode prog_13_method_17_code 274 = .ok (.goto (-43), 3) := by decide +kernel
theorem d_MenuScreensModel_addPart_277 : decode prog_13_method_17_code 277 = .ok (.aload_n 0, 1) := by decide +kernel
theorem d_MenuScreensModel_addPart_278 : decode prog_13_method_17_code 278 = .ok (.dup, 1) := by decide +kernel
theorem d_MenuScreensModel_addPart_279 : decode prog_13_method_17_code 279 = .ok (.getfield 222, 3) := by decide +kernel
theorem d_MenuScreensModel_addPart_282 : decode prog_13_method_17_code 282 = .ok (.iconst 1, 1) := by decide +kernel
theorem d_MenuScreensModel_addPart_283 : decode prog_13_method_17_code 283 = .ok (.iadd, 1) := by decide +kernel
theorem d_MenuScreensModel_addPart_284 : decode prog_13_method_17_code 284 = .ok (.putfield 222, 3) := by decide +kernel
theorem d_MenuScreensModel_addPart_287 : decode prog_13_method_17_code 287 = .ok (.iconst 1, 1) := by decide +kernel
theorem d_MenuScreensModel_addPart_288 : decode prog_13_method_17_code 288 = .ok (.ireturn, 1) := by decide +kernel
set_option maxRecDepth 100000 in
set_option maxHeartbeats 4000000 in
theorem cm_MenuScreensModel_addPart {l : Launch} {S0 : State} {b : Nat} {D : va_G} {dT : Nat → ClassId} (hE : vEnv S0 b D dT) {h0 : vH} {a : Nat} {ar : Nat → Nat} {x : Nat → Int32} {y : Nat → Int64} {A : Nat → Nat → Int32} {B : Nat → Nat → Int64} (M : MV S0 dT h0 a ar x y A B) (p1 : Int32) {i0 e0 : Nat} (hat : x 7 = nI i0) (hend : x 8 = nI e0) (hle : i0 ≤ e0) (he : e0 ≤ 4000) {nv : Nat} (hnv : x 12 = nI nv) (hnv2 : nv ≤ 40) (hRV : ∀ v, 1 ≤ v → v ≤ nv → ∃ p q, A 13 v = nI p ∧ A 14 v = nI q ∧ p ≤ q ∧ q ≤ 4000) {np nc : Nat} (hnp : x 28 = nI np) (hnp2 : np < 512) (hnc : x 39 = nI nc) (hnc2 : nc ≤ 512) : vMi l S0 D vcl GT y_MenuScreensModel_addPart prog_13_method_17_code 3 (some .boolean) 3 100 0 0 [.ref a, .int p1] h0 (fun r h' => ∃ x' y' A' B', MR S0 dT h0 h' a ar x' y' A' B' ∧ (∀ k, k ≠ 7 → k ≠ 9 → k ≠ 10 → k ≠ 28 → x' k = x k) ∧ (∀ k, k ≠ 11 → y' k = y k) ∧ (okPa A e0 i0 nv p1 = true ∧ r = 1 ∧ x' 28 = nI (np + 1) ∧ A' = paA A e0 i0 nv np nc p1 (x 20) (x 28) ∧ B' = B ∨ okPa A e0 i0 nv p1 = false ∧ r = 0 ∧ lKeep A A' B B')) := by
  unfold vMi
  refine vM_ofQ hE.1 (by decide) (Nat.le_of_ble_eq_true rfl) (fun p e s m args below meth c ls Q hQ C hr hlk hnm X hl => ?_)
  have C : vC p s m _ c _ _ "MenuScreensModel" GT D vcl (vty dT) := C
  have hx := C.1.1
  have hb := C.1.2.1
  replace M := MR.of M
  obtain ⟨H, eH⟩ : ∃ z, z = s.heap := ⟨_, rfl⟩
  obtain ⟨locs, elocs⟩ : ∃ z : List Loc, z = [] := ⟨_, rfl⟩
  rw [← eH, ← elocs] at X
  rw [← eH, ← elocs]
  clear eH elocs
  have hl : lv_has ls 3 [(0, .ref a), (1, .int p1)] := hl
  refine lv_aload_n hx hb d_MenuScreensModel_addPart_0 rfl (lv_at hl 0 rfl) ?_
  refine lv_lconst (v := 0) hx hb d_MenuScreensModel_addPart_1 (by decide) ?_
  refine lv_ldc2 (v := 999999) hx hb C.1.2.2.2.1 (C.1.2.2.2.2 _ (gt_6 16 (by decide +kernel) rfl)) d_MenuScreensModel_addPart_2 ?_
  refine mv_bi X (mv_rV (rest := []) (As := [.long 0, .long 999999]) gt_good C X k_12_199 (cm_MenuScreensModel_number hE M.1 _ _ (i0 := i0) (e0 := e0) hat hend hle he) M.1.1 rfl rfl ⟨by decide, by decide⟩ rfl hl.1 rfl (Nat.le_of_ble_eq_true rfl) d_MenuScreensModel_addPart_5 ⟨Nat.le_refl _, Nat.le_refl _⟩) (fun r1 hN H locs hp X => ?_)
  obtain ⟨x1, yn2, M1, rfl, kyn2, vyn2, er1⟩ := hp
  replace M := M.trans M1
  replace er1 : r1 = bI (cNu (A 6) e0 i0 0 999999) := er1
  replace vyn2 : r1 = 1 → yn2 11 = vNu (A 6) e0 i0 := vyn2
  have hT1 := (nT_in (A 6) hle)
  have hT2 : (nT2 (A 6) e0 i0) ≤ e0 := (nT_in (A 6) hT1.2).2
  have hT3 : (nT3 (A 6) e0 i0) ≤ e0 := (nT_in (A 6) hT2).2
  have hT4 : (nT4 (A 6) e0 i0) ≤ e0 := (nT_in (A 6) hT3).2
  refine lv_if_ne (tgt := 13) hx hb d_MenuScreensModel_addPart_8 (by decide) (fun c3 => ?_) (fun c3 => ?_)
  · skip
    have a1 : cNu (A 6) e0 i0 0 999999 = true := bI_n (fun z => c3 (er1.trans z))
    have v0 := vyn2 (by rw [er1, a1]; rfl)
    refine lv_aload_n hx hb d_MenuScreensModel_addPart_13 rfl (lv_at hl 0 rfl) ?_
    refine mm_get C X M 31 f_12_66_13 (.ref (ar 31)) rfl d_MenuScreensModel_addPart_14 ?_
    refine lv_aload_n hx hb d_MenuScreensModel_addPart_17 rfl (lv_at hl 0 rfl) ?_
    refine mm_get C X M 28 f_12_222_13 (.int (x 28)) rfl d_MenuScreensModel_addPart_18 ?_
    refine lv_aload_n hx hb d_MenuScreensModel_addPart_21 rfl (lv_at hl 0 rfl) ?_
    refine mm_get C X M 11 f_12_152_13 (.long (yn2 11)) rfl d_MenuScreensModel_addPart_22 ?_
    refine lv_l2i (v := ((yn2 11) : Int64).toInt32) hx hb d_MenuScreensModel_addPart_25 rfl ?_
    rw [v0]
    refine mm_iast C X M 31 512 rfl (A 31) rfl (fun _ => rfl) (by decide) np hnp (by omega) d_MenuScreensModel_addPart_26 (fun h H locs X M => ?_)
    refine lv_aload_n hx hb d_MenuScreensModel_addPart_27 rfl (lv_at hl 0 rfl) ?_
    refine lv_lconst (v := 0) hx hb d_MenuScreensModel_addPart_28 (by decide) ?_
    refine lv_ldc2 (v := 999999) hx hb C.1.2.2.2.1 (C.1.2.2.2.2 _ (gt_6 16 (by decide +kernel) rfl)) d_MenuScreensModel_addPart_29 ?_
    refine mv_bi X (mv_rV (rest := []) (As := [.long 0, .long 999999]) gt_good C X k_12_199 (cm_MenuScreensModel_number hE M.1 _ _ (i0 := (nT (A 6) e0 i0)) (e0 := e0) rfl hend hT1.2 he) M.1.1 rfl rfl ⟨by decide, by decide⟩ rfl hl.1 rfl (Nat.le_of_ble_eq_true rfl) d_MenuScreensModel_addPart_32 ⟨Nat.le_refl _, Nat.le_refl _⟩) (fun r4 hN H locs hp X => ?_)
    obtain ⟨x1, yn5, M1, rfl, kyn5, vyn5, er4⟩ := hp
    replace M := M.trans M1
    replace er4 : r4 = bI (cNu (A 6) e0 (nT (A 6) e0 i0) 0 999999) := er4
    replace vyn5 : r4 = 1 → yn5 11 = vNu (A 6) e0 (nT (A 6) e0 i0) := vyn5
    refine lv_if_ne (tgt := 40) hx hb d_MenuScreensModel_addPart_35 (by decide) (fun c6 => ?_) (fun c6 => ?_)
    · skip
      have a2 : cNu (A 6) e0 (nT (A 6) e0 i0) 0 999999 = true := bI_n (fun z => c6 (er4.trans z))
      have v1 := vyn5 (by rw [er4, a2]; rfl)
      refine lv_aload_n hx hb d_MenuScreensModel_addPart_40 rfl (lv_at hl 0 rfl) ?_
      refine mm_get C X M 32 f_12_69_13 (.ref (ar 32)) rfl d_MenuScreensModel_addPart_41 ?_
      refine lv_aload_n hx hb d_MenuScreensModel_addPart_44 rfl (lv_at hl 0 rfl) ?_
      refine mm_get C X M 28 f_12_222_13 (.int (x 28)) rfl d_MenuScreensModel_addPart_45 ?_
      refine lv_aload_n hx hb d_MenuScreensModel_addPart_48 rfl (lv_at hl 0 rfl) ?_
      refine mm_get C X M 11 f_12_152_13 (.long (yn5 11)) rfl d_MenuScreensModel_addPart_49 ?_
      refine lv_l2i (v := ((yn5 11) : Int64).toInt32) hx hb d_MenuScreensModel_addPart_52 rfl ?_
      rw [v1]
      refine mm_iast C X M 32 512 rfl (A 32) rfl (fun _ => rfl) (by decide) np hnp (by omega) d_MenuScreensModel_addPart_53 (fun h H locs X M => ?_)
      refine lv_iload_n hx hb d_MenuScreensModel_addPart_54 rfl (lv_at hl 1 rfl) ?_
      refine lv_iconst (v := 2) hx hb d_MenuScreensModel_addPart_55 (by decide) ?_
      refine lv_icmp_ne (tgt := 122) hx hb d_MenuScreensModel_addPart_56 (by decide) (fun c7 => ?_) (fun c7 => ?_)
      · skip
        refine lv_aload_n hx hb d_MenuScreensModel_addPart_122 rfl (lv_at hl 0 rfl) ?_
        refine mv_bi X (mv_rV (rest := []) (As := []) gt_good C X k_12_145 (cm_MenuScreensModel_next hE M.1 (i0 := (nT2 (A 6) e0 i0)) (e0 := e0) (F := (nF (A 6) e0 (nT2 (A 6) e0 i0))) (T := (nT (A 6) e0 (nT2 (A 6) e0 i0))) rfl hend hT2 he rfl rfl) M.1.1 rfl rfl ⟨by decide, by decide⟩ rfl hl.1 rfl (Nat.le_of_ble_eq_true rfl) d_MenuScreensModel_addPart_123 ⟨Nat.le_refl _, Nat.le_refl _⟩) (fun r8 hN H locs hp X => ?_)
        obtain ⟨x1, M1, rfl, er8⟩ := hp
        replace M := M.trans M1
        replace er8 : r8 = if (nF (A 6) e0 (nT2 (A 6) e0 i0)) < (nT (A 6) e0 (nT2 (A 6) e0 i0)) then 1 else 0 := er8
        replace er8 : r8 = bI (wB (A 6) e0 (nT2 (A 6) e0 i0)) := by
          rw [er8]; unfold wB bI; by_cases q : nF (A 6) e0 (nT2 (A 6) e0 i0) < nT (A 6) e0 (nT2 (A 6) e0 i0)
          · rw [if_pos q, decide_eq_true q]; rfl
          · rw [if_neg q, decide_eq_false q]; rfl
        refine lv_if_ne (tgt := 131) hx hb d_MenuScreensModel_addPart_126 (by decide) (fun c9 => ?_) (fun c9 => ?_)
        · skip
          have b3 : wB (A 6) e0 (nT2 (A 6) e0 i0) = true := bI_n (fun z => c9 (er8.trans z))
          refine lv_aload_n hx hb d_MenuScreensModel_addPart_131 rfl (lv_at hl 0 rfl) ?_
          refine mm_get C X M 35 f_12_78_13 (.ref (ar 35)) rfl d_MenuScreensModel_addPart_132 ?_
          refine lv_aload_n hx hb d_MenuScreensModel_addPart_135 rfl (lv_at hl 0 rfl) ?_
          refine mm_get C X M 28 f_12_222_13 (.int (x 28)) rfl d_MenuScreensModel_addPart_136 ?_
          refine lv_aload_n hx hb d_MenuScreensModel_addPart_139 rfl (lv_at hl 0 rfl) ?_
          refine mm_get C X M 9 f_12_139_13 (.int (nI (nF (A 6) e0 (nT2 (A 6) e0 i0)))) rfl d_MenuScreensModel_addPart_140 ?_
          refine mm_iast C X M 35 512 rfl (A 35) rfl (fun _ => rfl) (by decide) np hnp (by omega) d_MenuScreensModel_addPart_143 (fun h H locs X M => ?_)
          refine lv_aload_n hx hb d_MenuScreensModel_addPart_144 rfl (lv_at hl 0 rfl) ?_
          refine mm_get C X M 36 f_12_81_13 (.ref (ar 36)) rfl d_MenuScreensModel_addPart_145 ?_
          refine lv_aload_n hx hb d_MenuScreensModel_addPart_148 rfl (lv_at hl 0 rfl) ?_
          refine mm_get C X M 28 f_12_222_13 (.int (x 28)) rfl d_MenuScreensModel_addPart_149 ?_
          refine lv_aload_n hx hb d_MenuScreensModel_addPart_152 rfl (lv_at hl 0 rfl) ?_
          refine mm_get C X M 10 f_12_142_13 (.int (nI (nT3 (A 6) e0 i0))) rfl d_MenuScreensModel_addPart_153 ?_
          refine mm_iast C X M 36 512 rfl (A 36) rfl (fun _ => rfl) (by decide) np hnp (by omega) d_MenuScreensModel_addPart_156 (fun h H locs X M => ?_)
          refine lv_iload_n hx hb d_MenuScreensModel_addPart_157 rfl (lv_at hl 1 rfl) ?_
          refine lv_iconst (v := 1) hx hb d_MenuScreensModel_addPart_158 (by decide) ?_
          refine lv_icmp_ne (tgt := 171) hx hb d_MenuScreensModel_addPart_159 (by decide) (fun c10 => ?_) (fun c10 => ?_)
          · skip
            refine lv_aload_n hx hb d_MenuScreensModel_addPart_171 rfl (lv_at hl 0 rfl) ?_
            refine mm_get C X M 37 f_12_84_13 (.ref (ar 37)) rfl d_MenuScreensModel_addPart_172 ?_
            refine lv_aload_n hx hb d_MenuScreensModel_addPart_175 rfl (lv_at hl 0 rfl) ?_
            refine mm_get C X M 28 f_12_222_13 (.int (x 28)) rfl d_MenuScreensModel_addPart_176 ?_
            refine lv_aload_n hx hb d_MenuScreensModel_addPart_179 rfl (lv_at hl 0 rfl) ?_
            refine mm_get C X M 9 f_12_139_13 (.int (nI (nF (A 6) e0 (nT2 (A 6) e0 i0)))) rfl d_MenuScreensModel_addPart_180 ?_
            refine mm_iast C X M 37 512 rfl (A 37) rfl (fun _ => rfl) (by decide) np hnp (by omega) d_MenuScreensModel_addPart_183 (fun h H locs X M => ?_)
            refine lv_aload_n hx hb d_MenuScreensModel_addPart_184 rfl (lv_at hl 0 rfl) ?_
            refine mm_get C X M 38 f_12_87_13 (.ref (ar 38)) rfl d_MenuScreensModel_addPart_185 ?_
            refine lv_aload_n hx hb d_MenuScreensModel_addPart_188 rfl (lv_at hl 0 rfl) ?_
            refine mm_get C X M 28 f_12_222_13 (.int (x 28)) rfl d_MenuScreensModel_addPart_189 ?_
            refine lv_aload_n hx hb d_MenuScreensModel_addPart_192 rfl (lv_at hl 0 rfl) ?_
            refine mm_get C X M 10 f_12_142_13 (.int (nI (nT3 (A 6) e0 i0))) rfl d_MenuScreensModel_addPart_193 ?_
            refine mm_iast C X M 38 512 rfl (A 38) rfl (fun _ => rfl) (by decide) np hnp (by omega) d_MenuScreensModel_addPart_196 (fun h H locs X M => ?_)
            refine lv_aload_n hx hb d_MenuScreensModel_addPart_197 rfl (lv_at hl 0 rfl) ?_
            refine mv_bi X (mv_rV (rest := []) (As := []) gt_good C X k_12_202 (cm_MenuScreensModel_through hE M.1 (i0 := (nT3 (A 6) e0 i0)) (e0 := e0) rfl hend hT3 he) M.1.1 rfl rfl ⟨by decide, by decide⟩ rfl hl.1 rfl (Nat.le_of_ble_eq_true rfl) d_MenuScreensModel_addPart_198 ⟨Nat.le_refl _, Nat.le_refl _⟩) (fun r11 hN H locs hp X => ?_)
            obtain ⟨x1, M1, rfl, er11⟩ := hp
            replace M := M.trans M1
            replace er11 : r11 = bI (cEnd (A 6) e0 (nT3 (A 6) e0 i0)) := er11
            refine lv_if_ne (tgt := 206) hx hb d_MenuScreensModel_addPart_201 (by decide) (fun c12 => ?_) (fun c12 => ?_)
            · skip
              have a6 : cEnd (A 6) e0 (nT3 (A 6) e0 i0) = true := bI_n (fun z => c12 (er11.trans z))
              refine lv_aload_n hx hb d_MenuScreensModel_addPart_206 rfl (lv_at hl 0 rfl) ?_
              refine mm_get C X M 30 f_12_63_13 (.ref (ar 30)) rfl d_MenuScreensModel_addPart_207 ?_
              refine lv_aload_n hx hb d_MenuScreensModel_addPart_210 rfl (lv_at hl 0 rfl) ?_
              refine mm_get C X M 28 f_12_222_13 (.int (x 28)) rfl d_MenuScreensModel_addPart_211 ?_
              refine lv_iload_n hx hb d_MenuScreensModel_addPart_214 rfl (lv_at hl 1 rfl) ?_
              refine mm_iast C X M 30 512 rfl (A 30) rfl (fun _ => rfl) (by decide) np hnp (by omega) d_MenuScreensModel_addPart_215 (fun h H locs X M => ?_)
              refine lv_aload_n hx hb d_MenuScreensModel_addPart_216 rfl (lv_at hl 0 rfl) ?_
              refine mm_get C X M 29 f_12_60_13 (.ref (ar 29)) rfl d_MenuScreensModel_addPart_217 ?_
              refine lv_aload_n hx hb d_MenuScreensModel_addPart_220 rfl (lv_at hl 0 rfl) ?_
              refine mm_get C X M 28 f_12_222_13 (.int (x 28)) rfl d_MenuScreensModel_addPart_221 ?_
              refine lv_aload_n hx hb d_MenuScreensModel_addPart_224 rfl (lv_at hl 0 rfl) ?_
              refine mm_get C X M 20 f_12_169_13 (.int (x 20)) rfl d_MenuScreensModel_addPart_225 ?_
              refine mm_iast C X M 29 512 rfl (A 29) rfl (fun _ => rfl) (by decide) np hnp (by omega) d_MenuScreensModel_addPart_228 (fun h H locs X M => ?_)
              refine lv_iconst (v := 0) hx hb d_MenuScreensModel_addPart_229 (by decide) ?_
              refine lv_istore_n (lv' := [(2, .int 0), (0, .ref a), (1, .int p1)]) hx hb d_MenuScreensModel_addPart_230 rfl hl (by decide) rfl (fun ls hl => ?_)
              rw [← va_up_id (va_up (va_up (va_up (va_up (va_up (va_up (va_up (va_up A 31 (upd (A 31) np ((vNu (A 6) e0 i0).toInt32))) 32 (upd (A 32) np ((vNu (A 6) e0 (nT (A 6) e0 i0)).toInt32))) 35 (upd (A 35) np (nI (nF (A 6) e0 (nT2 (A 6) e0 i0))))) 36 (upd (A 36) np (nI (nT3 (A 6) e0 i0)))) 37 (upd (A 37) np (nI (nF (A 6) e0 (nT2 (A 6) e0 i0))))) 38 (upd (A 38) np (nI (nT3 (A 6) e0 i0)))) 30 (upd (A 30) np p1)) 29 (upd (A 29) np (x 20))) 41] at M
              have lp : ∀ (n_lp : Nat) (k : Nat) (i : Int32) (ls : Array Slot) (h : vH) (H : Heap) (locs : List Loc), (i = nI k) → (k ≤ nc) → (nc - k) < n_lp → vO S0 D vcl h s H locs → MR S0 dT h0 h a ar (upd (upd (upd x 7 (nI (nT (A 6) e0 (nT3 (A 6) e0 i0)))) 9 (nI (nF (A 6) e0 (nT3 (A 6) e0 i0)))) 10 (nI (nT (A 6) e0 (nT3 (A 6) e0 i0)))) yn5 (va_up (va_up (va_up (va_up (va_up (va_up (va_up (va_up (va_up A 31 (upd (A 31) np ((vNu (A 6) e0 i0).toInt32))) 32 (upd (A 32) np ((vNu (A 6) e0 (nT (A 6) e0 i0)).toInt32))) 35 (upd (A 35) np (nI (nF (A 6) e0 (nT2 (A 6) e0 i0))))) 36 (upd (A 36) np (nI (nT3 (A 6) e0 i0)))) 37 (upd (A 37) np (nI (nF (A 6) e0 (nT2 (A 6) e0 i0))))) 38 (upd (A 38) np (nI (nT3 (A 6) e0 i0)))) 30 (upd (A 30) np p1)) 29 (upd (A 29) np (x 20))) 41 (pq (A 40) (A 41) (x 20) (x 28) k)) B → lv_has ls 3 [(0, .ref a), (1, .int p1), (2, .int i)] → W p l e (vRm 3 100 0 0) s m args below meth c H locs 0 0 Q (F0 m 231 ls []) := by
                intro n_lp
                induction n_lp with
                | zero => intros; exact absurd (by assumption) (Nat.not_lt_zero _)
                | succ n_lp ih_lp =>
                  intro k i ls h H locs ei hk hmu_lp X M hl
                  refine lv_iload_n hx hb d_MenuScreensModel_addPart_231 rfl (lv_at hl 2 rfl) ?_
                  refine lv_aload_n hx hb d_MenuScreensModel_addPart_232 rfl (lv_at hl 0 rfl) ?_
                  refine mm_get C X M 39 f_12_227_13 (.int (x 39)) rfl d_MenuScreensModel_addPart_233 ?_
                  refine lv_icmp_ge (tgt := 277) hx hb d_MenuScreensModel_addPart_236 (by decide) (fun c13 => ?_) (fun c13 => ?_)
                  · skip
                    have hkn : k = nc := by
                      have := (nI_leI (a := nc) (b := k) (by omega) (by omega)).mp (by rw [← ei, ← hnc]; exact c13)
                      omega
                    rw [hkn] at M
                    have enp : x 28 + 1 = nI (np + 1) := by rw [hnp]; exact nI_1 np
                    refine lv_aload_n hx hb d_MenuScreensModel_addPart_277 rfl (lv_at hl 0 rfl) ?_
                    refine lv_dup hx hb d_MenuScreensModel_addPart_278 rfl ?_
                    refine mm_get C X M 28 f_12_222_13 (.int (x 28)) rfl d_MenuScreensModel_addPart_279 ?_
                    refine lv_iconst (v := 1) hx hb d_MenuScreensModel_addPart_282 (by decide) ?_
                    refine lv_iadd hx hb d_MenuScreensModel_addPart_283 ?_
                    refine mm_put C X M 28 p_12_222_13 (upd (upd (upd (upd x 7 (nI (nT (A 6) e0 (nT3 (A 6) e0 i0)))) 9 (nI (nF (A 6) e0 (nT3 (A 6) e0 i0)))) 10 (nI (nT (A 6) e0 (nT3 (A 6) e0 i0)))) 28 ((x 28) + 1)) yn5 rfl rfl rfl (by decide) d_MenuScreensModel_addPart_284 (fun h H locs X M => ?_)
                    refine lv_iconst (v := 1) hx hb d_MenuScreensModel_addPart_287 (by decide) ?_
                    exact mq_iret hQ C X hr rfl hlk (⟨(upd (upd (upd (upd x 7 (nI (nT (A 6) e0 (nT3 (A 6) e0 i0)))) 9 (nI (nF (A 6) e0 (nT3 (A 6) e0 i0)))) 10 (nI (nT (A 6) e0 (nT3 (A 6) e0 i0)))) 28 ((x 28) + 1)), yn5, (va_up (va_up (va_up (va_up (va_up (va_up (va_up (va_up (va_up A 31 (upd (A 31) np ((vNu (A 6) e0 i0).toInt32))) 32 (upd (A 32) np ((vNu (A 6) e0 (nT (A 6) e0 i0)).toInt32))) 35 (upd (A 35) np (nI (nF (A 6) e0 (nT2 (A 6) e0 i0))))) 36 (upd (A 36) np (nI (nT3 (A 6) e0 i0)))) 37 (upd (A 37) np (nI (nF (A 6) e0 (nT2 (A 6) e0 i0))))) 38 (upd (A 38) np (nI (nT3 (A 6) e0 i0)))) 30 (upd (A 30) np p1)) 29 (upd (A 29) np (x 20))) 41 (pq (A 40) (A 41) (x 20) (x 28) nc)), B, M, (fun k q7 q9 q10 q28 => by simp [upd, q7, q9, q10, q28]), (fun k q11 => by rw [kyn5 k q11, kyn2 k q11]), Or.inl ⟨by unfold okPa; rw [if_neg c7]; rw [if_neg c10]; rw [a1, a2, b3, a6]; rfl, rfl, enp, by unfold paA; rw [if_neg c7, if_neg c10, if_neg c10], rfl⟩⟩) (Nat.le_refl _) (Nat.le_refl _) d_MenuScreensModel_addPart_288
                  · skip
                    have hlt : k < nc := by
                      rcases Nat.lt_or_ge k nc with q | q
                      · exact q
                      · exact absurd (by rw [hnc, ei]; exact nI_le q (by omega)) c13
                    refine lv_aload_n hx hb d_MenuScreensModel_addPart_239 rfl (lv_at hl 0 rfl) ?_
                    refine mm_get C X M 40 f_12_90_13 (.ref (ar 40)) rfl d_MenuScreensModel_addPart_240 ?_
                    refine lv_iload_n hx hb d_MenuScreensModel_addPart_243 rfl (lv_at hl 2 rfl) ?_
                    refine mm_iald C X M 40 512 rfl (A 40) rfl (by decide) k ei (by omega) d_MenuScreensModel_addPart_244 ?_
                    refine lv_aload_n hx hb d_MenuScreensModel_addPart_245 rfl (lv_at hl 0 rfl) ?_
                    refine mm_get C X M 20 f_12_169_13 (.int (x 20)) rfl d_MenuScreensModel_addPart_246 ?_
                    refine lv_icmp_ne (tgt := 271) hx hb d_MenuScreensModel_addPart_249 (by decide) (fun c14 => ?_) (fun c14 => ?_)
                    · skip
                      refine lv_iinc (v := (i + 1)) (lv' := [(2, .int (i + 1)), (0, .ref a), (1, .int p1)]) hx hb d_MenuScreensModel_addPart_271 hl (k := 2) rfl rfl (by decide) rfl (fun ls hl => ?_)
                      refine lv_goto (tgt := 231) hx hb d_MenuScreensModel_addPart_274 (by decide) ?_
                      have epq : (pq (A 40) (A 41) (x 20) (x 28) (k + 1)) = (pq (A 40) (A 41) (x 20) (x 28) k) := if_neg (fun z => c14 z.1)
                      rw [← epq] at M
                      exact ih_lp (k + 1) (i + 1) ls _ _ _ (by rw [ei]; exact nI_1 k) (by omega) (by omega) X M (lv_sub hl [1, 2, 0] rfl)
                    · skip
                      refine lv_aload_n hx hb d_MenuScreensModel_addPart_252 rfl (lv_at hl 0 rfl) ?_
                      refine mm_get C X M 41 f_12_93_13 (.ref (ar 41)) rfl d_MenuScreensModel_addPart_253 ?_
                      refine lv_iload_n hx hb d_MenuScreensModel_addPart_256 rfl (lv_at hl 2 rfl) ?_
                      refine mm_iald C X M 41 512 rfl (pq (A 40) (A 41) (x 20) (x 28) k) rfl (by decide) k ei (by omega) d_MenuScreensModel_addPart_257 ?_
                      refine lv_if_ge (tgt := 271) hx hb d_MenuScreensModel_addPart_258 (by decide) (fun c15 => ?_) (fun c15 => ?_)
                      · skip
                        refine lv_iinc (v := (i + 1)) (lv' := [(2, .int (i + 1)), (0, .ref a), (1, .int p1)]) hx hb d_MenuScreensModel_addPart_271 hl (k := 2) rfl rfl (by decide) rfl (fun ls hl => ?_)
                        refine lv_goto (tgt := 231) hx hb d_MenuScreensModel_addPart_274 (by decide) ?_
                        have epq : (pq (A 40) (A 41) (x 20) (x 28) (k + 1)) = (pq (A 40) (A 41) (x 20) (x 28) k) := if_neg (fun z => absurd z.2 (Int32.not_lt.mpr c15))
                        rw [← epq] at M
                        exact ih_lp (k + 1) (i + 1) ls _ _ _ (by rw [ei]; exact nI_1 k) (by omega) (by omega) X M (lv_sub hl [1, 2, 0] rfl)
                      · skip
                        refine lv_aload_n hx hb d_MenuScreensModel_addPart_261 rfl (lv_at hl 0 rfl) ?_
                        refine mm_get C X M 41 f_12_93_13 (.ref (ar 41)) rfl d_MenuScreensModel_addPart_262 ?_
                        refine lv_iload_n hx hb d_MenuScreensModel_addPart_265 rfl (lv_at hl 2 rfl) ?_
                        refine lv_aload_n hx hb d_MenuScreensModel_addPart_266 rfl (lv_at hl 0 rfl) ?_
                        refine mm_get C X M 28 f_12_222_13 (.int (x 28)) rfl d_MenuScreensModel_addPart_267 ?_
                        refine mm_iast C X M 41 512 rfl (pq (A 40) (A 41) (x 20) (x 28) k) rfl (fun _ => rfl) (by decide) k ei (by omega) d_MenuScreensModel_addPart_270 (fun h H locs X M => ?_)
                        rw [bx_uu] at M
                        refine lv_iinc (v := (i + 1)) (lv' := [(2, .int (i + 1)), (0, .ref a), (1, .int p1)]) hx hb d_MenuScreensModel_addPart_271 hl (k := 2) rfl rfl (by decide) rfl (fun ls hl => ?_)
                        refine lv_goto (tgt := 231) hx hb d_MenuScreensModel_addPart_274 (by decide) ?_
                        have epq : (pq (A 40) (A 41) (x 20) (x 28) (k + 1)) = (upd (pq (A 40) (A 41) (x 20) (x 28) k) k (x 28)) := if_pos ⟨c14, Int32.not_le.mp c15⟩
                        rw [← epq] at M
                        exact ih_lp (k + 1) (i + 1) ls _ _ _ (by rw [ei]; exact nI_1 k) (by omega) (by omega) X M (lv_sub hl [1, 2, 0] rfl)
              exact lp (nc - 0 + 1) 0 0 ls _ _ _ rfl (by omega) (Nat.lt_succ_self _) X M (lv_sub hl [1, 2, 0] rfl)
            · skip
              refine lv_iconst (v := 0) hx hb d_MenuScreensModel_addPart_204 (by decide) ?_
              exact mq_iret hQ C X hr rfl hlk (⟨(upd (upd (upd x 7 (nI (nT (A 6) e0 (nT3 (A 6) e0 i0)))) 9 (nI (nF (A 6) e0 (nT3 (A 6) e0 i0)))) 10 (nI (nT (A 6) e0 (nT3 (A 6) e0 i0)))), yn5, (va_up (va_up (va_up (va_up (va_up (va_up A 31 (upd (A 31) np ((vNu (A 6) e0 i0).toInt32))) 32 (upd (A 32) np ((vNu (A 6) e0 (nT (A 6) e0 i0)).toInt32))) 35 (upd (A 35) np (nI (nF (A 6) e0 (nT2 (A 6) e0 i0))))) 36 (upd (A 36) np (nI (nT3 (A 6) e0 i0)))) 37 (upd (A 37) np (nI (nF (A 6) e0 (nT2 (A 6) e0 i0))))) 38 (upd (A 38) np (nI (nT3 (A 6) e0 i0)))), B, M, (fun k q7 q9 q10 q28 => by simp [upd, q7, q9, q10, q28]), (fun k q11 => by rw [kyn5 k q11, kyn2 k q11]), Or.inr ⟨by unfold okPa; rw [if_neg c7]; rw [if_neg c10]; rw [show cEnd (A 6) e0 (nT3 (A 6) e0 i0) = false from bI_0 (er11.symm.trans c12)]; simp, rfl, ⟨fun k q => by rcases q with rfl | rfl | rfl | rfl | rfl <;> rfl, rfl⟩⟩⟩) (Nat.le_refl _) (Nat.le_refl _) d_MenuScreensModel_addPart_205
          · skip
            refine lv_aload_n hx hb d_MenuScreensModel_addPart_162 rfl (lv_at hl 0 rfl) ?_
            refine mv_bi X (mv_rV (rest := []) (As := []) gt_good C X k_12_145 (cm_MenuScreensModel_next hE M.1 (i0 := (nT3 (A 6) e0 i0)) (e0 := e0) (F := (nF (A 6) e0 (nT3 (A 6) e0 i0))) (T := (nT (A 6) e0 (nT3 (A 6) e0 i0))) rfl hend hT3 he rfl rfl) M.1.1 rfl rfl ⟨by decide, by decide⟩ rfl hl.1 rfl (Nat.le_of_ble_eq_true rfl) d_MenuScreensModel_addPart_163 ⟨Nat.le_refl _, Nat.le_refl _⟩) (fun r16 hN H locs hp X => ?_)
            obtain ⟨x1, M1, rfl, er16⟩ := hp
            replace M := M.trans M1
            replace er16 : r16 = if (nF (A 6) e0 (nT3 (A 6) e0 i0)) < (nT (A 6) e0 (nT3 (A 6) e0 i0)) then 1 else 0 := er16
            replace er16 : r16 = bI (wB (A 6) e0 (nT3 (A 6) e0 i0)) := by
              rw [er16]; unfold wB bI; by_cases q : nF (A 6) e0 (nT3 (A 6) e0 i0) < nT (A 6) e0 (nT3 (A 6) e0 i0)
              · rw [if_pos q, decide_eq_true q]; rfl
              · rw [if_neg q, decide_eq_false q]; rfl
            refine lv_if_ne (tgt := 171) hx hb d_MenuScreensModel_addPart_166 (by decide) (fun c17 => ?_) (fun c17 => ?_)
            · skip
              have b4 : wB (A 6) e0 (nT3 (A 6) e0 i0) = true := bI_n (fun z => c17 (er16.trans z))
              refine lv_aload_n hx hb d_MenuScreensModel_addPart_171 rfl (lv_at hl 0 rfl) ?_
              refine mm_get C X M 37 f_12_84_13 (.ref (ar 37)) rfl d_MenuScreensModel_addPart_172 ?_
              refine lv_aload_n hx hb d_MenuScreensModel_addPart_175 rfl (lv_at hl 0 rfl) ?_
              refine mm_get C X M 28 f_12_222_13 (.int (x 28)) rfl d_MenuScreensModel_addPart_176 ?_
              refine lv_aload_n hx hb d_MenuScreensModel_addPart_179 rfl (lv_at hl 0 rfl) ?_
              refine mm_get C X M 9 f_12_139_13 (.int (nI (nF (A 6) e0 (nT3 (A 6) e0 i0)))) rfl d_MenuScreensModel_addPart_180 ?_
              refine mm_iast C X M 37 512 rfl (A 37) rfl (fun _ => rfl) (by decide) np hnp (by omega) d_MenuScreensModel_addPart_183 (fun h H locs X M => ?_)
              refine lv_aload_n hx hb d_MenuScreensModel_addPart_184 rfl (lv_at hl 0 rfl) ?_
              refine mm_get C X M 38 f_12_87_13 (.ref (ar 38)) rfl d_MenuScreensModel_addPart_185 ?_
              refine lv_aload_n hx hb d_MenuScreensModel_addPart_188 rfl (lv_at hl 0 rfl) ?_
              refine mm_get C X M 28 f_12_222_13 (.int (x 28)) rfl d_MenuScreensModel_addPart_189 ?_
              refine lv_aload_n hx hb d_MenuScreensModel_addPart_192 rfl (lv_at hl 0 rfl) ?_
              refine mm_get C X M 10 f_12_142_13 (.int (nI (nT4 (A 6) e0 i0))) rfl d_MenuScreensModel_addPart_193 ?_
              refine mm_iast C X M 38 512 rfl (A 38) rfl (fun _ => rfl) (by decide) np hnp (by omega) d_MenuScreensModel_addPart_196 (fun h H locs X M => ?_)
              refine lv_aload_n hx hb d_MenuScreensModel_addPart_197 rfl (lv_at hl 0 rfl) ?_
              refine mv_bi X (mv_rV (rest := []) (As := []) gt_good C X k_12_202 (cm_MenuScreensModel_through hE M.1 (i0 := (nT4 (A 6) e0 i0)) (e0 := e0) rfl hend hT4 he) M.1.1 rfl rfl ⟨by decide, by decide⟩ rfl hl.1 rfl (Nat.le_of_ble_eq_true rfl) d_MenuScreensModel_addPart_198 ⟨Nat.le_refl _, Nat.le_refl _⟩) (fun r18 hN H locs hp X => ?_)
              obtain ⟨x1, M1, rfl, er18⟩ := hp
              replace M := M.trans M1
              replace er18 : r18 = bI (cEnd (A 6) e0 (nT4 (A 6) e0 i0)) := er18
              refine lv_if_ne (tgt := 206) hx hb d_MenuScreensModel_addPart_201 (by decide) (fun c19 => ?_) (fun c19 => ?_)
              · skip
                have a6 : cEnd (A 6) e0 (nT4 (A 6) e0 i0) = true := bI_n (fun z => c19 (er18.trans z))
                refine lv_aload_n hx hb d_MenuScreensModel_addPart_206 rfl (lv_at hl 0 rfl) ?_
                refine mm_get C X M 30 f_12_63_13 (.ref (ar 30)) rfl d_MenuScreensModel_addPart_207 ?_
                refine lv_aload_n hx hb d_MenuScreensModel_addPart_210 rfl (lv_at hl 0 rfl) ?_
                refine mm_get C X M 28 f_12_222_13 (.int (x 28)) rfl d_MenuScreensModel_addPart_211 ?_
                refine lv_iload_n hx hb d_MenuScreensModel_addPart_214 rfl (lv_at hl 1 rfl) ?_
                refine mm_iast C X M 30 512 rfl (A 30) rfl (fun _ => rfl) (by decide) np hnp (by omega) d_MenuScreensModel_addPart_215 (fun h H locs X M => ?_)
                refine lv_aload_n hx hb d_MenuScreensModel_addPart_216 rfl (lv_at hl 0 rfl) ?_
                refine mm_get C X M 29 f_12_60_13 (.ref (ar 29)) rfl d_MenuScreensModel_addPart_217 ?_
                refine lv_aload_n hx hb d_MenuScreensModel_addPart_220 rfl (lv_at hl 0 rfl) ?_
                refine mm_get C X M 28 f_12_222_13 (.int (x 28)) rfl d_MenuScreensModel_addPart_221 ?_
                refine lv_aload_n hx hb d_MenuScreensModel_addPart_224 rfl (lv_at hl 0 rfl) ?_
                refine mm_get C X M 20 f_12_169_13 (.int (x 20)) rfl d_MenuScreensModel_addPart_225 ?_
                refine mm_iast C X M 29 512 rfl (A 29) rfl (fun _ => rfl) (by decide) np hnp (by omega) d_MenuScreensModel_addPart_228 (fun h H locs X M => ?_)
                refine lv_iconst (v := 0) hx hb d_MenuScreensModel_addPart_229 (by decide) ?_
                refine lv_istore_n (lv' := [(2, .int 0), (0, .ref a), (1, .int p1)]) hx hb d_MenuScreensModel_addPart_230 rfl hl (by decide) rfl (fun ls hl => ?_)
                rw [← va_up_id (va_up (va_up (va_up (va_up (va_up (va_up (va_up (va_up A 31 (upd (A 31) np ((vNu (A 6) e0 i0).toInt32))) 32 (upd (A 32) np ((vNu (A 6) e0 (nT (A 6) e0 i0)).toInt32))) 35 (upd (A 35) np (nI (nF (A 6) e0 (nT2 (A 6) e0 i0))))) 36 (upd (A 36) np (nI (nT3 (A 6) e0 i0)))) 37 (upd (A 37) np (nI (nF (A 6) e0 (nT3 (A 6) e0 i0))))) 38 (upd (A 38) np (nI (nT4 (A 6) e0 i0)))) 30 (upd (A 30) np p1)) 29 (upd (A 29) np (x 20))) 41] at M
                have lp : ∀ (n_lp : Nat) (k : Nat) (i : Int32) (ls : Array Slot) (h : vH) (H : Heap) (locs : List Loc), (i = nI k) → (k ≤ nc) → (nc - k) < n_lp → vO S0 D vcl h s H locs → MR S0 dT h0 h a ar (upd (upd (upd x 7 (nI (nT (A 6) e0 (nT4 (A 6) e0 i0)))) 9 (nI (nF (A 6) e0 (nT4 (A 6) e0 i0)))) 10 (nI (nT (A 6) e0 (nT4 (A 6) e0 i0)))) yn5 (va_up (va_up (va_up (va_up (va_up (va_up (va_up (va_up (va_up A 31 (upd (A 31) np ((vNu (A 6) e0 i0).toInt32))) 32 (upd (A 32) np ((vNu (A 6) e0 (nT (A 6) e0 i0)).toInt32))) 35 (upd (A 35) np (nI (nF (A 6) e0 (nT2 (A 6) e0 i0))))) 36 (upd (A 36) np (nI (nT3 (A 6) e0 i0)))) 37 (upd (A 37) np (nI (nF (A 6) e0 (nT3 (A 6) e0 i0))))) 38 (upd (A 38) np (nI (nT4 (A 6) e0 i0)))) 30 (upd (A 30) np p1)) 29 (upd (A 29) np (x 20))) 41 (pq (A 40) (A 41) (x 20) (x 28) k)) B → lv_has ls 3 [(0, .ref a), (1, .int p1), (2, .int i)] → W p l e (vRm 3 100 0 0) s m args below meth c H locs 0 0 Q (F0 m 231 ls []) := by
                  intro n_lp
                  induction n_lp with
                  | zero => intros; exact absurd (by assumption) (Nat.not_lt_zero _)
                  | succ n_lp ih_lp =>
                    intro k i ls h H locs ei hk hmu_lp X M hl
                    refine lv_iload_n hx hb d_MenuScreensModel_addPart_231 rfl (lv_at hl 2 rfl) ?_
                    refine lv_aload_n hx hb d_MenuScreensModel_addPart_232 rfl (lv_at hl 0 rfl) ?_
                    refine mm_get C X M 39 f_12_227_13 (.int (x 39)) rfl d_MenuScreensModel_addPart_233 ?_
                    refine lv_icmp_ge (tgt := 277) hx hb d_MenuScreensModel_addPart_236 (by decide) (fun c20 => ?_) (fun c20 => ?_)
                    · skip
                      have hkn : k = nc := by
                        have := (nI_leI (a := nc) (b := k) (by omega) (by omega)).mp (by rw [← ei, ← hnc]; exact c20)
                        omega
                      rw [hkn] at M
                      have enp : x 28 + 1 = nI (np + 1) := by rw [hnp]; exact nI_1 np
                      refine lv_aload_n hx hb d_MenuScreensModel_addPart_277 rfl (lv_at hl 0 rfl) ?_
                      refine lv_dup hx hb d_MenuScreensModel_addPart_278 rfl ?_
                      refine mm_get C X M 28 f_12_222_13 (.int (x 28)) rfl d_MenuScreensModel_addPart_279 ?_
                      refine lv_iconst (v := 1) hx hb d_MenuScreensModel_addPart_282 (by decide) ?_
                      refine lv_iadd hx hb d_MenuScreensModel_addPart_283 ?_
                      refine mm_put C X M 28 p_12_222_13 (upd (upd (upd (upd x 7 (nI (nT (A 6) e0 (nT4 (A 6) e0 i0)))) 9 (nI (nF (A 6) e0 (nT4 (A 6) e0 i0)))) 10 (nI (nT (A 6) e0 (nT4 (A 6) e0 i0)))) 28 ((x 28) + 1)) yn5 rfl rfl rfl (by decide) d_MenuScreensModel_addPart_284 (fun h H locs X M => ?_)
                      refine lv_iconst (v := 1) hx hb d_MenuScreensModel_addPart_287 (by decide) ?_
                      exact mq_iret hQ C X hr rfl hlk (⟨(upd (upd (upd (upd x 7 (nI (nT (A 6) e0 (nT4 (A 6) e0 i0)))) 9 (nI (nF (A 6) e0 (nT4 (A 6) e0 i0)))) 10 (nI (nT (A 6) e0 (nT4 (A 6) e0 i0)))) 28 ((x 28) + 1)), yn5, (va_up (va_up (va_up (va_up (va_up (va_up (va_up (va_up (va_up A 31 (upd (A 31) np ((vNu (A 6) e0 i0).toInt32))) 32 (upd (A 32) np ((vNu (A 6) e0 (nT (A 6) e0 i0)).toInt32))) 35 (upd (A 35) np (nI (nF (A 6) e0 (nT2 (A 6) e0 i0))))) 36 (upd (A 36) np (nI (nT3 (A 6) e0 i0)))) 37 (upd (A 37) np (nI (nF (A 6) e0 (nT3 (A 6) e0 i0))))) 38 (upd (A 38) np (nI (nT4 (A 6) e0 i0)))) 30 (upd (A 30) np p1)) 29 (upd (A 29) np (x 20))) 41 (pq (A 40) (A 41) (x 20) (x 28) nc)), B, M, (fun k q7 q9 q10 q28 => by simp [upd, q7, q9, q10, q28]), (fun k q11 => by rw [kyn5 k q11, kyn2 k q11]), Or.inl ⟨by unfold okPa; rw [if_neg c7]; rw [if_pos c10]; rw [a1, a2, b3, b4, a6]; rfl, rfl, enp, by unfold paA; rw [if_neg c7, if_pos c10, if_pos c10], rfl⟩⟩) (Nat.le_refl _) (Nat.le_refl _) d_MenuScreensModel_addPart_288
                    · skip
                      have hlt : k < nc := by
                        rcases Nat.lt_or_ge k nc with q | q
                        · exact q
                        · exact absurd (by rw [hnc, ei]; exact nI_le q (by omega)) c20
                      refine lv_aload_n hx hb d_MenuScreensModel_addPart_239 rfl (lv_at hl 0 rfl) ?_
                      refine mm_get C X M 40 f_12_90_13 (.ref (ar 40)) rfl d_MenuScreensModel_addPart_240 ?_
                      refine lv_iload_n hx hb d_MenuScreensModel_addPart_243 rfl (lv_at hl 2 rfl) ?_
                      refine mm_iald C X M 40 512 rfl (A 40) rfl (by decide) k ei (by omega) d_MenuScreensModel_addPart_244 ?_
                      refine lv_aload_n hx hb d_MenuScreensModel_addPart_245 rfl (lv_at hl 0 rfl) ?_
                      refine mm_get C X M 20 f_12_169_13 (.int (x 20)) rfl d_MenuScreensModel_addPart_246 ?_
                      refine lv_icmp_ne (tgt := 271) hx hb d_MenuScreensModel_addPart_249 (by decide) (fun c21 => ?_) (fun c21 => ?_)
                      · skip
                        refine lv_iinc (v := (i + 1)) (lv' := [(2, .int (i + 1)), (0, .ref a), (1, .int p1)]) hx hb d_MenuScreensModel_addPart_271 hl (k := 2) rfl rfl (by decide) rfl (fun ls hl => ?_)
                        refine lv_goto (tgt := 231) hx hb d_MenuScreensModel_addPart_274 (by decide) ?_
                        have epq : (pq (A 40) (A 41) (x 20) (x 28) (k + 1)) = (pq (A 40) (A 41) (x 20) (x 28) k) := if_neg (fun z => c21 z.1)
                        rw [← epq] at M
                        exact ih_lp (k + 1) (i + 1) ls _ _ _ (by rw [ei]; exact nI_1 k) (by omega) (by omega) X M (lv_sub hl [1, 2, 0] rfl)
                      · skip
                        refine lv_aload_n hx hb d_MenuScreensModel_addPart_252 rfl (lv_at hl 0 rfl) ?_
                        refine mm_get C X M 41 f_12_93_13 (.ref (ar 41)) rfl d_MenuScreensModel_addPart_253 ?_
                        refine lv_iload_n hx hb d_MenuScreensModel_addPart_256 rfl (lv_at hl 2 rfl) ?_
                        refine mm_iald C X M 41 512 rfl (pq (A 40) (A 41) (x 20) (x 28) k) rfl (by decide) k ei (by omega) d_MenuScreensModel_addPart_257 ?_
                        refine lv_if_ge (tgt := 271) hx hb d_MenuScreensModel_addPart_258 (by decide) (fun c22 => ?_) (fun c22 => ?_)
                        · skip
                          refine lv_iinc (v := (i + 1)) (lv' := [(2, .int (i + 1)), (0, .ref a), (1, .int p1)]) hx hb d_MenuScreensModel_addPart_271 hl (k := 2) rfl rfl (by decide) rfl (fun ls hl => ?_)
                          refine lv_goto (tgt := 231) hx hb d_MenuScreensModel_addPart_274 (by decide) ?_
                          have epq : (pq (A 40) (A 41) (x 20) (x 28) (k + 1)) = (pq (A 40) (A 41) (x 20) (x 28) k) := if_neg (fun z => absurd z.2 (Int32.not_lt.mpr c22))
                          rw [← epq] at M
                          exact ih_lp (k + 1) (i + 1) ls _ _ _ (by rw [ei]; exact nI_1 k) (by omega) (by omega) X M (lv_sub hl [1, 2, 0] rfl)
                        · skip
                          refine lv_aload_n hx hb d_MenuScreensModel_addPart_261 rfl (lv_at hl 0 rfl) ?_
                          refine mm_get C X M 41 f_12_93_13 (.ref (ar 41)) rfl d_MenuScreensModel_addPart_262 ?_
                          refine lv_iload_n hx hb d_MenuScreensModel_addPart_265 rfl (lv_at hl 2 rfl) ?_
                          refine lv_aload_n hx hb d_MenuScreensModel_addPart_266 rfl (lv_at hl 0 rfl) ?_
                          refine mm_get C X M 28 f_12_222_13 (.int (x 28)) rfl d_MenuScreensModel_addPart_267 ?_
                          refine mm_iast C X M 41 512 rfl (pq (A 40) (A 41) (x 20) (x 28) k) rfl (fun _ => rfl) (by decide) k ei (by omega) d_MenuScreensModel_addPart_270 (fun h H locs X M => ?_)
                          rw [bx_uu] at M
                          refine lv_iinc (v := (i + 1)) (lv' := [(2, .int (i + 1)), (0, .ref a), (1, .int p1)]) hx hb d_MenuScreensModel_addPart_271 hl (k := 2) rfl rfl (by decide) rfl (fun ls hl => ?_)
                          refine lv_goto (tgt := 231) hx hb d_MenuScreensModel_addPart_274 (by decide) ?_
                          have epq : (pq (A 40) (A 41) (x 20) (x 28) (k + 1)) = (upd (pq (A 40) (A 41) (x 20) (x 28) k) k (x 28)) := if_pos ⟨c21, Int32.not_le.mp c22⟩
                          rw [← epq] at M
                          exact ih_lp (k + 1) (i + 1) ls _ _ _ (by rw [ei]; exact nI_1 k) (by omega) (by omega) X M (lv_sub hl [1, 2, 0] rfl)
                exact lp (nc - 0 + 1) 0 0 ls _ _ _ rfl (by omega) (Nat.lt_succ_self _) X M (lv_sub hl [1, 2, 0] rfl)
              · skip
                refine lv_iconst (v := 0) hx hb d_MenuScreensModel_addPart_204 (by decide) ?_
                exact mq_iret hQ C X hr rfl hlk (⟨(upd (upd (upd x 7 (nI (nT (A 6) e0 (nT4 (A 6) e0 i0)))) 9 (nI (nF (A 6) e0 (nT4 (A 6) e0 i0)))) 10 (nI (nT (A 6) e0 (nT4 (A 6) e0 i0)))), yn5, (va_up (va_up (va_up (va_up (va_up (va_up A 31 (upd (A 31) np ((vNu (A 6) e0 i0).toInt32))) 32 (upd (A 32) np ((vNu (A 6) e0 (nT (A 6) e0 i0)).toInt32))) 35 (upd (A 35) np (nI (nF (A 6) e0 (nT2 (A 6) e0 i0))))) 36 (upd (A 36) np (nI (nT3 (A 6) e0 i0)))) 37 (upd (A 37) np (nI (nF (A 6) e0 (nT3 (A 6) e0 i0))))) 38 (upd (A 38) np (nI (nT4 (A 6) e0 i0)))), B, M, (fun k q7 q9 q10 q28 => by simp [upd, q7, q9, q10, q28]), (fun k q11 => by rw [kyn5 k q11, kyn2 k q11]), Or.inr ⟨by unfold okPa; rw [if_neg c7]; rw [if_pos c10]; rw [show cEnd (A 6) e0 (nT4 (A 6) e0 i0) = false from bI_0 (er18.symm.trans c19)]; simp, rfl, ⟨fun k q => by rcases q with rfl | rfl | rfl | rfl | rfl <;> rfl, rfl⟩⟩⟩) (Nat.le_refl _) (Nat.le_refl _) d_MenuScreensModel_addPart_205
            · skip
              refine lv_iconst (v := 0) hx hb d_MenuScreensModel_addPart_169 (by decide) ?_
              exact mq_iret hQ C X hr rfl hlk (⟨(upd (upd (upd x 7 (nI (nT4 (A 6) e0 i0))) 9 (nI (nF (A 6) e0 (nT3 (A 6) e0 i0)))) 10 (nI (nT4 (A 6) e0 i0))), yn5, (va_up (va_up (va_up (va_up A 31 (upd (A 31) np ((vNu (A 6) e0 i0).toInt32))) 32 (upd (A 32) np ((vNu (A 6) e0 (nT (A 6) e0 i0)).toInt32))) 35 (upd (A 35) np (nI (nF (A 6) e0 (nT2 (A 6) e0 i0))))) 36 (upd (A 36) np (nI (nT3 (A 6) e0 i0)))), B, M, (fun k q7 q9 q10 q28 => by simp [upd, q7, q9, q10, q28]), (fun k q11 => by rw [kyn5 k q11, kyn2 k q11]), Or.inr ⟨by unfold okPa; rw [if_neg c7]; rw [if_pos c10]; rw [show wB (A 6) e0 (nT3 (A 6) e0 i0) = false from bI_0 (er16.symm.trans c17)]; simp, rfl, ⟨fun k q => by rcases q with rfl | rfl | rfl | rfl | rfl <;> rfl, rfl⟩⟩⟩) (Nat.le_refl _) (Nat.le_refl _) d_MenuScreensModel_addPart_170
        · skip
          refine lv_iconst (v := 0) hx hb d_MenuScreensModel_addPart_129 (by decide) ?_
          exact mq_iret hQ C X hr rfl hlk (⟨(upd (upd (upd x 7 (nI (nT3 (A 6) e0 i0))) 9 (nI (nF (A 6) e0 (nT2 (A 6) e0 i0)))) 10 (nI (nT3 (A 6) e0 i0))), yn5, (va_up (va_up A 31 (upd (A 31) np ((vNu (A 6) e0 i0).toInt32))) 32 (upd (A 32) np ((vNu (A 6) e0 (nT (A 6) e0 i0)).toInt32))), B, M, (fun k q7 q9 q10 q28 => by simp [upd, q7, q9, q10, q28]), (fun k q11 => by rw [kyn5 k q11, kyn2 k q11]), Or.inr ⟨by unfold okPa; rw [if_neg c7]; rw [show wB (A 6) e0 (nT2 (A 6) e0 i0) = false from bI_0 (er8.symm.trans c9)]; simp, rfl, ⟨fun k q => by rcases q with rfl | rfl | rfl | rfl | rfl <;> rfl, rfl⟩⟩⟩) (Nat.le_refl _) (Nat.le_refl _) d_MenuScreensModel_addPart_130
      · skip
        refine lv_aload_n hx hb d_MenuScreensModel_addPart_59 rfl (lv_at hl 0 rfl) ?_
        refine lv_lconst (v := 1) hx hb d_MenuScreensModel_addPart_60 (by decide) ?_
        refine lv_ldc2 (v := 9) hx hb C.1.2.2.2.1 (C.1.2.2.2.2 _ (gt_6 40 (by decide +kernel) rfl)) d_MenuScreensModel_addPart_61 ?_
        refine mv_bi X (mv_rV (rest := []) (As := [.long 1, .long 9]) gt_good C X k_12_199 (cm_MenuScreensModel_number hE M.1 _ _ (i0 := (nT2 (A 6) e0 i0)) (e0 := e0) rfl hend hT2 he) M.1.1 rfl rfl ⟨by decide, by decide⟩ rfl hl.1 rfl (Nat.le_of_ble_eq_true rfl) d_MenuScreensModel_addPart_64 ⟨Nat.le_refl _, Nat.le_refl _⟩) (fun r23 hN H locs hp X => ?_)
        obtain ⟨x1, yn24, M1, rfl, kyn24, vyn24, er23⟩ := hp
        replace M := M.trans M1
        replace er23 : r23 = bI (cNu (A 6) e0 (nT2 (A 6) e0 i0) 1 9) := er23
        replace vyn24 : r23 = 1 → yn24 11 = vNu (A 6) e0 (nT2 (A 6) e0 i0) := vyn24
        refine lv_if_ne (tgt := 72) hx hb d_MenuScreensModel_addPart_67 (by decide) (fun c25 => ?_) (fun c25 => ?_)
        · skip
          have a3 : cNu (A 6) e0 (nT2 (A 6) e0 i0) 1 9 = true := bI_n (fun z => c25 (er23.trans z))
          have v2 := vyn24 (by rw [er23, a3]; rfl)
          refine lv_aload_n hx hb d_MenuScreensModel_addPart_72 rfl (lv_at hl 0 rfl) ?_
          refine mm_get C X M 34 f_12_75_13 (.ref (ar 34)) rfl d_MenuScreensModel_addPart_73 ?_
          refine lv_aload_n hx hb d_MenuScreensModel_addPart_76 rfl (lv_at hl 0 rfl) ?_
          refine mm_get C X M 28 f_12_222_13 (.int (x 28)) rfl d_MenuScreensModel_addPart_77 ?_
          refine lv_aload_n hx hb d_MenuScreensModel_addPart_80 rfl (lv_at hl 0 rfl) ?_
          refine mm_get C X M 11 f_12_152_13 (.long (yn24 11)) rfl d_MenuScreensModel_addPart_81 ?_
          refine lv_l2i (v := ((yn24 11) : Int64).toInt32) hx hb d_MenuScreensModel_addPart_84 rfl ?_
          rw [v2]
          refine mm_iast C X M 34 512 rfl (A 34) rfl (fun _ => rfl) (by decide) np hnp (by omega) d_MenuScreensModel_addPart_85 (fun h H locs X M => ?_)
          refine lv_aload_n hx hb d_MenuScreensModel_addPart_86 rfl (lv_at hl 0 rfl) ?_
          refine mv_bi X (mv_rV (rest := []) (As := []) gt_good C X k_12_205 (cm_MenuScreensModel_name hE M.1 (i0 := (nT3 (A 6) e0 i0)) (e0 := e0) rfl hend hT3 he) M.1.1 rfl rfl ⟨by decide, by decide⟩ rfl hl.1 rfl (Nat.le_of_ble_eq_true rfl) d_MenuScreensModel_addPart_87 ⟨Nat.le_refl _, Nat.le_refl _⟩) (fun r26 hN H locs hp X => ?_)
          obtain ⟨x1, M1, rfl, er26⟩ := hp
          replace M := M.trans M1
          replace er26 : r26 = bI (cNm (A 6) e0 (nT3 (A 6) e0 i0)) := er26
          refine lv_if_ne (tgt := 95) hx hb d_MenuScreensModel_addPart_90 (by decide) (fun c27 => ?_) (fun c27 => ?_)
          · skip
            have a4 : cNm (A 6) e0 (nT3 (A 6) e0 i0) = true := bI_n (fun z => c27 (er26.trans z))
            refine lv_aload_n hx hb d_MenuScreensModel_addPart_95 rfl (lv_at hl 0 rfl) ?_
            refine mm_get C X M 33 f_12_72_13 (.ref (ar 33)) rfl d_MenuScreensModel_addPart_96 ?_
            refine lv_aload_n hx hb d_MenuScreensModel_addPart_99 rfl (lv_at hl 0 rfl) ?_
            refine mm_get C X M 28 f_12_222_13 (.int (x 28)) rfl d_MenuScreensModel_addPart_100 ?_
            refine lv_aload_n hx hb d_MenuScreensModel_addPart_103 rfl (lv_at hl 0 rfl) ?_
            refine mv_bi X (mv_rV (rest := [.int (x 28), .ref (ar 33)]) (As := []) gt_good C X k_12_208 (cm_MenuScreensModel_findValue hE M.1 (n := nv) hnv hnv2 hRV (F := (nF (A 6) e0 (nT3 (A 6) e0 i0))) (T := (nT4 (A 6) e0 i0)) rfl rfl (nT_in (A 6) hT3).1 (Nat.le_trans hT4 he)) M.1.1 rfl rfl ⟨by decide, by decide⟩ rfl hl.1 rfl (Nat.le_of_ble_eq_true rfl) d_MenuScreensModel_addPart_104 ⟨Nat.le_refl _, Nat.le_refl _⟩) (fun r28 hN H locs hp X => ?_)
            obtain ⟨ehr28, er28⟩ := hp
            rw [ehr28] at X
            replace er28 : r28 = nI (fV A nv (nF (A 6) e0 (nT3 (A 6) e0 i0)) (nT4 (A 6) e0 i0)) := er28
            have hfv : fV A nv (nF (A 6) e0 (nT3 (A 6) e0 i0)) (nT4 (A 6) e0 i0) ≤ 1 + nv := fnd_le _ _ _
            rw [er28]
            refine mm_iast C X M 33 512 rfl (A 33) rfl (fun _ => rfl) (by decide) np hnp (by omega) d_MenuScreensModel_addPart_107 (fun h H locs X M => ?_)
            refine lv_aload_n hx hb d_MenuScreensModel_addPart_108 rfl (lv_at hl 0 rfl) ?_
            refine mm_get C X M 33 f_12_72_13 (.ref (ar 33)) rfl d_MenuScreensModel_addPart_109 ?_
            refine lv_aload_n hx hb d_MenuScreensModel_addPart_112 rfl (lv_at hl 0 rfl) ?_
            refine mm_get C X M 28 f_12_222_13 (.int (x 28)) rfl d_MenuScreensModel_addPart_113 ?_
            refine mm_iald C X M 33 512 rfl (upd (A 33) np (nI (fV A nv (nF (A 6) e0 (nT3 (A 6) e0 i0)) (nT4 (A 6) e0 i0)))) rfl (by decide) np hnp (by omega) d_MenuScreensModel_addPart_116 ?_
            refine lv_if_ne (tgt := 197) hx hb d_MenuScreensModel_addPart_117 (by decide) (fun c29 => ?_) (fun c29 => ?_)
            · skip
              have a5 : fV A nv (nF (A 6) e0 (nT3 (A 6) e0 i0)) (nT4 (A 6) e0 i0) ≠ 0 := fun z => c29 (by simp [upd, z]; rfl)
              refine lv_aload_n hx hb d_MenuScreensModel_addPart_197 rfl (lv_at hl 0 rfl) ?_
              refine mv_bi X (mv_rV (rest := []) (As := []) gt_good C X k_12_202 (cm_MenuScreensModel_through hE M.1 (i0 := (nT4 (A 6) e0 i0)) (e0 := e0) rfl hend hT4 he) M.1.1 rfl rfl ⟨by decide, by decide⟩ rfl hl.1 rfl (Nat.le_of_ble_eq_true rfl) d_MenuScreensModel_addPart_198 ⟨Nat.le_refl _, Nat.le_refl _⟩) (fun r30 hN H locs hp X => ?_)
              obtain ⟨x1, M1, rfl, er30⟩ := hp
              replace M := M.trans M1
              replace er30 : r30 = bI (cEnd (A 6) e0 (nT4 (A 6) e0 i0)) := er30
              refine lv_if_ne (tgt := 206) hx hb d_MenuScreensModel_addPart_201 (by decide) (fun c31 => ?_) (fun c31 => ?_)
              · skip
                have a6 : cEnd (A 6) e0 (nT4 (A 6) e0 i0) = true := bI_n (fun z => c31 (er30.trans z))
                refine lv_aload_n hx hb d_MenuScreensModel_addPart_206 rfl (lv_at hl 0 rfl) ?_
                refine mm_get C X M 30 f_12_63_13 (.ref (ar 30)) rfl d_MenuScreensModel_addPart_207 ?_
                refine lv_aload_n hx hb d_MenuScreensModel_addPart_210 rfl (lv_at hl 0 rfl) ?_
                refine mm_get C X M 28 f_12_222_13 (.int (x 28)) rfl d_MenuScreensModel_addPart_211 ?_
                refine lv_iload_n hx hb d_MenuScreensModel_addPart_214 rfl (lv_at hl 1 rfl) ?_
                refine mm_iast C X M 30 512 rfl (A 30) rfl (fun _ => rfl) (by decide) np hnp (by omega) d_MenuScreensModel_addPart_215 (fun h H locs X M => ?_)
                refine lv_aload_n hx hb d_MenuScreensModel_addPart_216 rfl (lv_at hl 0 rfl) ?_
                refine mm_get C X M 29 f_12_60_13 (.ref (ar 29)) rfl d_MenuScreensModel_addPart_217 ?_
                refine lv_aload_n hx hb d_MenuScreensModel_addPart_220 rfl (lv_at hl 0 rfl) ?_
                refine mm_get C X M 28 f_12_222_13 (.int (x 28)) rfl d_MenuScreensModel_addPart_221 ?_
                refine lv_aload_n hx hb d_MenuScreensModel_addPart_224 rfl (lv_at hl 0 rfl) ?_
                refine mm_get C X M 20 f_12_169_13 (.int (x 20)) rfl d_MenuScreensModel_addPart_225 ?_
                refine mm_iast C X M 29 512 rfl (A 29) rfl (fun _ => rfl) (by decide) np hnp (by omega) d_MenuScreensModel_addPart_228 (fun h H locs X M => ?_)
                refine lv_iconst (v := 0) hx hb d_MenuScreensModel_addPart_229 (by decide) ?_
                refine lv_istore_n (lv' := [(2, .int 0), (0, .ref a), (1, .int p1)]) hx hb d_MenuScreensModel_addPart_230 rfl hl (by decide) rfl (fun ls hl => ?_)
                rw [← va_up_id (va_up (va_up (va_up (va_up (va_up (va_up A 31 (upd (A 31) np ((vNu (A 6) e0 i0).toInt32))) 32 (upd (A 32) np ((vNu (A 6) e0 (nT (A 6) e0 i0)).toInt32))) 34 (upd (A 34) np ((vNu (A 6) e0 (nT2 (A 6) e0 i0)).toInt32))) 33 (upd (A 33) np (nI (fV A nv (nF (A 6) e0 (nT3 (A 6) e0 i0)) (nT4 (A 6) e0 i0))))) 30 (upd (A 30) np p1)) 29 (upd (A 29) np (x 20))) 41] at M
                have lp : ∀ (n_lp : Nat) (k : Nat) (i : Int32) (ls : Array Slot) (h : vH) (H : Heap) (locs : List Loc), (i = nI k) → (k ≤ nc) → (nc - k) < n_lp → vO S0 D vcl h s H locs → MR S0 dT h0 h a ar (upd (upd (upd x 7 (nI (nT (A 6) e0 (nT4 (A 6) e0 i0)))) 9 (nI (nF (A 6) e0 (nT4 (A 6) e0 i0)))) 10 (nI (nT (A 6) e0 (nT4 (A 6) e0 i0)))) yn24 (va_up (va_up (va_up (va_up (va_up (va_up (va_up A 31 (upd (A 31) np ((vNu (A 6) e0 i0).toInt32))) 32 (upd (A 32) np ((vNu (A 6) e0 (nT (A 6) e0 i0)).toInt32))) 34 (upd (A 34) np ((vNu (A 6) e0 (nT2 (A 6) e0 i0)).toInt32))) 33 (upd (A 33) np (nI (fV A nv (nF (A 6) e0 (nT3 (A 6) e0 i0)) (nT4 (A 6) e0 i0))))) 30 (upd (A 30) np p1)) 29 (upd (A 29) np (x 20))) 41 (pq (A 40) (A 41) (x 20) (x 28) k)) B → lv_has ls 3 [(0, .ref a), (1, .int p1), (2, .int i)] → W p l e (vRm 3 100 0 0) s m args below meth c H locs 0 0 Q (F0 m 231 ls []) := by
                  intro n_lp
                  induction n_lp with
                  | zero => intros; exact absurd (by assumption) (Nat.not_lt_zero _)
                  | succ n_lp ih_lp =>
                    intro k i ls h H locs ei hk hmu_lp X M hl
                    refine lv_iload_n hx hb d_MenuScreensModel_addPart_231 rfl (lv_at hl 2 rfl) ?_
                    refine lv_aload_n hx hb d_MenuScreensModel_addPart_232 rfl (lv_at hl 0 rfl) ?_
                    refine mm_get C X M 39 f_12_227_13 (.int (x 39)) rfl d_MenuScreensModel_addPart_233 ?_
                    refine lv_icmp_ge (tgt := 277) hx hb d_MenuScreensModel_addPart_236 (by decide) (fun c32 => ?_) (fun c32 => ?_)
                    · skip
                      have hkn : k = nc := by
                        have := (nI_leI (a := nc) (b := k) (by omega) (by omega)).mp (by rw [← ei, ← hnc]; exact c32)
                        omega
                      rw [hkn] at M
                      have enp : x 28 + 1 = nI (np + 1) := by rw [hnp]; exact nI_1 np
                      refine lv_aload_n hx hb d_MenuScreensModel_addPart_277 rfl (lv_at hl 0 rfl) ?_
                      refine lv_dup hx hb d_MenuScreensModel_addPart_278 rfl ?_
                      refine mm_get C X M 28 f_12_222_13 (.int (x 28)) rfl d_MenuScreensModel_addPart_279 ?_
                      refine lv_iconst (v := 1) hx hb d_MenuScreensModel_addPart_282 (by decide) ?_
                      refine lv_iadd hx hb d_MenuScreensModel_addPart_283 ?_
                      refine mm_put C X M 28 p_12_222_13 (upd (upd (upd (upd x 7 (nI (nT (A 6) e0 (nT4 (A 6) e0 i0)))) 9 (nI (nF (A 6) e0 (nT4 (A 6) e0 i0)))) 10 (nI (nT (A 6) e0 (nT4 (A 6) e0 i0)))) 28 ((x 28) + 1)) yn24 rfl rfl rfl (by decide) d_MenuScreensModel_addPart_284 (fun h H locs X M => ?_)
                      refine lv_iconst (v := 1) hx hb d_MenuScreensModel_addPart_287 (by decide) ?_
                      exact mq_iret hQ C X hr rfl hlk (⟨(upd (upd (upd (upd x 7 (nI (nT (A 6) e0 (nT4 (A 6) e0 i0)))) 9 (nI (nF (A 6) e0 (nT4 (A 6) e0 i0)))) 10 (nI (nT (A 6) e0 (nT4 (A 6) e0 i0)))) 28 ((x 28) + 1)), yn24, (va_up (va_up (va_up (va_up (va_up (va_up (va_up A 31 (upd (A 31) np ((vNu (A 6) e0 i0).toInt32))) 32 (upd (A 32) np ((vNu (A 6) e0 (nT (A 6) e0 i0)).toInt32))) 34 (upd (A 34) np ((vNu (A 6) e0 (nT2 (A 6) e0 i0)).toInt32))) 33 (upd (A 33) np (nI (fV A nv (nF (A 6) e0 (nT3 (A 6) e0 i0)) (nT4 (A 6) e0 i0))))) 30 (upd (A 30) np p1)) 29 (upd (A 29) np (x 20))) 41 (pq (A 40) (A 41) (x 20) (x 28) nc)), B, M, (fun k q7 q9 q10 q28 => by simp [upd, q7, q9, q10, q28]), (fun k q11 => by rw [kyn24 k q11, kyn5 k q11, kyn2 k q11]), Or.inl ⟨by unfold okPa; rw [if_pos c7]; rw [a1, a2, a3, a4, decide_eq_true a5, a6]; rfl, rfl, enp, by unfold paA; rw [if_pos c7], rfl⟩⟩) (Nat.le_refl _) (Nat.le_refl _) d_MenuScreensModel_addPart_288
                    · skip
                      have hlt : k < nc := by
                        rcases Nat.lt_or_ge k nc with q | q
                        · exact q
                        · exact absurd (by rw [hnc, ei]; exact nI_le q (by omega)) c32
                      refine lv_aload_n hx hb d_MenuScreensModel_addPart_239 rfl (lv_at hl 0 rfl) ?_
                      refine mm_get C X M 40 f_12_90_13 (.ref (ar 40)) rfl d_MenuScreensModel_addPart_240 ?_
                      refine lv_iload_n hx hb d_MenuScreensModel_addPart_243 rfl (lv_at hl 2 rfl) ?_
                      refine mm_iald C X M 40 512 rfl (A 40) rfl (by decide) k ei (by omega) d_MenuScreensModel_addPart_244 ?_
                      refine lv_aload_n hx hb d_MenuScreensModel_addPart_245 rfl (lv_at hl 0 rfl) ?_
                      refine mm_get C X M 20 f_12_169_13 (.int (x 20)) rfl d_MenuScreensModel_addPart_246 ?_
                      refine lv_icmp_ne (tgt := 271) hx hb d_MenuScreensModel_addPart_249 (by decide) (fun c33 => ?_) (fun c33 => ?_)
                      · skip
                        refine lv_iinc (v := (i + 1)) (lv' := [(2, .int (i + 1)), (0, .ref a), (1, .int p1)]) hx hb d_MenuScreensModel_addPart_271 hl (k := 2) rfl rfl (by decide) rfl (fun ls hl => ?_)
                        refine lv_goto (tgt := 231) hx hb d_MenuScreensModel_addPart_274 (by decide) ?_
                        have epq : (pq (A 40) (A 41) (x 20) (x 28) (k + 1)) = (pq (A 40) (A 41) (x 20) (x 28) k) := if_neg (fun z => c33 z.1)
                        rw [← epq] at M
                        exact ih_lp (k + 1) (i + 1) ls _ _ _ (by rw [ei]; exact nI_1 k) (by omega) (by omega) X M (lv_sub hl [1, 2, 0] rfl)
                      · skip
                        refine lv_aload_n hx hb d_MenuScreensModel_addPart_252 rfl (lv_at hl 0 rfl) ?_
                        refine mm_get C X M 41 f_12_93_13 (.ref (ar 41)) rfl d_MenuScreensModel_addPart_253 ?_
                        refine lv_iload_n hx hb d_MenuScreensModel_addPart_256 rfl (lv_at hl 2 rfl) ?_
                        refine mm_iald C X M 41 512 rfl (pq (A 40) (A 41) (x 20) (x 28) k) rfl (by decide) k ei (by omega) d_MenuScreensModel_addPart_257 ?_
                        refine lv_if_ge (tgt := 271) hx hb d_MenuScreensModel_addPart_258 (by decide) (fun c34 => ?_) (fun c34 => ?_)
                        · skip
                          refine lv_iinc (v := (i + 1)) (lv' := [(2, .int (i + 1)), (0, .ref a), (1, .int p1)]) hx hb d_MenuScreensModel_addPart_271 hl (k := 2) rfl rfl (by decide) rfl (fun ls hl => ?_)
                          refine lv_goto (tgt := 231) hx hb d_MenuScreensModel_addPart_274 (by decide) ?_
                          have epq : (pq (A 40) (A 41) (x 20) (x 28) (k + 1)) = (pq (A 40) (A 41) (x 20) (x 28) k) := if_neg (fun z => absurd z.2 (Int32.not_lt.mpr c34))
                          rw [← epq] at M
                          exact ih_lp (k + 1) (i + 1) ls _ _ _ (by rw [ei]; exact nI_1 k) (by omega) (by omega) X M (lv_sub hl [1, 2, 0] rfl)
                        · skip
                          refine lv_aload_n hx hb d_MenuScreensModel_addPart_261 rfl (lv_at hl 0 rfl) ?_
                          refine mm_get C X M 41 f_12_93_13 (.ref (ar 41)) rfl d_MenuScreensModel_addPart_262 ?_
                          refine lv_iload_n hx hb d_MenuScreensModel_addPart_265 rfl (lv_at hl 2 rfl) ?_
                          refine lv_aload_n hx hb d_MenuScreensModel_addPart_266 rfl (lv_at hl 0 rfl) ?_
                          refine mm_get C X M 28 f_12_222_13 (.int (x 28)) rfl d_MenuScreensModel_addPart_267 ?_
                          refine mm_iast C X M 41 512 rfl (pq (A 40) (A 41) (x 20) (x 28) k) rfl (fun _ => rfl) (by decide) k ei (by omega) d_MenuScreensModel_addPart_270 (fun h H locs X M => ?_)
                          rw [bx_uu] at M
                          refine lv_iinc (v := (i + 1)) (lv' := [(2, .int (i + 1)), (0, .ref a), (1, .int p1)]) hx hb d_MenuScreensModel_addPart_271 hl (k := 2) rfl rfl (by decide) rfl (fun ls hl => ?_)
                          refine lv_goto (tgt := 231) hx hb d_MenuScreensModel_addPart_274 (by decide) ?_
                          have epq : (pq (A 40) (A 41) (x 20) (x 28) (k + 1)) = (upd (pq (A 40) (A 41) (x 20) (x 28) k) k (x 28)) := if_pos ⟨c33, Int32.not_le.mp c34⟩
                          rw [← epq] at M
                          exact ih_lp (k + 1) (i + 1) ls _ _ _ (by rw [ei]; exact nI_1 k) (by omega) (by omega) X M (lv_sub hl [1, 2, 0] rfl)
                exact lp (nc - 0 + 1) 0 0 ls _ _ _ rfl (by omega) (Nat.lt_succ_self _) X M (lv_sub hl [1, 2, 0] rfl)
              · skip
                refine lv_iconst (v := 0) hx hb d_MenuScreensModel_addPart_204 (by decide) ?_
                exact mq_iret hQ C X hr rfl hlk (⟨(upd (upd (upd x 7 (nI (nT (A 6) e0 (nT4 (A 6) e0 i0)))) 9 (nI (nF (A 6) e0 (nT4 (A 6) e0 i0)))) 10 (nI (nT (A 6) e0 (nT4 (A 6) e0 i0)))), yn24, (va_up (va_up (va_up (va_up A 31 (upd (A 31) np ((vNu (A 6) e0 i0).toInt32))) 32 (upd (A 32) np ((vNu (A 6) e0 (nT (A 6) e0 i0)).toInt32))) 34 (upd (A 34) np ((vNu (A 6) e0 (nT2 (A 6) e0 i0)).toInt32))) 33 (upd (A 33) np (nI (fV A nv (nF (A 6) e0 (nT3 (A 6) e0 i0)) (nT4 (A 6) e0 i0))))), B, M, (fun k q7 q9 q10 q28 => by simp [upd, q7, q9, q10, q28]), (fun k q11 => by rw [kyn24 k q11, kyn5 k q11, kyn2 k q11]), Or.inr ⟨by unfold okPa; rw [if_pos c7]; rw [show cEnd (A 6) e0 (nT4 (A 6) e0 i0) = false from bI_0 (er30.symm.trans c31)]; simp, rfl, ⟨fun k q => by rcases q with rfl | rfl | rfl | rfl | rfl <;> rfl, rfl⟩⟩⟩) (Nat.le_refl _) (Nat.le_refl _) d_MenuScreensModel_addPart_205
            · skip
              refine lv_iconst (v := 0) hx hb d_MenuScreensModel_addPart_120 (by decide) ?_
              exact mq_iret hQ C X hr rfl hlk (⟨(upd (upd (upd x 7 (nI (nT4 (A 6) e0 i0))) 9 (nI (nF (A 6) e0 (nT3 (A 6) e0 i0)))) 10 (nI (nT4 (A 6) e0 i0))), yn24, (va_up (va_up (va_up (va_up A 31 (upd (A 31) np ((vNu (A 6) e0 i0).toInt32))) 32 (upd (A 32) np ((vNu (A 6) e0 (nT (A 6) e0 i0)).toInt32))) 34 (upd (A 34) np ((vNu (A 6) e0 (nT2 (A 6) e0 i0)).toInt32))) 33 (upd (A 33) np (nI (fV A nv (nF (A 6) e0 (nT3 (A 6) e0 i0)) (nT4 (A 6) e0 i0))))), B, M, (fun k q7 q9 q10 q28 => by simp [upd, q7, q9, q10, q28]), (fun k q11 => by rw [kyn24 k q11, kyn5 k q11, kyn2 k q11]), Or.inr ⟨by unfold okPa; rw [if_pos c7]; rw [decide_eq_false (p := fV A nv (nF (A 6) e0 (nT3 (A 6) e0 i0)) (nT4 (A 6) e0 i0) ≠ 0) (fun z => z (nI_eqI (by omega) (by decide) (by have := c29; rw [nI_0]; simpa [upd] using this)))]; simp, rfl, ⟨fun k q => by rcases q with rfl | rfl | rfl | rfl | rfl <;> rfl, rfl⟩⟩⟩) (Nat.le_refl _) (Nat.le_refl _) d_MenuScreensModel_addPart_121
          · skip
            refine lv_iconst (v := 0) hx hb d_MenuScreensModel_addPart_93 (by decide) ?_
            exact mq_iret hQ C X hr rfl hlk (⟨(upd (upd (upd x 7 (nI (nT4 (A 6) e0 i0))) 9 (nI (nF (A 6) e0 (nT3 (A 6) e0 i0)))) 10 (nI (nT4 (A 6) e0 i0))), yn24, (va_up (va_up (va_up A 31 (upd (A 31) np ((vNu (A 6) e0 i0).toInt32))) 32 (upd (A 32) np ((vNu (A 6) e0 (nT (A 6) e0 i0)).toInt32))) 34 (upd (A 34) np ((vNu (A 6) e0 (nT2 (A 6) e0 i0)).toInt32))), B, M, (fun k q7 q9 q10 q28 => by simp [upd, q7, q9, q10, q28]), (fun k q11 => by rw [kyn24 k q11, kyn5 k q11, kyn2 k q11]), Or.inr ⟨by unfold okPa; rw [if_pos c7]; rw [show cNm (A 6) e0 (nT3 (A 6) e0 i0) = false from bI_0 (er26.symm.trans c27)]; simp, rfl, ⟨fun k q => by rcases q with rfl | rfl | rfl | rfl | rfl <;> rfl, rfl⟩⟩⟩) (Nat.le_refl _) (Nat.le_refl _) d_MenuScreensModel_addPart_94
        · skip
          refine lv_iconst (v := 0) hx hb d_MenuScreensModel_addPart_70 (by decide) ?_
          exact mq_iret hQ C X hr rfl hlk (⟨(upd (upd (upd x 7 (nI (nT3 (A 6) e0 i0))) 9 (nI (nF (A 6) e0 (nT2 (A 6) e0 i0)))) 10 (nI (nT3 (A 6) e0 i0))), yn24, (va_up (va_up A 31 (upd (A 31) np ((vNu (A 6) e0 i0).toInt32))) 32 (upd (A 32) np ((vNu (A 6) e0 (nT (A 6) e0 i0)).toInt32))), B, M, (fun k q7 q9 q10 q28 => by simp [upd, q7, q9, q10, q28]), (fun k q11 => by rw [kyn24 k q11, kyn5 k q11, kyn2 k q11]), Or.inr ⟨by unfold okPa; rw [if_pos c7]; rw [show cNu (A 6) e0 (nT2 (A 6) e0 i0) 1 9 = false from bI_0 (er23.symm.trans c25)]; simp, rfl, ⟨fun k q => by rcases q with rfl | rfl | rfl | rfl | rfl <;> rfl, rfl⟩⟩⟩) (Nat.le_refl _) (Nat.le_refl _) d_MenuScreensModel_addPart_71
    · skip
      refine lv_iconst (v := 0) hx hb d_MenuScreensModel_addPart_38 (by decide) ?_
      exact mq_iret hQ C X hr rfl hlk (⟨(upd (upd (upd x 7 (nI (nT2 (A 6) e0 i0))) 9 (nI (nF (A 6) e0 (nT (A 6) e0 i0)))) 10 (nI (nT2 (A 6) e0 i0))), yn5, (va_up A 31 (upd (A 31) np ((vNu (A 6) e0 i0).toInt32))), B, M, (fun k q7 q9 q10 q28 => by simp [upd, q7, q9, q10, q28]), (fun k q11 => by rw [kyn5 k q11, kyn2 k q11]), Or.inr ⟨by unfold okPa; rw [show cNu (A 6) e0 (nT (A 6) e0 i0) 0 999999 = false from bI_0 (er4.symm.trans c6)]; simp, rfl, ⟨fun k q => by rcases q with rfl | rfl | rfl | rfl | rfl <;> rfl, rfl⟩⟩⟩) (Nat.le_refl _) (Nat.le_refl _) d_MenuScreensModel_addPart_39
  · skip
    refine lv_iconst (v := 0) hx hb d_MenuScreensModel_addPart_11 (by decide) ?_
    exact mq_iret hQ C X hr rfl hlk (⟨(upd (upd (upd x 7 (nI (nT (A 6) e0 i0))) 9 (nI (nF (A 6) e0 i0))) 10 (nI (nT (A 6) e0 i0))), yn2, A, B, M, (fun k q7 q9 q10 q28 => by simp [upd, q7, q9, q10, q28]), (fun k q11 => by rw [kyn2 k q11]), Or.inr ⟨by unfold okPa; rw [show cNu (A 6) e0 i0 0 999999 = false from bI_0 (er1.symm.trans c3)]; rfl, rfl, ⟨fun k q => by rcases q with rfl | rfl | rfl | rfl | rfl <;> rfl, rfl⟩⟩⟩) (Nat.le_refl _) (Nat.le_refl _) d_MenuScreensModel_addPart_12
end
