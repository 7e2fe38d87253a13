/-! SITES, by program: what each pool number of each class stands for -/
theorem f_0_9_3 : vFl GT vcl "MenuScreens" 9 3 0 := ⟨R3, T3, 13, "MenuScreens", rfl, by decide, in3, gt_1 184 (by decide +kernel) rfl, Or.inl rfl⟩
theorem p_0_9_3 : vFp GT vcl "MenuScreens" 9 3 0 (.int) true := ⟨R3, T3, 13, "MenuScreens", ty3, rfl, by decide, in3, gt_1 184 (by decide +kernel) rfl, Or.inl rfl, tyok3, nm3, by decide +kernel, rfl, fun _ => rfl⟩
theorem f_0_13_3 : vFl GT vcl "MenuScreens" 13 3 1 := ⟨R3, T3, 13, "MenuScreens", rfl, by decide, in3, gt_1 185 (by decide +kernel) rfl, Or.inl rfl⟩
theorem p_0_13_3 : vFp GT vcl "MenuScreens" 13 3 1 (.int) true := ⟨R3, T3, 13, "MenuScreens", ty3, rfl, by decide, in3, gt_1 185 (by decide +kernel) rfl, Or.inl rfl, tyok3, nm3, by decide +kernel, rfl, fun _ => rfl⟩
theorem f_0_19_3 : vFl GT vcl "MenuScreens" 19 3 2 := ⟨R3, T3, 13, "MenuScreens", rfl, by decide, in3, gt_1 186 (by decide +kernel) rfl, Or.inl rfl⟩
theorem p_0_19_3 : vFp GT vcl "MenuScreens" 19 3 2 (.object "java/lang/StringBuilder") true := ⟨R3, T3, 13, "MenuScreens", ty3, rfl, by decide, in3, gt_1 186 (by decide +kernel) rfl, Or.inl rfl, tyok3, nm3, by decide +kernel, rfl, fun _ => rfl⟩
theorem f_0_26_3 : vFl GT vcl "MenuScreens" 26 3 3 := ⟨R3, T3, 13, "MenuScreens", rfl, by decide, in3, gt_1 187 (by decide +kernel) rfl, Or.inl rfl⟩
theorem p_0_26_3 : vFp GT vcl "MenuScreens" 26 3 3 (.object "MenuScreens$Reader") true := ⟨R3, T3, 13, "MenuScreens", ty3, rfl, by decide, in3, gt_1 187 (by decide +kernel) rfl, Or.inl rfl, tyok3, nm3, by decide +kernel, rfl, fun _ => rfl⟩
theorem f_0_30_5 : vFl GT vcl "MenuScreens" 30 5 0 := ⟨R5, T5, 4, "MenuScreens$Reader", rfl, by decide, in5, gt_1 145 (by decide +kernel) rfl, Or.inl rfl⟩
theorem f_0_34_3 : vFl GT vcl "MenuScreens" 34 3 4 := ⟨R3, T3, 13, "MenuScreens", rfl, by decide, in3, gt_1 188 (by decide +kernel) rfl, Or.inl rfl⟩
theorem p_0_34_3 : vFp GT vcl "MenuScreens" 34 3 4 (.object "MenuScreens$Plan") true := ⟨R3, T3, 13, "MenuScreens", ty3, rfl, by decide, in3, gt_1 188 (by decide +kernel) rfl, Or.inl rfl, tyok3, nm3, by decide +kernel, rfl, fun _ => rfl⟩
theorem f_0_38_3 : vFl GT vcl "MenuScreens" 38 3 5 := ⟨R3, T3, 13, "MenuScreens", rfl, by decide, in3, gt_1 189 (by decide +kernel) rfl, Or.inl rfl⟩
theorem p_0_38_3 : vFp GT vcl "MenuScreens" 38 3 5 (.object "MenuScreens$Warnings") true := ⟨R3, T3, 13, "MenuScreens", ty3, rfl, by decide, in3, gt_1 189 (by decide +kernel) rfl, Or.inl rfl, tyok3, nm3, by decide +kernel, rfl, fun _ => rfl⟩
theorem f_0_79_4 : vFl GT vcl "MenuScreens" 79 4 1 := ⟨R4, T4, 4, "MenuScreens$Plan", rfl, by decide, in4, gt_1 110 (by decide +kernel) rfl, Or.inl rfl⟩
theorem f_0_88_3 : vFl GT vcl "MenuScreens" 88 3 6 := ⟨R3, T3, 13, "MenuScreens", rfl, by decide, in3, gt_1 190 (by decide +kernel) rfl, Or.inl rfl⟩
theorem p_0_88_3 : vFp GT vcl "MenuScreens" 88 3 6 (.int) false := ⟨R3, T3, 13, "MenuScreens", ty3, rfl, by decide, in3, gt_1 190 (by decide +kernel) rfl, Or.inl rfl, tyok3, nm3, by decide +kernel, rfl, fun h => by cases h⟩
theorem f_0_99_8 : vFl GT vcl "MenuScreens" 99 8 1 := ⟨R8, T8, 6, "MenuScreens$Value", rfl, by decide, in8, gt_3 73 (by decide +kernel) rfl, Or.inl rfl⟩
theorem p_0_105_8 : vFp GT vcl "MenuScreens" 105 8 4 (.long) false := ⟨R8, T8, 6, "MenuScreens$Value", ty8, rfl, by decide, in8, gt_3 81 (by decide +kernel) rfl, Or.inl rfl, tyok8, nm8, by decide +kernel, rfl, fun h => by cases h⟩
theorem p_0_109_8 : vFp GT vcl "MenuScreens" 109 8 5 (.boolean) false := ⟨R8, T8, 6, "MenuScreens$Value", ty8, rfl, by decide, in8, gt_3 85 (by decide +kernel) rfl, Or.inl rfl, tyok8, nm8, by decide +kernel, rfl, fun h => by cases h⟩
theorem f_0_122_3 : vFl GT vcl "MenuScreens" 122 3 7 := ⟨R3, T3, 13, "MenuScreens", rfl, by decide, in3, gt_1 191 (by decide +kernel) rfl, Or.inl rfl⟩
theorem p_0_122_3 : vFp GT vcl "MenuScreens" 122 3 7 (.int) false := ⟨R3, T3, 13, "MenuScreens", ty3, rfl, by decide, in3, gt_1 191 (by decide +kernel) rfl, Or.inl rfl, tyok3, nm3, by decide +kernel, rfl, fun h => by cases h⟩
theorem f_0_132_3 : vFl GT vcl "MenuScreens" 132 3 8 := ⟨R3, T3, 13, "MenuScreens", rfl, by decide, in3, gt_1 192 (by decide +kernel) rfl, Or.inl rfl⟩
theorem p_0_132_3 : vFp GT vcl "MenuScreens" 132 3 8 (.int) false := ⟨R3, T3, 13, "MenuScreens", ty3, rfl, by decide, in3, gt_1 192 (by decide +kernel) rfl, Or.inl rfl, tyok3, nm3, by decide +kernel, rfl, fun h => by cases h⟩
theorem f_0_150_3 : vFl GT vcl "MenuScreens" 150 3 11 := ⟨R3, T3, 13, "MenuScreens", rfl, by decide, in3, gt_1 195 (by decide +kernel) rfl, Or.inl rfl⟩
theorem p_0_150_3 : vFp GT vcl "MenuScreens" 150 3 11 (.long) false := ⟨R3, T3, 13, "MenuScreens", ty3, rfl, by decide, in3, gt_1 195 (by decide +kernel) rfl, Or.inl rfl, tyok3, nm3, by decide +kernel, rfl, fun h => by cases h⟩
theorem f_0_153_3 : vFl GT vcl "MenuScreens" 153 3 12 := ⟨R3, T3, 13, "MenuScreens", rfl, by decide, in3, gt_1 196 (by decide +kernel) rfl, Or.inl rfl⟩
theorem p_0_153_3 : vFp GT vcl "MenuScreens" 153 3 12 (.long) false := ⟨R3, T3, 13, "MenuScreens", ty3, rfl, by decide, in3, gt_1 196 (by decide +kernel) rfl, Or.inl rfl, tyok3, nm3, by decide +kernel, rfl, fun h => by cases h⟩
theorem f_0_156_3 : vFl GT vcl "MenuScreens" 156 3 10 := ⟨R3, T3, 13, "MenuScreens", rfl, by decide, in3, gt_1 194 (by decide +kernel) rfl, Or.inl rfl⟩
theorem p_0_156_3 : vFp GT vcl "MenuScreens" 156 3 10 (.int) false := ⟨R3, T3, 13, "MenuScreens", ty3, rfl, by decide, in3, gt_1 194 (by decide +kernel) rfl, Or.inl rfl, tyok3, nm3, by decide +kernel, rfl, fun h => by cases h⟩
theorem f_0_172_8 : vFl GT vcl "MenuScreens" 172 8 2 := ⟨R8, T8, 6, "MenuScreens$Value", rfl, by decide, in8, gt_3 75 (by decide +kernel) rfl, Or.inl rfl⟩
theorem f_0_175_8 : vFl GT vcl "MenuScreens" 175 8 3 := ⟨R8, T8, 6, "MenuScreens$Value", rfl, by decide, in8, gt_3 77 (by decide +kernel) rfl, Or.inl rfl⟩
theorem f_0_178_3 : vFl GT vcl "MenuScreens" 178 3 9 := ⟨R3, T3, 13, "MenuScreens", rfl, by decide, in3, gt_1 193 (by decide +kernel) rfl, Or.inl rfl⟩
theorem p_0_178_3 : vFp GT vcl "MenuScreens" 178 3 9 (.int) false := ⟨R3, T3, 13, "MenuScreens", ty3, rfl, by decide, in3, gt_1 193 (by decide +kernel) rfl, Or.inl rfl, tyok3, nm3, by decide +kernel, rfl, fun h => by cases h⟩
theorem f_1_7_12 : vFl GT vcl "MenuScreens$Condition" 7 12 0 := ⟨R12, T12, 4, "MenuScreens$Condition", rfl, by decide, in12, gt_4 49 (by decide +kernel) rfl, Or.inl rfl⟩
theorem p_1_7_12 : vFp GT vcl "MenuScreens$Condition" 7 12 0 (.object "MenuScreens$Value") true := ⟨R12, T12, 4, "MenuScreens$Condition", ty12, rfl, by decide, in12, gt_4 49 (by decide +kernel) rfl, Or.inl rfl, tyok12, nm12, by decide +kernel, rfl, fun _ => rfl⟩
theorem f_1_13_12 : vFl GT vcl "MenuScreens$Condition" 13 12 1 := ⟨R12, T12, 4, "MenuScreens$Condition", rfl, by decide, in12, gt_4 50 (by decide +kernel) rfl, Or.inl rfl⟩
theorem p_1_13_12 : vFp GT vcl "MenuScreens$Condition" 13 12 1 (.char) true := ⟨R12, T12, 4, "MenuScreens$Condition", ty12, rfl, by decide, in12, gt_4 50 (by decide +kernel) rfl, Or.inl rfl, tyok12, nm12, by decide +kernel, rfl, fun _ => rfl⟩
theorem f_1_17_12 : vFl GT vcl "MenuScreens$Condition" 17 12 2 := ⟨R12, T12, 4, "MenuScreens$Condition", rfl, by decide, in12, gt_4 51 (by decide +kernel) rfl, Or.inl rfl⟩
theorem p_1_17_12 : vFp GT vcl "MenuScreens$Condition" 17 12 2 (.int) true := ⟨R12, T12, 4, "MenuScreens$Condition", ty12, rfl, by decide, in12, gt_4 51 (by decide +kernel) rfl, Or.inl rfl, tyok12, nm12, by decide +kernel, rfl, fun _ => rfl⟩
theorem p_1_21_12 : vFp GT vcl "MenuScreens$Condition" 21 12 3 (.object "MenuScreens$Condition") true := ⟨R12, T12, 4, "MenuScreens$Condition", ty12, rfl, by decide, in12, gt_4 52 (by decide +kernel) rfl, Or.inl rfl, tyok12, nm12, by decide +kernel, rfl, fun _ => rfl⟩
theorem f_1_25_8 : vFl GT vcl "MenuScreens$Condition" 25 8 5 := ⟨R8, T8, 6, "MenuScreens$Value", rfl, by decide, in8, gt_3 82 (by decide +kernel) rfl, Or.inl rfl⟩
theorem f_1_31_8 : vFl GT vcl "MenuScreens$Condition" 31 8 4 := ⟨R8, T8, 6, "MenuScreens$Value", rfl, by decide, in8, gt_3 78 (by decide +kernel) rfl, Or.inl rfl⟩
theorem f_2_11_6 : vFl GT vcl "MenuScreens$Line" 11 6 0 := ⟨R6, T6, 4, "MenuScreens$Line", rfl, by decide, in6, gt_1 131 (by decide +kernel) rfl, Or.inl rfl⟩
theorem p_2_11_6 : vFp GT vcl "MenuScreens$Line" 11 6 0 (.array .int) true := ⟨R6, T6, 4, "MenuScreens$Line", ty6, rfl, by decide, in6, gt_1 131 (by decide +kernel) rfl, Or.inl rfl, tyok6, nm6, by decide +kernel, rfl, fun _ => rfl⟩
theorem f_2_15_6 : vFl GT vcl "MenuScreens$Line" 15 6 1 := ⟨R6, T6, 4, "MenuScreens$Line", rfl, by decide, in6, gt_1 132 (by decide +kernel) rfl, Or.inl rfl⟩
theorem p_2_15_6 : vFp GT vcl "MenuScreens$Line" 15 6 1 (.array .int) true := ⟨R6, T6, 4, "MenuScreens$Line", ty6, rfl, by decide, in6, gt_1 132 (by decide +kernel) rfl, Or.inl rfl, tyok6, nm6, by decide +kernel, rfl, fun _ => rfl⟩
theorem f_2_20_6 : vFl GT vcl "MenuScreens$Line" 20 6 2 := ⟨R6, T6, 4, "MenuScreens$Line", rfl, by decide, in6, gt_1 133 (by decide +kernel) rfl, Or.inl rfl⟩
theorem p_2_20_6 : vFp GT vcl "MenuScreens$Line" 20 6 2 (.object "java/lang/String") false := ⟨R6, T6, 4, "MenuScreens$Line", ty6, rfl, by decide, in6, gt_1 133 (by decide +kernel) rfl, Or.inl rfl, tyok6, nm6, by decide +kernel, rfl, fun h => by cases h⟩
theorem f_2_24_6 : vFl GT vcl "MenuScreens$Line" 24 6 3 := ⟨R6, T6, 4, "MenuScreens$Line", rfl, by decide, in6, gt_1 134 (by decide +kernel) rfl, Or.inl rfl⟩
theorem p_2_24_6 : vFp GT vcl "MenuScreens$Line" 24 6 3 (.int) false := ⟨R6, T6, 4, "MenuScreens$Line", ty6, rfl, by decide, in6, gt_1 134 (by decide +kernel) rfl, Or.inl rfl, tyok6, nm6, by decide +kernel, rfl, fun h => by cases h⟩
theorem p_3_7_10 : vFp GT vcl "MenuScreens$Piece" 7 10 2 (.int) true := ⟨R10, T10, 5, "MenuScreens$Piece", ty10, rfl, by decide, in10, gt_3 226 (by decide +kernel) rfl, Or.inl rfl, tyok10, nm10, by decide +kernel, rfl, fun _ => rfl⟩
theorem p_3_7_11 : vFp GT vcl "MenuScreens$Piece" 7 11 2 (.int) true := ⟨R11, T11, 5, "MenuScreens$Piece", ty11, rfl, by decide, in11, gt_3 226 (by decide +kernel) rfl, Or.inl rfl, tyok11, nm11, by decide +kernel, rfl, fun _ => rfl⟩
theorem p_3_13_10 : vFp GT vcl "MenuScreens$Piece" 13 10 3 (.int) true := ⟨R10, T10, 5, "MenuScreens$Piece", ty10, rfl, by decide, in10, gt_3 229 (by decide +kernel) rfl, Or.inl rfl, tyok10, nm10, by decide +kernel, rfl, fun _ => rfl⟩
theorem p_3_13_11 : vFp GT vcl "MenuScreens$Piece" 13 11 3 (.int) true := ⟨R11, T11, 5, "MenuScreens$Piece", ty11, rfl, by decide, in11, gt_3 229 (by decide +kernel) rfl, Or.inl rfl, tyok11, nm11, by decide +kernel, rfl, fun _ => rfl⟩
theorem f_3_16_10 : vFl GT vcl "MenuScreens$Piece" 16 10 4 := ⟨R10, T10, 5, "MenuScreens$Piece", rfl, by decide, in10, gt_3 232 (by decide +kernel) rfl, Or.inl rfl⟩
theorem p_3_16_10 : vFp GT vcl "MenuScreens$Piece" 16 10 4 (.object "MenuScreens$Condition") true := ⟨R10, T10, 5, "MenuScreens$Piece", ty10, rfl, by decide, in10, gt_3 232 (by decide +kernel) rfl, Or.inl rfl, tyok10, nm10, by decide +kernel, rfl, fun _ => rfl⟩
theorem f_3_16_11 : vFl GT vcl "MenuScreens$Piece" 16 11 4 := ⟨R11, T11, 5, "MenuScreens$Piece", rfl, by decide, in11, gt_3 232 (by decide +kernel) rfl, Or.inl rfl⟩
theorem p_3_16_11 : vFp GT vcl "MenuScreens$Piece" 16 11 4 (.object "MenuScreens$Condition") true := ⟨R11, T11, 5, "MenuScreens$Piece", ty11, rfl, by decide, in11, gt_3 232 (by decide +kernel) rfl, Or.inl rfl, tyok11, nm11, by decide +kernel, rfl, fun _ => rfl⟩
theorem f_3_26_12 : vFl GT vcl "MenuScreens$Piece" 26 12 3 := ⟨R12, T12, 4, "MenuScreens$Condition", rfl, by decide, in12, gt_4 53 (by decide +kernel) rfl, Or.inl rfl⟩
theorem f_4_12_4 : vFl GT vcl "MenuScreens$Plan" 12 4 0 := ⟨R4, T4, 4, "MenuScreens$Plan", rfl, by decide, in4, gt_1 107 (by decide +kernel) rfl, Or.inl rfl⟩
theorem p_4_12_4 : vFp GT vcl "MenuScreens$Plan" 12 4 0 (.object "java/util/ArrayList") true := ⟨R4, T4, 4, "MenuScreens$Plan", ty4, rfl, by decide, in4, gt_1 107 (by decide +kernel) rfl, Or.inl rfl, tyok4, nm4, by decide +kernel, rfl, fun _ => rfl⟩
theorem f_4_18_4 : vFl GT vcl "MenuScreens$Plan" 18 4 1 := ⟨R4, T4, 4, "MenuScreens$Plan", rfl, by decide, in4, gt_1 109 (by decide +kernel) rfl, Or.inl rfl⟩
theorem p_4_18_4 : vFp GT vcl "MenuScreens$Plan" 18 4 1 (.object "java/util/ArrayList") true := ⟨R4, T4, 4, "MenuScreens$Plan", ty4, rfl, by decide, in4, gt_1 109 (by decide +kernel) rfl, Or.inl rfl, tyok4, nm4, by decide +kernel, rfl, fun _ => rfl⟩
theorem f_4_21_4 : vFl GT vcl "MenuScreens$Plan" 21 4 2 := ⟨R4, T4, 4, "MenuScreens$Plan", rfl, by decide, in4, gt_1 112 (by decide +kernel) rfl, Or.inl rfl⟩
theorem p_4_21_4 : vFp GT vcl "MenuScreens$Plan" 21 4 2 (.array .int) true := ⟨R4, T4, 4, "MenuScreens$Plan", ty4, rfl, by decide, in4, gt_1 112 (by decide +kernel) rfl, Or.inl rfl, tyok4, nm4, by decide +kernel, rfl, fun _ => rfl⟩
theorem f_4_28_4 : vFl GT vcl "MenuScreens$Plan" 28 4 3 := ⟨R4, T4, 4, "MenuScreens$Plan", rfl, by decide, in4, gt_1 113 (by decide +kernel) rfl, Or.inl rfl⟩
theorem p_4_28_4 : vFp GT vcl "MenuScreens$Plan" 28 4 3 (.int) false := ⟨R4, T4, 4, "MenuScreens$Plan", ty4, rfl, by decide, in4, gt_1 113 (by decide +kernel) rfl, Or.inl rfl, tyok4, nm4, by decide +kernel, rfl, fun h => by cases h⟩
theorem f_4_45_8 : vFl GT vcl "MenuScreens$Plan" 45 8 0 := ⟨R8, T8, 6, "MenuScreens$Value", rfl, by decide, in8, gt_3 71 (by decide +kernel) rfl, Or.inl rfl⟩
theorem f_4_51_9 : vFl GT vcl "MenuScreens$Plan" 51 9 0 := ⟨R9, T9, 7, "MenuScreens$Screen", rfl, by decide, in9, gt_3 178 (by decide +kernel) rfl, Or.inl rfl⟩
theorem f_4_52_9 : vFl GT vcl "MenuScreens$Plan" 52 9 3 := ⟨R9, T9, 7, "MenuScreens$Screen", rfl, by decide, in9, gt_3 184 (by decide +kernel) rfl, Or.inl rfl⟩
theorem f_4_56_9 : vFl GT vcl "MenuScreens$Plan" 56 9 4 := ⟨R9, T9, 7, "MenuScreens$Screen", rfl, by decide, in9, gt_3 187 (by decide +kernel) rfl, Or.inl rfl⟩
theorem f_4_66_9 : vFl GT vcl "MenuScreens$Plan" 66 9 6 := ⟨R9, T9, 7, "MenuScreens$Screen", rfl, by decide, in9, gt_3 190 (by decide +kernel) rfl, Or.inl rfl⟩
theorem p_4_66_9 : vFp GT vcl "MenuScreens$Plan" 66 9 6 (.boolean) false := ⟨R9, T9, 7, "MenuScreens$Screen", ty9, rfl, by decide, in9, gt_3 190 (by decide +kernel) rfl, Or.inl rfl, tyok9, nm9, by decide +kernel, rfl, fun h => by cases h⟩
theorem f_4_86_9 : vFl GT vcl "MenuScreens$Plan" 86 9 1 := ⟨R9, T9, 7, "MenuScreens$Screen", rfl, by decide, in9, gt_3 180 (by decide +kernel) rfl, Or.inl rfl⟩
theorem f_5_12_5 : vFl GT vcl "MenuScreens$Reader" 12 5 0 := ⟨R5, T5, 4, "MenuScreens$Reader", rfl, by decide, in5, gt_1 144 (by decide +kernel) rfl, Or.inl rfl⟩
theorem p_5_12_5 : vFp GT vcl "MenuScreens$Reader" 12 5 0 (.object "MenuScreens$Plan") true := ⟨R5, T5, 4, "MenuScreens$Reader", ty5, rfl, by decide, in5, gt_1 144 (by decide +kernel) rfl, Or.inl rfl, tyok5, nm5, by decide +kernel, rfl, fun _ => rfl⟩
theorem f_5_21_5 : vFl GT vcl "MenuScreens$Reader" 21 5 1 := ⟨R5, T5, 4, "MenuScreens$Reader", rfl, by decide, in5, gt_1 146 (by decide +kernel) rfl, Or.inl rfl⟩
theorem p_5_21_5 : vFp GT vcl "MenuScreens$Reader" 21 5 1 (.object "MenuScreens$Line") true := ⟨R5, T5, 4, "MenuScreens$Reader", ty5, rfl, by decide, in5, gt_1 146 (by decide +kernel) rfl, Or.inl rfl, tyok5, nm5, by decide +kernel, rfl, fun _ => rfl⟩
theorem f_5_25_5 : vFl GT vcl "MenuScreens$Reader" 25 5 2 := ⟨R5, T5, 4, "MenuScreens$Reader", rfl, by decide, in5, gt_1 147 (by decide +kernel) rfl, Or.inl rfl⟩
theorem p_5_25_5 : vFp GT vcl "MenuScreens$Reader" 25 5 2 (.object "MenuScreens$Screen") false := ⟨R5, T5, 4, "MenuScreens$Reader", ty5, rfl, by decide, in5, gt_1 147 (by decide +kernel) rfl, Or.inl rfl, tyok5, nm5, by decide +kernel, rfl, fun h => by cases h⟩
theorem f_5_29_5 : vFl GT vcl "MenuScreens$Reader" 29 5 3 := ⟨R5, T5, 4, "MenuScreens$Reader", rfl, by decide, in5, gt_1 148 (by decide +kernel) rfl, Or.inl rfl⟩
theorem p_5_29_5 : vFp GT vcl "MenuScreens$Reader" 29 5 3 (.object "MenuScreens$Condition") false := ⟨R5, T5, 4, "MenuScreens$Reader", ty5, rfl, by decide, in5, gt_1 148 (by decide +kernel) rfl, Or.inl rfl, tyok5, nm5, by decide +kernel, rfl, fun h => by cases h⟩
theorem f_5_120_4 : vFl GT vcl "MenuScreens$Reader" 120 4 0 := ⟨R4, T4, 4, "MenuScreens$Plan", rfl, by decide, in4, gt_1 108 (by decide +kernel) rfl, Or.inl rfl⟩
theorem f_5_149_4 : vFl GT vcl "MenuScreens$Reader" 149 4 1 := ⟨R4, T4, 4, "MenuScreens$Plan", rfl, by decide, in4, gt_1 111 (by decide +kernel) rfl, Or.inl rfl⟩
theorem f_5_177_10 : vFl GT vcl "MenuScreens$Reader" 177 10 2 := ⟨R10, T10, 5, "MenuScreens$Piece", rfl, by decide, in10, gt_3 228 (by decide +kernel) rfl, Or.inl rfl⟩
theorem f_5_177_11 : vFl GT vcl "MenuScreens$Reader" 177 11 2 := ⟨R11, T11, 5, "MenuScreens$Piece", rfl, by decide, in11, gt_3 228 (by decide +kernel) rfl, Or.inl rfl⟩
theorem f_5_183_10 : vFl GT vcl "MenuScreens$Reader" 183 10 3 := ⟨R10, T10, 5, "MenuScreens$Piece", rfl, by decide, in10, gt_3 231 (by decide +kernel) rfl, Or.inl rfl⟩
theorem f_5_183_11 : vFl GT vcl "MenuScreens$Reader" 183 11 3 := ⟨R11, T11, 5, "MenuScreens$Piece", rfl, by decide, in11, gt_3 231 (by decide +kernel) rfl, Or.inl rfl⟩
theorem f_5_186_9 : vFl GT vcl "MenuScreens$Reader" 186 9 2 := ⟨R9, T9, 7, "MenuScreens$Screen", rfl, by decide, in9, gt_3 182 (by decide +kernel) rfl, Or.inl rfl⟩
theorem f_5_200_9 : vFl GT vcl "MenuScreens$Reader" 200 9 3 := ⟨R9, T9, 7, "MenuScreens$Screen", rfl, by decide, in9, gt_3 185 (by decide +kernel) rfl, Or.inl rfl⟩
theorem p_5_204_9 : vFp GT vcl "MenuScreens$Reader" 204 9 5 (.int) false := ⟨R9, T9, 7, "MenuScreens$Screen", ty9, rfl, by decide, in9, gt_3 189 (by decide +kernel) rfl, Or.inl rfl, tyok9, nm9, by decide +kernel, rfl, fun h => by cases h⟩
theorem f_6_12_9 : vFl GT vcl "MenuScreens$Screen" 12 9 2 := ⟨R9, T9, 7, "MenuScreens$Screen", rfl, by decide, in9, gt_3 181 (by decide +kernel) rfl, Or.inl rfl⟩
theorem p_6_12_9 : vFp GT vcl "MenuScreens$Screen" 12 9 2 (.object "java/util/ArrayList") true := ⟨R9, T9, 7, "MenuScreens$Screen", ty9, rfl, by decide, in9, gt_3 181 (by decide +kernel) rfl, Or.inl rfl, tyok9, nm9, by decide +kernel, rfl, fun _ => rfl⟩
theorem f_6_18_9 : vFl GT vcl "MenuScreens$Screen" 18 9 3 := ⟨R9, T9, 7, "MenuScreens$Screen", rfl, by decide, in9, gt_3 183 (by decide +kernel) rfl, Or.inl rfl⟩
theorem p_6_18_9 : vFp GT vcl "MenuScreens$Screen" 18 9 3 (.array .long) true := ⟨R9, T9, 7, "MenuScreens$Screen", ty9, rfl, by decide, in9, gt_3 183 (by decide +kernel) rfl, Or.inl rfl, tyok9, nm9, by decide +kernel, rfl, fun _ => rfl⟩
theorem f_6_22_9 : vFl GT vcl "MenuScreens$Screen" 22 9 4 := ⟨R9, T9, 7, "MenuScreens$Screen", rfl, by decide, in9, gt_3 186 (by decide +kernel) rfl, Or.inl rfl⟩
theorem p_6_22_9 : vFp GT vcl "MenuScreens$Screen" 22 9 4 (.array .int) true := ⟨R9, T9, 7, "MenuScreens$Screen", ty9, rfl, by decide, in9, gt_3 186 (by decide +kernel) rfl, Or.inl rfl, tyok9, nm9, by decide +kernel, rfl, fun _ => rfl⟩
theorem f_6_26_9 : vFl GT vcl "MenuScreens$Screen" 26 9 5 := ⟨R9, T9, 7, "MenuScreens$Screen", rfl, by decide, in9, gt_3 188 (by decide +kernel) rfl, Or.inl rfl⟩
theorem p_6_26_9 : vFp GT vcl "MenuScreens$Screen" 26 9 5 (.int) false := ⟨R9, T9, 7, "MenuScreens$Screen", ty9, rfl, by decide, in9, gt_3 188 (by decide +kernel) rfl, Or.inl rfl, tyok9, nm9, by decide +kernel, rfl, fun h => by cases h⟩
theorem p_6_30_9 : vFp GT vcl "MenuScreens$Screen" 30 9 0 (.long) true := ⟨R9, T9, 7, "MenuScreens$Screen", ty9, rfl, by decide, in9, gt_3 177 (by decide +kernel) rfl, Or.inl rfl, tyok9, nm9, by decide +kernel, rfl, fun _ => rfl⟩
theorem p_6_34_9 : vFp GT vcl "MenuScreens$Screen" 34 9 1 (.int) true := ⟨R9, T9, 7, "MenuScreens$Screen", ty9, rfl, by decide, in9, gt_3 179 (by decide +kernel) rfl, Or.inl rfl, tyok9, nm9, by decide +kernel, rfl, fun _ => rfl⟩
theorem f_6_47_10 : vFl GT vcl "MenuScreens$Screen" 47 10 2 := ⟨R10, T10, 5, "MenuScreens$Piece", rfl, by decide, in10, gt_3 227 (by decide +kernel) rfl, Or.inl rfl⟩
theorem f_6_47_11 : vFl GT vcl "MenuScreens$Screen" 47 11 2 := ⟨R11, T11, 5, "MenuScreens$Piece", rfl, by decide, in11, gt_3 227 (by decide +kernel) rfl, Or.inl rfl⟩
theorem f_6_50_10 : vFl GT vcl "MenuScreens$Screen" 50 10 3 := ⟨R10, T10, 5, "MenuScreens$Piece", rfl, by decide, in10, gt_3 230 (by decide +kernel) rfl, Or.inl rfl⟩
theorem f_6_50_11 : vFl GT vcl "MenuScreens$Screen" 50 11 3 := ⟨R11, T11, 5, "MenuScreens$Piece", rfl, by decide, in11, gt_3 230 (by decide +kernel) rfl, Or.inl rfl⟩
theorem p_7_9_8 : vFp GT vcl "MenuScreens$Value" 9 8 0 (.long) true := ⟨R8, T8, 6, "MenuScreens$Value", ty8, rfl, by decide, in8, gt_3 70 (by decide +kernel) rfl, Or.inl rfl, tyok8, nm8, by decide +kernel, rfl, fun _ => rfl⟩
theorem p_7_15_8 : vFp GT vcl "MenuScreens$Value" 15 8 1 (.boolean) true := ⟨R8, T8, 6, "MenuScreens$Value", ty8, rfl, by decide, in8, gt_3 72 (by decide +kernel) rfl, Or.inl rfl, tyok8, nm8, by decide +kernel, rfl, fun _ => rfl⟩
theorem p_7_21_8 : vFp GT vcl "MenuScreens$Value" 21 8 2 (.long) true := ⟨R8, T8, 6, "MenuScreens$Value", ty8, rfl, by decide, in8, gt_3 74 (by decide +kernel) rfl, Or.inl rfl, tyok8, nm8, by decide +kernel, rfl, fun _ => rfl⟩
theorem p_7_26_8 : vFp GT vcl "MenuScreens$Value" 26 8 3 (.long) true := ⟨R8, T8, 6, "MenuScreens$Value", ty8, rfl, by decide, in8, gt_3 76 (by decide +kernel) rfl, Or.inl rfl, tyok8, nm8, by decide +kernel, rfl, fun _ => rfl⟩
theorem p_7_29_8 : vFp GT vcl "MenuScreens$Value" 29 8 4 (.long) false := ⟨R8, T8, 6, "MenuScreens$Value", ty8, rfl, by decide, in8, gt_3 79 (by decide +kernel) rfl, Or.inl rfl, tyok8, nm8, by decide +kernel, rfl, fun h => by cases h⟩
theorem p_7_32_8 : vFp GT vcl "MenuScreens$Value" 32 8 5 (.boolean) false := ⟨R8, T8, 6, "MenuScreens$Value", ty8, rfl, by decide, in8, gt_3 84 (by decide +kernel) rfl, Or.inl rfl, tyok8, nm8, by decide +kernel, rfl, fun h => by cases h⟩
theorem f_8_9_11 : vFl GT vcl "MenuScreens$ValuePiece" 9 11 0 := ⟨R11, T11, 5, "MenuScreens$ValuePiece", rfl, by decide, in11, gt_4 25 (by decide +kernel) rfl, Or.inl rfl⟩
theorem p_8_9_11 : vFp GT vcl "MenuScreens$ValuePiece" 9 11 0 (.object "MenuScreens$Value") true := ⟨R11, T11, 5, "MenuScreens$ValuePiece", ty11, rfl, by decide, in11, gt_4 25 (by decide +kernel) rfl, Or.inl rfl, tyok11, nm11, by decide +kernel, rfl, fun _ => rfl⟩
theorem f_8_15_11 : vFl GT vcl "MenuScreens$ValuePiece" 15 11 1 := ⟨R11, T11, 5, "MenuScreens$ValuePiece", rfl, by decide, in11, gt_4 26 (by decide +kernel) rfl, Or.inl rfl⟩
theorem p_8_15_11 : vFp GT vcl "MenuScreens$ValuePiece" 15 11 1 (.int) true := ⟨R11, T11, 5, "MenuScreens$ValuePiece", ty11, rfl, by decide, in11, gt_4 26 (by decide +kernel) rfl, Or.inl rfl, tyok11, nm11, by decide +kernel, rfl, fun _ => rfl⟩
theorem f_8_19_8 : vFl GT vcl "MenuScreens$ValuePiece" 19 8 5 := ⟨R8, T8, 6, "MenuScreens$Value", rfl, by decide, in8, gt_3 83 (by decide +kernel) rfl, Or.inl rfl⟩
theorem f_8_29_8 : vFl GT vcl "MenuScreens$ValuePiece" 29 8 4 := ⟨R8, T8, 6, "MenuScreens$Value", rfl, by decide, in8, gt_3 80 (by decide +kernel) rfl, Or.inl rfl⟩
theorem f_9_9_7 : vFl GT vcl "MenuScreens$Warnings" 9 7 0 := ⟨R7, T7, 6, "MenuScreens$Warnings", rfl, by decide, in7, gt_1 164 (by decide +kernel) rfl, Or.inl rfl⟩
theorem p_9_9_7 : vFp GT vcl "MenuScreens$Warnings" 9 7 0 (.array .int) true := ⟨R7, T7, 6, "MenuScreens$Warnings", ty7, rfl, by decide, in7, gt_1 164 (by decide +kernel) rfl, Or.inl rfl, tyok7, nm7, by decide +kernel, rfl, fun _ => rfl⟩
theorem f_9_15_7 : vFl GT vcl "MenuScreens$Warnings" 15 7 1 := ⟨R7, T7, 6, "MenuScreens$Warnings", rfl, by decide, in7, gt_1 165 (by decide +kernel) rfl, Or.inl rfl⟩
theorem p_9_15_7 : vFp GT vcl "MenuScreens$Warnings" 15 7 1 (.array .long) true := ⟨R7, T7, 6, "MenuScreens$Warnings", ty7, rfl, by decide, in7, gt_1 165 (by decide +kernel) rfl, Or.inl rfl, tyok7, nm7, by decide +kernel, rfl, fun _ => rfl⟩
theorem f_9_19_7 : vFl GT vcl "MenuScreens$Warnings" 19 7 2 := ⟨R7, T7, 6, "MenuScreens$Warnings", rfl, by decide, in7, gt_1 166 (by decide +kernel) rfl, Or.inl rfl⟩
theorem p_9_19_7 : vFp GT vcl "MenuScreens$Warnings" 19 7 2 (.array .int) true := ⟨R7, T7, 6, "MenuScreens$Warnings", ty7, rfl, by decide, in7, gt_1 166 (by decide +kernel) rfl, Or.inl rfl, tyok7, nm7, by decide +kernel, rfl, fun _ => rfl⟩
theorem f_9_22_7 : vFl GT vcl "MenuScreens$Warnings" 22 7 5 := ⟨R7, T7, 6, "MenuScreens$Warnings", rfl, by decide, in7, gt_1 169 (by decide +kernel) rfl, Or.inl rfl⟩
theorem p_9_22_7 : vFp GT vcl "MenuScreens$Warnings" 22 7 5 (.long) false := ⟨R7, T7, 6, "MenuScreens$Warnings", ty7, rfl, by decide, in7, gt_1 169 (by decide +kernel) rfl, Or.inl rfl, tyok7, nm7, by decide +kernel, rfl, fun h => by cases h⟩
theorem f_9_26_7 : vFl GT vcl "MenuScreens$Warnings" 26 7 3 := ⟨R7, T7, 6, "MenuScreens$Warnings", rfl, by decide, in7, gt_1 167 (by decide +kernel) rfl, Or.inl rfl⟩
theorem p_9_26_7 : vFp GT vcl "MenuScreens$Warnings" 26 7 3 (.int) false := ⟨R7, T7, 6, "MenuScreens$Warnings", ty7, rfl, by decide, in7, gt_1 167 (by decide +kernel) rfl, Or.inl rfl, tyok7, nm7, by decide +kernel, rfl, fun h => by cases h⟩
theorem f_9_34_7 : vFl GT vcl "MenuScreens$Warnings" 34 7 4 := ⟨R7, T7, 6, "MenuScreens$Warnings", rfl, by decide, in7, gt_1 168 (by decide +kernel) rfl, Or.inl rfl⟩
theorem p_9_34_7 : vFp GT vcl "MenuScreens$Warnings" 34 7 4 (.int) false := ⟨R7, T7, 6, "MenuScreens$Warnings", ty7, rfl, by decide, in7, gt_1 168 (by decide +kernel) rfl, Or.inl rfl, tyok7, nm7, by decide +kernel, rfl, fun h => by cases h⟩
theorem f_10_9_10 : vFl GT vcl "MenuScreens$WordPiece" 9 10 0 := ⟨R10, T10, 5, "MenuScreens$WordPiece", rfl, by decide, in10, gt_3 224 (by decide +kernel) rfl, Or.inl rfl⟩
theorem p_10_9_10 : vFp GT vcl "MenuScreens$WordPiece" 9 10 0 (.object "java/lang/String") true := ⟨R10, T10, 5, "MenuScreens$WordPiece", ty10, rfl, by decide, in10, gt_3 224 (by decide +kernel) rfl, Or.inl rfl, tyok10, nm10, by decide +kernel, rfl, fun _ => rfl⟩
theorem f_10_15_10 : vFl GT vcl "MenuScreens$WordPiece" 15 10 1 := ⟨R10, T10, 5, "MenuScreens$WordPiece", rfl, by decide, in10, gt_3 225 (by decide +kernel) rfl, Or.inl rfl⟩
theorem p_10_15_10 : vFp GT vcl "MenuScreens$WordPiece" 15 10 1 (.object "java/lang/String") true := ⟨R10, T10, 5, "MenuScreens$WordPiece", ty10, rfl, by decide, in10, gt_3 225 (by decide +kernel) rfl, Or.inl rfl, tyok10, nm10, by decide +kernel, rfl, fun _ => rfl⟩
theorem f_12_7_13 : vFl GT vcl "MenuScreensModel" 7 13 4 := ⟨R13, T13, 59, "MenuScreensModel", rfl, by decide, in13, gt_5 33 (by decide +kernel) rfl, Or.inl rfl⟩
theorem p_12_7_13 : vFp GT vcl "MenuScreensModel" 7 13 4 (.array .int) true := ⟨R13, T13, 59, "MenuScreensModel", ty13, rfl, by decide, in13, gt_5 33 (by decide +kernel) rfl, Or.inl rfl, tyok13, nm13, by decide +kernel, rfl, fun _ => rfl⟩
theorem f_12_13_13 : vFl GT vcl "MenuScreensModel" 13 13 6 := ⟨R13, T13, 59, "MenuScreensModel", rfl, by decide, in13, gt_5 35 (by decide +kernel) rfl, Or.inl rfl⟩
theorem p_12_13_13 : vFp GT vcl "MenuScreensModel" 13 13 6 (.array .int) true := ⟨R13, T13, 59, "MenuScreensModel", ty13, rfl, by decide, in13, gt_5 35 (by decide +kernel) rfl, Or.inl rfl, tyok13, nm13, by decide +kernel, rfl, fun _ => rfl⟩
theorem f_12_16_13 : vFl GT vcl "MenuScreensModel" 16 13 13 := ⟨R13, T13, 59, "MenuScreensModel", rfl, by decide, in13, gt_5 42 (by decide +kernel) rfl, Or.inl rfl⟩
theorem p_12_16_13 : vFp GT vcl "MenuScreensModel" 16 13 13 (.array .int) true := ⟨R13, T13, 59, "MenuScreensModel", ty13, rfl, by decide, in13, gt_5 42 (by decide +kernel) rfl, Or.inl rfl, tyok13, nm13, by decide +kernel, rfl, fun _ => rfl⟩
theorem f_12_19_13 : vFl GT vcl "MenuScreensModel" 19 13 14 := ⟨R13, T13, 59, "MenuScreensModel", rfl, by decide, in13, gt_5 43 (by decide +kernel) rfl, Or.inl rfl⟩
theorem p_12_19_13 : vFp GT vcl "MenuScreensModel" 19 13 14 (.array .int) true := ⟨R13, T13, 59, "MenuScreensModel", ty13, rfl, by decide, in13, gt_5 43 (by decide +kernel) rfl, Or.inl rfl, tyok13, nm13, by decide +kernel, rfl, fun _ => rfl⟩
theorem f_12_22_13 : vFl GT vcl "MenuScreensModel" 22 13 15 := ⟨R13, T13, 59, "MenuScreensModel", rfl, by decide, in13, gt_5 44 (by decide +kernel) rfl, Or.inl rfl⟩
theorem p_12_22_13 : vFp GT vcl "MenuScreensModel" 22 13 15 (.array .boolean) true := ⟨R13, T13, 59, "MenuScreensModel", ty13, rfl, by decide, in13, gt_5 44 (by decide +kernel) rfl, Or.inl rfl, tyok13, nm13, by decide +kernel, rfl, fun _ => rfl⟩
theorem f_12_26_13 : vFl GT vcl "MenuScreensModel" 26 13 16 := ⟨R13, T13, 59, "MenuScreensModel", rfl, by decide, in13, gt_5 45 (by decide +kernel) rfl, Or.inl rfl⟩
theorem p_12_26_13 : vFp GT vcl "MenuScreensModel" 26 13 16 (.array .long) true := ⟨R13, T13, 59, "MenuScreensModel", ty13, rfl, by decide, in13, gt_5 45 (by decide +kernel) rfl, Or.inl rfl, tyok13, nm13, by decide +kernel, rfl, fun _ => rfl⟩
theorem f_12_30_13 : vFl GT vcl "MenuScreensModel" 30 13 17 := ⟨R13, T13, 59, "MenuScreensModel", rfl, by decide, in13, gt_5 46 (by decide +kernel) rfl, Or.inl rfl⟩
theorem p_12_30_13 : vFp GT vcl "MenuScreensModel" 30 13 17 (.array .long) true := ⟨R13, T13, 59, "MenuScreensModel", ty13, rfl, by decide, in13, gt_5 46 (by decide +kernel) rfl, Or.inl rfl, tyok13, nm13, by decide +kernel, rfl, fun _ => rfl⟩
theorem f_12_33_13 : vFl GT vcl "MenuScreensModel" 33 13 18 := ⟨R13, T13, 59, "MenuScreensModel", rfl, by decide, in13, gt_5 47 (by decide +kernel) rfl, Or.inl rfl⟩
theorem p_12_33_13 : vFp GT vcl "MenuScreensModel" 33 13 18 (.array .long) true := ⟨R13, T13, 59, "MenuScreensModel", ty13, rfl, by decide, in13, gt_5 47 (by decide +kernel) rfl, Or.inl rfl, tyok13, nm13, by decide +kernel, rfl, fun _ => rfl⟩
theorem f_12_36_13 : vFl GT vcl "MenuScreensModel" 36 13 19 := ⟨R13, T13, 59, "MenuScreensModel", rfl, by decide, in13, gt_5 48 (by decide +kernel) rfl, Or.inl rfl⟩
theorem p_12_36_13 : vFp GT vcl "MenuScreensModel" 36 13 19 (.array .boolean) true := ⟨R13, T13, 59, "MenuScreensModel", ty13, rfl, by decide, in13, gt_5 48 (by decide +kernel) rfl, Or.inl rfl, tyok13, nm13, by decide +kernel, rfl, fun _ => rfl⟩
theorem f_12_39_13 : vFl GT vcl "MenuScreensModel" 39 13 21 := ⟨R13, T13, 59, "MenuScreensModel", rfl, by decide, in13, gt_5 50 (by decide +kernel) rfl, Or.inl rfl⟩
theorem p_12_39_13 : vFp GT vcl "MenuScreensModel" 39 13 21 (.array .int) true := ⟨R13, T13, 59, "MenuScreensModel", ty13, rfl, by decide, in13, gt_5 50 (by decide +kernel) rfl, Or.inl rfl, tyok13, nm13, by decide +kernel, rfl, fun _ => rfl⟩
theorem f_12_42_13 : vFl GT vcl "MenuScreensModel" 42 13 22 := ⟨R13, T13, 59, "MenuScreensModel", rfl, by decide, in13, gt_5 51 (by decide +kernel) rfl, Or.inl rfl⟩
theorem p_12_42_13 : vFp GT vcl "MenuScreensModel" 42 13 22 (.array .int) true := ⟨R13, T13, 59, "MenuScreensModel", ty13, rfl, by decide, in13, gt_5 51 (by decide +kernel) rfl, Or.inl rfl, tyok13, nm13, by decide +kernel, rfl, fun _ => rfl⟩
theorem f_12_45_13 : vFl GT vcl "MenuScreensModel" 45 13 23 := ⟨R13, T13, 59, "MenuScreensModel", rfl, by decide, in13, gt_5 52 (by decide +kernel) rfl, Or.inl rfl⟩
theorem p_12_45_13 : vFp GT vcl "MenuScreensModel" 45 13 23 (.array .int) true := ⟨R13, T13, 59, "MenuScreensModel", ty13, rfl, by decide, in13, gt_5 52 (by decide +kernel) rfl, Or.inl rfl, tyok13, nm13, by decide +kernel, rfl, fun _ => rfl⟩
theorem f_12_48_13 : vFl GT vcl "MenuScreensModel" 48 13 24 := ⟨R13, T13, 59, "MenuScreensModel", rfl, by decide, in13, gt_5 53 (by decide +kernel) rfl, Or.inl rfl⟩
theorem p_12_48_13 : vFp GT vcl "MenuScreensModel" 48 13 24 (.array .long) true := ⟨R13, T13, 59, "MenuScreensModel", ty13, rfl, by decide, in13, gt_5 53 (by decide +kernel) rfl, Or.inl rfl, tyok13, nm13, by decide +kernel, rfl, fun _ => rfl⟩
theorem f_12_51_13 : vFl GT vcl "MenuScreensModel" 51 13 25 := ⟨R13, T13, 59, "MenuScreensModel", rfl, by decide, in13, gt_5 54 (by decide +kernel) rfl, Or.inl rfl⟩
theorem p_12_51_13 : vFp GT vcl "MenuScreensModel" 51 13 25 (.array .boolean) true := ⟨R13, T13, 59, "MenuScreensModel", ty13, rfl, by decide, in13, gt_5 54 (by decide +kernel) rfl, Or.inl rfl, tyok13, nm13, by decide +kernel, rfl, fun _ => rfl⟩
theorem f_12_54_13 : vFl GT vcl "MenuScreensModel" 54 13 26 := ⟨R13, T13, 59, "MenuScreensModel", rfl, by decide, in13, gt_5 55 (by decide +kernel) rfl, Or.inl rfl⟩
theorem p_12_54_13 : vFp GT vcl "MenuScreensModel" 54 13 26 (.array .int) true := ⟨R13, T13, 59, "MenuScreensModel", ty13, rfl, by decide, in13, gt_5 55 (by decide +kernel) rfl, Or.inl rfl, tyok13, nm13, by decide +kernel, rfl, fun _ => rfl⟩
theorem f_12_57_13 : vFl GT vcl "MenuScreensModel" 57 13 27 := ⟨R13, T13, 59, "MenuScreensModel", rfl, by decide, in13, gt_5 56 (by decide +kernel) rfl, Or.inl rfl⟩
theorem p_12_57_13 : vFp GT vcl "MenuScreensModel" 57 13 27 (.array .int) true := ⟨R13, T13, 59, "MenuScreensModel", ty13, rfl, by decide, in13, gt_5 56 (by decide +kernel) rfl, Or.inl rfl, tyok13, nm13, by decide +kernel, rfl, fun _ => rfl⟩
theorem f_12_60_13 : vFl GT vcl "MenuScreensModel" 60 13 29 := ⟨R13, T13, 59, "MenuScreensModel", rfl, by decide, in13, gt_5 58 (by decide +kernel) rfl, Or.inl rfl⟩
theorem p_12_60_13 : vFp GT vcl "MenuScreensModel" 60 13 29 (.array .int) true := ⟨R13, T13, 59, "MenuScreensModel", ty13, rfl, by decide, in13, gt_5 58 (by decide +kernel) rfl, Or.inl rfl, tyok13, nm13, by decide +kernel, rfl, fun _ => rfl⟩
theorem f_12_63_13 : vFl GT vcl "MenuScreensModel" 63 13 30 := ⟨R13, T13, 59, "MenuScreensModel", rfl, by decide, in13, gt_5 59 (by decide +kernel) rfl, Or.inl rfl⟩
theorem p_12_63_13 : vFp GT vcl "MenuScreensModel" 63 13 30 (.array .int) true := ⟨R13, T13, 59, "MenuScreensModel", ty13, rfl, by decide, in13, gt_5 59 (by decide +kernel) rfl, Or.inl rfl, tyok13, nm13, by decide +kernel, rfl, fun _ => rfl⟩
theorem f_12_66_13 : vFl GT vcl "MenuScreensModel" 66 13 31 := ⟨R13, T13, 59, "MenuScreensModel", rfl, by decide, in13, gt_5 60 (by decide +kernel) rfl, Or.inl rfl⟩
theorem p_12_66_13 : vFp GT vcl "MenuScreensModel" 66 13 31 (.array .int) true := ⟨R13, T13, 59, "MenuScreensModel", ty13, rfl, by decide, in13, gt_5 60 (by decide +kernel) rfl, Or.inl rfl, tyok13, nm13, by decide +kernel, rfl, fun _ => rfl⟩
theorem f_12_69_13 : vFl GT vcl "MenuScreensModel" 69 13 32 := ⟨R13, T13, 59, "MenuScreensModel", rfl, by decide, in13, gt_5 61 (by decide +kernel) rfl, Or.inl rfl⟩
theorem p_12_69_13 : vFp GT vcl "MenuScreensModel" 69 13 32 (.array .int) true := ⟨R13, T13, 59, "MenuScreensModel", ty13, rfl, by decide, in13, gt_5 61 (by decide +kernel) rfl, Or.inl rfl, tyok13, nm13, by decide +kernel, rfl, fun _ => rfl⟩
theorem f_12_72_13 : vFl GT vcl "MenuScreensModel" 72 13 33 := ⟨R13, T13, 59, "MenuScreensModel", rfl, by decide, in13, gt_5 62 (by decide +kernel) rfl, Or.inl rfl⟩
theorem p_12_72_13 : vFp GT vcl "MenuScreensModel" 72 13 33 (.array .int) true := ⟨R13, T13, 59, "MenuScreensModel", ty13, rfl, by decide, in13, gt_5 62 (by decide +kernel) rfl, Or.inl rfl, tyok13, nm13, by decide +kernel, rfl, fun _ => rfl⟩
theorem f_12_75_13 : vFl GT vcl "MenuScreensModel" 75 13 34 := ⟨R13, T13, 59, "MenuScreensModel", rfl, by decide, in13, gt_5 63 (by decide +kernel) rfl, Or.inl rfl⟩
theorem p_12_75_13 : vFp GT vcl "MenuScreensModel" 75 13 34 (.array .int) true := ⟨R13, T13, 59, "MenuScreensModel", ty13, rfl, by decide, in13, gt_5 63 (by decide +kernel) rfl, Or.inl rfl, tyok13, nm13, by decide +kernel, rfl, fun _ => rfl⟩
theorem f_12_78_13 : vFl GT vcl "MenuScreensModel" 78 13 35 := ⟨R13, T13, 59, "MenuScreensModel", rfl, by decide, in13, gt_5 64 (by decide +kernel) rfl, Or.inl rfl⟩
theorem p_12_78_13 : vFp GT vcl "MenuScreensModel" 78 13 35 (.array .int) true := ⟨R13, T13, 59, "MenuScreensModel", ty13, rfl, by decide, in13, gt_5 64 (by decide +kernel) rfl, Or.inl rfl, tyok13, nm13, by decide +kernel, rfl, fun _ => rfl⟩
theorem f_12_81_13 : vFl GT vcl "MenuScreensModel" 81 13 36 := ⟨R13, T13, 59, "MenuScreensModel", rfl, by decide, in13, gt_5 65 (by decide +kernel) rfl, Or.inl rfl⟩
theorem p_12_81_13 : vFp GT vcl "MenuScreensModel" 81 13 36 (.array .int) true := ⟨R13, T13, 59, "MenuScreensModel", ty13, rfl, by decide, in13, gt_5 65 (by decide +kernel) rfl, Or.inl rfl, tyok13, nm13, by decide +kernel, rfl, fun _ => rfl⟩
theorem f_12_84_13 : vFl GT vcl "MenuScreensModel" 84 13 37 := ⟨R13, T13, 59, "MenuScreensModel", rfl, by decide, in13, gt_5 66 (by decide +kernel) rfl, Or.inl rfl⟩
theorem p_12_84_13 : vFp GT vcl "MenuScreensModel" 84 13 37 (.array .int) true := ⟨R13, T13, 59, "MenuScreensModel", ty13, rfl, by decide, in13, gt_5 66 (by decide +kernel) rfl, Or.inl rfl, tyok13, nm13, by decide +kernel, rfl, fun _ => rfl⟩
theorem f_12_87_13 : vFl GT vcl "MenuScreensModel" 87 13 38 := ⟨R13, T13, 59, "MenuScreensModel", rfl, by decide, in13, gt_5 67 (by decide +kernel) rfl, Or.inl rfl⟩
theorem p_12_87_13 : vFp GT vcl "MenuScreensModel" 87 13 38 (.array .int) true := ⟨R13, T13, 59, "MenuScreensModel", ty13, rfl, by decide, in13, gt_5 67 (by decide +kernel) rfl, Or.inl rfl, tyok13, nm13, by decide +kernel, rfl, fun _ => rfl⟩
theorem f_12_90_13 : vFl GT vcl "MenuScreensModel" 90 13 40 := ⟨R13, T13, 59, "MenuScreensModel", rfl, by decide, in13, gt_5 69 (by decide +kernel) rfl, Or.inl rfl⟩
theorem p_12_90_13 : vFp GT vcl "MenuScreensModel" 90 13 40 (.array .int) true := ⟨R13, T13, 59, "MenuScreensModel", ty13, rfl, by decide, in13, gt_5 69 (by decide +kernel) rfl, Or.inl rfl, tyok13, nm13, by decide +kernel, rfl, fun _ => rfl⟩
theorem f_12_93_13 : vFl GT vcl "MenuScreensModel" 93 13 41 := ⟨R13, T13, 59, "MenuScreensModel", rfl, by decide, in13, gt_5 70 (by decide +kernel) rfl, Or.inl rfl⟩
theorem p_12_93_13 : vFp GT vcl "MenuScreensModel" 93 13 41 (.array .int) true := ⟨R13, T13, 59, "MenuScreensModel", ty13, rfl, by decide, in13, gt_5 70 (by decide +kernel) rfl, Or.inl rfl, tyok13, nm13, by decide +kernel, rfl, fun _ => rfl⟩
theorem f_12_96_13 : vFl GT vcl "MenuScreensModel" 96 13 42 := ⟨R13, T13, 59, "MenuScreensModel", rfl, by decide, in13, gt_5 71 (by decide +kernel) rfl, Or.inl rfl⟩
theorem p_12_96_13 : vFp GT vcl "MenuScreensModel" 96 13 42 (.array .int) true := ⟨R13, T13, 59, "MenuScreensModel", ty13, rfl, by decide, in13, gt_5 71 (by decide +kernel) rfl, Or.inl rfl, tyok13, nm13, by decide +kernel, rfl, fun _ => rfl⟩
theorem f_12_99_13 : vFl GT vcl "MenuScreensModel" 99 13 43 := ⟨R13, T13, 59, "MenuScreensModel", rfl, by decide, in13, gt_5 72 (by decide +kernel) rfl, Or.inl rfl⟩
theorem p_12_99_13 : vFp GT vcl "MenuScreensModel" 99 13 43 (.array .int) true := ⟨R13, T13, 59, "MenuScreensModel", ty13, rfl, by decide, in13, gt_5 72 (by decide +kernel) rfl, Or.inl rfl, tyok13, nm13, by decide +kernel, rfl, fun _ => rfl⟩
theorem f_12_102_13 : vFl GT vcl "MenuScreensModel" 102 13 44 := ⟨R13, T13, 59, "MenuScreensModel", rfl, by decide, in13, gt_5 73 (by decide +kernel) rfl, Or.inl rfl⟩
theorem p_12_102_13 : vFp GT vcl "MenuScreensModel" 102 13 44 (.array .long) true := ⟨R13, T13, 59, "MenuScreensModel", ty13, rfl, by decide, in13, gt_5 73 (by decide +kernel) rfl, Or.inl rfl, tyok13, nm13, by decide +kernel, rfl, fun _ => rfl⟩
theorem f_12_105_13 : vFl GT vcl "MenuScreensModel" 105 13 49 := ⟨R13, T13, 59, "MenuScreensModel", rfl, by decide, in13, gt_5 78 (by decide +kernel) rfl, Or.inl rfl⟩
theorem p_12_105_13 : vFp GT vcl "MenuScreensModel" 105 13 49 (.array .int) true := ⟨R13, T13, 59, "MenuScreensModel", ty13, rfl, by decide, in13, gt_5 78 (by decide +kernel) rfl, Or.inl rfl, tyok13, nm13, by decide +kernel, rfl, fun _ => rfl⟩
theorem f_12_108_13 : vFl GT vcl "MenuScreensModel" 108 13 51 := ⟨R13, T13, 59, "MenuScreensModel", rfl, by decide, in13, gt_5 80 (by decide +kernel) rfl, Or.inl rfl⟩
theorem p_12_108_13 : vFp GT vcl "MenuScreensModel" 108 13 51 (.array .int) true := ⟨R13, T13, 59, "MenuScreensModel", ty13, rfl, by decide, in13, gt_5 80 (by decide +kernel) rfl, Or.inl rfl, tyok13, nm13, by decide +kernel, rfl, fun _ => rfl⟩
theorem f_12_111_13 : vFl GT vcl "MenuScreensModel" 111 13 52 := ⟨R13, T13, 59, "MenuScreensModel", rfl, by decide, in13, gt_5 81 (by decide +kernel) rfl, Or.inl rfl⟩
theorem p_12_111_13 : vFp GT vcl "MenuScreensModel" 111 13 52 (.array .long) true := ⟨R13, T13, 59, "MenuScreensModel", ty13, rfl, by decide, in13, gt_5 81 (by decide +kernel) rfl, Or.inl rfl, tyok13, nm13, by decide +kernel, rfl, fun _ => rfl⟩
theorem f_12_114_13 : vFl GT vcl "MenuScreensModel" 114 13 53 := ⟨R13, T13, 59, "MenuScreensModel", rfl, by decide, in13, gt_5 82 (by decide +kernel) rfl, Or.inl rfl⟩
theorem p_12_114_13 : vFp GT vcl "MenuScreensModel" 114 13 53 (.array .boolean) true := ⟨R13, T13, 59, "MenuScreensModel", ty13, rfl, by decide, in13, gt_5 82 (by decide +kernel) rfl, Or.inl rfl, tyok13, nm13, by decide +kernel, rfl, fun _ => rfl⟩
theorem f_12_117_13 : vFl GT vcl "MenuScreensModel" 117 13 58 := ⟨R13, T13, 59, "MenuScreensModel", rfl, by decide, in13, gt_5 87 (by decide +kernel) rfl, Or.inl rfl⟩
theorem p_12_117_13 : vFp GT vcl "MenuScreensModel" 117 13 58 (.array .boolean) true := ⟨R13, T13, 59, "MenuScreensModel", ty13, rfl, by decide, in13, gt_5 87 (by decide +kernel) rfl, Or.inl rfl, tyok13, nm13, by decide +kernel, rfl, fun _ => rfl⟩
theorem f_12_120_13 : vFl GT vcl "MenuScreensModel" 120 13 1 := ⟨R13, T13, 59, "MenuScreensModel", rfl, by decide, in13, gt_5 30 (by decide +kernel) rfl, Or.inl rfl⟩
theorem p_12_120_13 : vFp GT vcl "MenuScreensModel" 120 13 1 (.int) true := ⟨R13, T13, 59, "MenuScreensModel", ty13, rfl, by decide, in13, gt_5 30 (by decide +kernel) rfl, Or.inl rfl, tyok13, nm13, by decide +kernel, rfl, fun _ => rfl⟩
theorem f_12_124_13 : vFl GT vcl "MenuScreensModel" 124 13 2 := ⟨R13, T13, 59, "MenuScreensModel", rfl, by decide, in13, gt_5 31 (by decide +kernel) rfl, Or.inl rfl⟩
theorem p_12_124_13 : vFp GT vcl "MenuScreensModel" 124 13 2 (.int) true := ⟨R13, T13, 59, "MenuScreensModel", ty13, rfl, by decide, in13, gt_5 31 (by decide +kernel) rfl, Or.inl rfl, tyok13, nm13, by decide +kernel, rfl, fun _ => rfl⟩
theorem p_12_127_13 : vFp GT vcl "MenuScreensModel" 127 13 0 (.int) false := ⟨R13, T13, 59, "MenuScreensModel", ty13, rfl, by decide, in13, gt_5 29 (by decide +kernel) rfl, Or.inl rfl, tyok13, nm13, by decide +kernel, rfl, fun h => by cases h⟩
theorem f_12_130_13 : vFl GT vcl "MenuScreensModel" 130 13 3 := ⟨R13, T13, 59, "MenuScreensModel", rfl, by decide, in13, gt_5 32 (by decide +kernel) rfl, Or.inl rfl⟩
theorem p_12_130_13 : vFp GT vcl "MenuScreensModel" 130 13 3 (.int) false := ⟨R13, T13, 59, "MenuScreensModel", ty13, rfl, by decide, in13, gt_5 32 (by decide +kernel) rfl, Or.inl rfl, tyok13, nm13, by decide +kernel, rfl, fun h => by cases h⟩
theorem f_12_133_13 : vFl GT vcl "MenuScreensModel" 133 13 7 := ⟨R13, T13, 59, "MenuScreensModel", rfl, by decide, in13, gt_5 36 (by decide +kernel) rfl, Or.inl rfl⟩
theorem p_12_133_13 : vFp GT vcl "MenuScreensModel" 133 13 7 (.int) false := ⟨R13, T13, 59, "MenuScreensModel", ty13, rfl, by decide, in13, gt_5 36 (by decide +kernel) rfl, Or.inl rfl, tyok13, nm13, by decide +kernel, rfl, fun h => by cases h⟩
theorem f_12_136_13 : vFl GT vcl "MenuScreensModel" 136 13 8 := ⟨R13, T13, 59, "MenuScreensModel", rfl, by decide, in13, gt_5 37 (by decide +kernel) rfl, Or.inl rfl⟩
theorem p_12_136_13 : vFp GT vcl "MenuScreensModel" 136 13 8 (.int) false := ⟨R13, T13, 59, "MenuScreensModel", ty13, rfl, by decide, in13, gt_5 37 (by decide +kernel) rfl, Or.inl rfl, tyok13, nm13, by decide +kernel, rfl, fun h => by cases h⟩
theorem f_12_139_13 : vFl GT vcl "MenuScreensModel" 139 13 9 := ⟨R13, T13, 59, "MenuScreensModel", rfl, by decide, in13, gt_5 38 (by decide +kernel) rfl, Or.inl rfl⟩
theorem p_12_139_13 : vFp GT vcl "MenuScreensModel" 139 13 9 (.int) false := ⟨R13, T13, 59, "MenuScreensModel", ty13, rfl, by decide, in13, gt_5 38 (by decide +kernel) rfl, Or.inl rfl, tyok13, nm13, by decide +kernel, rfl, fun h => by cases h⟩
theorem f_12_142_13 : vFl GT vcl "MenuScreensModel" 142 13 10 := ⟨R13, T13, 59, "MenuScreensModel", rfl, by decide, in13, gt_5 39 (by decide +kernel) rfl, Or.inl rfl⟩
theorem p_12_142_13 : vFp GT vcl "MenuScreensModel" 142 13 10 (.int) false := ⟨R13, T13, 59, "MenuScreensModel", ty13, rfl, by decide, in13, gt_5 39 (by decide +kernel) rfl, Or.inl rfl, tyok13, nm13, by decide +kernel, rfl, fun h => by cases h⟩
theorem f_12_152_13 : vFl GT vcl "MenuScreensModel" 152 13 11 := ⟨R13, T13, 59, "MenuScreensModel", rfl, by decide, in13, gt_5 40 (by decide +kernel) rfl, Or.inl rfl⟩
theorem p_12_152_13 : vFp GT vcl "MenuScreensModel" 152 13 11 (.long) false := ⟨R13, T13, 59, "MenuScreensModel", ty13, rfl, by decide, in13, gt_5 40 (by decide +kernel) rfl, Or.inl rfl, tyok13, nm13, by decide +kernel, rfl, fun h => by cases h⟩
theorem f_12_162_13 : vFl GT vcl "MenuScreensModel" 162 13 12 := ⟨R13, T13, 59, "MenuScreensModel", rfl, by decide, in13, gt_5 41 (by decide +kernel) rfl, Or.inl rfl⟩
theorem p_12_162_13 : vFp GT vcl "MenuScreensModel" 162 13 12 (.int) false := ⟨R13, T13, 59, "MenuScreensModel", ty13, rfl, by decide, in13, gt_5 41 (by decide +kernel) rfl, Or.inl rfl, tyok13, nm13, by decide +kernel, rfl, fun h => by cases h⟩
theorem f_12_169_13 : vFl GT vcl "MenuScreensModel" 169 13 20 := ⟨R13, T13, 59, "MenuScreensModel", rfl, by decide, in13, gt_5 49 (by decide +kernel) rfl, Or.inl rfl⟩
theorem p_12_169_13 : vFp GT vcl "MenuScreensModel" 169 13 20 (.int) false := ⟨R13, T13, 59, "MenuScreensModel", ty13, rfl, by decide, in13, gt_5 49 (by decide +kernel) rfl, Or.inl rfl, tyok13, nm13, by decide +kernel, rfl, fun h => by cases h⟩
theorem f_12_222_13 : vFl GT vcl "MenuScreensModel" 222 13 28 := ⟨R13, T13, 59, "MenuScreensModel", rfl, by decide, in13, gt_5 57 (by decide +kernel) rfl, Or.inl rfl⟩
theorem p_12_222_13 : vFp GT vcl "MenuScreensModel" 222 13 28 (.int) false := ⟨R13, T13, 59, "MenuScreensModel", ty13, rfl, by decide, in13, gt_5 57 (by decide +kernel) rfl, Or.inl rfl, tyok13, nm13, by decide +kernel, rfl, fun h => by cases h⟩
theorem f_12_227_13 : vFl GT vcl "MenuScreensModel" 227 13 39 := ⟨R13, T13, 59, "MenuScreensModel", rfl, by decide, in13, gt_5 68 (by decide +kernel) rfl, Or.inl rfl⟩
theorem p_12_227_13 : vFp GT vcl "MenuScreensModel" 227 13 39 (.int) false := ⟨R13, T13, 59, "MenuScreensModel", ty13, rfl, by decide, in13, gt_5 68 (by decide +kernel) rfl, Or.inl rfl, tyok13, nm13, by decide +kernel, rfl, fun h => by cases h⟩
theorem f_12_233_13 : vFl GT vcl "MenuScreensModel" 233 13 48 := ⟨R13, T13, 59, "MenuScreensModel", rfl, by decide, in13, gt_5 77 (by decide +kernel) rfl, Or.inl rfl⟩
theorem p_12_233_13 : vFp GT vcl "MenuScreensModel" 233 13 48 (.int) false := ⟨R13, T13, 59, "MenuScreensModel", ty13, rfl, by decide, in13, gt_5 77 (by decide +kernel) rfl, Or.inl rfl, tyok13, nm13, by decide +kernel, rfl, fun h => by cases h⟩
theorem f_12_236_13 : vFl GT vcl "MenuScreensModel" 236 13 5 := ⟨R13, T13, 59, "MenuScreensModel", rfl, by decide, in13, gt_5 34 (by decide +kernel) rfl, Or.inl rfl⟩
theorem p_12_236_13 : vFp GT vcl "MenuScreensModel" 236 13 5 (.int) false := ⟨R13, T13, 59, "MenuScreensModel", ty13, rfl, by decide, in13, gt_5 34 (by decide +kernel) rfl, Or.inl rfl, tyok13, nm13, by decide +kernel, rfl, fun h => by cases h⟩
theorem f_12_245_13 : vFl GT vcl "MenuScreensModel" 245 13 45 := ⟨R13, T13, 59, "MenuScreensModel", rfl, by decide, in13, gt_5 74 (by decide +kernel) rfl, Or.inl rfl⟩
theorem p_12_245_13 : vFp GT vcl "MenuScreensModel" 245 13 45 (.int) false := ⟨R13, T13, 59, "MenuScreensModel", ty13, rfl, by decide, in13, gt_5 74 (by decide +kernel) rfl, Or.inl rfl, tyok13, nm13, by decide +kernel, rfl, fun h => by cases h⟩
theorem f_12_251_13 : vFl GT vcl "MenuScreensModel" 251 13 47 := ⟨R13, T13, 59, "MenuScreensModel", rfl, by decide, in13, gt_5 76 (by decide +kernel) rfl, Or.inl rfl⟩
theorem p_12_251_13 : vFp GT vcl "MenuScreensModel" 251 13 47 (.long) false := ⟨R13, T13, 59, "MenuScreensModel", ty13, rfl, by decide, in13, gt_5 76 (by decide +kernel) rfl, Or.inl rfl, tyok13, nm13, by decide +kernel, rfl, fun h => by cases h⟩
theorem f_12_264_13 : vFl GT vcl "MenuScreensModel" 264 13 46 := ⟨R13, T13, 59, "MenuScreensModel", rfl, by decide, in13, gt_5 75 (by decide +kernel) rfl, Or.inl rfl⟩
theorem p_12_264_13 : vFp GT vcl "MenuScreensModel" 264 13 46 (.int) false := ⟨R13, T13, 59, "MenuScreensModel", ty13, rfl, by decide, in13, gt_5 75 (by decide +kernel) rfl, Or.inl rfl, tyok13, nm13, by decide +kernel, rfl, fun h => by cases h⟩
theorem f_12_273_13 : vFl GT vcl "MenuScreensModel" 273 13 54 := ⟨R13, T13, 59, "MenuScreensModel", rfl, by decide, in13, gt_5 83 (by decide +kernel) rfl, Or.inl rfl⟩
theorem p_12_273_13 : vFp GT vcl "MenuScreensModel" 273 13 54 (.long) false := ⟨R13, T13, 59, "MenuScreensModel", ty13, rfl, by decide, in13, gt_5 83 (by decide +kernel) rfl, Or.inl rfl, tyok13, nm13, by decide +kernel, rfl, fun h => by cases h⟩
theorem f_12_276_13 : vFl GT vcl "MenuScreensModel" 276 13 50 := ⟨R13, T13, 59, "MenuScreensModel", rfl, by decide, in13, gt_5 79 (by decide +kernel) rfl, Or.inl rfl⟩
theorem p_12_276_13 : vFp GT vcl "MenuScreensModel" 276 13 50 (.int) false := ⟨R13, T13, 59, "MenuScreensModel", ty13, rfl, by decide, in13, gt_5 79 (by decide +kernel) rfl, Or.inl rfl, tyok13, nm13, by decide +kernel, rfl, fun h => by cases h⟩
theorem f_12_287_13 : vFl GT vcl "MenuScreensModel" 287 13 56 := ⟨R13, T13, 59, "MenuScreensModel", rfl, by decide, in13, gt_5 85 (by decide +kernel) rfl, Or.inl rfl⟩
theorem p_12_287_13 : vFp GT vcl "MenuScreensModel" 287 13 56 (.long) false := ⟨R13, T13, 59, "MenuScreensModel", ty13, rfl, by decide, in13, gt_5 85 (by decide +kernel) rfl, Or.inl rfl, tyok13, nm13, by decide +kernel, rfl, fun h => by cases h⟩
theorem f_12_290_13 : vFl GT vcl "MenuScreensModel" 290 13 57 := ⟨R13, T13, 59, "MenuScreensModel", rfl, by decide, in13, gt_5 86 (by decide +kernel) rfl, Or.inl rfl⟩
theorem p_12_290_13 : vFp GT vcl "MenuScreensModel" 290 13 57 (.long) false := ⟨R13, T13, 59, "MenuScreensModel", ty13, rfl, by decide, in13, gt_5 86 (by decide +kernel) rfl, Or.inl rfl, tyok13, nm13, by decide +kernel, rfl, fun h => by cases h⟩
theorem f_12_293_13 : vFl GT vcl "MenuScreensModel" 293 13 55 := ⟨R13, T13, 59, "MenuScreensModel", rfl, by decide, in13, gt_5 84 (by decide +kernel) rfl, Or.inl rfl⟩
theorem p_12_293_13 : vFp GT vcl "MenuScreensModel" 293 13 55 (.int) false := ⟨R13, T13, 59, "MenuScreensModel", ty13, rfl, by decide, in13, gt_5 84 (by decide +kernel) rfl, Or.inl rfl, tyok13, nm13, by decide +kernel, rfl, fun h => by cases h⟩
theorem f_13_15_1 : vFl GT vcl "java/lang/AbstractStringBuilder" 15 1 0 := ⟨R1, T1, 4, "java/lang/AbstractStringBuilder", rfl, by decide, in1, gt_1 54 (by decide +kernel) rfl, Or.inl rfl⟩
theorem p_13_15_1 : vFp GT vcl "java/lang/AbstractStringBuilder" 15 1 0 (.array .byte) false := ⟨R1, T1, 4, "java/lang/AbstractStringBuilder", ty1, rfl, by decide, in1, gt_1 54 (by decide +kernel) rfl, Or.inl rfl, tyok1, nm1, by decide +kernel, rfl, fun h => by cases h⟩
theorem f_13_22_1 : vFl GT vcl "java/lang/AbstractStringBuilder" 22 1 1 := ⟨R1, T1, 4, "java/lang/AbstractStringBuilder", rfl, by decide, in1, gt_1 55 (by decide +kernel) rfl, Or.inl rfl⟩
theorem p_13_22_1 : vFp GT vcl "java/lang/AbstractStringBuilder" 22 1 1 (.byte) false := ⟨R1, T1, 4, "java/lang/AbstractStringBuilder", ty1, rfl, by decide, in1, gt_1 55 (by decide +kernel) rfl, Or.inl rfl, tyok1, nm1, by decide +kernel, rfl, fun h => by cases h⟩
theorem p_13_73_1 : vFp GT vcl "java/lang/AbstractStringBuilder" 73 1 2 (.boolean) false := ⟨R1, T1, 4, "java/lang/AbstractStringBuilder", ty1, rfl, by decide, in1, gt_1 56 (by decide +kernel) rfl, Or.inl rfl, tyok1, nm1, by decide +kernel, rfl, fun h => by cases h⟩
theorem f_13_79_1 : vFl GT vcl "java/lang/AbstractStringBuilder" 79 1 3 := ⟨R1, T1, 4, "java/lang/AbstractStringBuilder", rfl, by decide, in1, gt_1 58 (by decide +kernel) rfl, Or.inl rfl⟩
theorem p_13_79_1 : vFp GT vcl "java/lang/AbstractStringBuilder" 79 1 3 (.int) false := ⟨R1, T1, 4, "java/lang/AbstractStringBuilder", ty1, rfl, by decide, in1, gt_1 58 (by decide +kernel) rfl, Or.inl rfl, tyok1, nm1, by decide +kernel, rfl, fun h => by cases h⟩
theorem f_17_9_0 : vFl GT vcl "java/lang/String" 9 0 0 := ⟨R0, T0, 4, "java/lang/String", rfl, by decide, in0, gt_2 137 (by decide +kernel) rfl, Or.inl rfl⟩
theorem p_17_9_0 : vFp GT vcl "java/lang/String" 9 0 0 (.array .byte) true := ⟨R0, T0, 4, "java/lang/String", ty0, rfl, by decide, in0, gt_2 137 (by decide +kernel) rfl, Or.inl rfl, tyok0, nm0, by decide +kernel, rfl, fun _ => rfl⟩
theorem f_17_15_0 : vFl GT vcl "java/lang/String" 15 0 1 := ⟨R0, T0, 4, "java/lang/String", rfl, by decide, in0, gt_2 138 (by decide +kernel) rfl, Or.inl rfl⟩
theorem p_17_15_0 : vFp GT vcl "java/lang/String" 15 0 1 (.byte) true := ⟨R0, T0, 4, "java/lang/String", ty0, rfl, by decide, in0, gt_2 138 (by decide +kernel) rfl, Or.inl rfl, tyok0, nm0, by decide +kernel, rfl, fun _ => rfl⟩
theorem f_17_1048_1 : vFl GT vcl "java/lang/String" 1048 1 2 := ⟨R1, T1, 4, "java/lang/AbstractStringBuilder", rfl, by decide, in1, gt_1 57 (by decide +kernel) rfl, Or.inl rfl⟩
theorem p_22_7_2 : vFp GT vcl "java/util/AbstractList" 7 2 2 (.int) false := ⟨R2, T2, 3, "java/util/AbstractList", ty2, rfl, by decide, in2, gt_1 97 (by decide +kernel) rfl, Or.inl rfl, tyok2, nm2, by decide +kernel, rfl, fun h => by cases h⟩
theorem f_23_9_2 : vFl GT vcl "java/util/ArrayList" 9 2 0 := ⟨R2, T2, 3, "java/util/ArrayList", rfl, by decide, in2, gt_1 95 (by decide +kernel) rfl, Or.inl rfl⟩
theorem p_23_9_2 : vFp GT vcl "java/util/ArrayList" 9 2 0 (.array (.object "java/lang/Object")) false := ⟨R2, T2, 3, "java/util/ArrayList", ty2, rfl, by decide, in2, gt_1 95 (by decide +kernel) rfl, Or.inl rfl, tyok2, nm2, by decide +kernel, rfl, fun h => by cases h⟩
theorem f_23_48_2 : vFl GT vcl "java/util/ArrayList" 48 2 1 := ⟨R2, T2, 3, "java/util/ArrayList", rfl, by decide, in2, gt_1 96 (by decide +kernel) rfl, Or.inl rfl⟩
theorem p_23_48_2 : vFp GT vcl "java/util/ArrayList" 48 2 1 (.int) false := ⟨R2, T2, 3, "java/util/ArrayList", ty2, rfl, by decide, in2, gt_1 96 (by decide +kernel) rfl, Or.inl rfl, tyok2, nm2, by decide +kernel, rfl, fun h => by cases h⟩
theorem f_23_63_2 : vFl GT vcl "java/util/ArrayList" 63 2 2 := ⟨R2, T2, 3, "java/util/ArrayList", rfl, by decide, in2, gt_1 98 (by decide +kernel) rfl, Or.inr (gt_1 99 (by decide +kernel) rfl)⟩
theorem p_23_63_2 : vFp GT vcl "java/util/ArrayList" 63 2 2 (.int) false := ⟨R2, T2, 3, "java/util/ArrayList", ty2, rfl, by decide, in2, gt_1 98 (by decide +kernel) rfl, Or.inr (gt_1 99 (by decide +kernel) rfl), tyok2, nm2, by decide +kernel, rfl, fun h => by cases h⟩
theorem n_0_16 : vFn GT vcl "MenuScreens" 16 1 [.null, .int 0, .int 0, .int 0] := ⟨R1, T1, ty1, rfl, in1, gt_1 36 (by decide +kernel) rfl, gt_1 37 (by decide +kernel) rfl, gt_1 3 (by decide +kernel) rfl, tyok1, fun j hj => by
  match j, hj with
  | 0, _ => rfl
  | 1, _ => rfl
  | 2, _ => rfl
  | 3, _ => rfl
  | n + 4, h => exact absurd h (by simp)⟩
theorem n_0_23 : vFn GT vcl "MenuScreens" 23 5 [.null, .null, .null, .null] := ⟨R5, T5, ty5, rfl, in5, gt_1 69 (by decide +kernel) rfl, gt_1 70 (by decide +kernel) rfl, gt_1 6 (by decide +kernel) rfl, tyok5, fun j hj => by
  match j, hj with
  | 0, _ => rfl
  | 1, _ => rfl
  | 2, _ => rfl
  | 3, _ => rfl
  | n + 4, h => exact absurd h (by simp)⟩
theorem n_0_35 : vFn GT vcl "MenuScreens" 35 7 [.null, .null, .null, .int 0, .int 0, .long 0] := ⟨R7, T7, ty7, rfl, in7, gt_1 158 (by decide +kernel) rfl, gt_1 159 (by decide +kernel) rfl, gt_1 12 (by decide +kernel) rfl, tyok7, fun j hj => by
  match j, hj with
  | 0, _ => rfl
  | 1, _ => rfl
  | 2, _ => rfl
  | 3, _ => rfl
  | 4, _ => rfl
  | 5, _ => rfl
  | n + 6, h => exact absurd h (by simp)⟩
theorem n_4_9 : vFn GT vcl "MenuScreens$Plan" 9 2 [.null, .int 0, .int 0] := ⟨R2, T2, ty2, rfl, in2, gt_1 81 (by decide +kernel) rfl, gt_1 82 (by decide +kernel) rfl, gt_1 10 (by decide +kernel) rfl, tyok2, fun j hj => by
  match j, hj with
  | 0, _ => rfl
  | 1, _ => rfl
  | 2, _ => rfl
  | n + 3, h => exact absurd h (by simp)⟩
theorem n_5_9 : vFn GT vcl "MenuScreens$Reader" 9 4 [.null, .null, .null, .int 0] := ⟨R4, T4, ty4, rfl, in4, gt_1 75 (by decide +kernel) rfl, gt_1 76 (by decide +kernel) rfl, gt_1 7 (by decide +kernel) rfl, tyok4, fun j hj => by
  match j, hj with
  | 0, _ => rfl
  | 1, _ => rfl
  | 2, _ => rfl
  | 3, _ => rfl
  | n + 4, h => exact absurd h (by simp)⟩
theorem n_5_18 : vFn GT vcl "MenuScreens$Reader" 18 6 [.null, .null, .null, .int 0] := ⟨R6, T6, ty6, rfl, in6, gt_1 124 (by decide +kernel) rfl, gt_1 125 (by decide +kernel) rfl, gt_1 11 (by decide +kernel) rfl, tyok6, fun j hj => by
  match j, hj with
  | 0, _ => rfl
  | 1, _ => rfl
  | 2, _ => rfl
  | 3, _ => rfl
  | n + 4, h => exact absurd h (by simp)⟩
theorem n_5_124 : vFn GT vcl "MenuScreens$Reader" 124 8 [.long 0, .int 0, .long 0, .long 0, .long 0, .int 0] := ⟨R8, T8, ty8, rfl, in8, gt_3 62 (by decide +kernel) rfl, gt_3 63 (by decide +kernel) rfl, gt_1 21 (by decide +kernel) rfl, tyok8, fun j hj => by
  match j, hj with
  | 0, _ => rfl
  | 1, _ => rfl
  | 2, _ => rfl
  | 3, _ => rfl
  | 4, _ => rfl
  | 5, _ => rfl
  | n + 6, h => exact absurd h (by simp)⟩
theorem n_5_156 : vFn GT vcl "MenuScreens$Reader" 156 9 [.long 0, .int 0, .null, .null, .null, .int 0, .int 0] := ⟨R9, T9, ty9, rfl, in9, gt_3 169 (by decide +kernel) rfl, gt_3 170 (by decide +kernel) rfl, gt_1 22 (by decide +kernel) rfl, tyok9, fun j hj => by
  match j, hj with
  | 0, _ => rfl
  | 1, _ => rfl
  | 2, _ => rfl
  | 3, _ => rfl
  | 4, _ => rfl
  | 5, _ => rfl
  | 6, _ => rfl
  | n + 7, h => exact absurd h (by simp)⟩
theorem n_5_161 : vFn GT vcl "MenuScreens$Reader" 161 10 [.null, .null, .int 0, .int 0, .null] := ⟨R10, T10, ty10, rfl, in10, gt_3 215 (by decide +kernel) rfl, gt_3 216 (by decide +kernel) rfl, gt_1 24 (by decide +kernel) rfl, tyok10, fun j hj => by
  match j, hj with
  | 0, _ => rfl
  | 1, _ => rfl
  | 2, _ => rfl
  | 3, _ => rfl
  | 4, _ => rfl
  | n + 5, h => exact absurd h (by simp)⟩
theorem n_5_172 : vFn GT vcl "MenuScreens$Reader" 172 11 [.null, .int 0, .int 0, .int 0, .null] := ⟨R11, T11, ty11, rfl, in11, gt_4 19 (by decide +kernel) rfl, gt_4 20 (by decide +kernel) rfl, gt_1 25 (by decide +kernel) rfl, tyok11, fun j hj => by
  match j, hj with
  | 0, _ => rfl
  | 1, _ => rfl
  | 2, _ => rfl
  | 3, _ => rfl
  | 4, _ => rfl
  | n + 5, h => exact absurd h (by simp)⟩
theorem n_5_195 : vFn GT vcl "MenuScreens$Reader" 195 12 [.null, .int 0, .int 0, .null] := ⟨R12, T12, ty12, rfl, in12, gt_4 43 (by decide +kernel) rfl, gt_4 44 (by decide +kernel) rfl, gt_1 26 (by decide +kernel) rfl, tyok12, fun j hj => by
  match j, hj with
  | 0, _ => rfl
  | 1, _ => rfl
  | 2, _ => rfl
  | 3, _ => rfl
  | n + 4, h => exact absurd h (by simp)⟩
theorem n_6_9 : vFn GT vcl "MenuScreens$Screen" 9 2 [.null, .int 0, .int 0] := ⟨R2, T2, ty2, rfl, in2, gt_3 175 (by decide +kernel) rfl, gt_1 82 (by decide +kernel) rfl, gt_1 10 (by decide +kernel) rfl, tyok2, fun j hj => by
  match j, hj with
  | 0, _ => rfl
  | 1, _ => rfl
  | 2, _ => rfl
  | n + 3, h => exact absurd h (by simp)⟩
theorem n_18_18 : vFn GT vcl "java/lang/StringBuilder" 18 0 [.null, .int 0, .int 0, .int 0] := ⟨R0, T0, ty0, rfl, in0, gt_2 98 (by decide +kernel) rfl, gt_2 99 (by decide +kernel) rfl, gt_1 4 (by decide +kernel) rfl, tyok0, fun j hj => by
  match j, hj with
  | 0, _ => rfl
  | 1, _ => rfl
  | 2, _ => rfl
  | 3, _ => rfl
  | n + 4, h => exact absurd h (by simp)⟩
theorem n_19_1 : vFn GT vcl "java/lang/StringLatin1" 1 0 [.null, .int 0, .int 0, .int 0] := ⟨R0, T0, ty0, rfl, in0, gt_3 4 (by decide +kernel) rfl, gt_2 99 (by decide +kernel) rfl, gt_1 4 (by decide +kernel) rfl, tyok0, fun j hj => by
  match j, hj with
  | 0, _ => rfl
  | 1, _ => rfl
  | 2, _ => rfl
  | 3, _ => rfl
  | n + 4, h => exact absurd h (by simp)⟩
theorem n_20_3 : vFn GT vcl "java/lang/StringUTF16" 3 0 [.null, .int 0, .int 0, .int 0] := ⟨R0, T0, ty0, rfl, in0, gt_3 16 (by decide +kernel) rfl, gt_2 99 (by decide +kernel) rfl, gt_1 4 (by decide +kernel) rfl, tyok0, fun j hj => by
  match j, hj with
  | 0, _ => rfl
  | 1, _ => rfl
  | 2, _ => rfl
  | 3, _ => rfl
  | n + 4, h => exact absurd h (by simp)⟩
theorem k_0_18 : vKI GT "MenuScreens" 18 y_StringBuilder_init prog_21_method_1_code 1 0 := ⟨gt_1 38 (by decide +kernel) rfl, gt_1 39 (by decide +kernel) rfl, gt_1 3 (by decide +kernel) rfl, gt_1 40 (rfl) rfl, rfl, by decide +kernel⟩
theorem k_0_42 : vKV GT "MenuScreens" 42 y_StringBuilder_length prog_21_method_93_code 1 (some .int) 0 := ⟨gt_1 228 (by decide +kernel) rfl, gt_1 229 (by decide +kernel) rfl, gt_1 230 (by decide +kernel) rfl, gt_1 3 (by decide +kernel) rfl, gt_1 231 (rfl) rfl, by decide +kernel⟩
theorem k_0_46 : vKV GT "MenuScreens" 46 y_StringBuilder_append prog_21_method_14_code 2 (some (.object "java/lang/StringBuilder")) 1 := ⟨gt_1 235 (by decide +kernel) rfl, gt_1 236 (by decide +kernel) rfl, gt_1 237 (by decide +kernel) rfl, gt_1 3 (by decide +kernel) rfl, gt_1 238 (rfl) rfl, by decide +kernel⟩
theorem k_0_50 : vKV GT "MenuScreens" 50 y_StringBuilder_toString prog_21_method_42_code 1 (some (.object "java/lang/String")) 0 := ⟨gt_2 94 (by decide +kernel) rfl, gt_2 95 (by decide +kernel) rfl, gt_2 96 (by decide +kernel) rfl, gt_1 3 (by decide +kernel) rfl, gt_2 97 (rfl) rfl, by decide +kernel⟩
theorem k_0_54 : vKV GT "MenuScreens" 54 y_StringBuilder_setLength prog_21_method_89_code 2 none 1 := ⟨gt_2 148 (by decide +kernel) rfl, gt_2 149 (by decide +kernel) rfl, gt_2 150 (by decide +kernel) rfl, gt_1 3 (by decide +kernel) rfl, gt_2 151 (rfl) rfl, by decide +kernel⟩
theorem k_0_58 : vKV GT "MenuScreens" 58 y_Plan_clear prog_5_method_2_code 1 none 0 := ⟨gt_2 168 (by decide +kernel) rfl, gt_2 169 (by decide +kernel) rfl, gt_2 170 (by decide +kernel) rfl, gt_1 7 (by decide +kernel) rfl, gt_2 171 (rfl) rfl, by decide +kernel⟩
theorem k_0_63 : vKV GT "MenuScreens" 63 y_Reader_firstWrongLine prog_6_method_2_code 5 (some .int) 1 := ⟨gt_2 180 (by decide +kernel) rfl, gt_2 181 (by decide +kernel) rfl, gt_2 182 (by decide +kernel) rfl, gt_1 6 (by decide +kernel) rfl, gt_2 183 (rfl) rfl, by decide +kernel⟩
theorem k_0_67 : vKV GT "MenuScreens" 67 y_Plan_joinKeys prog_5_method_9_code 6 none 0 := ⟨gt_4 73 (by decide +kernel) rfl, gt_4 74 (by decide +kernel) rfl, gt_4 75 (by decide +kernel) rfl, gt_1 7 (by decide +kernel) rfl, gt_4 76 (rfl) rfl, by decide +kernel⟩
theorem k_0_70 : vKV GT "MenuScreens" 70 y_Plan_findRings prog_5_method_10_code 2 none 0 := ⟨gt_4 78 (by decide +kernel) rfl, gt_4 79 (by decide +kernel) rfl, gt_4 80 (by decide +kernel) rfl, gt_1 7 (by decide +kernel) rfl, gt_4 81 (rfl) rfl, by decide +kernel⟩
theorem k_0_73 : vKV GT "MenuScreens" 73 y_Plan_firstWrongScreenLine prog_5_method_13_code 3 (some .int) 0 := ⟨gt_4 98 (by decide +kernel) rfl, gt_4 99 (by decide +kernel) rfl, gt_4 100 (by decide +kernel) rfl, gt_1 7 (by decide +kernel) rfl, gt_4 101 (rfl) rfl, by decide +kernel⟩
theorem k_0_76 : vKV GT "MenuScreens" 76 y_Plan_clearScreensAndValues prog_5_method_3_code 1 none 0 := ⟨gt_4 106 (by decide +kernel) rfl, gt_2 173 (by decide +kernel) rfl, gt_2 174 (by decide +kernel) rfl, gt_1 7 (by decide +kernel) rfl, gt_2 175 (rfl) rfl, by decide +kernel⟩
theorem k_0_83 : vKV GT "MenuScreens" 83 y_ArrayList_size prog_27_method_8_code 1 (some .int) 0 := ⟨gt_4 107 (by decide +kernel) rfl, gt_3 41 (by decide +kernel) rfl, gt_3 42 (by decide +kernel) rfl, gt_1 10 (by decide +kernel) rfl, gt_3 43 (rfl) rfl, by decide +kernel⟩
theorem k_0_91 : vKV GT "MenuScreens" 91 y_Plan_valueNumbered prog_5_method_4_code 2 (some (.object "MenuScreens$Value")) 1 := ⟨gt_4 112 (by decide +kernel) rfl, gt_4 113 (by decide +kernel) rfl, gt_4 114 (by decide +kernel) rfl, gt_1 7 (by decide +kernel) rfl, gt_4 115 (rfl) rfl, by decide +kernel⟩
theorem k_0_112 : vKV GT "MenuScreens" 112 y_Plan_screenNumbered prog_5_method_6_code 2 (some (.object "MenuScreens$Screen")) 1 := ⟨gt_4 122 (by decide +kernel) rfl, gt_4 95 (by decide +kernel) rfl, gt_4 96 (by decide +kernel) rfl, gt_1 7 (by decide +kernel) rfl, gt_4 97 (rfl) rfl, by decide +kernel⟩
theorem k_0_116 : vKV GT "MenuScreens" 116 y_Screen_screenBehindKey prog_7_method_3_code 2 (some .int) 1 := ⟨gt_4 123 (by decide +kernel) rfl, gt_4 91 (by decide +kernel) rfl, gt_4 92 (by decide +kernel) rfl, gt_1 22 (by decide +kernel) rfl, gt_4 93 (rfl) rfl, by decide +kernel⟩
theorem k_0_125 : vKV GT "MenuScreens" 125 y_Screen_isBarredAt prog_7_method_2_code 2 (some .boolean) 1 := ⟨gt_4 124 (by decide +kernel) rfl, gt_4 125 (by decide +kernel) rfl, gt_4 126 (by decide +kernel) rfl, gt_1 22 (by decide +kernel) rfl, gt_4 127 (rfl) rfl, by decide +kernel⟩
theorem k_0_129 : vKV GT "MenuScreens" 129 y_Warnings_signAt prog_10_method_8_code 3 (some .int) 1 := ⟨gt_4 132 (by decide +kernel) rfl, gt_4 133 (by decide +kernel) rfl, gt_4 134 (by decide +kernel) rfl, gt_1 12 (by decide +kernel) rfl, gt_4 135 (rfl) rfl, by decide +kernel⟩
theorem k_0_135 : vKV GT "MenuScreens" 135 y_Screen_signAt prog_7_method_4_code 7 (some .int) 3 := ⟨gt_4 140 (by decide +kernel) rfl, gt_4 141 (by decide +kernel) rfl, gt_4 142 (by decide +kernel) rfl, gt_1 22 (by decide +kernel) rfl, gt_4 143 (rfl) rfl, by decide +kernel⟩
theorem k_0_138 : vKV GT "MenuScreens" 138 y_Warnings_add prog_10_method_2_code 4 (some .int) 2 := ⟨gt_4 186 (by decide +kernel) rfl, gt_4 187 (by decide +kernel) rfl, gt_4 188 (by decide +kernel) rfl, gt_1 12 (by decide +kernel) rfl, gt_4 189 (rfl) rfl, by decide +kernel⟩
theorem k_0_142 : vKV GT "MenuScreens" 142 y_Warnings_openAt prog_10_method_5_code 2 (some .int) 1 := ⟨gt_4 198 (by decide +kernel) rfl, gt_4 199 (by decide +kernel) rfl, gt_4 200 (by decide +kernel) rfl, gt_1 12 (by decide +kernel) rfl, gt_4 201 (rfl) rfl, by decide +kernel⟩
theorem k_0_145 : vKV GT "MenuScreens" 145 y_Warnings_close prog_10_method_6_code 4 (some .int) 1 := ⟨gt_4 206 (by decide +kernel) rfl, gt_4 207 (by decide +kernel) rfl, gt_4 208 (by decide +kernel) rfl, gt_1 12 (by decide +kernel) rfl, gt_4 209 (rfl) rfl, by decide +kernel⟩
theorem k_0_163 : vKS GT "MenuScreens" 163 y_MenuScreens_greatestDivisor prog_1_method_17_code 11 (some .long) 2 := ⟨gt_4 226 (by decide +kernel) rfl, gt_4 227 (by decide +kernel) rfl, gt_1 1 (by decide +kernel) rfl, gt_4 228 (rfl) rfl, by decide +kernel⟩
theorem k_0_169 : vKV GT "MenuScreens" 169 y_Plan_ringAt prog_5_method_8_code 2 (some .int) 1 := ⟨gt_5 2 (by decide +kernel) rfl, gt_5 3 (by decide +kernel) rfl, gt_5 4 (by decide +kernel) rfl, gt_1 7 (by decide +kernel) rfl, gt_5 5 (rfl) rfl, by decide +kernel⟩
theorem k_0_181 : vKS GT "MenuScreens" 181 y_Integer_bitCount prog_17_method_49_code 1 (some .int) 1 := ⟨gt_5 14 (by decide +kernel) rfl, gt_5 15 (by decide +kernel) rfl, gt_1 27 (by decide +kernel) rfl, gt_5 16 (rfl) rfl, by decide +kernel⟩
theorem k_2_28 : vKV GT "MenuScreens$Line" 28 y_String_length prog_20_method_54_code 1 (some .int) 0 := ⟨gt_2 211 (by decide +kernel) rfl, gt_2 185 (by decide +kernel) rfl, gt_2 186 (by decide +kernel) rfl, gt_1 4 (by decide +kernel) rfl, gt_2 187 (rfl) rfl, by decide +kernel⟩
theorem k_2_34 : vKV GT "MenuScreens$Line" 34 y_String_charAt prog_20_method_56_code 2 (some .char) 1 := ⟨gt_2 212 (by decide +kernel) rfl, gt_2 193 (by decide +kernel) rfl, gt_2 194 (by decide +kernel) rfl, gt_1 4 (by decide +kernel) rfl, gt_2 195 (rfl) rfl, by decide +kernel⟩
theorem k_2_38 : vKV GT "MenuScreens$Line" 38 y_Line_addWord prog_3_method_3_code 3 none 2 := ⟨gt_2 213 (by decide +kernel) rfl, gt_2 215 (by decide +kernel) rfl, gt_p 0 (by decide +kernel) rfl, gt_1 11 (by decide +kernel) rfl, gt_2 216 (rfl) rfl, by decide +kernel⟩
theorem k_2_42 : vKV GT "MenuScreens$Line" 42 y_String_substring prog_20_method_92_code 5 (some (.object "java/lang/String")) 2 := ⟨gt_2 229 (by decide +kernel) rfl, gt_2 230 (by decide +kernel) rfl, gt_2 231 (by decide +kernel) rfl, gt_1 4 (by decide +kernel) rfl, gt_2 232 (rfl) rfl, by decide +kernel⟩
theorem k_3_20 : vKV GT "MenuScreens$Piece" 20 y_Condition_holds prog_2_method_2_code 1 (some .boolean) 0 := ⟨gt_4 178 (by decide +kernel) rfl, gt_4 179 (by decide +kernel) rfl, gt_4 180 (by decide +kernel) rfl, gt_1 26 (by decide +kernel) rfl, gt_4 181 (rfl) rfl, by decide +kernel⟩
theorem k_4_11 : vKI GT "MenuScreens$Plan" 11 y_ArrayList_init prog_27_method_2_code 1 0 := ⟨gt_1 83 (by decide +kernel) rfl, gt_1 84 (by decide +kernel) rfl, gt_1 10 (by decide +kernel) rfl, gt_1 85 (rfl) rfl, rfl, by decide +kernel⟩
theorem k_4_25 : vKV GT "MenuScreens$Plan" 25 y_Plan_clearScreensAndValues prog_5_method_3_code 1 none 0 := ⟨gt_2 172 (by decide +kernel) rfl, gt_2 173 (by decide +kernel) rfl, gt_2 174 (by decide +kernel) rfl, gt_1 7 (by decide +kernel) rfl, gt_2 175 (rfl) rfl, by decide +kernel⟩
theorem k_4_32 : vKV GT "MenuScreens$Plan" 32 y_ArrayList_clear prog_27_method_40_code 4 none 0 := ⟨gt_2 176 (by decide +kernel) rfl, gt_2 177 (by decide +kernel) rfl, gt_2 178 (by decide +kernel) rfl, gt_1 10 (by decide +kernel) rfl, gt_2 179 (rfl) rfl, by decide +kernel⟩
theorem k_4_35 : vKV GT "MenuScreens$Plan" 35 y_ArrayList_size prog_27_method_8_code 1 (some .int) 0 := ⟨gt_3 48 (by decide +kernel) rfl, gt_3 41 (by decide +kernel) rfl, gt_3 42 (by decide +kernel) rfl, gt_1 10 (by decide +kernel) rfl, gt_3 43 (rfl) rfl, by decide +kernel⟩
theorem k_4_39 : vKV GT "MenuScreens$Plan" 39 y_ArrayList_get prog_27_method_20_code 2 (some (.object "java/lang/Object")) 1 := ⟨gt_3 49 (by decide +kernel) rfl, gt_3 50 (by decide +kernel) rfl, gt_3 51 (by decide +kernel) rfl, gt_1 10 (by decide +kernel) rfl, gt_3 52 (rfl) rfl, by decide +kernel⟩
theorem k_4_59 : vKV GT "MenuScreens$Plan" 59 y_Plan_screenNumberOf prog_5_method_7_code 4 (some .int) 1 := ⟨gt_4 77 (by decide +kernel) rfl, gt_3 165 (by decide +kernel) rfl, gt_3 166 (by decide +kernel) rfl, gt_1 7 (by decide +kernel) rfl, gt_3 167 (rfl) rfl, by decide +kernel⟩
theorem k_4_63 : vKV GT "MenuScreens$Plan" 63 y_Plan_markScreensThatLeadHome prog_5_method_11_code 3 none 0 := ⟨gt_4 82 (by decide +kernel) rfl, gt_4 84 (by decide +kernel) rfl, gt_p 17 (by decide +kernel) rfl, gt_1 7 (by decide +kernel) rfl, gt_4 85 (rfl) rfl, by decide +kernel⟩
theorem k_4_70 : vKV GT "MenuScreens$Plan" 70 y_Plan_hasKeyTowardsHome prog_5_method_12_code 4 (some .boolean) 1 := ⟨gt_4 86 (by decide +kernel) rfl, gt_4 88 (by decide +kernel) rfl, gt_p 18 (by decide +kernel) rfl, gt_1 7 (by decide +kernel) rfl, gt_4 89 (rfl) rfl, by decide +kernel⟩
theorem k_4_74 : vKV GT "MenuScreens$Plan" 74 y_Screen_screenBehindKey prog_7_method_3_code 2 (some .int) 1 := ⟨gt_4 90 (by decide +kernel) rfl, gt_4 91 (by decide +kernel) rfl, gt_4 92 (by decide +kernel) rfl, gt_1 22 (by decide +kernel) rfl, gt_4 93 (rfl) rfl, by decide +kernel⟩
theorem k_4_78 : vKV GT "MenuScreens$Plan" 78 y_Plan_screenNumbered prog_5_method_6_code 2 (some (.object "MenuScreens$Screen")) 1 := ⟨gt_4 94 (by decide +kernel) rfl, gt_4 95 (by decide +kernel) rfl, gt_4 96 (by decide +kernel) rfl, gt_1 7 (by decide +kernel) rfl, gt_4 97 (rfl) rfl, by decide +kernel⟩
theorem k_4_82 : vKV GT "MenuScreens$Plan" 82 y_Screen_hasKeyToNowhere prog_7_method_5_code 2 (some .boolean) 0 := ⟨gt_4 102 (by decide +kernel) rfl, gt_4 103 (by decide +kernel) rfl, gt_4 104 (by decide +kernel) rfl, gt_1 22 (by decide +kernel) rfl, gt_4 105 (rfl) rfl, by decide +kernel⟩
theorem k_5_33 : vKV GT "MenuScreens$Reader" 33 y_String_length prog_20_method_54_code 1 (some .int) 0 := ⟨gt_2 184 (by decide +kernel) rfl, gt_2 185 (by decide +kernel) rfl, gt_2 186 (by decide +kernel) rfl, gt_1 4 (by decide +kernel) rfl, gt_2 187 (rfl) rfl, by decide +kernel⟩
theorem k_5_39 : vKV GT "MenuScreens$Reader" 39 y_String_charAt prog_20_method_56_code 2 (some .char) 1 := ⟨gt_2 192 (by decide +kernel) rfl, gt_2 193 (by decide +kernel) rfl, gt_2 194 (by decide +kernel) rfl, gt_1 4 (by decide +kernel) rfl, gt_2 195 (rfl) rfl, by decide +kernel⟩
theorem k_5_43 : vKV GT "MenuScreens$Reader" 43 y_Line_split prog_3_method_2_code 6 none 3 := ⟨gt_2 207 (by decide +kernel) rfl, gt_2 208 (by decide +kernel) rfl, gt_2 209 (by decide +kernel) rfl, gt_1 11 (by decide +kernel) rfl, gt_2 210 (rfl) rfl, by decide +kernel⟩
theorem k_5_47 : vKV GT "MenuScreens$Reader" 47 y_Line_wordCount prog_3_method_4_code 1 (some .int) 0 := ⟨gt_2 217 (by decide +kernel) rfl, gt_2 218 (by decide +kernel) rfl, gt_2 219 (by decide +kernel) rfl, gt_1 11 (by decide +kernel) rfl, gt_2 220 (rfl) rfl, by decide +kernel⟩
theorem k_5_50 : vKV GT "MenuScreens$Reader" 50 y_Reader_takeLine prog_6_method_3_code 3 (some .boolean) 1 := ⟨gt_2 221 (by decide +kernel) rfl, gt_2 223 (by decide +kernel) rfl, gt_p 1 (by decide +kernel) rfl, gt_1 6 (by decide +kernel) rfl, gt_2 224 (rfl) rfl, by decide +kernel⟩
theorem k_5_54 : vKV GT "MenuScreens$Reader" 54 y_Line_wordAt prog_3_method_5_code 2 (some (.object "java/lang/String")) 1 := ⟨gt_2 225 (by decide +kernel) rfl, gt_2 226 (by decide +kernel) rfl, gt_2 227 (by decide +kernel) rfl, gt_1 11 (by decide +kernel) rfl, gt_2 228 (rfl) rfl, by decide +kernel⟩
theorem k_5_60 : vKV GT "MenuScreens$Reader" 60 y_String_equals prog_20_method_66_code 3 (some .boolean) 1 := ⟨gt_3 19 (by decide +kernel) rfl, gt_3 20 (by decide +kernel) rfl, gt_3 21 (by decide +kernel) rfl, gt_1 4 (by decide +kernel) rfl, gt_3 22 (rfl) rfl, by decide +kernel⟩
theorem k_5_64 : vKV GT "MenuScreens$Reader" 64 y_Reader_takeName prog_6_method_5_code 3 (some .boolean) 0 := ⟨gt_3 27 (by decide +kernel) rfl, gt_3 29 (by decide +kernel) rfl, gt_p 2 (by decide +kernel) rfl, gt_1 6 (by decide +kernel) rfl, gt_3 30 (rfl) rfl, by decide +kernel⟩
theorem k_5_70 : vKV GT "MenuScreens$Reader" 70 y_Reader_takeSetting prog_6_method_6_code 6 (some .boolean) 0 := ⟨gt_3 146 (by decide +kernel) rfl, gt_3 148 (by decide +kernel) rfl, gt_p 7 (by decide +kernel) rfl, gt_1 6 (by decide +kernel) rfl, gt_3 149 (rfl) rfl, by decide +kernel⟩
theorem k_5_74 : vKV GT "MenuScreens$Reader" 74 y_Reader_takeScreen prog_6_method_8_code 4 (some .boolean) 1 := ⟨gt_3 160 (by decide +kernel) rfl, gt_3 162 (by decide +kernel) rfl, gt_p 8 (by decide +kernel) rfl, gt_1 6 (by decide +kernel) rfl, gt_3 163 (rfl) rfl, by decide +kernel⟩
theorem k_5_77 : vKV GT "MenuScreens$Reader" 77 y_Reader_takeLineOf prog_6_method_4_code 3 (some .boolean) 2 := ⟨gt_3 206 (by decide +kernel) rfl, gt_3 208 (by decide +kernel) rfl, gt_p 9 (by decide +kernel) rfl, gt_1 6 (by decide +kernel) rfl, gt_3 209 (rfl) rfl, by decide +kernel⟩
theorem k_5_83 : vKV GT "MenuScreens$Reader" 83 y_Reader_takePut prog_6_method_9_code 3 (some .boolean) 1 := ⟨gt_3 211 (by decide +kernel) rfl, gt_3 213 (by decide +kernel) rfl, gt_p 10 (by decide +kernel) rfl, gt_1 6 (by decide +kernel) rfl, gt_3 214 (rfl) rfl, by decide +kernel⟩
theorem k_5_89 : vKV GT "MenuScreens$Reader" 89 y_Reader_takeSay prog_6_method_10_code 4 (some .boolean) 1 := ⟨gt_4 9 (by decide +kernel) rfl, gt_4 11 (by decide +kernel) rfl, gt_p 12 (by decide +kernel) rfl, gt_1 6 (by decide +kernel) rfl, gt_4 12 (rfl) rfl, by decide +kernel⟩
theorem k_5_94 : vKV GT "MenuScreens$Reader" 94 y_Reader_takeShow prog_6_method_11_code 4 (some .boolean) 1 := ⟨gt_4 15 (by decide +kernel) rfl, gt_4 17 (by decide +kernel) rfl, gt_p 13 (by decide +kernel) rfl, gt_1 6 (by decide +kernel) rfl, gt_4 18 (rfl) rfl, by decide +kernel⟩
theorem k_5_99 : vKV GT "MenuScreens$Reader" 99 y_Reader_takeIf prog_6_method_13_code 4 (some .boolean) 0 := ⟨gt_4 36 (by decide +kernel) rfl, gt_4 38 (by decide +kernel) rfl, gt_p 14 (by decide +kernel) rfl, gt_1 6 (by decide +kernel) rfl, gt_4 39 (rfl) rfl, by decide +kernel⟩
theorem k_5_104 : vKV GT "MenuScreens$Reader" 104 y_Reader_takeKey prog_6_method_14_code 5 (some .boolean) 1 := ⟨gt_4 64 (by decide +kernel) rfl, gt_4 66 (by decide +kernel) rfl, gt_p 15 (by decide +kernel) rfl, gt_1 6 (by decide +kernel) rfl, gt_4 67 (rfl) rfl, by decide +kernel⟩
theorem k_5_109 : vKV GT "MenuScreens$Reader" 109 y_Reader_takeBar prog_6_method_15_code 3 (some .boolean) 1 := ⟨gt_4 69 (by decide +kernel) rfl, gt_4 71 (by decide +kernel) rfl, gt_p 16 (by decide +kernel) rfl, gt_1 6 (by decide +kernel) rfl, gt_4 72 (rfl) rfl, by decide +kernel⟩
theorem k_5_112 : vKV GT "MenuScreens$Reader" 112 y_Line_nameAt prog_3_method_6_code 6 (some .long) 1 := ⟨gt_3 31 (by decide +kernel) rfl, gt_3 32 (by decide +kernel) rfl, gt_3 33 (by decide +kernel) rfl, gt_1 11 (by decide +kernel) rfl, gt_3 34 (rfl) rfl, by decide +kernel⟩
theorem k_5_116 : vKV GT "MenuScreens$Reader" 116 y_Reader_isFreeForValue prog_6_method_7_code 3 (some .boolean) 1 := ⟨gt_3 36 (by decide +kernel) rfl, gt_3 38 (by decide +kernel) rfl, gt_p 3 (by decide +kernel) rfl, gt_1 6 (by decide +kernel) rfl, gt_3 39 (rfl) rfl, by decide +kernel⟩
theorem k_5_126 : vKI GT "MenuScreens$Reader" 126 y_Value_init prog_8_method_1_code 3 1 := ⟨gt_3 64 (by decide +kernel) rfl, gt_3 65 (by decide +kernel) rfl, gt_1 21 (by decide +kernel) rfl, gt_3 66 (rfl) rfl, rfl, by decide +kernel⟩
theorem k_5_129 : vKV GT "MenuScreens$Reader" 129 y_ArrayList_add prog_27_method_25_code 2 (some .boolean) 1 := ⟨gt_3 99 (by decide +kernel) rfl, gt_3 100 (by decide +kernel) rfl, gt_3 101 (by decide +kernel) rfl, gt_1 10 (by decide +kernel) rfl, gt_3 102 (rfl) rfl, by decide +kernel⟩
theorem k_5_134 : vKV GT "MenuScreens$Reader" 134 y_Line_numberAt prog_3_method_7_code 8 (some .int) 1 := ⟨gt_3 150 (by decide +kernel) rfl, gt_3 151 (by decide +kernel) rfl, gt_3 152 (by decide +kernel) rfl, gt_1 11 (by decide +kernel) rfl, gt_3 153 (rfl) rfl, by decide +kernel⟩
theorem k_5_139 : vKI GT "MenuScreens$Reader" 139 y_Value_init_2 prog_8_method_2_code 9 4 := ⟨gt_3 156 (by decide +kernel) rfl, gt_3 157 (by decide +kernel) rfl, gt_1 21 (by decide +kernel) rfl, gt_3 158 (rfl) rfl, rfl, by decide +kernel⟩
theorem k_5_142 : vKV GT "MenuScreens$Reader" 142 y_ArrayList_size prog_27_method_8_code 1 (some .int) 0 := ⟨gt_3 40 (by decide +kernel) rfl, gt_3 41 (by decide +kernel) rfl, gt_3 42 (by decide +kernel) rfl, gt_1 10 (by decide +kernel) rfl, gt_3 43 (rfl) rfl, by decide +kernel⟩
theorem k_5_145 : vKV GT "MenuScreens$Reader" 145 y_Plan_valueNamed prog_5_method_5_code 5 (some (.object "MenuScreens$Value")) 1 := ⟨gt_3 44 (by decide +kernel) rfl, gt_3 45 (by decide +kernel) rfl, gt_3 46 (by decide +kernel) rfl, gt_1 7 (by decide +kernel) rfl, gt_3 47 (rfl) rfl, by decide +kernel⟩
theorem k_5_152 : vKV GT "MenuScreens$Reader" 152 y_Plan_screenNumberOf prog_5_method_7_code 4 (some .int) 1 := ⟨gt_3 164 (by decide +kernel) rfl, gt_3 165 (by decide +kernel) rfl, gt_3 166 (by decide +kernel) rfl, gt_1 7 (by decide +kernel) rfl, gt_3 167 (rfl) rfl, by decide +kernel⟩
theorem k_5_158 : vKI GT "MenuScreens$Reader" 158 y_Screen_init prog_7_method_1_code 4 2 := ⟨gt_3 171 (by decide +kernel) rfl, gt_3 172 (by decide +kernel) rfl, gt_1 22 (by decide +kernel) rfl, gt_3 173 (rfl) rfl, rfl, by decide +kernel⟩
theorem k_5_163 : vKI GT "MenuScreens$Reader" 163 y_WordPiece_init prog_11_method_1_code 6 5 := ⟨gt_3 217 (by decide +kernel) rfl, gt_3 218 (by decide +kernel) rfl, gt_1 24 (by decide +kernel) rfl, gt_3 219 (rfl) rfl, rfl, by decide +kernel⟩
theorem k_5_166 : vKV GT "MenuScreens$Reader" 166 y_Reader_takePiece prog_6_method_12_code 3 (some .boolean) 2 := ⟨gt_4 4 (by decide +kernel) rfl, gt_4 6 (by decide +kernel) rfl, gt_p 11 (by decide +kernel) rfl, gt_1 6 (by decide +kernel) rfl, gt_4 7 (rfl) rfl, by decide +kernel⟩
theorem k_5_174 : vKI GT "MenuScreens$Reader" 174 y_ValuePiece_init prog_9_method_1_code 6 5 := ⟨gt_4 21 (by decide +kernel) rfl, gt_4 22 (by decide +kernel) rfl, gt_1 25 (by decide +kernel) rfl, gt_4 23 (rfl) rfl, rfl, by decide +kernel⟩
theorem k_5_197 : vKI GT "MenuScreens$Reader" 197 y_Condition_init prog_2_method_1_code 5 4 := ⟨gt_4 45 (by decide +kernel) rfl, gt_4 46 (by decide +kernel) rfl, gt_1 26 (by decide +kernel) rfl, gt_4 47 (rfl) rfl, rfl, by decide +kernel⟩
theorem k_6_11 : vKI GT "MenuScreens$Screen" 11 y_ArrayList_init prog_27_method_2_code 1 0 := ⟨gt_3 176 (by decide +kernel) rfl, gt_1 84 (by decide +kernel) rfl, gt_1 10 (by decide +kernel) rfl, gt_1 85 (rfl) rfl, rfl, by decide +kernel⟩
theorem k_6_37 : vKV GT "MenuScreens$Screen" 37 y_ArrayList_size prog_27_method_8_code 1 (some .int) 0 := ⟨gt_4 144 (by decide +kernel) rfl, gt_3 41 (by decide +kernel) rfl, gt_3 42 (by decide +kernel) rfl, gt_1 10 (by decide +kernel) rfl, gt_3 43 (rfl) rfl, by decide +kernel⟩
theorem k_6_41 : vKV GT "MenuScreens$Screen" 41 y_ArrayList_get prog_27_method_20_code 2 (some (.object "java/lang/Object")) 1 := ⟨gt_4 145 (by decide +kernel) rfl, gt_3 50 (by decide +kernel) rfl, gt_3 51 (by decide +kernel) rfl, gt_1 10 (by decide +kernel) rfl, gt_3 52 (rfl) rfl, by decide +kernel⟩
theorem ku_6_53_11 : vKU GT "MenuScreens$Screen" 53 R11 "MenuScreens$Piece" ⟨"MenuScreens$Piece", "signAt", "(II)I"⟩ y_ValuePiece_signAt prog_9_method_2_code 3 (some .int) 2 := ⟨gt_4 147 (by decide +kernel) rfl, gt_4 149 (by decide +kernel) rfl, gt_4 150 (by decide +kernel) rfl, gt_4 151 (by decide +kernel) rfl, gt_1 25 (by decide +kernel) rfl, gt_4 152 (rfl) rfl, by decide +kernel⟩
theorem ku_6_53_10 : vKU GT "MenuScreens$Screen" 53 R10 "MenuScreens$Piece" ⟨"MenuScreens$Piece", "signAt", "(II)I"⟩ y_WordPiece_signAt prog_11_method_2_code 4 (some .int) 2 := ⟨gt_4 147 (by decide +kernel) rfl, gt_4 149 (by decide +kernel) rfl, gt_4 167 (by decide +kernel) rfl, gt_4 168 (by decide +kernel) rfl, gt_1 24 (by decide +kernel) rfl, gt_4 169 (rfl) rfl, by decide +kernel⟩
theorem ku_6_57_11 : vKU GT "MenuScreens$Screen" 57 R11 "MenuScreens$Piece" y_Piece_isOn y_Piece_isOn prog_4_method_3_code 2 (some .boolean) 0 := ⟨gt_4 172 (by decide +kernel) rfl, gt_4 174 (by decide +kernel) rfl, gt_4 175 (by decide +kernel) rfl, gt_4 173 (by decide +kernel) rfl, gt_1 23 (by decide +kernel) rfl, gt_4 177 (rfl) rfl, by decide +kernel⟩
theorem ku_6_57_10 : vKU GT "MenuScreens$Screen" 57 R10 "MenuScreens$Piece" y_Piece_isOn y_Piece_isOn prog_4_method_3_code 2 (some .boolean) 0 := ⟨gt_4 172 (by decide +kernel) rfl, gt_4 174 (by decide +kernel) rfl, gt_4 176 (by decide +kernel) rfl, gt_4 173 (by decide +kernel) rfl, gt_1 23 (by decide +kernel) rfl, gt_4 177 (rfl) rfl, by decide +kernel⟩
theorem k_8_3 : vKI GT "MenuScreens$ValuePiece" 3 y_Piece_init prog_4_method_1_code 4 3 := ⟨gt_4 24 (by decide +kernel) rfl, gt_3 221 (by decide +kernel) rfl, gt_1 23 (by decide +kernel) rfl, gt_3 222 (rfl) rfl, rfl, by decide +kernel⟩
theorem k_8_25 : vKV GT "MenuScreens$ValuePiece" 25 y_ValuePiece_signFromRight prog_9_method_3_code 6 (some .int) 1 := ⟨gt_4 153 (by decide +kernel) rfl, gt_4 155 (by decide +kernel) rfl, gt_p 20 (by decide +kernel) rfl, gt_1 25 (by decide +kernel) rfl, gt_4 156 (rfl) rfl, by decide +kernel⟩
theorem k_8_33 : vKS GT "MenuScreens$ValuePiece" 33 y_Math_abs prog_19_method_61_code 2 (some .long) 1 := ⟨gt_4 157 (by decide +kernel) rfl, gt_4 158 (by decide +kernel) rfl, gt_1 15 (by decide +kernel) rfl, gt_4 159 (rfl) rfl, by decide +kernel⟩
theorem k_8_39 : vKS GT "MenuScreens$ValuePiece" 39 y_ValuePiece_digitsOf prog_9_method_4_code 5 (some .int) 1 := ⟨gt_4 160 (by decide +kernel) rfl, gt_4 161 (by decide +kernel) rfl, gt_1 25 (by decide +kernel) rfl, gt_4 162 (rfl) rfl, by decide +kernel⟩
theorem k_8_43 : vKS GT "MenuScreens$ValuePiece" 43 y_ValuePiece_digitFromRight prog_9_method_5_code 6 (some .int) 2 := ⟨gt_4 164 (by decide +kernel) rfl, gt_4 165 (by decide +kernel) rfl, gt_1 25 (by decide +kernel) rfl, gt_4 166 (rfl) rfl, by decide +kernel⟩
theorem k_9_30 : vKV GT "MenuScreens$Warnings" 30 y_Warnings_insertOpen prog_10_method_3_code 4 none 2 := ⟨gt_4 190 (by decide +kernel) rfl, gt_4 192 (by decide +kernel) rfl, gt_p 21 (by decide +kernel) rfl, gt_1 12 (by decide +kernel) rfl, gt_4 193 (rfl) rfl, by decide +kernel⟩
theorem k_9_37 : vKV GT "MenuScreens$Warnings" 37 y_Warnings_rankOf prog_10_method_4_code 2 (some .int) 1 := ⟨gt_4 136 (by decide +kernel) rfl, gt_4 138 (by decide +kernel) rfl, gt_p 19 (by decide +kernel) rfl, gt_1 12 (by decide +kernel) rfl, gt_4 139 (rfl) rfl, by decide +kernel⟩
theorem k_9_41 : vKV GT "MenuScreens$Warnings" 41 y_Warnings_placeInOpen prog_10_method_7_code 3 (some .int) 1 := ⟨gt_4 210 (by decide +kernel) rfl, gt_4 212 (by decide +kernel) rfl, gt_p 22 (by decide +kernel) rfl, gt_1 12 (by decide +kernel) rfl, gt_4 213 (rfl) rfl, by decide +kernel⟩
theorem k_10_3 : vKI GT "MenuScreens$WordPiece" 3 y_Piece_init prog_4_method_1_code 4 3 := ⟨gt_3 220 (by decide +kernel) rfl, gt_3 221 (by decide +kernel) rfl, gt_1 23 (by decide +kernel) rfl, gt_3 222 (rfl) rfl, rfl, by decide +kernel⟩
theorem k_10_18 : vKV GT "MenuScreens$WordPiece" 18 y_String_length prog_20_method_54_code 1 (some .int) 0 := ⟨gt_4 170 (by decide +kernel) rfl, gt_2 185 (by decide +kernel) rfl, gt_2 186 (by decide +kernel) rfl, gt_1 4 (by decide +kernel) rfl, gt_2 187 (rfl) rfl, by decide +kernel⟩
theorem k_10_24 : vKV GT "MenuScreens$WordPiece" 24 y_String_charAt prog_20_method_56_code 2 (some .char) 1 := ⟨gt_4 171 (by decide +kernel) rfl, gt_2 193 (by decide +kernel) rfl, gt_2 194 (by decide +kernel) rfl, gt_1 4 (by decide +kernel) rfl, gt_2 195 (rfl) rfl, by decide +kernel⟩
theorem k_12_145 : vKV GT "MenuScreensModel" 145 y_MenuScreensModel_next prog_13_method_4_code 1 (some .boolean) 0 := ⟨gt_5 220 (by decide +kernel) rfl, gt_5 222 (by decide +kernel) rfl, gt_p 24 (by decide +kernel) rfl, gt_1 13 (by decide +kernel) rfl, gt_5 223 (rfl) rfl, by decide +kernel⟩
theorem k_12_149 : vKV GT "MenuScreensModel" 149 y_MenuScreensModel_isName prog_13_method_6_code 3 (some .boolean) 0 := ⟨gt_6 4 (by decide +kernel) rfl, gt_6 6 (by decide +kernel) rfl, gt_p 29 (by decide +kernel) rfl, gt_1 13 (by decide +kernel) rfl, gt_6 7 (rfl) rfl, by decide +kernel⟩
theorem k_12_165 : vKV GT "MenuScreensModel" 165 y_MenuScreensModel_same prog_13_method_9_code 7 (some .boolean) 4 := ⟨gt_6 12 (by decide +kernel) rfl, gt_6 14 (by decide +kernel) rfl, gt_p 31 (by decide +kernel) rfl, gt_1 13 (by decide +kernel) rfl, gt_6 15 (rfl) rfl, by decide +kernel⟩
theorem k_12_172 : vKV GT "MenuScreensModel" 172 y_MenuScreensModel_word prog_13_method_10_code 4 (some .long) 0 := ⟨gt_5 228 (by decide +kernel) rfl, gt_5 230 (by decide +kernel) rfl, gt_p 26 (by decide +kernel) rfl, gt_1 13 (by decide +kernel) rfl, gt_5 231 (rfl) rfl, by decide +kernel⟩
theorem k_12_176 : vKS GT "MenuScreensModel" 176 y_MenuScreensModel_told prog_13_method_11_code 11 (some .long) 7 := ⟨gt_5 233 (by decide +kernel) rfl, gt_5 234 (by decide +kernel) rfl, gt_1 13 (by decide +kernel) rfl, gt_5 235 (rfl) rfl, by decide +kernel⟩
theorem k_12_180 : vKV GT "MenuScreensModel" 180 y_MenuScreensModel_addValue prog_13_method_15_code 10 (some .boolean) 1 := ⟨gt_5 236 (by decide +kernel) rfl, gt_5 238 (by decide +kernel) rfl, gt_p 27 (by decide +kernel) rfl, gt_1 13 (by decide +kernel) rfl, gt_5 239 (rfl) rfl, by decide +kernel⟩
theorem k_12_184 : vKV GT "MenuScreensModel" 184 y_MenuScreensModel_addScreen prog_13_method_16_code 5 (some .boolean) 1 := ⟨gt_6 28 (by decide +kernel) rfl, gt_6 30 (by decide +kernel) rfl, gt_p 34 (by decide +kernel) rfl, gt_1 13 (by decide +kernel) rfl, gt_6 31 (rfl) rfl, by decide +kernel⟩
theorem k_12_188 : vKV GT "MenuScreensModel" 188 y_MenuScreensModel_addPart prog_13_method_17_code 3 (some .boolean) 1 := ⟨gt_6 37 (by decide +kernel) rfl, gt_6 39 (by decide +kernel) rfl, gt_p 36 (by decide +kernel) rfl, gt_1 13 (by decide +kernel) rfl, gt_6 40 (rfl) rfl, by decide +kernel⟩
theorem k_12_191 : vKV GT "MenuScreensModel" 191 y_MenuScreensModel_addCondition prog_13_method_18_code 3 (some .boolean) 0 := ⟨gt_6 42 (by decide +kernel) rfl, gt_6 44 (by decide +kernel) rfl, gt_p 37 (by decide +kernel) rfl, gt_1 13 (by decide +kernel) rfl, gt_6 45 (rfl) rfl, by decide +kernel⟩
theorem k_12_194 : vKV GT "MenuScreensModel" 194 y_MenuScreensModel_addKey prog_13_method_19_code 4 (some .boolean) 0 := ⟨gt_6 46 (by decide +kernel) rfl, gt_6 48 (by decide +kernel) rfl, gt_p 38 (by decide +kernel) rfl, gt_1 13 (by decide +kernel) rfl, gt_6 49 (rfl) rfl, by decide +kernel⟩
theorem k_12_199 : vKV GT "MenuScreensModel" 199 y_MenuScreensModel_number prog_13_method_8_code 9 (some .boolean) 2 := ⟨gt_6 18 (by decide +kernel) rfl, gt_6 20 (by decide +kernel) rfl, gt_p 32 (by decide +kernel) rfl, gt_1 13 (by decide +kernel) rfl, gt_6 21 (rfl) rfl, by decide +kernel⟩
theorem k_12_202 : vKV GT "MenuScreensModel" 202 y_MenuScreensModel_through prog_13_method_5_code 1 (some .boolean) 0 := ⟨gt_6 24 (by decide +kernel) rfl, gt_6 26 (by decide +kernel) rfl, gt_p 33 (by decide +kernel) rfl, gt_1 13 (by decide +kernel) rfl, gt_6 27 (rfl) rfl, by decide +kernel⟩
theorem k_12_205 : vKV GT "MenuScreensModel" 205 y_MenuScreensModel_name prog_13_method_7_code 1 (some .boolean) 0 := ⟨gt_6 0 (by decide +kernel) rfl, gt_6 2 (by decide +kernel) rfl, gt_p 28 (by decide +kernel) rfl, gt_1 13 (by decide +kernel) rfl, gt_6 3 (rfl) rfl, by decide +kernel⟩
theorem k_12_208 : vKV GT "MenuScreensModel" 208 y_MenuScreensModel_findValue prog_13_method_12_code 2 (some .int) 0 := ⟨gt_6 8 (by decide +kernel) rfl, gt_6 10 (by decide +kernel) rfl, gt_p 30 (by decide +kernel) rfl, gt_1 13 (by decide +kernel) rfl, gt_6 11 (rfl) rfl, by decide +kernel⟩
theorem k_12_216 : vKV GT "MenuScreensModel" 216 y_MenuScreensModel_findScreen prog_13_method_13_code 4 (some .int) 2 := ⟨gt_6 32 (by decide +kernel) rfl, gt_6 34 (by decide +kernel) rfl, gt_p 35 (by decide +kernel) rfl, gt_1 13 (by decide +kernel) rfl, gt_6 35 (rfl) rfl, by decide +kernel⟩
theorem k_12_230 : vKV GT "MenuScreensModel" 230 y_MenuScreensModel_leads prog_13_method_20_code 3 (some .int) 2 := ⟨gt_6 55 (by decide +kernel) rfl, gt_6 57 (by decide +kernel) rfl, gt_p 40 (by decide +kernel) rfl, gt_1 13 (by decide +kernel) rfl, gt_6 58 (rfl) rfl, by decide +kernel⟩
theorem k_12_239 : vKV GT "MenuScreensModel" 239 y_MenuScreensModel_line prog_13_method_14_code 4 (some .boolean) 1 := ⟨gt_5 224 (by decide +kernel) rfl, gt_5 226 (by decide +kernel) rfl, gt_p 25 (by decide +kernel) rfl, gt_1 13 (by decide +kernel) rfl, gt_5 227 (rfl) rfl, by decide +kernel⟩
theorem k_12_242 : vKV GT "MenuScreensModel" 242 y_MenuScreensModel_endLine prog_13_method_21_code 5 (some .int) 0 := ⟨gt_6 51 (by decide +kernel) rfl, gt_6 53 (by decide +kernel) rfl, gt_p 39 (by decide +kernel) rfl, gt_1 13 (by decide +kernel) rfl, gt_6 54 (rfl) rfl, by decide +kernel⟩
theorem k_12_248 : vKV GT "MenuScreensModel" 248 y_MenuScreensModel_wrong prog_13_method_22_code 3 (some .int) 0 := ⟨gt_5 216 (by decide +kernel) rfl, gt_5 218 (by decide +kernel) rfl, gt_p 23 (by decide +kernel) rfl, gt_1 13 (by decide +kernel) rfl, gt_5 219 (rfl) rfl, by decide +kernel⟩
theorem k_12_254 : vKV GT "MenuScreensModel" 254 y_MenuScreensModel_barred prog_13_method_26_code 1 (some .boolean) 0 := ⟨gt_6 71 (by decide +kernel) rfl, gt_6 73 (by decide +kernel) rfl, gt_p 41 (by decide +kernel) rfl, gt_1 13 (by decide +kernel) rfl, gt_6 74 (rfl) rfl, by decide +kernel⟩
theorem k_12_257 : vKV GT "MenuScreensModel" 257 y_MenuScreensModel_holds prog_13_method_28_code 7 (some .boolean) 1 := ⟨gt_6 91 (by decide +kernel) rfl, gt_6 93 (by decide +kernel) rfl, gt_p 45 (by decide +kernel) rfl, gt_1 13 (by decide +kernel) rfl, gt_6 94 (rfl) rfl, by decide +kernel⟩
theorem k_12_260 : vKV GT "MenuScreensModel" 260 y_MenuScreensModel_digit prog_13_method_29_code 12 (some .int) 3 := ⟨gt_6 95 (by decide +kernel) rfl, gt_6 97 (by decide +kernel) rfl, gt_p 46 (by decide +kernel) rfl, gt_1 13 (by decide +kernel) rfl, gt_6 98 (rfl) rfl, by decide +kernel⟩
theorem k_12_267 : vKV GT "MenuScreensModel" 267 y_MenuScreensModel_atHand prog_13_method_37_code 4 (some .int) 0 := ⟨gt_6 79 (by decide +kernel) rfl, gt_6 81 (by decide +kernel) rfl, gt_p 42 (by decide +kernel) rfl, gt_1 13 (by decide +kernel) rfl, gt_6 82 (rfl) rfl, by decide +kernel⟩
theorem k_12_270 : vKV GT "MenuScreensModel" 270 y_MenuScreensModel_partAt prog_13_method_30_code 9 (some .int) 3 := ⟨gt_6 87 (by decide +kernel) rfl, gt_6 89 (by decide +kernel) rfl, gt_p 44 (by decide +kernel) rfl, gt_1 13 (by decide +kernel) rfl, gt_6 90 (rfl) rfl, by decide +kernel⟩
theorem k_12_279 : vKV GT "MenuScreensModel" 279 y_MenuScreensModel_before prog_13_method_36_code 6 (some .int) 2 := ⟨gt_6 83 (by decide +kernel) rfl, gt_6 85 (by decide +kernel) rfl, gt_p 43 (by decide +kernel) rfl, gt_1 13 (by decide +kernel) rfl, gt_6 86 (rfl) rfl, by decide +kernel⟩
theorem k_13_26 : vKS GT "java/lang/AbstractStringBuilder" 26 y_StringUTF16_newBytesFor prog_23_method_2_code 1 (some (.array .byte)) 1 := ⟨gt_1 47 (by decide +kernel) rfl, gt_1 48 (by decide +kernel) rfl, gt_1 5 (by decide +kernel) rfl, gt_1 49 (rfl) rfl, by decide +kernel⟩
theorem ku_13_83_1 : vKU GT "java/lang/AbstractStringBuilder" 83 R1 "java/lang/AbstractStringBuilder" y_AbstractStringBuilder_isLatin1 y_AbstractStringBuilder_isLatin1 prog_15_method_68_code 1 (some .boolean) 0 := ⟨gt_2 37 (by decide +kernel) rfl, gt_2 39 (by decide +kernel) rfl, gt_2 40 (by decide +kernel) rfl, gt_2 38 (by decide +kernel) rfl, gt_1 2 (by decide +kernel) rfl, gt_2 41 (rfl) rfl, by decide +kernel⟩
theorem k_13_108 : vKS GT "java/lang/AbstractStringBuilder" 108 y_Arrays_copyOf prog_28_method_121_code 3 (some (.array .byte)) 2 := ⟨gt_2 21 (by decide +kernel) rfl, gt_2 22 (by decide +kernel) rfl, gt_1 16 (by decide +kernel) rfl, gt_2 23 (rfl) rfl, by decide +kernel⟩
theorem k_13_114 : vKS GT "java/lang/AbstractStringBuilder" 114 y_ArraysSupport_newLength prog_34_method_27_code 4 (some .int) 3 := ⟨gt_2 10 (by decide +kernel) rfl, gt_2 11 (by decide +kernel) rfl, gt_1 14 (by decide +kernel) rfl, gt_2 12 (rfl) rfl, by decide +kernel⟩
theorem k_13_125 : vKS GT "java/lang/AbstractStringBuilder" 125 y_StringLatin1_inflate prog_22_method_50_code 5 none 5 := ⟨gt_2 49 (by decide +kernel) rfl, gt_2 50 (by decide +kernel) rfl, gt_1 18 (by decide +kernel) rfl, gt_2 51 (rfl) rfl, by decide +kernel⟩
theorem k_13_133 : vKS GT "java/lang/AbstractStringBuilder" 133 y_StringLatin1_fillNull prog_22_method_48_code 3 none 3 := ⟨gt_2 155 (by decide +kernel) rfl, gt_2 156 (by decide +kernel) rfl, gt_1 18 (by decide +kernel) rfl, gt_2 157 (rfl) rfl, by decide +kernel⟩
theorem k_13_137 : vKS GT "java/lang/AbstractStringBuilder" 137 y_StringUTF16_fillNull prog_23_method_70_code 3 none 3 := ⟨gt_2 164 (by decide +kernel) rfl, gt_2 165 (by decide +kernel) rfl, gt_1 5 (by decide +kernel) rfl, gt_2 166 (rfl) rfl, by decide +kernel⟩
theorem k_13_191 : vKS GT "java/lang/AbstractStringBuilder" 191 y_StringLatin1_canEncode prog_22_method_3_code 1 (some .boolean) 1 := ⟨gt_2 42 (by decide +kernel) rfl, gt_2 43 (by decide +kernel) rfl, gt_1 18 (by decide +kernel) rfl, gt_2 44 (rfl) rfl, by decide +kernel⟩
theorem k_13_197 : vKS GT "java/lang/AbstractStringBuilder" 197 y_StringUTF16_putCharSB prog_23_method_71_code 3 none 3 := ⟨gt_2 78 (by decide +kernel) rfl, gt_2 79 (by decide +kernel) rfl, gt_1 5 (by decide +kernel) rfl, gt_2 80 (rfl) rfl, by decide +kernel⟩
theorem k_17_47 : vKS GT "java/lang/String" 47 y_StringUTF16_coderFromArrayLen prog_23_method_15_code 2 (some .byte) 2 := ⟨gt_2 134 (by decide +kernel) rfl, gt_2 135 (by decide +kernel) rfl, gt_1 5 (by decide +kernel) rfl, gt_2 136 (rfl) rfl, by decide +kernel⟩
theorem k_17_54 : vKS GT "java/lang/String" 54 y_Arrays_copyOfRange prog_28_method_132_code 3 (some (.array .byte)) 3 := ⟨gt_2 114 (by decide +kernel) rfl, gt_2 115 (by decide +kernel) rfl, gt_1 16 (by decide +kernel) rfl, gt_2 116 (rfl) rfl, by decide +kernel⟩
theorem k_17_335 : vKV GT "java/lang/String" 335 y_String_coder prog_20_method_152_code 1 (some .byte) 0 := ⟨gt_2 188 (by decide +kernel) rfl, gt_2 189 (by decide +kernel) rfl, gt_2 190 (by decide +kernel) rfl, gt_1 4 (by decide +kernel) rfl, gt_2 191 (rfl) rfl, by decide +kernel⟩
theorem k_17_489 : vKI GT "java/lang/String" 489 y_String_init_2 prog_20_method_150_code 5 2 := ⟨gt_2 103 (by decide +kernel) rfl, gt_2 104 (by decide +kernel) rfl, gt_1 4 (by decide +kernel) rfl, gt_2 105 (rfl) rfl, rfl, by decide +kernel⟩
theorem k_17_492 : vKV GT "java/lang/String" 492 y_String_isLatin1 prog_20_method_154_code 1 (some .boolean) 0 := ⟨gt_2 196 (by decide +kernel) rfl, gt_2 197 (by decide +kernel) rfl, gt_2 198 (by decide +kernel) rfl, gt_1 4 (by decide +kernel) rfl, gt_2 199 (rfl) rfl, by decide +kernel⟩
theorem k_17_495 : vKS GT "java/lang/String" 495 y_StringLatin1_charAt prog_22_method_2_code 2 (some .char) 2 := ⟨gt_2 200 (by decide +kernel) rfl, gt_2 201 (by decide +kernel) rfl, gt_1 18 (by decide +kernel) rfl, gt_2 202 (rfl) rfl, by decide +kernel⟩
theorem k_17_498 : vKS GT "java/lang/String" 498 y_StringUTF16_charAt prog_23_method_83_code 2 (some .char) 2 := ⟨gt_2 204 (by decide +kernel) rfl, gt_2 205 (by decide +kernel) rfl, gt_1 5 (by decide +kernel) rfl, gt_2 206 (rfl) rfl, by decide +kernel⟩
theorem k_17_505 : vKV GT "java/lang/String" 505 y_String_length prog_20_method_54_code 1 (some .int) 0 := ⟨gt_2 233 (by decide +kernel) rfl, gt_2 185 (by decide +kernel) rfl, gt_2 186 (by decide +kernel) rfl, gt_1 4 (by decide +kernel) rfl, gt_2 187 (rfl) rfl, by decide +kernel⟩
theorem k_17_521 : vKS GT "java/lang/String" 521 y_String_checkBoundsBeginEnd prog_20_method_158_code 3 none 3 := ⟨gt_2 234 (by decide +kernel) rfl, gt_2 235 (by decide +kernel) rfl, gt_1 4 (by decide +kernel) rfl, gt_2 236 (rfl) rfl, by decide +kernel⟩
theorem k_17_541 : vKS GT "java/lang/String" 541 y_StringLatin1_equals prog_22_method_13_code 3 (some .boolean) 2 := ⟨gt_3 24 (by decide +kernel) rfl, gt_3 25 (by decide +kernel) rfl, gt_1 18 (by decide +kernel) rfl, gt_3 26 (rfl) rfl, by decide +kernel⟩
theorem ku_17_549_1 : vKU GT "java/lang/String" 549 R1 "java/lang/AbstractStringBuilder" y_AbstractStringBuilder_length y_StringBuilder_length prog_21_method_93_code 1 (some .int) 0 := ⟨gt_2 112 (by decide +kernel) rfl, gt_6 139 (by decide +kernel) rfl, gt_6 144 (by decide +kernel) rfl, gt_1 229 (by decide +kernel) rfl, gt_1 3 (by decide +kernel) rfl, gt_1 231 (rfl) rfl, by decide +kernel⟩
theorem ku_17_552_1 : vKU GT "java/lang/String" 552 R1 "java/lang/AbstractStringBuilder" y_AbstractStringBuilder_getValue y_AbstractStringBuilder_getValue prog_15_method_64_code 1 (some (.array .byte)) 0 := ⟨gt_2 107 (by decide +kernel) rfl, gt_2 109 (by decide +kernel) rfl, gt_2 110 (by decide +kernel) rfl, gt_2 108 (by decide +kernel) rfl, gt_1 2 (by decide +kernel) rfl, gt_2 111 (rfl) rfl, by decide +kernel⟩
theorem k_17_685 : vKS GT "java/lang/String" 685 y_StringLatin1_newString prog_22_method_47_code 3 (some (.object "java/lang/String")) 3 := ⟨gt_3 0 (by decide +kernel) rfl, gt_3 1 (by decide +kernel) rfl, gt_1 18 (by decide +kernel) rfl, gt_3 2 (rfl) rfl, by decide +kernel⟩
theorem k_17_689 : vKS GT "java/lang/String" 689 y_StringUTF16_newString prog_23_method_69_code 5 (some (.object "java/lang/String")) 3 := ⟨gt_3 9 (by decide +kernel) rfl, gt_3 10 (by decide +kernel) rfl, gt_1 5 (by decide +kernel) rfl, gt_3 11 (rfl) rfl, by decide +kernel⟩
theorem ku_17_1047_1 : vKU GT "java/lang/String" 1047 R1 "java/lang/AbstractStringBuilder" y_AbstractStringBuilder_isLatin1 y_AbstractStringBuilder_isLatin1 prog_15_method_68_code 1 (some .boolean) 0 := ⟨gt_2 113 (by decide +kernel) rfl, gt_2 39 (by decide +kernel) rfl, gt_2 40 (by decide +kernel) rfl, gt_2 38 (by decide +kernel) rfl, gt_1 2 (by decide +kernel) rfl, gt_2 41 (rfl) rfl, by decide +kernel⟩
theorem k_17_1051 : vKS GT "java/lang/String" 1051 y_StringUTF16_compress prog_23_method_17_code 6 (some (.array .byte)) 3 := ⟨gt_2 124 (by decide +kernel) rfl, gt_2 125 (by decide +kernel) rfl, gt_1 5 (by decide +kernel) rfl, gt_2 126 (rfl) rfl, by decide +kernel⟩
theorem k_17_1059 : vKS GT "java/lang/String" 1059 y_Preconditions_checkIndex prog_35_method_11_code 3 (some .int) 3 := ⟨gt_2 87 (by decide +kernel) rfl, gt_2 88 (by decide +kernel) rfl, gt_1 19 (by decide +kernel) rfl, gt_2 89 (rfl) rfl, by decide +kernel⟩
theorem k_17_1062 : vKS GT "java/lang/String" 1062 y_Preconditions_checkFromToIndex prog_35_method_12_code 4 (some .int) 4 := ⟨gt_2 237 (by decide +kernel) rfl, gt_2 238 (by decide +kernel) rfl, gt_1 19 (by decide +kernel) rfl, gt_2 239 (rfl) rfl, by decide +kernel⟩
theorem k_17_1065 : vKS GT "java/lang/String" 1065 y_Preconditions_checkFromIndexSize prog_35_method_13_code 4 (some .int) 4 := ⟨gt_2 66 (by decide +kernel) rfl, gt_2 67 (by decide +kernel) rfl, gt_1 19 (by decide +kernel) rfl, gt_2 68 (rfl) rfl, by decide +kernel⟩
theorem k_18_1 : vKI GT "java/lang/StringBuilder" 1 y_AbstractStringBuilder_init prog_15_method_2_code 2 1 := ⟨gt_1 41 (by decide +kernel) rfl, gt_1 42 (by decide +kernel) rfl, gt_1 2 (by decide +kernel) rfl, gt_1 43 (rfl) rfl, rfl, by decide +kernel⟩
theorem k_18_137 : vKI GT "java/lang/StringBuilder" 137 y_String_init prog_20_method_53_code 2 1 := ⟨gt_2 100 (by decide +kernel) rfl, gt_2 101 (by decide +kernel) rfl, gt_1 4 (by decide +kernel) rfl, gt_2 102 (rfl) rfl, rfl, by decide +kernel⟩
theorem k_19_9 : vKS GT "java/lang/StringLatin1" 9 y_String_checkIndex prog_20_method_155_code 2 none 2 := ⟨gt_2 203 (by decide +kernel) rfl, gt_2 85 (by decide +kernel) rfl, gt_1 4 (by decide +kernel) rfl, gt_2 86 (rfl) rfl, by decide +kernel⟩
theorem k_19_112 : vKI GT "java/lang/StringLatin1" 112 y_String_init_3 prog_20_method_151_code 3 2 := ⟨gt_3 6 (by decide +kernel) rfl, gt_3 7 (by decide +kernel) rfl, gt_1 4 (by decide +kernel) rfl, gt_3 8 (rfl) rfl, rfl, by decide +kernel⟩
theorem k_19_232 : vKS GT "java/lang/StringLatin1" 232 y_Arrays_copyOfRange prog_28_method_132_code 3 (some (.array .byte)) 3 := ⟨gt_3 5 (by decide +kernel) rfl, gt_2 115 (by decide +kernel) rfl, gt_1 16 (by decide +kernel) rfl, gt_2 116 (rfl) rfl, by decide +kernel⟩
theorem k_19_236 : vKS GT "java/lang/StringLatin1" 236 y_Arrays_fill prog_28_method_110_code 5 none 4 := ⟨gt_2 158 (by decide +kernel) rfl, gt_2 159 (by decide +kernel) rfl, gt_1 16 (by decide +kernel) rfl, gt_2 160 (rfl) rfl, by decide +kernel⟩
theorem k_19_240 : vKS GT "java/lang/StringLatin1" 240 y_StringUTF16_inflate prog_23_method_86_code 6 none 5 := ⟨gt_2 52 (by decide +kernel) rfl, gt_2 53 (by decide +kernel) rfl, gt_1 5 (by decide +kernel) rfl, gt_2 54 (rfl) rfl, by decide +kernel⟩
theorem k_20_11 : vKS GT "java/lang/StringUTF16" 11 y_StringUTF16_newBytesLength prog_23_method_3_code 1 (some .int) 1 := ⟨gt_1 50 (by decide +kernel) rfl, gt_1 51 (by decide +kernel) rfl, gt_1 5 (by decide +kernel) rfl, gt_1 52 (rfl) rfl, by decide +kernel⟩
theorem k_20_48 : vKS GT "java/lang/StringUTF16" 48 y_StringUTF16_length prog_23_method_6_code 1 (some .int) 1 := ⟨gt_2 58 (by decide +kernel) rfl, gt_2 59 (by decide +kernel) rfl, gt_1 5 (by decide +kernel) rfl, gt_2 60 (rfl) rfl, by decide +kernel⟩
theorem k_20_67 : vKS GT "java/lang/StringUTF16" 67 y_StringUTF16_checkIndex prog_23_method_91_code 2 none 2 := ⟨gt_2 81 (by decide +kernel) rfl, gt_2 82 (by decide +kernel) rfl, gt_1 5 (by decide +kernel) rfl, gt_2 83 (rfl) rfl, by decide +kernel⟩
theorem k_20_71 : vKS GT "java/lang/StringUTF16" 71 y_StringUTF16_getChar prog_23_method_5_code 2 (some .char) 2 := ⟨gt_2 130 (by decide +kernel) rfl, gt_2 131 (by decide +kernel) rfl, gt_1 5 (by decide +kernel) rfl, gt_2 132 (rfl) rfl, by decide +kernel⟩
theorem k_20_111 : vKS GT "java/lang/StringUTF16" 111 y_StringUTF16_putChar prog_23_method_4_code 3 none 3 := ⟨gt_2 69 (by decide +kernel) rfl, gt_2 70 (by decide +kernel) rfl, gt_1 5 (by decide +kernel) rfl, gt_2 71 (rfl) rfl, by decide +kernel⟩
theorem k_20_123 : vKS GT "java/lang/StringUTF16" 123 y_StringUTF16_compress_2 prog_23_method_22_code 7 (some .int) 5 := ⟨gt_2 127 (by decide +kernel) rfl, gt_2 128 (by decide +kernel) rfl, gt_1 5 (by decide +kernel) rfl, gt_2 129 (rfl) rfl, by decide +kernel⟩
theorem k_20_126 : vKS GT "java/lang/StringUTF16" 126 y_Arrays_copyOfRange prog_28_method_132_code 3 (some (.array .byte)) 3 := ⟨gt_2 133 (by decide +kernel) rfl, gt_2 115 (by decide +kernel) rfl, gt_1 16 (by decide +kernel) rfl, gt_2 116 (rfl) rfl, by decide +kernel⟩
theorem k_20_173 : vKS GT "java/lang/StringUTF16" 173 y_StringUTF16_checkBoundsOffCount prog_23_method_94_code 3 none 3 := ⟨gt_2 55 (by decide +kernel) rfl, gt_2 56 (by decide +kernel) rfl, gt_1 5 (by decide +kernel) rfl, gt_2 57 (rfl) rfl, by decide +kernel⟩
theorem k_20_257 : vKS GT "java/lang/StringUTF16" 257 y_StringUTF16_compress prog_23_method_17_code 6 (some (.array .byte)) 3 := ⟨gt_3 14 (by decide +kernel) rfl, gt_2 125 (by decide +kernel) rfl, gt_1 5 (by decide +kernel) rfl, gt_2 126 (rfl) rfl, by decide +kernel⟩
theorem k_20_259 : vKS GT "java/lang/StringUTF16" 259 y_StringUTF16_coderFromArrayLen prog_23_method_15_code 2 (some .byte) 2 := ⟨gt_3 15 (by decide +kernel) rfl, gt_2 135 (by decide +kernel) rfl, gt_1 5 (by decide +kernel) rfl, gt_2 136 (rfl) rfl, by decide +kernel⟩
theorem k_20_263 : vKI GT "java/lang/StringUTF16" 263 y_String_init_3 prog_20_method_151_code 3 2 := ⟨gt_3 17 (by decide +kernel) rfl, gt_3 7 (by decide +kernel) rfl, gt_1 4 (by decide +kernel) rfl, gt_3 8 (rfl) rfl, rfl, by decide +kernel⟩
theorem k_20_380 : vKS GT "java/lang/StringUTF16" 380 y_Arrays_fill prog_28_method_110_code 5 none 4 := ⟨gt_2 167 (by decide +kernel) rfl, gt_2 159 (by decide +kernel) rfl, gt_1 16 (by decide +kernel) rfl, gt_2 160 (rfl) rfl, by decide +kernel⟩
theorem k_20_414 : vKS GT "java/lang/StringUTF16" 414 y_String_checkIndex prog_20_method_155_code 2 none 2 := ⟨gt_2 84 (by decide +kernel) rfl, gt_2 85 (by decide +kernel) rfl, gt_1 4 (by decide +kernel) rfl, gt_2 86 (rfl) rfl, by decide +kernel⟩
theorem k_20_419 : vKS GT "java/lang/StringUTF16" 419 y_String_checkBoundsOffCount prog_20_method_157_code 3 (some .int) 3 := ⟨gt_2 61 (by decide +kernel) rfl, gt_2 62 (by decide +kernel) rfl, gt_1 4 (by decide +kernel) rfl, gt_2 63 (rfl) rfl, by decide +kernel⟩
theorem k_22_1 : vKI GT "java/util/AbstractList" 1 y_AbstractCollection_init prog_25_method_1_code 1 0 := ⟨gt_1 89 (by decide +kernel) rfl, gt_1 90 (by decide +kernel) rfl, gt_1 8 (by decide +kernel) rfl, gt_1 91 (rfl) rfl, rfl, by decide +kernel⟩
theorem k_23_1 : vKI GT "java/util/ArrayList" 1 y_AbstractList_init prog_26_method_1_code 1 0 := ⟨gt_1 86 (by decide +kernel) rfl, gt_1 87 (by decide +kernel) rfl, gt_1 9 (by decide +kernel) rfl, gt_1 88 (rfl) rfl, rfl, by decide +kernel⟩
theorem k_23_66 : vKS GT "java/util/ArrayList" 66 y_Arrays_copyOf_2 prog_28_method_119_code 2 (some (.array (.object "java/lang/Object"))) 2 := ⟨gt_3 116 (by decide +kernel) rfl, gt_3 117 (by decide +kernel) rfl, gt_1 16 (by decide +kernel) rfl, gt_3 118 (rfl) rfl, by decide +kernel⟩
theorem k_23_69 : vKV GT "java/util/ArrayList" 69 y_ArrayList_grow_2 prog_27_method_6_code 4 (some (.array (.object "java/lang/Object"))) 1 := ⟨gt_3 111 (by decide +kernel) rfl, gt_3 113 (by decide +kernel) rfl, gt_p 6 (by decide +kernel) rfl, gt_1 10 (by decide +kernel) rfl, gt_3 114 (rfl) rfl, by decide +kernel⟩
theorem k_23_73 : vKS GT "java/util/ArrayList" 73 y_ArraysSupport_newLength prog_34_method_27_code 4 (some .int) 3 := ⟨gt_3 115 (by decide +kernel) rfl, gt_2 11 (by decide +kernel) rfl, gt_1 14 (by decide +kernel) rfl, gt_2 12 (rfl) rfl, by decide +kernel⟩
theorem k_23_79 : vKS GT "java/util/ArrayList" 79 y_Math_max prog_19_method_65_code 2 (some .int) 2 := ⟨gt_3 143 (by decide +kernel) rfl, gt_2 14 (by decide +kernel) rfl, gt_1 15 (by decide +kernel) rfl, gt_2 15 (rfl) rfl, by decide +kernel⟩
theorem k_23_118 : vKS GT "java/util/ArrayList" 118 y_Objects_checkIndex prog_31_method_17_code 2 (some .int) 2 := ⟨gt_3 53 (by decide +kernel) rfl, gt_3 54 (by decide +kernel) rfl, gt_1 20 (by decide +kernel) rfl, gt_3 55 (rfl) rfl, by decide +kernel⟩
theorem k_23_123 : vKV GT "java/util/ArrayList" 123 y_ArrayList_elementData prog_27_method_18_code 2 (some (.object "java/lang/Object")) 1 := ⟨gt_3 57 (by decide +kernel) rfl, gt_3 58 (by decide +kernel) rfl, gt_3 59 (by decide +kernel) rfl, gt_1 10 (by decide +kernel) rfl, gt_3 60 (rfl) rfl, by decide +kernel⟩
theorem k_23_129 : vKV GT "java/util/ArrayList" 129 y_ArrayList_grow prog_27_method_7_code 1 (some (.array (.object "java/lang/Object"))) 0 := ⟨gt_3 107 (by decide +kernel) rfl, gt_3 109 (by decide +kernel) rfl, gt_p 5 (by decide +kernel) rfl, gt_1 10 (by decide +kernel) rfl, gt_3 110 (rfl) rfl, by decide +kernel⟩
theorem k_23_131 : vKV GT "java/util/ArrayList" 131 y_ArrayList_add_2 prog_27_method_24_code 4 none 3 := ⟨gt_3 103 (by decide +kernel) rfl, gt_3 105 (by decide +kernel) rfl, gt_p 4 (by decide +kernel) rfl, gt_1 10 (by decide +kernel) rfl, gt_3 106 (rfl) rfl, by decide +kernel⟩
theorem k_24_13 : vKS GT "java/util/Arrays" 13 y_Arrays_rangeCheck prog_28_method_30_code 3 none 3 := ⟨gt_2 161 (by decide +kernel) rfl, gt_2 162 (by decide +kernel) rfl, gt_1 16 (by decide +kernel) rfl, gt_2 163 (rfl) rfl, by decide +kernel⟩
theorem k_24_300 : vKS GT "java/util/Arrays" 300 y_Arrays_copyOf_3 prog_28_method_120_code 4 (some (.array (.object "java/lang/Object"))) 3 := ⟨gt_3 137 (by decide +kernel) rfl, gt_3 138 (by decide +kernel) rfl, gt_1 16 (by decide +kernel) rfl, gt_3 139 (rfl) rfl, by decide +kernel⟩
theorem k_24_304 : vKS GT "java/util/Arrays" 304 y_Math_min prog_19_method_69_code 2 (some .int) 2 := ⟨gt_2 31 (by decide +kernel) rfl, gt_2 32 (by decide +kernel) rfl, gt_1 15 (by decide +kernel) rfl, gt_2 33 (rfl) rfl, by decide +kernel⟩
theorem k_24_339 : vKS GT "java/util/Arrays" 339 y_Arrays_copyOfRangeByte prog_28_method_133_code 5 (some (.array .byte)) 3 := ⟨gt_2 117 (by decide +kernel) rfl, gt_2 118 (by decide +kernel) rfl, gt_1 16 (by decide +kernel) rfl, gt_2 119 (rfl) rfl, by decide +kernel⟩
theorem k_24_343 : vKS GT "java/util/Arrays" 343 y_Arrays_checkLength prog_28_method_131_code 2 none 2 := ⟨gt_2 120 (by decide +kernel) rfl, gt_2 121 (by decide +kernel) rfl, gt_1 16 (by decide +kernel) rfl, gt_2 122 (rfl) rfl, by decide +kernel⟩
theorem k_25_105 : vKS GT "java/util/Objects" 105 y_Preconditions_checkIndex prog_35_method_11_code 3 (some .int) 3 := ⟨gt_3 56 (by decide +kernel) rfl, gt_2 88 (by decide +kernel) rfl, gt_1 19 (by decide +kernel) rfl, gt_2 89 (rfl) rfl, by decide +kernel⟩
theorem k_26_194 : vKS GT "jdk/internal/util/ArraysSupport" 194 y_Math_max prog_19_method_65_code 2 (some .int) 2 := ⟨gt_2 13 (by decide +kernel) rfl, gt_2 14 (by decide +kernel) rfl, gt_1 15 (by decide +kernel) rfl, gt_2 15 (rfl) rfl, by decide +kernel⟩
theorem k_26_201 : vKS GT "jdk/internal/util/ArraysSupport" 201 y_ArraysSupport_hugeLength prog_34_method_28_code 3 (some .int) 2 := ⟨gt_2 17 (by decide +kernel) rfl, gt_2 18 (by decide +kernel) rfl, gt_1 14 (by decide +kernel) rfl, gt_2 19 (rfl) rfl, by decide +kernel⟩
