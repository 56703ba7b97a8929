theorem cn_RX11_9 : ("SnowForts", 9, yX6_init, "SnowForts") ∈ nwL ∧ Cond.instanceMethod yX6_init ∈ GW := ⟨by decide +kernel, w_33⟩
theorem cn_RX11_18 : ("SnowForts", 18, yX4_init, "SnowForts") ∈ nwL ∧ Cond.instanceMethod yX4_init ∈ GW := ⟨by decide +kernel, w_49⟩
theorem cn_RX11_25 : Cond.methodLink "SnowForts" 25 yX10_init ∈ GW ∧ Cond.instanceMethod yX10_init ∈ GW := ⟨w_122, w_123⟩
theorem cn_RX11_34 : Cond.methodLink "SnowForts" 34 yX3_init ∈ GW ∧ Cond.instanceMethod yX3_init ∈ GW := ⟨w_144, w_145⟩
theorem cn_RX11_41 : ("SnowForts", 41, yX9_init, "SnowForts") ∈ nwL ∧ Cond.instanceMethod yX9_init ∈ GW := ⟨by decide +kernel, w_164⟩
theorem cn_RX11_51 : ("SnowForts", 51, yX2_init, "SnowForts") ∈ nwL ∧ Cond.instanceMethod yX2_init ∈ GW := ⟨by decide +kernel, w_241⟩
theorem cn_RX11_69 : ("SnowForts", 69, yX7_init, "SnowForts") ∈ nwL ∧ Cond.instanceMethod yX7_init ∈ GW := ⟨by decide +kernel, w_287⟩
theorem cn_RX11_76 : ("SnowForts", 76, yX0_init, "SnowForts") ∈ nwL ∧ Cond.instanceMethod yX0_init ∈ GW := ⟨by decide +kernel, w_320⟩
theorem cn_RX11_83 : ("SnowForts", 83, yX1_init, "SnowForts") ∈ nwL ∧ Cond.instanceMethod yX1_init ∈ GW := ⟨by decide +kernel, w_335⟩
theorem cn_RX11_94 : ("SnowForts", 94, yX5_init, "SnowForts") ∈ nwL ∧ Cond.instanceMethod yX5_init ∈ GW := ⟨by decide +kernel, w_352⟩
theorem cw_X6_init : CWB yX6_init cX6_init 1 none 0 := ⟨w_34, w_2, by decide +kernel, by decide +kernel⟩
theorem cw_X4_init : CWB yX4_init cX4_init 1 none 0 := ⟨w_50, w_3, by decide +kernel, by decide +kernel⟩
theorem cw_X10_init : CWB yX10_init cX10_init 2 none 1 := ⟨w_124, w_4, by decide +kernel, by decide +kernel⟩
theorem cw_X3_init : CWB yX3_init cX3_init 2 none 1 := ⟨w_146, w_5, by decide +kernel, by decide +kernel⟩
theorem cw_X9_init : CWB yX9_init cX9_init 1 none 0 := ⟨w_165, w_6, by decide +kernel, by decide +kernel⟩
theorem cw_X2_init : CWB yX2_init cX2_init 1 none 0 := ⟨w_242, w_7, by decide +kernel, by decide +kernel⟩
theorem cw_X7_init : CWB yX7_init cX7_init 1 none 0 := ⟨w_288, w_8, by decide +kernel, by decide +kernel⟩
theorem cw_X0_init : CWB yX0_init cX0_init 1 none 0 := ⟨w_321, w_9, by decide +kernel, by decide +kernel⟩
theorem cw_X1_init : CWB yX1_init cX1_init 1 none 0 := ⟨w_336, w_10, by decide +kernel, by decide +kernel⟩
theorem cw_X5_init : CWB yX5_init cX5_init 1 none 0 := ⟨w_353, w_11, by decide +kernel, by decide +kernel⟩
theorem cw_X11_init : CWB yX11_init cX11_init 1 none 0 := ⟨w_25, w_1, by decide +kernel, by decide +kernel⟩
theorem fn_RX6_9_230 : FN "SnowForts$Tray" 9 230 1 6 0 24 (.array .long) := ⟨_, _, _, _, _, rfl, rfl, rfl, by decide, rfl, rfl, rfl, rfl, by decide +kernel, wsin_X6, w_36, rfl, by decide +kernel, by decide, by decide⟩
theorem fpz_RX6_15_1 : FP "SnowForts$Tray" 15 1 6 2 (0, -1, 60) .int := ⟨_, _, _, _, rfl, rfl, rfl, by decide, rfl, wsin_X6, w_37, rfl, by decide +kernel, by decide⟩
theorem fn_RX4_9_260 : FN "SnowForts$Reader" 9 260 261 4 0 25 (.array .byte) := ⟨_, _, _, _, _, rfl, rfl, rfl, by decide, rfl, rfl, rfl, rfl, by decide +kernel, wsin_X4, w_54, rfl, by decide +kernel, by decide, by decide⟩
theorem fn_RX4_15_261 : FN "SnowForts$Reader" 15 261 262 4 2 26 (.array .int) := ⟨_, _, _, _, _, rfl, rfl, rfl, by decide, rfl, rfl, rfl, rfl, by decide +kernel, wsin_X4, w_57, rfl, by decide +kernel, by decide, by decide⟩
theorem fn_RX4_19_262 : FN "SnowForts$Reader" 19 262 263 4 3 27 (.array .int) := ⟨_, _, _, _, _, rfl, rfl, rfl, by decide, rfl, rfl, rfl, rfl, by decide +kernel, wsin_X4, w_58, rfl, by decide +kernel, by decide, by decide⟩
theorem fn_RX4_22_263 : FN "SnowForts$Reader" 22 263 264 4 4 28 (.array .long) := ⟨_, _, _, _, _, rfl, rfl, rfl, by decide, rfl, rfl, rfl, rfl, by decide +kernel, wsin_X4, w_59, rfl, by decide +kernel, by decide, by decide⟩
theorem fn_RX4_28_264 : FN "SnowForts$Reader" 28 264 2 4 5 29 (.array (.object "SnowForts$Word")) := ⟨_, _, _, _, _, rfl, rfl, rfl, by decide, rfl, rfl, rfl, rfl, by decide +kernel, wsin_X4, w_60, rfl, by decide +kernel, by decide, by decide⟩
theorem fpz_RX4_32_2 : FP "SnowForts$Reader" 32 2 4 15 (0, -2147483648, 2147483647) .int := ⟨_, _, _, _, rfl, rfl, rfl, by decide, rfl, wsin_X4, w_81, rfl, by decide +kernel, by decide⟩
theorem fpz_RX4_36_2 : FP "SnowForts$Reader" 36 2 4 16 (0, -2147483648, 2147483647) .int := ⟨_, _, _, _, rfl, rfl, rfl, by decide, rfl, wsin_X4, w_82, rfl, by decide +kernel, by decide⟩
theorem fn_RX10_9_290 : FN "SnowForts$YardText" 9 290 291 9 1 42 (.array .int) := ⟨_, _, _, _, _, rfl, rfl, rfl, by decide, rfl, rfl, rfl, rfl, by decide +kernel, wsin_X10, w_127, rfl, by decide +kernel, by decide, by decide⟩
theorem fn_RX10_15_291 : FN "SnowForts$YardText" 15 291 292 9 2 76 (.array .int) := ⟨_, _, _, _, _, rfl, rfl, rfl, by decide, rfl, rfl, rfl, rfl, by decide +kernel, wsin_X10, w_128, rfl, by decide +kernel, by decide, by decide⟩
theorem fn_RX10_18_292 : FN "SnowForts$YardText" 18 292 293 9 3 77 (.array .int) := ⟨_, _, _, _, _, rfl, rfl, rfl, by decide, rfl, rfl, rfl, rfl, by decide +kernel, wsin_X10, w_129, rfl, by decide +kernel, by decide, by decide⟩
theorem fn_RX10_21_293 : FN "SnowForts$YardText" 21 293 3 9 0 2 (.object "SnowForts$Reader") := ⟨_, _, _, _, _, rfl, rfl, rfl, by decide, rfl, rfl, rfl, rfl, by decide +kernel, wsin_X10, w_126, rfl, by decide +kernel, by decide, by decide⟩
theorem fn_RX3_11_320 : FN "SnowForts$OrdersText" 11 320 321 3 1 30 (.array .int) := ⟨_, _, _, _, _, rfl, rfl, rfl, by decide, rfl, rfl, rfl, rfl, by decide +kernel, wsin_X3, w_149, rfl, by decide +kernel, by decide, by decide⟩
theorem fn_RX3_15_321 : FN "SnowForts$OrdersText" 15 321 4 3 0 2 (.object "SnowForts$Reader") := ⟨_, _, _, _, _, rfl, rfl, rfl, by decide, rfl, rfl, rfl, rfl, by decide +kernel, wsin_X3, w_148, rfl, by decide +kernel, by decide, by decide⟩
theorem fpz_RX9_9_350 : FP "SnowForts$Yard" 9 350 8 0 (0, 0, 6) .int := ⟨_, _, _, _, rfl, rfl, rfl, by decide, rfl, wsin_X9, w_167, rfl, by decide +kernel, by decide⟩
theorem fpz_RX9_15_350 : FP "SnowForts$Yard" 15 350 8 1 (0, 0, 6) .int := ⟨_, _, _, _, rfl, rfl, rfl, by decide, rfl, wsin_X9, w_172, rfl, by decide +kernel, by decide⟩
theorem fn_RX9_18_350 : FN "SnowForts$Yard" 18 350 351 8 7 31 (.array .int) := ⟨_, _, _, _, _, rfl, rfl, rfl, by decide, rfl, rfl, rfl, rfl, by decide +kernel, wsin_X9, w_184, rfl, by decide +kernel, by decide, by decide⟩
theorem fn_RX9_22_351 : FN "SnowForts$Yard" 22 351 352 8 8 32 (.array .int) := ⟨_, _, _, _, _, rfl, rfl, rfl, by decide, rfl, rfl, rfl, rfl, by decide +kernel, wsin_X9, w_186, rfl, by decide +kernel, by decide, by decide⟩
theorem fn_RX9_25_352 : FN "SnowForts$Yard" 25 352 353 8 9 33 (.array .int) := ⟨_, _, _, _, _, rfl, rfl, rfl, by decide, rfl, rfl, rfl, rfl, by decide +kernel, wsin_X9, w_187, rfl, by decide +kernel, by decide, by decide⟩
theorem fn_RX9_28_353 : FN "SnowForts$Yard" 28 353 354 8 10 34 (.array .int) := ⟨_, _, _, _, _, rfl, rfl, rfl, by decide, rfl, rfl, rfl, rfl, by decide +kernel, wsin_X9, w_188, rfl, by decide +kernel, by decide, by decide⟩
theorem fn_RX9_31_354 : FN "SnowForts$Yard" 31 354 355 8 11 35 (.array .int) := ⟨_, _, _, _, _, rfl, rfl, rfl, by decide, rfl, rfl, rfl, rfl, by decide +kernel, wsin_X9, w_190, rfl, by decide +kernel, by decide, by decide⟩
theorem fn_RX9_34_355 : FN "SnowForts$Yard" 34 355 356 8 12 36 (.array .int) := ⟨_, _, _, _, _, rfl, rfl, rfl, by decide, rfl, rfl, rfl, rfl, by decide +kernel, wsin_X9, w_191, rfl, by decide +kernel, by decide, by decide⟩
theorem fn_RX9_37_356 : FN "SnowForts$Yard" 37 356 357 8 13 80 (.array .int) := ⟨_, _, _, _, _, rfl, rfl, rfl, by decide, rfl, rfl, rfl, rfl, by decide +kernel, wsin_X9, w_193, rfl, by decide +kernel, by decide, by decide⟩
theorem fn_RX9_40_357 : FN "SnowForts$Yard" 40 357 358 8 14 81 (.array .int) := ⟨_, _, _, _, _, rfl, rfl, rfl, by decide, rfl, rfl, rfl, rfl, by decide +kernel, wsin_X9, w_195, rfl, by decide +kernel, by decide, by decide⟩
theorem fn_RX9_43_358 : FN "SnowForts$Yard" 43 358 359 8 15 82 (.array .int) := ⟨_, _, _, _, _, rfl, rfl, rfl, by decide, rfl, rfl, rfl, rfl, by decide +kernel, wsin_X9, w_197, rfl, by decide +kernel, by decide, by decide⟩
theorem fn_RX9_46_359 : FN "SnowForts$Yard" 46 359 360 8 16 83 (.array .int) := ⟨_, _, _, _, _, rfl, rfl, rfl, by decide, rfl, rfl, rfl, rfl, by decide +kernel, wsin_X9, w_199, rfl, by decide +kernel, by decide, by decide⟩
theorem fn_RX9_49_360 : FN "SnowForts$Yard" 49 360 5 8 17 84 (.array .int) := ⟨_, _, _, _, _, rfl, rfl, rfl, by decide, rfl, rfl, rfl, rfl, by decide +kernel, wsin_X9, w_200, rfl, by decide +kernel, by decide, by decide⟩
theorem fn_RX2_9_380 : FN "SnowForts$Orders" 9 380 381 2 3 43 (.array .int) := ⟨_, _, _, _, _, rfl, rfl, rfl, by decide, rfl, rfl, rfl, rfl, by decide +kernel, wsin_X2, w_251, rfl, by decide +kernel, by decide, by decide⟩
theorem fn_RX2_13_381 : FN "SnowForts$Orders" 13 381 382 2 4 43 (.array .int) := ⟨_, _, _, _, _, rfl, rfl, rfl, by decide, rfl, rfl, rfl, rfl, by decide +kernel, wsin_X2, w_253, rfl, by decide +kernel, by decide, by decide⟩
theorem fn_RX2_16_382 : FN "SnowForts$Orders" 16 382 383 2 5 43 (.array .int) := ⟨_, _, _, _, _, rfl, rfl, rfl, by decide, rfl, rfl, rfl, rfl, by decide +kernel, wsin_X2, w_255, rfl, by decide +kernel, by decide, by decide⟩
theorem fn_RX2_19_383 : FN "SnowForts$Orders" 19 383 384 2 6 43 (.array .int) := ⟨_, _, _, _, _, rfl, rfl, rfl, by decide, rfl, rfl, rfl, rfl, by decide +kernel, wsin_X2, w_257, rfl, by decide +kernel, by decide, by decide⟩
theorem fn_RX2_22_384 : FN "SnowForts$Orders" 22 384 385 2 7 43 (.array .int) := ⟨_, _, _, _, _, rfl, rfl, rfl, by decide, rfl, rfl, rfl, rfl, by decide +kernel, wsin_X2, w_259, rfl, by decide +kernel, by decide, by decide⟩
theorem fn_RX2_25_385 : FN "SnowForts$Orders" 25 385 6 2 8 43 (.array .int) := ⟨_, _, _, _, _, rfl, rfl, rfl, by decide, rfl, rfl, rfl, rfl, by decide +kernel, wsin_X2, w_261, rfl, by decide +kernel, by decide, by decide⟩
theorem fn_RX7_9_410 : FN "SnowForts$Walk" 9 410 411 7 0 50 (.array .int) := ⟨_, _, _, _, _, rfl, rfl, rfl, by decide, rfl, rfl, rfl, rfl, by decide +kernel, wsin_X7, w_290, rfl, by decide +kernel, by decide, by decide⟩
theorem fn_RX7_15_411 : FN "SnowForts$Walk" 15 411 412 7 2 51 (.array .int) := ⟨_, _, _, _, _, rfl, rfl, rfl, by decide, rfl, rfl, rfl, rfl, by decide +kernel, wsin_X7, w_294, rfl, by decide +kernel, by decide, by decide⟩
theorem fn_RX7_18_412 : FN "SnowForts$Walk" 18 412 7 7 3 52 (.array .int) := ⟨_, _, _, _, _, rfl, rfl, rfl, by decide, rfl, rfl, rfl, rfl, by decide +kernel, wsin_X7, w_295, rfl, by decide +kernel, by decide, by decide⟩
theorem fpz_RX1_7_470 : FP "SnowForts$Odds" 7 470 1 1 (1, 0, 0) .long := ⟨_, _, _, _, rfl, rfl, rfl, by decide, rfl, wsin_X1, w_338, rfl, by decide +kernel, by decide⟩
theorem fn_RX1_13_470 : FN "SnowForts$Odds" 13 470 9 1 2 53 (.array .long) := ⟨_, _, _, _, _, rfl, rfl, rfl, by decide, rfl, rfl, rfl, rfl, by decide +kernel, wsin_X1, w_339, rfl, by decide +kernel, by decide, by decide⟩
theorem fpz_RX5_9_500 : FP "SnowForts$Runner" 9 500 5 0 (0, -2147483648, 2147483647) .int := ⟨_, _, _, _, rfl, rfl, rfl, by decide, rfl, wsin_X5, w_355, rfl, by decide +kernel, by decide⟩
theorem fn_RX5_17_500 : FN "SnowForts$Runner" 17 500 10 5 6 49 (.array .int) := ⟨_, _, _, _, _, rfl, rfl, rfl, by decide, rfl, rfl, rfl, rfl, by decide +kernel, wsin_X5, w_356, rfl, by decide +kernel, by decide, by decide⟩
theorem no_RX11_7 : NO "SnowForts" 7 230 6 3 [(.array .long), .int, .int] := ⟨_, _, _, rfl, rfl, by decide +kernel, rfl, rfl, by decide +kernel, wsin_X6, w_29, w_31, w_2, by decide, by decide⟩
theorem an_900 : AN 900 901 4 4 (Int32.toNatClampNeg 0) 1 := ⟨_, _, rfl, rfl, rfl, rfl, rfl, rfl, fun i h1 h2 => by
  have h2 : i ≠ 0 := h2
  rcases (show i = 0 ∨ i = 1 ∨ i = 2 ∨ i = 3 by omega) with rfl | rfl | rfl | rfl <;> first | rfl | exact absurd rfl h2, by decide, by decide⟩
theorem an_901 : AN 901 902 4 4 (Int32.toNatClampNeg 1) 1 := ⟨_, _, rfl, rfl, rfl, rfl, rfl, rfl, fun i h1 h2 => by
  have h2 : i ≠ 1 := h2
  rcases (show i = 0 ∨ i = 1 ∨ i = 2 ∨ i = 3 by omega) with rfl | rfl | rfl | rfl <;> first | rfl | exact absurd rfl h2, by decide, by decide⟩
theorem an_902 : AN 902 903 4 4 (Int32.toNatClampNeg 2) 1 := ⟨_, _, rfl, rfl, rfl, rfl, rfl, rfl, fun i h1 h2 => by
  have h2 : i ≠ 2 := h2
  rcases (show i = 0 ∨ i = 1 ∨ i = 2 ∨ i = 3 by omega) with rfl | rfl | rfl | rfl <;> first | rfl | exact absurd rfl h2, by decide, by decide⟩
theorem an_903 : AN 903 20 4 4 (Int32.toNatClampNeg 3) 1 := ⟨_, _, rfl, rfl, rfl, rfl, rfl, rfl, fun i h1 h2 => by
  have h2 : i ≠ 3 := h2
  rcases (show i = 0 ∨ i = 1 ∨ i = 2 ∨ i = 3 by omega) with rfl | rfl | rfl | rfl <;> first | rfl | exact absurd rfl h2, by decide, by decide⟩
theorem fn_RX11_10_200 : FN "SnowForts" 10 200 201 10 1 20 (.array (.object "SnowForts$Tray")) := ⟨_, _, _, _, _, rfl, rfl, rfl, by decide, rfl, rfl, rfl, rfl, by decide +kernel, wsin_X11, w_374, rfl, by decide +kernel, by decide, by decide⟩
theorem no_RX11_16 : NO "SnowForts" 16 260 4 17 [(.array .byte), .int, (.array .int), (.array .int), (.array .long), (.array (.object "SnowForts$Word")), .int, .int, .int, .int, .int, .long, (.object "SnowForts$Word"), .int, .int, .int, .int] := ⟨_, _, _, rfl, rfl, by decide +kernel, rfl, rfl, by decide +kernel, wsin_X4, w_46, w_47, w_3, by decide, by decide⟩
theorem fn_RX11_19_201 : FN "SnowForts" 19 201 202 10 2 2 (.object "SnowForts$Reader") := ⟨_, _, _, _, _, rfl, rfl, rfl, by decide, rfl, rfl, rfl, rfl, by decide +kernel, wsin_X11, w_375, rfl, by decide +kernel, by decide, by decide⟩
theorem no_RX11_23 : NO "SnowForts" 23 290 9 5 [(.object "SnowForts$Reader"), (.array .int), (.array .int), (.array .int), .long] := ⟨_, _, _, rfl, rfl, by decide +kernel, rfl, rfl, by decide +kernel, wsin_X10, w_120, w_121, w_4, by decide, by decide⟩
theorem faz_RX11_19_202 : FA "SnowForts" 19 202 10 2 (4, 0, 0) := ⟨_, _, _, _, rfl, rfl, rfl, by decide, rfl, wsin_X11, w_375⟩
theorem fn_RX11_28_202 : FN "SnowForts" 28 202 203 10 3 3 (.object "SnowForts$YardText") := ⟨_, _, _, _, _, rfl, rfl, rfl, by decide, rfl, rfl, rfl, rfl, by decide +kernel, wsin_X11, w_376, rfl, by decide +kernel, by decide, by decide⟩
theorem no_RX11_32 : NO "SnowForts" 32 320 3 4 [(.object "SnowForts$Reader"), (.array .int), .int, .int] := ⟨_, _, _, rfl, rfl, by decide +kernel, rfl, rfl, by decide +kernel, wsin_X3, w_142, w_143, w_5, by decide, by decide⟩
theorem faz_RX11_19_203 : FA "SnowForts" 19 203 10 2 (4, 0, 0) := ⟨_, _, _, _, rfl, rfl, rfl, by decide, rfl, wsin_X11, w_375⟩
theorem fn_RX11_35_203 : FN "SnowForts" 35 203 204 10 4 4 (.object "SnowForts$OrdersText") := ⟨_, _, _, _, _, rfl, rfl, rfl, by decide, rfl, rfl, rfl, rfl, by decide +kernel, wsin_X11, w_377, rfl, by decide +kernel, by decide, by decide⟩
theorem no_RX11_39 : NO "SnowForts" 39 350 8 18 [.int, .int, .int, .int, .int, .int, .int, (.array .int), (.array .int), (.array .int), (.array .int), (.array .int), (.array .int), (.array .int), (.array .int), (.array .int), (.array .int), (.array .int)] := ⟨_, _, _, rfl, rfl, by decide +kernel, rfl, rfl, by decide +kernel, wsin_X9, w_161, w_162, w_6, by decide, by decide⟩
theorem fn_RX11_42_204 : FN "SnowForts" 42 204 205 10 5 5 (.object "SnowForts$Yard") := ⟨_, _, _, _, _, rfl, rfl, rfl, by decide, rfl, rfl, rfl, rfl, by decide +kernel, wsin_X11, w_378, rfl, by decide +kernel, by decide, by decide⟩
theorem fn_RX11_46_205 : FN "SnowForts" 46 205 206 10 6 5 (.object "SnowForts$Yard") := ⟨_, _, _, _, _, rfl, rfl, rfl, by decide, rfl, rfl, rfl, rfl, by decide +kernel, wsin_X11, w_379, rfl, by decide +kernel, by decide, by decide⟩
theorem no_RX11_49 : NO "SnowForts" 49 380 2 9 [.boolean, .int, .int, (.array .int), (.array .int), (.array .int), (.array .int), (.array .int), (.array .int)] := ⟨_, _, _, rfl, rfl, by decide +kernel, rfl, rfl, by decide +kernel, wsin_X2, w_238, w_239, w_7, by decide, by decide⟩
theorem fn_RX11_52_206 : FN "SnowForts" 52 206 207 10 7 6 (.object "SnowForts$Orders") := ⟨_, _, _, _, _, rfl, rfl, rfl, by decide, rfl, rfl, rfl, rfl, by decide +kernel, wsin_X11, w_380, rfl, by decide +kernel, by decide, by decide⟩
theorem fn_RX11_56_207 : FN "SnowForts" 56 207 208 10 8 6 (.object "SnowForts$Orders") := ⟨_, _, _, _, _, rfl, rfl, rfl, by decide, rfl, rfl, rfl, rfl, by decide +kernel, wsin_X11, w_381, rfl, by decide +kernel, by decide, by decide⟩
theorem an_910 : AN 910 911 5 3 (Int32.toNatClampNeg 0) 5 := ⟨_, _, rfl, rfl, rfl, rfl, rfl, rfl, fun i h1 h2 => by
  have h2 : i ≠ 0 := h2
  rcases (show i = 0 ∨ i = 1 ∨ i = 2 by omega) with rfl | rfl | rfl <;> first | rfl | exact absurd rfl h2, by decide, by decide⟩
theorem an_911 : AN 911 912 5 3 (Int32.toNatClampNeg 1) 5 := ⟨_, _, rfl, rfl, rfl, rfl, rfl, rfl, fun i h1 h2 => by
  have h2 : i ≠ 1 := h2
  rcases (show i = 0 ∨ i = 1 ∨ i = 2 by omega) with rfl | rfl | rfl <;> first | rfl | exact absurd rfl h2, by decide, by decide⟩
theorem an_912 : AN 912 21 5 3 (Int32.toNatClampNeg 2) 5 := ⟨_, _, rfl, rfl, rfl, rfl, rfl, rfl, fun i h1 h2 => by
  have h2 : i ≠ 2 := h2
  rcases (show i = 0 ∨ i = 1 ∨ i = 2 by omega) with rfl | rfl | rfl <;> first | rfl | exact absurd rfl h2, by decide, by decide⟩
theorem fn_RX11_59_208 : FN "SnowForts" 59 208 209 10 9 21 (.array (.object "SnowForts$Yard")) := ⟨_, _, _, _, _, rfl, rfl, rfl, by decide, rfl, rfl, rfl, rfl, by decide +kernel, wsin_X11, w_382, rfl, by decide +kernel, by decide, by decide⟩
theorem an_920 : AN 920 921 6 3 (Int32.toNatClampNeg 0) 6 := ⟨_, _, rfl, rfl, rfl, rfl, rfl, rfl, fun i h1 h2 => by
  have h2 : i ≠ 0 := h2
  rcases (show i = 0 ∨ i = 1 ∨ i = 2 by omega) with rfl | rfl | rfl <;> first | rfl | exact absurd rfl h2, by decide, by decide⟩
theorem an_921 : AN 921 922 6 3 (Int32.toNatClampNeg 1) 6 := ⟨_, _, rfl, rfl, rfl, rfl, rfl, rfl, fun i h1 h2 => by
  have h2 : i ≠ 1 := h2
  rcases (show i = 0 ∨ i = 1 ∨ i = 2 by omega) with rfl | rfl | rfl <;> first | rfl | exact absurd rfl h2, by decide, by decide⟩
theorem an_922 : AN 922 22 6 3 (Int32.toNatClampNeg 2) 6 := ⟨_, _, rfl, rfl, rfl, rfl, rfl, rfl, fun i h1 h2 => by
  have h2 : i ≠ 2 := h2
  rcases (show i = 0 ∨ i = 1 ∨ i = 2 by omega) with rfl | rfl | rfl <;> first | rfl | exact absurd rfl h2, by decide, by decide⟩
theorem fn_RX11_63_209 : FN "SnowForts" 63 209 210 10 10 22 (.array (.object "SnowForts$Orders")) := ⟨_, _, _, _, _, rfl, rfl, rfl, by decide, rfl, rfl, rfl, rfl, by decide +kernel, wsin_X11, w_383, rfl, by decide +kernel, by decide, by decide⟩
theorem no_RX11_67 : NO "SnowForts" 67 410 7 8 [(.array .int), .int, (.array .int), (.array .int), .int, .int, .int, .int] := ⟨_, _, _, rfl, rfl, by decide +kernel, rfl, rfl, by decide +kernel, wsin_X7, w_284, w_285, w_8, by decide, by decide⟩
theorem fn_RX11_70_210 : FN "SnowForts" 70 210 211 10 12 7 (.object "SnowForts$Walk") := ⟨_, _, _, _, _, rfl, rfl, rfl, by decide, rfl, rfl, rfl, rfl, by decide +kernel, wsin_X11, w_384, rfl, by decide +kernel, by decide, by decide⟩
theorem no_RX11_74 : NO "SnowForts" 74 8 0 4 [.long, .int, .int, .int] := ⟨_, _, _, rfl, rfl, by decide +kernel, rfl, rfl, by decide +kernel, wsin_X0, w_317, w_318, w_9, by decide, by decide⟩
theorem fn_RX11_77_211 : FN "SnowForts" 77 211 212 10 13 8 (.object "SnowForts$Mornings") := ⟨_, _, _, _, _, rfl, rfl, rfl, by decide, rfl, rfl, rfl, rfl, by decide +kernel, wsin_X11, w_385, rfl, by decide +kernel, by decide, by decide⟩
theorem no_RX11_81 : NO "SnowForts" 81 470 1 4 [.long, .long, (.array .long), .long] := ⟨_, _, _, rfl, rfl, by decide +kernel, rfl, rfl, by decide +kernel, wsin_X1, w_332, w_333, w_10, by decide, by decide⟩
theorem fn_RX11_84_212 : FN "SnowForts" 84 212 213 10 14 9 (.object "SnowForts$Odds") := ⟨_, _, _, _, _, rfl, rfl, rfl, by decide, rfl, rfl, rfl, rfl, by decide +kernel, wsin_X11, w_386, rfl, by decide +kernel, by decide, by decide⟩
theorem fn_RX11_88_213 : FN "SnowForts" 88 213 214 10 15 23 (.array .boolean) := ⟨_, _, _, _, _, rfl, rfl, rfl, by decide, rfl, rfl, rfl, rfl, by decide +kernel, wsin_X11, w_387, rfl, by decide +kernel, by decide, by decide⟩
theorem no_RX11_92 : NO "SnowForts" 92 500 5 7 [.int, .int, .int, .int, .boolean, .int, (.array .int)] := ⟨_, _, _, rfl, rfl, by decide +kernel, rfl, rfl, by decide +kernel, wsin_X5, w_349, w_350, w_11, by decide, by decide⟩
theorem fn_RX11_95_214 : FN "SnowForts" 95 214 215 10 16 10 (.object "SnowForts$Runner") := ⟨_, _, _, _, _, rfl, rfl, rfl, by decide, rfl, rfl, rfl, rfl, by decide +kernel, wsin_X11, w_388, rfl, by decide +kernel, by decide, by decide⟩
theorem fn_RX11_99_215 : FN "SnowForts" 99 215 0 10 17 10 (.object "SnowForts$Runner") := ⟨_, _, _, _, _, rfl, rfl, rfl, by decide, rfl, rfl, rfl, rfl, by decide +kernel, wsin_X11, w_389, rfl, by decide +kernel, by decide, by decide⟩
