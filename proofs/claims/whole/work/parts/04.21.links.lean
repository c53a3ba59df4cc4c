theorem N_L : Cond.initialized RL ∈ aw := aw_w (List.mem_of_getElem? (i := 126) (by decide +kernel)) rfl
theorem N_11 : Cond.initialized RX11 ∈ aw := aw_w (List.mem_of_getElem? (i := 127) (by decide +kernel)) rfl
theorem N_3 : Cond.initialized RX3 ∈ aw := aw_w (List.mem_of_getElem? (i := 128) (by decide +kernel)) rfl
theorem N_9 : Cond.initialized RX9 ∈ aw := aw_w (List.mem_of_getElem? (i := 129) (by decide +kernel)) rfl
theorem N_8 : Cond.initialized RX8 ∈ aw := aw_w (List.mem_of_getElem? (i := 131) (by decide +kernel)) rfl
theorem N_4 : Cond.initialized RX4 ∈ aw := aw_w (List.mem_of_getElem? (i := 132) (by decide +kernel)) rfl
theorem N_5 : Cond.initialized RX5 ∈ aw := aw_w (List.mem_of_getElem? (i := 133) (by decide +kernel)) rfl
theorem N_6 : Cond.initialized RX6 ∈ aw := aw_w (List.mem_of_getElem? (i := 134) (by decide +kernel)) rfl
theorem N_7 : Cond.initialized RX7 ∈ aw := aw_w (List.mem_of_getElem? (i := 135) (by decide +kernel)) rfl
theorem N_1 : Cond.initialized RX1 ∈ aw := aw_w (List.mem_of_getElem? (i := 137) (by decide +kernel)) rfl
theorem N_0 : Cond.initialized RX0 ∈ aw := aw_w (List.mem_of_getElem? (i := 138) (by decide +kernel)) rfl
theorem N_2 : Cond.initialized RX2 ∈ aw := aw_w (List.mem_of_getElem? (i := 139) (by decide +kernel)) rfl
theorem N_10 : Cond.initialized RX10 ∈ aw := aw_w (List.mem_of_getElem? (i := 140) (by decide +kernel)) rfl
theorem N_12 : Cond.initialized RX12 ∈ aw := aw_w (List.mem_of_getElem? (i := 141) (by decide +kernel)) rfl
theorem I_11 : Cond.instantiable RX11 13 ∈ aw := aw_w (List.mem_of_getElem? (i := 157) (by decide +kernel)) rfl
theorem I_3 : Cond.instantiable RX3 5 ∈ aw := aw_w (List.mem_of_getElem? (i := 165) (by decide +kernel)) rfl
theorem I_9 : Cond.instantiable RX9 11 ∈ aw := aw_w (List.mem_of_getElem? (i := 171) (by decide +kernel)) rfl
theorem I_4 : Cond.instantiable RX4 17 ∈ aw := aw_w (List.mem_of_getElem? (i := 221) (by decide +kernel)) rfl
theorem I_5 : Cond.instantiable RX5 4 ∈ aw := aw_w (List.mem_of_getElem? (i := 332) (by decide +kernel)) rfl
theorem I_6 : Cond.instantiable RX6 5 ∈ aw := aw_w (List.mem_of_getElem? (i := 353) (by decide +kernel)) rfl
theorem I_7 : Cond.instantiable RX7 9 ∈ aw := aw_w (List.mem_of_getElem? (i := 361) (by decide +kernel)) rfl
theorem I_1 : Cond.instantiable RX1 3 ∈ aw := aw_w (List.mem_of_getElem? (i := 435) (by decide +kernel)) rfl
theorem I_0 : Cond.instantiable RX0 4 ∈ aw := aw_w (List.mem_of_getElem? (i := 452) (by decide +kernel)) rfl
theorem I_2 : Cond.instantiable RX2 4 ∈ aw := aw_w (List.mem_of_getElem? (i := 471) (by decide +kernel)) rfl
theorem I_10 : Cond.instantiable RX10 4 ∈ aw := aw_w (List.mem_of_getElem? (i := 494) (by decide +kernel)) rfl
theorem I_8 : Cond.instantiable RX8 4 ∈ aw := aw_w (List.mem_of_getElem? (i := 846) (by decide +kernel)) rfl
theorem I_12 : Cond.instantiable RX12 30 ∈ aw := aw_w (List.mem_of_getElem? (i := 1616) (by decide +kernel)) rfl
theorem A_0 : Cond.arrayClass (eT 0) ∈ aw := aw_w (List.mem_of_getElem? (i := 219) (by decide +kernel)) rfl
theorem A_1 : Cond.arrayClass (eT 1) ∈ aw := aw_w (List.mem_of_getElem? (i := 450) (by decide +kernel)) rfl
theorem A_2 : Cond.arrayClass (eT 2) ∈ aw := aw_w (List.mem_of_getElem? (i := 218) (by decide +kernel)) rfl
theorem A_3 : Cond.arrayClass (eT 3) ∈ aw := aw_w (List.mem_of_getElem? (i := 1715) (by decide +kernel)) rfl
def YL_asking : mY := (yL_asking, cL_asking, 4, (some .int))
def YL_blind : mY := (yL_blind, cL_blind, 4, (some .int))
def YL_carry : mY := (yL_carry, cL_carry, 4, (some .int))
def YL_change : mY := (yL_change, cL_change, 6, (some .int))
def YL_chest : mY := (yL_chest, cL_chest, 5, (some .int))
def YL_claim : mY := (yL_claim, cL_claim, 5, (some .int))
def YL_common : mY := (yL_common, cL_common, 4, (some .int))
def YL_copy : mY := (yL_copy, cL_copy, 4, (some .int))
def YL_cost : mY := (yL_cost, cL_cost, 4, (some .int))
def YL_differ : mY := (yL_differ, cL_differ, 5, (some .int))
def YL_fits : mY := (yL_fits, cL_fits, 4, (some .int))
def YL_fresh : mY := (yL_fresh, cL_fresh, 5, (some .int))
def YL_greedy : mY := (yL_greedy, cL_greedy, 4, (some .int))
def YL_hall : mY := (yL_hall, cL_hall, 4, (some .int))
def YL_hardened : mY := (yL_hardened, cL_hardened, 5, (some .int))
def YL_holds : mY := (yL_holds, cL_holds, 6, (some .int))
def YL_image : mY := (yL_image, cL_image, 3, (some .int))
def YL_judge : mY := (yL_judge, cL_judge, 5, (some .int))
def YL_least : mY := (yL_least, cL_least, 4, (some .int))
def YL_mark : mY := (yL_mark, cL_mark, 6, (some .int))
def YL_nearest : mY := (yL_nearest, cL_nearest, 4, (some .int))
def YL_night : mY := (yL_night, cL_night, 5, (some .int))
def YL_perform : mY := (yL_perform, cL_perform, 4, (some .int))
def YL_person : mY := (yL_person, cL_person, 5, (some .int))
def YL_price : mY := (yL_price, cL_price, 4, (some .int))
def YL_rank : mY := (yL_rank, cL_rank, 4, (some .int))
def YL_restore : mY := (yL_restore, cL_restore, 3, (some .int))
def YL_settle : mY := (yL_settle, cL_settle, 3, (some .int))
def YL_shorter : mY := (yL_shorter, cL_shorter, 4, (some .int))
def YL_stake : mY := (yL_stake, cL_stake, 4, (some .int))
def YL_sure : mY := (yL_sure, cL_sure, 4, (some .int))
def YL_tells : mY := (yL_tells, cL_tells, 4, (some .int))
def YL_tray : mY := (yL_tray, cL_tray, 5, (some .int))
def YL_undo : mY := (yL_undo, cL_undo, 4, (some .int))
def YL_ways : mY := (yL_ways, cL_ways, 4, (some .int))
def YL_word : mY := (yL_word, cL_word, 5, (some .int))
def YL_write : mY := (yL_write, cL_write, 7, (some .int))
def Y0_begin : mY := (yX0_begin, cX0_begin, 4, (some .boolean))
theorem k0_begin : mOKv Y0_begin 2 := ⟨⟨aw_w (List.mem_of_getElem? (i := 1461) (by decide +kernel)) rfl, N_0, by decide +kernel, ⟨by decide +kernel, by decide +kernel, by decide +kernel⟩, by decide⟩, aw_w (List.mem_of_getElem? (i := 1460) (by decide +kernel)) rfl, aw_w (List.mem_of_getElem? (i := 47) (by decide +kernel)) rfl⟩
def Y0_fewestWords : mY := (yX0_fewestWords, cX0_fewestWords, 7, (some .int))
theorem k0_fewestWords : mOKv Y0_fewestWords 2 := ⟨⟨aw_w (List.mem_of_getElem? (i := 679) (by decide +kernel)) rfl, N_0, by decide +kernel, ⟨by decide +kernel, by decide +kernel, by decide +kernel⟩, by decide⟩, aw_w (List.mem_of_getElem? (i := 677) (by decide +kernel)) rfl, aw_w (List.mem_of_getElem? (i := 678) (by decide +kernel)) rfl⟩
def Y0_firstQuestion : mY := (yX0_firstQuestion, cX0_firstQuestion, 7, (some .int))
theorem k0_firstQuestion : mOKv Y0_firstQuestion 2 := ⟨⟨aw_w (List.mem_of_getElem? (i := 1482) (by decide +kernel)) rfl, N_0, by decide +kernel, ⟨by decide +kernel, by decide +kernel, by decide +kernel⟩, by decide⟩, aw_w (List.mem_of_getElem? (i := 1480) (by decide +kernel)) rfl, aw_w (List.mem_of_getElem? (i := 1481) (by decide +kernel)) rfl⟩
def Y0_init : mY := (yX0_init, cX0_init, 1, none)
theorem k0_init : mOKi Y0_init 0 := ⟨⟨aw_w (List.mem_of_getElem? (i := 455) (by decide +kernel)) rfl, N_0, by decide +kernel, ⟨by decide +kernel, by decide +kernel, by decide +kernel⟩, by decide⟩, aw_w (List.mem_of_getElem? (i := 454) (by decide +kernel)) rfl, rfl, rfl⟩
def Y0_learnPairs : mY := (yX0_learnPairs, cX0_learnPairs, 5, (some .int))
theorem k0_learnPairs : mOKv Y0_learnPairs 1 := ⟨⟨aw_w (List.mem_of_getElem? (i := 683) (by decide +kernel)) rfl, N_0, by decide +kernel, ⟨by decide +kernel, by decide +kernel, by decide +kernel⟩, by decide⟩, aw_w (List.mem_of_getElem? (i := 682) (by decide +kernel)) rfl, aw_w (List.mem_of_getElem? (i := 4) (by decide +kernel)) rfl⟩
def Y0_leastNeeded : mY := (yX0_leastNeeded, cX0_leastNeeded, 9, (some .int))
theorem k0_leastNeeded : mOKv Y0_leastNeeded 2 := ⟨⟨aw_w (List.mem_of_getElem? (i := 1473) (by decide +kernel)) rfl, N_0, by decide +kernel, ⟨by decide +kernel, by decide +kernel, by decide +kernel⟩, by decide⟩, aw_w (List.mem_of_getElem? (i := 1472) (by decide +kernel)) rfl, aw_w (List.mem_of_getElem? (i := 49) (by decide +kernel)) rfl⟩
def Y0_needed : mY := (yX0_needed, cX0_needed, 6, (some .int))
theorem k0_needed : mOKv Y0_needed 2 := ⟨⟨aw_w (List.mem_of_getElem? (i := 1469) (by decide +kernel)) rfl, N_0, by decide +kernel, ⟨by decide +kernel, by decide +kernel, by decide +kernel⟩, by decide⟩, aw_w (List.mem_of_getElem? (i := 1468) (by decide +kernel)) rfl, aw_w (List.mem_of_getElem? (i := 48) (by decide +kernel)) rfl⟩
def Y0_partsAll : mY := (yX0_partsAll, cX0_partsAll, 4, (some .boolean))
theorem k0_partsAll : mOKv Y0_partsAll 2 := ⟨⟨aw_w (List.mem_of_getElem? (i := 691) (by decide +kernel)) rfl, N_0, by decide +kernel, ⟨by decide +kernel, by decide +kernel, by decide +kernel⟩, by decide⟩, aw_w (List.mem_of_getElem? (i := 690) (by decide +kernel)) rfl, aw_w (List.mem_of_getElem? (i := 5) (by decide +kernel)) rfl⟩
def Y0_questions : mY := (yX0_questions, cX0_questions, 3, (some .int))
theorem k0_questions : mOKv Y0_questions 2 := ⟨⟨aw_w (List.mem_of_getElem? (i := 1457) (by decide +kernel)) rfl, N_0, by decide +kernel, ⟨by decide +kernel, by decide +kernel, by decide +kernel⟩, by decide⟩, aw_w (List.mem_of_getElem? (i := 1455) (by decide +kernel)) rfl, aw_w (List.mem_of_getElem? (i := 1456) (by decide +kernel)) rfl⟩
def Y10_cut : mY := (yX10_cut, cX10_cut, 3, (some .long))
theorem k10_cut : mOKv Y10_cut 1 := ⟨⟨aw_w (List.mem_of_getElem? (i := 1583) (by decide +kernel)) rfl, N_10, by decide +kernel, ⟨by decide +kernel, by decide +kernel, by decide +kernel⟩, by decide⟩, aw_w (List.mem_of_getElem? (i := 1581) (by decide +kernel)) rfl, aw_w (List.mem_of_getElem? (i := 1582) (by decide +kernel)) rfl⟩
def Y10_init : mY := (yX10_init, cX10_init, 1, none)
theorem k10_init : mOKi Y10_init 0 := ⟨⟨aw_w (List.mem_of_getElem? (i := 497) (by decide +kernel)) rfl, N_10, by decide +kernel, ⟨by decide +kernel, by decide +kernel, by decide +kernel⟩, by decide⟩, aw_w (List.mem_of_getElem? (i := 496) (by decide +kernel)) rfl, rfl, rfl⟩
def Y10_lay : mY := (yX10_lay, cX10_lay, 3, none)
theorem k10_lay : mOKv Y10_lay 2 := ⟨⟨aw_w (List.mem_of_getElem? (i := 1554) (by decide +kernel)) rfl, N_10, by decide +kernel, ⟨by decide +kernel, by decide +kernel, by decide +kernel⟩, by decide⟩, aw_w (List.mem_of_getElem? (i := 1552) (by decide +kernel)) rfl, aw_w (List.mem_of_getElem? (i := 1553) (by decide +kernel)) rfl⟩
def Y11_afterDraw : mY := (yX11_afterDraw, cX11_afterDraw, 1, (some .int))
theorem k11_afterDraw : mOKs Y11_afterDraw 1 := ⟨⟨aw_w (List.mem_of_getElem? (i := 1422) (by decide +kernel)) rfl, N_11, by decide +kernel, ⟨by decide +kernel, by decide +kernel, by decide +kernel⟩, by decide⟩, aw_w (List.mem_of_getElem? (i := 1421) (by decide +kernel)) rfl⟩
def Y11_asking : mY := (yX11_asking, cX11_asking, 2, (some .int))
theorem k11_asking : mOKv Y11_asking 1 := ⟨⟨aw_w (List.mem_of_getElem? (i := 1453) (by decide +kernel)) rfl, N_11, by decide +kernel, ⟨by decide +kernel, by decide +kernel, by decide +kernel⟩, by decide⟩, aw_w (List.mem_of_getElem? (i := 1451) (by decide +kernel)) rfl, aw_w (List.mem_of_getElem? (i := 1452) (by decide +kernel)) rfl⟩
def Y11_blind : mY := (yX11_blind, cX11_blind, 2, (some .int))
theorem k11_blind : mOKv Y11_blind 1 := ⟨⟨aw_w (List.mem_of_getElem? (i := 1240) (by decide +kernel)) rfl, N_11, by decide +kernel, ⟨by decide +kernel, by decide +kernel, by decide +kernel⟩, by decide⟩, aw_w (List.mem_of_getElem? (i := 1238) (by decide +kernel)) rfl, aw_w (List.mem_of_getElem? (i := 1239) (by decide +kernel)) rfl⟩
def Y11_book : mY := (yX11_book, cX11_book, 1, (some .int))
theorem k11_book : mOKv Y11_book 0 := ⟨⟨aw_w (List.mem_of_getElem? (i := 675) (by decide +kernel)) rfl, N_11, by decide +kernel, ⟨by decide +kernel, by decide +kernel, by decide +kernel⟩, by decide⟩, aw_w (List.mem_of_getElem? (i := 673) (by decide +kernel)) rfl, aw_w (List.mem_of_getElem? (i := 674) (by decide +kernel)) rfl⟩
def Y11_canBe : mY := (yX11_canBe, cX11_canBe, 4, (some .boolean))
theorem k11_canBe : mOKv Y11_canBe 2 := ⟨⟨aw_w (List.mem_of_getElem? (i := 1392) (by decide +kernel)) rfl, N_11, by decide +kernel, ⟨by decide +kernel, by decide +kernel, by decide +kernel⟩, by decide⟩, aw_w (List.mem_of_getElem? (i := 1391) (by decide +kernel)) rfl, aw_w (List.mem_of_getElem? (i := 44) (by decide +kernel)) rfl⟩
def Y11_carry : mY := (yX11_carry, cX11_carry, 2, (some .int))
theorem k11_carry : mOKv Y11_carry 1 := ⟨⟨aw_w (List.mem_of_getElem? (i := 1323) (by decide +kernel)) rfl, N_11, by decide +kernel, ⟨by decide +kernel, by decide +kernel, by decide +kernel⟩, by decide⟩, aw_w (List.mem_of_getElem? (i := 1321) (by decide +kernel)) rfl, aw_w (List.mem_of_getElem? (i := 1322) (by decide +kernel)) rfl⟩
def Y11_change : mY := (yX11_change, cX11_change, 5, (some .int))
theorem k11_change : mOKv Y11_change 3 := ⟨⟨aw_w (List.mem_of_getElem? (i := 1334) (by decide +kernel)) rfl, N_11, by decide +kernel, ⟨by decide +kernel, by decide +kernel, by decide +kernel⟩, by decide⟩, aw_w (List.mem_of_getElem? (i := 1332) (by decide +kernel)) rfl, aw_w (List.mem_of_getElem? (i := 1333) (by decide +kernel)) rfl⟩
def Y11_changing : mY := (yX11_changing, cX11_changing, 3, (some .int))
theorem k11_changing : mOKv Y11_changing 0 := ⟨⟨aw_w (List.mem_of_getElem? (i := 719) (by decide +kernel)) rfl, N_11, by decide +kernel, ⟨by decide +kernel, by decide +kernel, by decide +kernel⟩, by decide⟩, aw_w (List.mem_of_getElem? (i := 717) (by decide +kernel)) rfl, aw_w (List.mem_of_getElem? (i := 718) (by decide +kernel)) rfl⟩
def Y11_chest : mY := (yX11_chest, cX11_chest, 3, (some .int))
theorem k11_chest : mOKv Y11_chest 2 := ⟨⟨aw_w (List.mem_of_getElem? (i := 1146) (by decide +kernel)) rfl, N_11, by decide +kernel, ⟨by decide +kernel, by decide +kernel, by decide +kernel⟩, by decide⟩, aw_w (List.mem_of_getElem? (i := 1144) (by decide +kernel)) rfl, aw_w (List.mem_of_getElem? (i := 1145) (by decide +kernel)) rfl⟩
def Y11_claim : mY := (yX11_claim, cX11_claim, 3, (some .int))
theorem k11_claim : mOKv Y11_claim 2 := ⟨⟨aw_w (List.mem_of_getElem? (i := 1290) (by decide +kernel)) rfl, N_11, by decide +kernel, ⟨by decide +kernel, by decide +kernel, by decide +kernel⟩, by decide⟩, aw_w (List.mem_of_getElem? (i := 1288) (by decide +kernel)) rfl, aw_w (List.mem_of_getElem? (i := 1289) (by decide +kernel)) rfl⟩
def Y11_common : mY := (yX11_common, cX11_common, 5, (some .int))
theorem k11_common : mOKv Y11_common 1 := ⟨⟨aw_w (List.mem_of_getElem? (i := 1526) (by decide +kernel)) rfl, N_11, by decide +kernel, ⟨by decide +kernel, by decide +kernel, by decide +kernel⟩, by decide⟩, aw_w (List.mem_of_getElem? (i := 1524) (by decide +kernel)) rfl, aw_w (List.mem_of_getElem? (i := 1525) (by decide +kernel)) rfl⟩
def Y11_copy : mY := (yX11_copy, cX11_copy, 5, (some .int))
theorem k11_copy : mOKv Y11_copy 1 := ⟨⟨aw_w (List.mem_of_getElem? (i := 1590) (by decide +kernel)) rfl, N_11, by decide +kernel, ⟨by decide +kernel, by decide +kernel, by decide +kernel⟩, by decide⟩, aw_w (List.mem_of_getElem? (i := 1588) (by decide +kernel)) rfl, aw_w (List.mem_of_getElem? (i := 1589) (by decide +kernel)) rfl⟩
def Y11_cost : mY := (yX11_cost, cX11_cost, 2, (some .int))
theorem k11_cost : mOKv Y11_cost 1 := ⟨⟨aw_w (List.mem_of_getElem? (i := 1200) (by decide +kernel)) rfl, N_11, by decide +kernel, ⟨by decide +kernel, by decide +kernel, by decide +kernel⟩, by decide⟩, aw_w (List.mem_of_getElem? (i := 1198) (by decide +kernel)) rfl, aw_w (List.mem_of_getElem? (i := 1199) (by decide +kernel)) rfl⟩
def Y11_count : mY := (yX11_count, cX11_count, 2, (some .int))
theorem k11_count : mOKv Y11_count 1 := ⟨⟨aw_w (List.mem_of_getElem? (i := 724) (by decide +kernel)) rfl, N_11, by decide +kernel, ⟨by decide +kernel, by decide +kernel, by decide +kernel⟩, by decide⟩, aw_w (List.mem_of_getElem? (i := 722) (by decide +kernel)) rfl, aw_w (List.mem_of_getElem? (i := 723) (by decide +kernel)) rfl⟩
def Y11_differ : mY := (yX11_differ, cX11_differ, 3, (some .int))
theorem k11_differ : mOKv Y11_differ 2 := ⟨⟨aw_w (List.mem_of_getElem? (i := 1519) (by decide +kernel)) rfl, N_11, by decide +kernel, ⟨by decide +kernel, by decide +kernel, by decide +kernel⟩, by decide⟩, aw_w (List.mem_of_getElem? (i := 1517) (by decide +kernel)) rfl, aw_w (List.mem_of_getElem? (i := 1518) (by decide +kernel)) rfl⟩
def Y11_doTold : mY := (yX11_doTold, cX11_doTold, 3, none)
theorem k11_doTold : mOKv Y11_doTold 2 := ⟨⟨aw_w (List.mem_of_getElem? (i := 1403) (by decide +kernel)) rfl, N_11, by decide +kernel, ⟨by decide +kernel, by decide +kernel, by decide +kernel⟩, by decide⟩, aw_w (List.mem_of_getElem? (i := 1402) (by decide +kernel)) rfl, aw_w (List.mem_of_getElem? (i := 45) (by decide +kernel)) rfl⟩
def Y11_fault : mY := (yX11_fault, cX11_fault, 2, (some .int))
theorem k11_fault : mOKv Y11_fault 1 := ⟨⟨aw_w (List.mem_of_getElem? (i := 566) (by decide +kernel)) rfl, N_11, by decide +kernel, ⟨by decide +kernel, by decide +kernel, by decide +kernel⟩, by decide⟩, aw_w (List.mem_of_getElem? (i := 564) (by decide +kernel)) rfl, aw_w (List.mem_of_getElem? (i := 565) (by decide +kernel)) rfl⟩
def Y11_feed : mY := (yX11_feed, cX11_feed, 6, (some .int))
theorem k11_feed : mOKv Y11_feed 5 := ⟨⟨aw_w (List.mem_of_getElem? (i := 558) (by decide +kernel)) rfl, N_11, by decide +kernel, ⟨by decide +kernel, by decide +kernel, by decide +kernel⟩, by decide⟩, aw_w (List.mem_of_getElem? (i := 556) (by decide +kernel)) rfl, aw_w (List.mem_of_getElem? (i := 557) (by decide +kernel)) rfl⟩
def Y11_fits : mY := (yX11_fits, cX11_fits, 2, (some .int))
theorem k11_fits : mOKv Y11_fits 1 := ⟨⟨aw_w (List.mem_of_getElem? (i := 1178) (by decide +kernel)) rfl, N_11, by decide +kernel, ⟨by decide +kernel, by decide +kernel, by decide +kernel⟩, by decide⟩, aw_w (List.mem_of_getElem? (i := 1176) (by decide +kernel)) rfl, aw_w (List.mem_of_getElem? (i := 1177) (by decide +kernel)) rfl⟩
def Y11_fresh : mY := (yX11_fresh, cX11_fresh, 5, (some .int))
theorem k11_fresh : mOKv Y11_fresh 2 := ⟨⟨aw_w (List.mem_of_getElem? (i := 1489) (by decide +kernel)) rfl, N_11, by decide +kernel, ⟨by decide +kernel, by decide +kernel, by decide +kernel⟩, by decide⟩, aw_w (List.mem_of_getElem? (i := 1487) (by decide +kernel)) rfl, aw_w (List.mem_of_getElem? (i := 1488) (by decide +kernel)) rfl⟩
def Y11_greedy : mY := (yX11_greedy, cX11_greedy, 2, (some .int))
theorem k11_greedy : mOKv Y11_greedy 1 := ⟨⟨aw_w (List.mem_of_getElem? (i := 1534) (by decide +kernel)) rfl, N_11, by decide +kernel, ⟨by decide +kernel, by decide +kernel, by decide +kernel⟩, by decide⟩, aw_w (List.mem_of_getElem? (i := 1532) (by decide +kernel)) rfl, aw_w (List.mem_of_getElem? (i := 1533) (by decide +kernel)) rfl⟩
def Y11_hall : mY := (yX11_hall, cX11_hall, 3, (some .int))
theorem k11_hall : mOKv Y11_hall 1 := ⟨⟨aw_w (List.mem_of_getElem? (i := 736) (by decide +kernel)) rfl, N_11, by decide +kernel, ⟨by decide +kernel, by decide +kernel, by decide +kernel⟩, by decide⟩, aw_w (List.mem_of_getElem? (i := 734) (by decide +kernel)) rfl, aw_w (List.mem_of_getElem? (i := 735) (by decide +kernel)) rfl⟩
def Y11_hardened : mY := (yX11_hardened, cX11_hardened, 3, (some .int))
theorem k11_hardened : mOKv Y11_hardened 2 := ⟨⟨aw_w (List.mem_of_getElem? (i := 1430) (by decide +kernel)) rfl, N_11, by decide +kernel, ⟨by decide +kernel, by decide +kernel, by decide +kernel⟩, by decide⟩, aw_w (List.mem_of_getElem? (i := 1428) (by decide +kernel)) rfl, aw_w (List.mem_of_getElem? (i := 1429) (by decide +kernel)) rfl⟩
def Y11_hardest : mY := (yX11_hardest, cX11_hardest, 6, (some .int))
theorem k11_hardest : mOKv Y11_hardest 0 := ⟨⟨aw_w (List.mem_of_getElem? (i := 570) (by decide +kernel)) rfl, N_11, by decide +kernel, ⟨by decide +kernel, by decide +kernel, by decide +kernel⟩, by decide⟩, aw_w (List.mem_of_getElem? (i := 568) (by decide +kernel)) rfl, aw_w (List.mem_of_getElem? (i := 569) (by decide +kernel)) rfl⟩
def Y11_holds : mY := (yX11_holds, cX11_holds, 4, (some .boolean))
theorem k11_holds : mOKv Y11_holds 3 := ⟨⟨aw_w (List.mem_of_getElem? (i := 1171) (by decide +kernel)) rfl, N_11, by decide +kernel, ⟨by decide +kernel, by decide +kernel, by decide +kernel⟩, by decide⟩, aw_w (List.mem_of_getElem? (i := 1169) (by decide +kernel)) rfl, aw_w (List.mem_of_getElem? (i := 1170) (by decide +kernel)) rfl⟩
def Y11_idle : mY := (yX11_idle, cX11_idle, 4, (some .int))
theorem k11_idle : mOKv Y11_idle 0 := ⟨⟨aw_w (List.mem_of_getElem? (i := 715) (by decide +kernel)) rfl, N_11, by decide +kernel, ⟨by decide +kernel, by decide +kernel, by decide +kernel⟩, by decide⟩, aw_w (List.mem_of_getElem? (i := 713) (by decide +kernel)) rfl, aw_w (List.mem_of_getElem? (i := 714) (by decide +kernel)) rfl⟩
def Y11_image : mY := (yX11_image, cX11_image, 2, none)
theorem k11_image : mOKv Y11_image 1 := ⟨⟨aw_w (List.mem_of_getElem? (i := 1597) (by decide +kernel)) rfl, N_11, by decide +kernel, ⟨by decide +kernel, by decide +kernel, by decide +kernel⟩, by decide⟩, aw_w (List.mem_of_getElem? (i := 1595) (by decide +kernel)) rfl, aw_w (List.mem_of_getElem? (i := 1596) (by decide +kernel)) rfl⟩
def Y11_init : mY := (yX11_init, cX11_init, 2, none)
theorem k11_init : mOKi Y11_init 0 := ⟨⟨aw_w (List.mem_of_getElem? (i := 160) (by decide +kernel)) rfl, N_11, by decide +kernel, ⟨by decide +kernel, by decide +kernel, by decide +kernel⟩, by decide⟩, aw_w (List.mem_of_getElem? (i := 159) (by decide +kernel)) rfl, rfl, rfl⟩
def Y11_judge : mY := (yX11_judge, cX11_judge, 6, (some .int))
theorem k11_judge : mOKv Y11_judge 2 := ⟨⟨aw_w (List.mem_of_getElem? (i := 1377) (by decide +kernel)) rfl, N_11, by decide +kernel, ⟨by decide +kernel, by decide +kernel, by decide +kernel⟩, by decide⟩, aw_w (List.mem_of_getElem? (i := 1375) (by decide +kernel)) rfl, aw_w (List.mem_of_getElem? (i := 1376) (by decide +kernel)) rfl⟩
def Y11_lamp : mY := (yX11_lamp, cX11_lamp, 1, (some .int))
theorem k11_lamp : mOKv Y11_lamp 0 := ⟨⟨aw_w (List.mem_of_getElem? (i := 626) (by decide +kernel)) rfl, N_11, by decide +kernel, ⟨by decide +kernel, by decide +kernel, by decide +kernel⟩, by decide⟩, aw_w (List.mem_of_getElem? (i := 624) (by decide +kernel)) rfl, aw_w (List.mem_of_getElem? (i := 625) (by decide +kernel)) rfl⟩
def Y11_least : mY := (yX11_least, cX11_least, 2, (some .int))
theorem k11_least : mOKv Y11_least 1 := ⟨⟨aw_w (List.mem_of_getElem? (i := 1209) (by decide +kernel)) rfl, N_11, by decide +kernel, ⟨by decide +kernel, by decide +kernel, by decide +kernel⟩, by decide⟩, aw_w (List.mem_of_getElem? (i := 1207) (by decide +kernel)) rfl, aw_w (List.mem_of_getElem? (i := 1208) (by decide +kernel)) rfl⟩
def Y11_mark : mY := (yX11_mark, cX11_mark, 5, (some .int))
theorem k11_mark : mOKv Y11_mark 3 := ⟨⟨aw_w (List.mem_of_getElem? (i := 1109) (by decide +kernel)) rfl, N_11, by decide +kernel, ⟨by decide +kernel, by decide +kernel, by decide +kernel⟩, by decide⟩, aw_w (List.mem_of_getElem? (i := 1107) (by decide +kernel)) rfl, aw_w (List.mem_of_getElem? (i := 1108) (by decide +kernel)) rfl⟩
def Y11_nearest : mY := (yX11_nearest, cX11_nearest, 6, (some .int))
theorem k11_nearest : mOKv Y11_nearest 1 := ⟨⟨aw_w (List.mem_of_getElem? (i := 1512) (by decide +kernel)) rfl, N_11, by decide +kernel, ⟨by decide +kernel, by decide +kernel, by decide +kernel⟩, by decide⟩, aw_w (List.mem_of_getElem? (i := 1510) (by decide +kernel)) rfl, aw_w (List.mem_of_getElem? (i := 1511) (by decide +kernel)) rfl⟩
def Y11_needChest : mY := (yX11_needChest, cX11_needChest, 2, none)
theorem k11_needChest : mOKv Y11_needChest 1 := ⟨⟨aw_w (List.mem_of_getElem? (i := 1113) (by decide +kernel)) rfl, N_11, by decide +kernel, ⟨by decide +kernel, by decide +kernel, by decide +kernel⟩, by decide⟩, aw_w (List.mem_of_getElem? (i := 1112) (by decide +kernel)) rfl, aw_w (List.mem_of_getElem? (i := 33) (by decide +kernel)) rfl⟩
def Y11_needChestIn : mY := (yX11_needChestIn, cX11_needChestIn, 2, none)
theorem k11_needChestIn : mOKv Y11_needChestIn 1 := ⟨⟨aw_w (List.mem_of_getElem? (i := 1213) (by decide +kernel)) rfl, N_11, by decide +kernel, ⟨by decide +kernel, by decide +kernel, by decide +kernel⟩, by decide⟩, aw_w (List.mem_of_getElem? (i := 1212) (by decide +kernel)) rfl, aw_w (List.mem_of_getElem? (i := 38) (by decide +kernel)) rfl⟩
def Y11_needDescription : mY := (yX11_needDescription, cX11_needDescription, 4, none)
theorem k11_needDescription : mOKv Y11_needDescription 1 := ⟨⟨aw_w (List.mem_of_getElem? (i := 1182) (by decide +kernel)) rfl, N_11, by decide +kernel, ⟨by decide +kernel, by decide +kernel, by decide +kernel⟩, by decide⟩, aw_w (List.mem_of_getElem? (i := 1181) (by decide +kernel)) rfl, aw_w (List.mem_of_getElem? (i := 37) (by decide +kernel)) rfl⟩
def Y11_needFilledTray : mY := (yX11_needFilledTray, cX11_needFilledTray, 3, (some (.object "LeastWords$Tray")))
theorem k11_needFilledTray : mOKv Y11_needFilledTray 1 := ⟨⟨aw_w (List.mem_of_getElem? (i := 1381) (by decide +kernel)) rfl, N_11, by decide +kernel, ⟨by decide +kernel, by decide +kernel, by decide +kernel⟩, by decide⟩, aw_w (List.mem_of_getElem? (i := 1380) (by decide +kernel)) rfl, aw_w (List.mem_of_getElem? (i := 42) (by decide +kernel)) rfl⟩
def Y11_needImage : mY := (yX11_needImage, cX11_needImage, 2, none)
theorem k11_needImage : mOKv Y11_needImage 1 := ⟨⟨aw_w (List.mem_of_getElem? (i := 1601) (by decide +kernel)) rfl, N_11, by decide +kernel, ⟨by decide +kernel, by decide +kernel, by decide +kernel⟩, by decide⟩, aw_w (List.mem_of_getElem? (i := 1600) (by decide +kernel)) rfl, aw_w (List.mem_of_getElem? (i := 53) (by decide +kernel)) rfl⟩
def Y11_needMark : mY := (yX11_needMark, cX11_needMark, 2, none)
theorem k11_needMark : mOKv Y11_needMark 1 := ⟨⟨aw_w (List.mem_of_getElem? (i := 1133) (by decide +kernel)) rfl, N_11, by decide +kernel, ⟨by decide +kernel, by decide +kernel, by decide +kernel⟩, by decide⟩, aw_w (List.mem_of_getElem? (i := 1132) (by decide +kernel)) rfl, aw_w (List.mem_of_getElem? (i := 34) (by decide +kernel)) rfl⟩
def Y11_needPerson : mY := (yX11_needPerson, cX11_needPerson, 2, none)
theorem k11_needPerson : mOKv Y11_needPerson 1 := ⟨⟨aw_w (List.mem_of_getElem? (i := 1294) (by decide +kernel)) rfl, N_11, by decide +kernel, ⟨by decide +kernel, by decide +kernel, by decide +kernel⟩, by decide⟩, aw_w (List.mem_of_getElem? (i := 1293) (by decide +kernel)) rfl, aw_w (List.mem_of_getElem? (i := 39) (by decide +kernel)) rfl⟩
def Y11_needStake : mY := (yX11_needStake, cX11_needStake, 1, none)
theorem k11_needStake : mOKv Y11_needStake 0 := ⟨⟨aw_w (List.mem_of_getElem? (i := 1299) (by decide +kernel)) rfl, N_11, by decide +kernel, ⟨by decide +kernel, by decide +kernel, by decide +kernel⟩, by decide⟩, aw_w (List.mem_of_getElem? (i := 1298) (by decide +kernel)) rfl, aw_w (List.mem_of_getElem? (i := 40) (by decide +kernel)) rfl⟩
def Y11_needTray : mY := (yX11_needTray, cX11_needTray, 2, none)
theorem k11_needTray : mOKv Y11_needTray 1 := ⟨⟨aw_w (List.mem_of_getElem? (i := 1385) (by decide +kernel)) rfl, N_11, by decide +kernel, ⟨by decide +kernel, by decide +kernel, by decide +kernel⟩, by decide⟩, aw_w (List.mem_of_getElem? (i := 1384) (by decide +kernel)) rfl, aw_w (List.mem_of_getElem? (i := 43) (by decide +kernel)) rfl⟩
def Y11_needWhat : mY := (yX11_needWhat, cX11_needWhat, 3, none)
theorem k11_needWhat : mOKv Y11_needWhat 2 := ⟨⟨aw_w (List.mem_of_getElem? (i := 1150) (by decide +kernel)) rfl, N_11, by decide +kernel, ⟨by decide +kernel, by decide +kernel, by decide +kernel⟩, by decide⟩, aw_w (List.mem_of_getElem? (i := 1149) (by decide +kernel)) rfl, aw_w (List.mem_of_getElem? (i := 35) (by decide +kernel)) rfl⟩
def Y11_needWord : mY := (yX11_needWord, cX11_needWord, 2, none)
theorem k11_needWord : mOKv Y11_needWord 1 := ⟨⟨aw_w (List.mem_of_getElem? (i := 1163) (by decide +kernel)) rfl, N_11, by decide +kernel, ⟨by decide +kernel, by decide +kernel, by decide +kernel⟩, by decide⟩, aw_w (List.mem_of_getElem? (i := 1162) (by decide +kernel)) rfl, aw_w (List.mem_of_getElem? (i := 36) (by decide +kernel)) rfl⟩
def Y11_night : mY := (yX11_night, cX11_night, 10, (some .int))
theorem k11_night : mOKv Y11_night 2 := ⟨⟨aw_w (List.mem_of_getElem? (i := 1417) (by decide +kernel)) rfl, N_11, by decide +kernel, ⟨by decide +kernel, by decide +kernel, by decide +kernel⟩, by decide⟩, aw_w (List.mem_of_getElem? (i := 1415) (by decide +kernel)) rfl, aw_w (List.mem_of_getElem? (i := 1416) (by decide +kernel)) rfl⟩
def Y11_parts : mY := (yX11_parts, cX11_parts, 7, (some .int))
theorem k11_parts : mOKv Y11_parts 0 := ⟨⟨aw_w (List.mem_of_getElem? (i := 703) (by decide +kernel)) rfl, N_11, by decide +kernel, ⟨by decide +kernel, by decide +kernel, by decide +kernel⟩, by decide⟩, aw_w (List.mem_of_getElem? (i := 701) (by decide +kernel)) rfl, aw_w (List.mem_of_getElem? (i := 702) (by decide +kernel)) rfl⟩
def Y11_perform : mY := (yX11_perform, cX11_perform, 4, (some .int))
theorem k11_perform : mOKv Y11_perform 1 := ⟨⟨aw_w (List.mem_of_getElem? (i := 1410) (by decide +kernel)) rfl, N_11, by decide +kernel, ⟨by decide +kernel, by decide +kernel, by decide +kernel⟩, by decide⟩, aw_w (List.mem_of_getElem? (i := 1408) (by decide +kernel)) rfl, aw_w (List.mem_of_getElem? (i := 1409) (by decide +kernel)) rfl⟩
def Y11_person : mY := (yX11_person, cX11_person, 3, (some .int))
theorem k11_person : mOKv Y11_person 2 := ⟨⟨aw_w (List.mem_of_getElem? (i := 1355) (by decide +kernel)) rfl, N_11, by decide +kernel, ⟨by decide +kernel, by decide +kernel, by decide +kernel⟩, by decide⟩, aw_w (List.mem_of_getElem? (i := 1353) (by decide +kernel)) rfl, aw_w (List.mem_of_getElem? (i := 1354) (by decide +kernel)) rfl⟩
def Y11_price : mY := (yX11_price, cX11_price, 2, (some .int))
theorem k11_price : mOKv Y11_price 1 := ⟨⟨aw_w (List.mem_of_getElem? (i := 1258) (by decide +kernel)) rfl, N_11, by decide +kernel, ⟨by decide +kernel, by decide +kernel, by decide +kernel⟩, by decide⟩, aw_w (List.mem_of_getElem? (i := 1256) (by decide +kernel)) rfl, aw_w (List.mem_of_getElem? (i := 1257) (by decide +kernel)) rfl⟩
def Y11_putOnTape : mY := (yX11_putOnTape, cX11_putOnTape, 3, none)
theorem k11_putOnTape : mOKv Y11_putOnTape 1 := ⟨⟨aw_w (List.mem_of_getElem? (i := 562) (by decide +kernel)) rfl, N_11, by decide +kernel, ⟨by decide +kernel, by decide +kernel, by decide +kernel⟩, by decide⟩, aw_w (List.mem_of_getElem? (i := 561) (by decide +kernel)) rfl, aw_w (List.mem_of_getElem? (i := 0) (by decide +kernel)) rfl⟩
def Y11_rank : mY := (yX11_rank, cX11_rank, 3, (some .int))
theorem k11_rank : mOKv Y11_rank 1 := ⟨⟨aw_w (List.mem_of_getElem? (i := 1276) (by decide +kernel)) rfl, N_11, by decide +kernel, ⟨by decide +kernel, by decide +kernel, by decide +kernel⟩, by decide⟩, aw_w (List.mem_of_getElem? (i := 1274) (by decide +kernel)) rfl, aw_w (List.mem_of_getElem? (i := 1275) (by decide +kernel)) rfl⟩
def Y11_restore : mY := (yX11_restore, cX11_restore, 3, none)
theorem k11_restore : mOKv Y11_restore 1 := ⟨⟨aw_w (List.mem_of_getElem? (i := 1613) (by decide +kernel)) rfl, N_11, by decide +kernel, ⟨by decide +kernel, by decide +kernel, by decide +kernel⟩, by decide⟩, aw_w (List.mem_of_getElem? (i := 1611) (by decide +kernel)) rfl, aw_w (List.mem_of_getElem? (i := 1612) (by decide +kernel)) rfl⟩
def Y11_settle : mY := (yX11_settle, cX11_settle, 1, (some .int))
theorem k11_settle : mOKv Y11_settle 0 := ⟨⟨aw_w (List.mem_of_getElem? (i := 1307) (by decide +kernel)) rfl, N_11, by decide +kernel, ⟨by decide +kernel, by decide +kernel, by decide +kernel⟩, by decide⟩, aw_w (List.mem_of_getElem? (i := 1305) (by decide +kernel)) rfl, aw_w (List.mem_of_getElem? (i := 1306) (by decide +kernel)) rfl⟩
def Y11_shorter : mY := (yX11_shorter, cX11_shorter, 6, (some .int))
theorem k11_shorter : mOKv Y11_shorter 1 := ⟨⟨aw_w (List.mem_of_getElem? (i := 1283) (by decide +kernel)) rfl, N_11, by decide +kernel, ⟨by decide +kernel, by decide +kernel, by decide +kernel⟩, by decide⟩, aw_w (List.mem_of_getElem? (i := 1281) (by decide +kernel)) rfl, aw_w (List.mem_of_getElem? (i := 1282) (by decide +kernel)) rfl⟩
def Y11_stake : mY := (yX11_stake, cX11_stake, 3, (some .int))
theorem k11_stake : mOKv Y11_stake 1 := ⟨⟨aw_w (List.mem_of_getElem? (i := 1347) (by decide +kernel)) rfl, N_11, by decide +kernel, ⟨by decide +kernel, by decide +kernel, by decide +kernel⟩, by decide⟩, aw_w (List.mem_of_getElem? (i := 1345) (by decide +kernel)) rfl, aw_w (List.mem_of_getElem? (i := 1346) (by decide +kernel)) rfl⟩
def Y11_sure : mY := (yX11_sure, cX11_sure, 2, (some .int))
theorem k11_sure : mOKv Y11_sure 1 := ⟨⟨aw_w (List.mem_of_getElem? (i := 1247) (by decide +kernel)) rfl, N_11, by decide +kernel, ⟨by decide +kernel, by decide +kernel, by decide +kernel⟩, by decide⟩, aw_w (List.mem_of_getElem? (i := 1245) (by decide +kernel)) rfl, aw_w (List.mem_of_getElem? (i := 1246) (by decide +kernel)) rfl⟩
def Y11_tells : mY := (yX11_tells, cX11_tells, 2, (some .int))
theorem k11_tells : mOKv Y11_tells 1 := ⟨⟨aw_w (List.mem_of_getElem? (i := 1192) (by decide +kernel)) rfl, N_11, by decide +kernel, ⟨by decide +kernel, by decide +kernel, by decide +kernel⟩, by decide⟩, aw_w (List.mem_of_getElem? (i := 1190) (by decide +kernel)) rfl, aw_w (List.mem_of_getElem? (i := 1191) (by decide +kernel)) rfl⟩
def Y11_tray : mY := (yX11_tray, cX11_tray, 4, none)
theorem k11_tray : mOKv Y11_tray 3 := ⟨⟨aw_w (List.mem_of_getElem? (i := 1549) (by decide +kernel)) rfl, N_11, by decide +kernel, ⟨by decide +kernel, by decide +kernel, by decide +kernel⟩, by decide⟩, aw_w (List.mem_of_getElem? (i := 1547) (by decide +kernel)) rfl, aw_w (List.mem_of_getElem? (i := 1548) (by decide +kernel)) rfl⟩
def Y11_twins : mY := (yX11_twins, cX11_twins, 3, (some .int))
theorem k11_twins : mOKv Y11_twins 0 := ⟨⟨aw_w (List.mem_of_getElem? (i := 695) (by decide +kernel)) rfl, N_11, by decide +kernel, ⟨by decide +kernel, by decide +kernel, by decide +kernel⟩, by decide⟩, aw_w (List.mem_of_getElem? (i := 693) (by decide +kernel)) rfl, aw_w (List.mem_of_getElem? (i := 694) (by decide +kernel)) rfl⟩
def Y11_undo : mY := (yX11_undo, cX11_undo, 2, (some .int))
theorem k11_undo : mOKv Y11_undo 1 := ⟨⟨aw_w (List.mem_of_getElem? (i := 1362) (by decide +kernel)) rfl, N_11, by decide +kernel, ⟨by decide +kernel, by decide +kernel, by decide +kernel⟩, by decide⟩, aw_w (List.mem_of_getElem? (i := 1360) (by decide +kernel)) rfl, aw_w (List.mem_of_getElem? (i := 1361) (by decide +kernel)) rfl⟩
def Y11_ways : mY := (yX11_ways, cX11_ways, 2, (some .int))
theorem k11_ways : mOKv Y11_ways 1 := ⟨⟨aw_w (List.mem_of_getElem? (i := 1265) (by decide +kernel)) rfl, N_11, by decide +kernel, ⟨by decide +kernel, by decide +kernel, by decide +kernel⟩, by decide⟩, aw_w (List.mem_of_getElem? (i := 1263) (by decide +kernel)) rfl, aw_w (List.mem_of_getElem? (i := 1264) (by decide +kernel)) rfl⟩
def Y11_winner : mY := (yX11_winner, cX11_winner, 1, (some .int))
theorem k11_winner : mOKv Y11_winner 0 := ⟨⟨aw_w (List.mem_of_getElem? (i := 644) (by decide +kernel)) rfl, N_11, by decide +kernel, ⟨by decide +kernel, by decide +kernel, by decide +kernel⟩, by decide⟩, aw_w (List.mem_of_getElem? (i := 642) (by decide +kernel)) rfl, aw_w (List.mem_of_getElem? (i := 643) (by decide +kernel)) rfl⟩
def Y11_word : mY := (yX11_word, cX11_word, 3, (some .int))
theorem k11_word : mOKv Y11_word 2 := ⟨⟨aw_w (List.mem_of_getElem? (i := 1159) (by decide +kernel)) rfl, N_11, by decide +kernel, ⟨by decide +kernel, by decide +kernel, by decide +kernel⟩, by decide⟩, aw_w (List.mem_of_getElem? (i := 1157) (by decide +kernel)) rfl, aw_w (List.mem_of_getElem? (i := 1158) (by decide +kernel)) rfl⟩
def Y11_write : mY := (yX11_write, cX11_write, 6, (some .long))
theorem k11_write : mOKv Y11_write 3 := ⟨⟨aw_w (List.mem_of_getElem? (i := 1563) (by decide +kernel)) rfl, N_11, by decide +kernel, ⟨by decide +kernel, by decide +kernel, by decide +kernel⟩, by decide⟩, aw_w (List.mem_of_getElem? (i := 1561) (by decide +kernel)) rfl, aw_w (List.mem_of_getElem? (i := 1562) (by decide +kernel)) rfl⟩
def Y12_allWords : mY := (yX12_allWords, cX12_allWords, 1, (some .int))
theorem k12_allWords : mOKv Y12_allWords 0 := ⟨⟨aw_w (List.mem_of_getElem? (i := 1973) (by decide +kernel)) rfl, N_12, by decide +kernel, ⟨by decide +kernel, by decide +kernel, by decide +kernel⟩, by decide⟩, aw_w (List.mem_of_getElem? (i := 1972) (by decide +kernel)) rfl, aw_w (List.mem_of_getElem? (i := 96) (by decide +kernel)) rfl⟩
def Y12_asking : mY := (yX12_asking, cX12_asking, 4, (some .int))
theorem k12_asking : mOKv Y12_asking 1 := ⟨⟨aw_w (List.mem_of_getElem? (i := 2182) (by decide +kernel)) rfl, N_12, by decide +kernel, ⟨by decide +kernel, by decide +kernel, by decide +kernel⟩, by decide⟩, aw_w (List.mem_of_getElem? (i := 2180) (by decide +kernel)) rfl, aw_w (List.mem_of_getElem? (i := 2181) (by decide +kernel)) rfl⟩
def Y12_asksBy : mY := (yX12_asksBy, cX12_asksBy, 4, (some .int))
theorem k12_asksBy : mOKv Y12_asksBy 2 := ⟨⟨aw_w (List.mem_of_getElem? (i := 2190) (by decide +kernel)) rfl, N_12, by decide +kernel, ⟨by decide +kernel, by decide +kernel, by decide +kernel⟩, by decide⟩, aw_w (List.mem_of_getElem? (i := 2189) (by decide +kernel)) rfl, aw_w (List.mem_of_getElem? (i := 120) (by decide +kernel)) rfl⟩
def Y12_asksOf : mY := (yX12_asksOf, cX12_asksOf, 4, (some .int))
theorem k12_asksOf : mOKv Y12_asksOf 1 := ⟨⟨aw_w (List.mem_of_getElem? (i := 2186) (by decide +kernel)) rfl, N_12, by decide +kernel, ⟨by decide +kernel, by decide +kernel, by decide +kernel⟩, by decide⟩, aw_w (List.mem_of_getElem? (i := 2185) (by decide +kernel)) rfl, aw_w (List.mem_of_getElem? (i := 119) (by decide +kernel)) rfl⟩
def Y12_begins : mY := (yX12_begins, cX12_begins, 3, (some .boolean))
theorem k12_begins : mOKv Y12_begins 2 := ⟨⟨aw_w (List.mem_of_getElem? (i := 1795) (by decide +kernel)) rfl, N_12, by decide +kernel, ⟨by decide +kernel, by decide +kernel, by decide +kernel⟩, by decide⟩, aw_w (List.mem_of_getElem? (i := 1794) (by decide +kernel)) rfl, aw_w (List.mem_of_getElem? (i := 66) (by decide +kernel)) rfl⟩
def Y12_blames : mY := (yX12_blames, cX12_blames, 2, none)
theorem k12_blames : mOKv Y12_blames 1 := ⟨⟨aw_w (List.mem_of_getElem? (i := 1770) (by decide +kernel)) rfl, N_12, by decide +kernel, ⟨by decide +kernel, by decide +kernel, by decide +kernel⟩, by decide⟩, aw_w (List.mem_of_getElem? (i := 1769) (by decide +kernel)) rfl, aw_w (List.mem_of_getElem? (i := 60) (by decide +kernel)) rfl⟩
def Y12_blind : mY := (yX12_blind, cX12_blind, 2, (some .int))
theorem k12_blind : mOKv Y12_blind 1 := ⟨⟨aw_w (List.mem_of_getElem? (i := 2020) (by decide +kernel)) rfl, N_12, by decide +kernel, ⟨by decide +kernel, by decide +kernel, by decide +kernel⟩, by decide⟩, aw_w (List.mem_of_getElem? (i := 2018) (by decide +kernel)) rfl, aw_w (List.mem_of_getElem? (i := 2019) (by decide +kernel)) rfl⟩
def Y12_book : mY := (yX12_book, cX12_book, 3, (some .int))
theorem k12_book : mOKv Y12_book 0 := ⟨⟨aw_w (List.mem_of_getElem? (i := 2174) (by decide +kernel)) rfl, N_12, by decide +kernel, ⟨by decide +kernel, by decide +kernel, by decide +kernel⟩, by decide⟩, aw_w (List.mem_of_getElem? (i := 2172) (by decide +kernel)) rfl, aw_w (List.mem_of_getElem? (i := 2173) (by decide +kernel)) rfl⟩
def Y12_bound : mY := (yX12_bound, cX12_bound, 2, (some .int))
theorem k12_bound : mOKs Y12_bound 1 := ⟨⟨aw_w (List.mem_of_getElem? (i := 1932) (by decide +kernel)) rfl, N_12, by decide +kernel, ⟨by decide +kernel, by decide +kernel, by decide +kernel⟩, by decide⟩, aw_w (List.mem_of_getElem? (i := 1931) (by decide +kernel)) rfl⟩
def Y12_carries : mY := (yX12_carries, cX12_carries, 2, none)
theorem k12_carries : mOKv Y12_carries 1 := ⟨⟨aw_w (List.mem_of_getElem? (i := 2096) (by decide +kernel)) rfl, N_12, by decide +kernel, ⟨by decide +kernel, by decide +kernel, by decide +kernel⟩, by decide⟩, aw_w (List.mem_of_getElem? (i := 2095) (by decide +kernel)) rfl, aw_w (List.mem_of_getElem? (i := 111) (by decide +kernel)) rfl⟩
def Y12_carry : mY := (yX12_carry, cX12_carry, 2, (some .int))
theorem k12_carry : mOKv Y12_carry 1 := ⟨⟨aw_w (List.mem_of_getElem? (i := 2092) (by decide +kernel)) rfl, N_12, by decide +kernel, ⟨by decide +kernel, by decide +kernel, by decide +kernel⟩, by decide⟩, aw_w (List.mem_of_getElem? (i := 2090) (by decide +kernel)) rfl, aw_w (List.mem_of_getElem? (i := 2091) (by decide +kernel)) rfl⟩
def Y12_change : mY := (yX12_change, cX12_change, 5, (some .int))
theorem k12_change : mOKv Y12_change 3 := ⟨⟨aw_w (List.mem_of_getElem? (i := 2100) (by decide +kernel)) rfl, N_12, by decide +kernel, ⟨by decide +kernel, by decide +kernel, by decide +kernel⟩, by decide⟩, aw_w (List.mem_of_getElem? (i := 2098) (by decide +kernel)) rfl, aw_w (List.mem_of_getElem? (i := 2099) (by decide +kernel)) rfl⟩
def Y12_changing : mY := (yX12_changing, cX12_changing, 3, (some .int))
theorem k12_changing : mOKv Y12_changing 0 := ⟨⟨aw_w (List.mem_of_getElem? (i := 2237) (by decide +kernel)) rfl, N_12, by decide +kernel, ⟨by decide +kernel, by decide +kernel, by decide +kernel⟩, by decide⟩, aw_w (List.mem_of_getElem? (i := 2235) (by decide +kernel)) rfl, aw_w (List.mem_of_getElem? (i := 2236) (by decide +kernel)) rfl⟩
def Y12_cheaper : mY := (yX12_cheaper, cX12_cheaper, 6, (some .int))
theorem k12_cheaper : mOKv Y12_cheaper 2 := ⟨⟨aw_w (List.mem_of_getElem? (i := 2044) (by decide +kernel)) rfl, N_12, by decide +kernel, ⟨by decide +kernel, by decide +kernel, by decide +kernel⟩, by decide⟩, aw_w (List.mem_of_getElem? (i := 2043) (by decide +kernel)) rfl, aw_w (List.mem_of_getElem? (i := 104) (by decide +kernel)) rfl⟩
def Y12_chest : mY := (yX12_chest, cX12_chest, 3, (some .int))
theorem k12_chest : mOKv Y12_chest 2 := ⟨⟨aw_w (List.mem_of_getElem? (i := 1901) (by decide +kernel)) rfl, N_12, by decide +kernel, ⟨by decide +kernel, by decide +kernel, by decide +kernel⟩, by decide⟩, aw_w (List.mem_of_getElem? (i := 1899) (by decide +kernel)) rfl, aw_w (List.mem_of_getElem? (i := 1900) (by decide +kernel)) rfl⟩
def Y12_chestFault : mY := (yX12_chestFault, cX12_chestFault, 2, (some .int))
theorem k12_chestFault : mOKv Y12_chestFault 1 := ⟨⟨aw_w (List.mem_of_getElem? (i := 2007) (by decide +kernel)) rfl, N_12, by decide +kernel, ⟨by decide +kernel, by decide +kernel, by decide +kernel⟩, by decide⟩, aw_w (List.mem_of_getElem? (i := 2006) (by decide +kernel)) rfl, aw_w (List.mem_of_getElem? (i := 100) (by decide +kernel)) rfl⟩
def Y12_chests : mY := (yX12_chests, cX12_chests, 1, (some .int))
theorem k12_chests : mOKv Y12_chests 0 := ⟨⟨aw_w (List.mem_of_getElem? (i := 1866) (by decide +kernel)) rfl, N_12, by decide +kernel, ⟨by decide +kernel, by decide +kernel, by decide +kernel⟩, by decide⟩, aw_w (List.mem_of_getElem? (i := 1865) (by decide +kernel)) rfl, aw_w (List.mem_of_getElem? (i := 80) (by decide +kernel)) rfl⟩
def Y12_claim : mY := (yX12_claim, cX12_claim, 3, (some .int))
theorem k12_claim : mOKv Y12_claim 2 := ⟨⟨aw_w (List.mem_of_getElem? (i := 2056) (by decide +kernel)) rfl, N_12, by decide +kernel, ⟨by decide +kernel, by decide +kernel, by decide +kernel⟩, by decide⟩, aw_w (List.mem_of_getElem? (i := 2054) (by decide +kernel)) rfl, aw_w (List.mem_of_getElem? (i := 2055) (by decide +kernel)) rfl⟩
def Y12_claims : mY := (yX12_claims, cX12_claims, 3, (some .int))
theorem k12_claims : mOKv Y12_claims 0 := ⟨⟨aw_w (List.mem_of_getElem? (i := 2273) (by decide +kernel)) rfl, N_12, by decide +kernel, ⟨by decide +kernel, by decide +kernel, by decide +kernel⟩, by decide⟩, aw_w (List.mem_of_getElem? (i := 2272) (by decide +kernel)) rfl, aw_w (List.mem_of_getElem? (i := 125) (by decide +kernel)) rfl⟩
def Y12_common : mY := (yX12_common, cX12_common, 5, (some .int))
theorem k12_common : mOKv Y12_common 1 := ⟨⟨aw_w (List.mem_of_getElem? (i := 2233) (by decide +kernel)) rfl, N_12, by decide +kernel, ⟨by decide +kernel, by decide +kernel, by decide +kernel⟩, by decide⟩, aw_w (List.mem_of_getElem? (i := 2231) (by decide +kernel)) rfl, aw_w (List.mem_of_getElem? (i := 2232) (by decide +kernel)) rfl⟩
def Y12_copy : mY := (yX12_copy, cX12_copy, 4, (some .int))
theorem k12_copy : mOKv Y12_copy 1 := ⟨⟨aw_w (List.mem_of_getElem? (i := 2257) (by decide +kernel)) rfl, N_12, by decide +kernel, ⟨by decide +kernel, by decide +kernel, by decide +kernel⟩, by decide⟩, aw_w (List.mem_of_getElem? (i := 2255) (by decide +kernel)) rfl, aw_w (List.mem_of_getElem? (i := 2256) (by decide +kernel)) rfl⟩
def Y12_cost : mY := (yX12_cost, cX12_cost, 2, (some .int))
theorem k12_cost : mOKv Y12_cost 1 := ⟨⟨aw_w (List.mem_of_getElem? (i := 1995) (by decide +kernel)) rfl, N_12, by decide +kernel, ⟨by decide +kernel, by decide +kernel, by decide +kernel⟩, by decide⟩, aw_w (List.mem_of_getElem? (i := 1993) (by decide +kernel)) rfl, aw_w (List.mem_of_getElem? (i := 1994) (by decide +kernel)) rfl⟩
def Y12_costOf : mY := (yX12_costOf, cX12_costOf, 4, (some .int))
theorem k12_costOf : mOKv Y12_costOf 1 := ⟨⟨aw_w (List.mem_of_getElem? (i := 1999) (by decide +kernel)) rfl, N_12, by decide +kernel, ⟨by decide +kernel, by decide +kernel, by decide +kernel⟩, by decide⟩, aw_w (List.mem_of_getElem? (i := 1998) (by decide +kernel)) rfl, aw_w (List.mem_of_getElem? (i := 99) (by decide +kernel)) rfl⟩
def Y12_count : mY := (yX12_count, cX12_count, 2, (some .int))
theorem k12_count : mOKv Y12_count 1 := ⟨⟨aw_w (List.mem_of_getElem? (i := 2269) (by decide +kernel)) rfl, N_12, by decide +kernel, ⟨by decide +kernel, by decide +kernel, by decide +kernel⟩, by decide⟩, aw_w (List.mem_of_getElem? (i := 2267) (by decide +kernel)) rfl, aw_w (List.mem_of_getElem? (i := 2268) (by decide +kernel)) rfl⟩
def Y12_cut : mY := (yX12_cut, cX12_cut, 6, (some .long))
theorem k12_cut : mOKv Y12_cut 3 := ⟨⟨aw_w (List.mem_of_getElem? (i := 2253) (by decide +kernel)) rfl, N_12, by decide +kernel, ⟨by decide +kernel, by decide +kernel, by decide +kernel⟩, by decide⟩, aw_w (List.mem_of_getElem? (i := 2252) (by decide +kernel)) rfl, aw_w (List.mem_of_getElem? (i := 124) (by decide +kernel)) rfl⟩
def Y12_described : mY := (yX12_described, cX12_described, 3, (some .int))
theorem k12_described : mOKv Y12_described 2 := ⟨⟨aw_w (List.mem_of_getElem? (i := 2016) (by decide +kernel)) rfl, N_12, by decide +kernel, ⟨by decide +kernel, by decide +kernel, by decide +kernel⟩, by decide⟩, aw_w (List.mem_of_getElem? (i := 2015) (by decide +kernel)) rfl, aw_w (List.mem_of_getElem? (i := 102) (by decide +kernel)) rfl⟩
def Y12_differ : mY := (yX12_differ, cX12_differ, 3, (some .int))
theorem k12_differ : mOKv Y12_differ 2 := ⟨⟨aw_w (List.mem_of_getElem? (i := 2229) (by decide +kernel)) rfl, N_12, by decide +kernel, ⟨by decide +kernel, by decide +kernel, by decide +kernel⟩, by decide⟩, aw_w (List.mem_of_getElem? (i := 2227) (by decide +kernel)) rfl, aw_w (List.mem_of_getElem? (i := 2228) (by decide +kernel)) rfl⟩
def Y12_does : mY := (yX12_does, cX12_does, 2, none)
theorem k12_does : mOKv Y12_does 1 := ⟨⟨aw_w (List.mem_of_getElem? (i := 2147) (by decide +kernel)) rfl, N_12, by decide +kernel, ⟨by decide +kernel, by decide +kernel, by decide +kernel⟩, by decide⟩, aw_w (List.mem_of_getElem? (i := 2146) (by decide +kernel)) rfl, aw_w (List.mem_of_getElem? (i := 115) (by decide +kernel)) rfl⟩
def Y12_done : mY := (yX12_done, cX12_done, 5, (some .int))
theorem k12_done : mOKs Y12_done 3 := ⟨⟨aw_w (List.mem_of_getElem? (i := 1929) (by decide +kernel)) rfl, N_12, by decide +kernel, ⟨by decide +kernel, by decide +kernel, by decide +kernel⟩, by decide⟩, aw_w (List.mem_of_getElem? (i := 1928) (by decide +kernel)) rfl⟩
def Y12_draw : mY := (yX12_draw, cX12_draw, 2, (some .int))
theorem k12_draw : mOKv Y12_draw 1 := ⟨⟨aw_w (List.mem_of_getElem? (i := 2164) (by decide +kernel)) rfl, N_12, by decide +kernel, ⟨by decide +kernel, by decide +kernel, by decide +kernel⟩, by decide⟩, aw_w (List.mem_of_getElem? (i := 2163) (by decide +kernel)) rfl, aw_w (List.mem_of_getElem? (i := 117) (by decide +kernel)) rfl⟩
def Y12_fails : mY := (yX12_fails, cX12_fails, 2, (some .int))
theorem k12_fails : mOKv Y12_fails 1 := ⟨⟨aw_w (List.mem_of_getElem? (i := 1734) (by decide +kernel)) rfl, N_12, by decide +kernel, ⟨by decide +kernel, by decide +kernel, by decide +kernel⟩, by decide⟩, aw_w (List.mem_of_getElem? (i := 1733) (by decide +kernel)) rfl, aw_w (List.mem_of_getElem? (i := 54) (by decide +kernel)) rfl⟩
def Y12_fault : mY := (yX12_fault, cX12_fault, 2, (some .int))
theorem k12_fault : mOKv Y12_fault 1 := ⟨⟨aw_w (List.mem_of_getElem? (i := 1877) (by decide +kernel)) rfl, N_12, by decide +kernel, ⟨by decide +kernel, by decide +kernel, by decide +kernel⟩, by decide⟩, aw_w (List.mem_of_getElem? (i := 1875) (by decide +kernel)) rfl, aw_w (List.mem_of_getElem? (i := 1876) (by decide +kernel)) rfl⟩
def Y12_feed : mY := (yX12_feed, cX12_feed, 8, (some .int))
theorem k12_feed : mOKv Y12_feed 5 := ⟨⟨aw_w (List.mem_of_getElem? (i := 1723) (by decide +kernel)) rfl, N_12, by decide +kernel, ⟨by decide +kernel, by decide +kernel, by decide +kernel⟩, by decide⟩, aw_w (List.mem_of_getElem? (i := 1721) (by decide +kernel)) rfl, aw_w (List.mem_of_getElem? (i := 1722) (by decide +kernel)) rfl⟩
def Y12_firstIn : mY := (yX12_firstIn, cX12_firstIn, 2, (some .int))
theorem k12_firstIn : mOKv Y12_firstIn 0 := ⟨⟨aw_w (List.mem_of_getElem? (i := 1862) (by decide +kernel)) rfl, N_12, by decide +kernel, ⟨by decide +kernel, by decide +kernel, by decide +kernel⟩, by decide⟩, aw_w (List.mem_of_getElem? (i := 1861) (by decide +kernel)) rfl, aw_w (List.mem_of_getElem? (i := 79) (by decide +kernel)) rfl⟩
def Y12_fits : mY := (yX12_fits, cX12_fits, 2, (some .int))
theorem k12_fits : mOKv Y12_fits 1 := ⟨⟨aw_w (List.mem_of_getElem? (i := 1965) (by decide +kernel)) rfl, N_12, by decide +kernel, ⟨by decide +kernel, by decide +kernel, by decide +kernel⟩, by decide⟩, aw_w (List.mem_of_getElem? (i := 1963) (by decide +kernel)) rfl, aw_w (List.mem_of_getElem? (i := 1964) (by decide +kernel)) rfl⟩
def Y12_fitsBy : mY := (yX12_fitsBy, cX12_fitsBy, 2, (some .boolean))
theorem k12_fitsBy : mOKs Y12_fitsBy 2 := ⟨⟨aw_w (List.mem_of_getElem? (i := 1980) (by decide +kernel)) rfl, N_12, by decide +kernel, ⟨by decide +kernel, by decide +kernel, by decide +kernel⟩, by decide⟩, aw_w (List.mem_of_getElem? (i := 1979) (by decide +kernel)) rfl⟩
def Y12_fitsOf : mY := (yX12_fitsOf, cX12_fitsOf, 5, (some .int))
theorem k12_fitsOf : mOKv Y12_fitsOf 2 := ⟨⟨aw_w (List.mem_of_getElem? (i := 1977) (by decide +kernel)) rfl, N_12, by decide +kernel, ⟨by decide +kernel, by decide +kernel, by decide +kernel⟩, by decide⟩, aw_w (List.mem_of_getElem? (i := 1976) (by decide +kernel)) rfl, aw_w (List.mem_of_getElem? (i := 97) (by decide +kernel)) rfl⟩
def Y12_fresh : mY := (yX12_fresh, cX12_fresh, 4, (some .int))
theorem k12_fresh : mOKv Y12_fresh 2 := ⟨⟨aw_w (List.mem_of_getElem? (i := 2200) (by decide +kernel)) rfl, N_12, by decide +kernel, ⟨by decide +kernel, by decide +kernel, by decide +kernel⟩, by decide⟩, aw_w (List.mem_of_getElem? (i := 2198) (by decide +kernel)) rfl, aw_w (List.mem_of_getElem? (i := 2199) (by decide +kernel)) rfl⟩
def Y12_goesIn : mY := (yX12_goesIn, cX12_goesIn, 1, none)
theorem k12_goesIn : mOKv Y12_goesIn 0 := ⟨⟨aw_w (List.mem_of_getElem? (i := 1820) (by decide +kernel)) rfl, N_12, by decide +kernel, ⟨by decide +kernel, by decide +kernel, by decide +kernel⟩, by decide⟩, aw_w (List.mem_of_getElem? (i := 1819) (by decide +kernel)) rfl, aw_w (List.mem_of_getElem? (i := 71) (by decide +kernel)) rfl⟩
def Y12_goesNew : mY := (yX12_goesNew, cX12_goesNew, 6, (some .boolean))
theorem k12_goesNew : mOKv Y12_goesNew 3 := ⟨⟨aw_w (List.mem_of_getElem? (i := 2205) (by decide +kernel)) rfl, N_12, by decide +kernel, ⟨by decide +kernel, by decide +kernel, by decide +kernel⟩, by decide⟩, aw_w (List.mem_of_getElem? (i := 2204) (by decide +kernel)) rfl, aw_w (List.mem_of_getElem? (i := 122) (by decide +kernel)) rfl⟩
def Y12_greedy : mY := (yX12_greedy, cX12_greedy, 7, (some .int))
theorem k12_greedy : mOKv Y12_greedy 1 := ⟨⟨aw_w (List.mem_of_getElem? (i := 2241) (by decide +kernel)) rfl, N_12, by decide +kernel, ⟨by decide +kernel, by decide +kernel, by decide +kernel⟩, by decide⟩, aw_w (List.mem_of_getElem? (i := 2239) (by decide +kernel)) rfl, aw_w (List.mem_of_getElem? (i := 2240) (by decide +kernel)) rfl⟩
def Y12_hall : mY := (yX12_hall, cX12_hall, 3, (some .int))
theorem k12_hall : mOKv Y12_hall 1 := ⟨⟨aw_w (List.mem_of_getElem? (i := 1727) (by decide +kernel)) rfl, N_12, by decide +kernel, ⟨by decide +kernel, by decide +kernel, by decide +kernel⟩, by decide⟩, aw_w (List.mem_of_getElem? (i := 1725) (by decide +kernel)) rfl, aw_w (List.mem_of_getElem? (i := 1726) (by decide +kernel)) rfl⟩
def Y12_hardened : mY := (yX12_hardened, cX12_hardened, 8, (some .int))
theorem k12_hardened : mOKv Y12_hardened 2 := ⟨⟨aw_w (List.mem_of_getElem? (i := 2169) (by decide +kernel)) rfl, N_12, by decide +kernel, ⟨by decide +kernel, by decide +kernel, by decide +kernel⟩, by decide⟩, aw_w (List.mem_of_getElem? (i := 2167) (by decide +kernel)) rfl, aw_w (List.mem_of_getElem? (i := 2168) (by decide +kernel)) rfl⟩
def Y12_hardest : mY := (yX12_hardest, cX12_hardest, 5, (some .int))
theorem k12_hardest : mOKv Y12_hardest 0 := ⟨⟨aw_w (List.mem_of_getElem? (i := 2036) (by decide +kernel)) rfl, N_12, by decide +kernel, ⟨by decide +kernel, by decide +kernel, by decide +kernel⟩, by decide⟩, aw_w (List.mem_of_getElem? (i := 2034) (by decide +kernel)) rfl, aw_w (List.mem_of_getElem? (i := 2035) (by decide +kernel)) rfl⟩
def Y12_has : mY := (yX12_has, cX12_has, 2, (some .boolean))
theorem k12_has : mOKs Y12_has 2 := ⟨⟨aw_w (List.mem_of_getElem? (i := 1873) (by decide +kernel)) rfl, N_12, by decide +kernel, ⟨by decide +kernel, by decide +kernel, by decide +kernel⟩, by decide⟩, aw_w (List.mem_of_getElem? (i := 1872) (by decide +kernel)) rfl⟩
def Y12_holds : mY := (yX12_holds, cX12_holds, 4, (some .boolean))
theorem k12_holds : mOKv Y12_holds 3 := ⟨⟨aw_w (List.mem_of_getElem? (i := 1961) (by decide +kernel)) rfl, N_12, by decide +kernel, ⟨by decide +kernel, by decide +kernel, by decide +kernel⟩, by decide⟩, aw_w (List.mem_of_getElem? (i := 1959) (by decide +kernel)) rfl, aw_w (List.mem_of_getElem? (i := 1960) (by decide +kernel)) rfl⟩
def Y12_holdsNow : mY := (yX12_holdsNow, cX12_holdsNow, 5, (some .boolean))
theorem k12_holdsNow : mOKv Y12_holdsNow 1 := ⟨⟨aw_w (List.mem_of_getElem? (i := 1922) (by decide +kernel)) rfl, N_12, by decide +kernel, ⟨by decide +kernel, by decide +kernel, by decide +kernel⟩, by decide⟩, aw_w (List.mem_of_getElem? (i := 1921) (by decide +kernel)) rfl, aw_w (List.mem_of_getElem? (i := 90) (by decide +kernel)) rfl⟩
def Y12_idle : mY := (yX12_idle, cX12_idle, 3, (some .int))
theorem k12_idle : mOKv Y12_idle 0 := ⟨⟨aw_w (List.mem_of_getElem? (i := 2221) (by decide +kernel)) rfl, N_12, by decide +kernel, ⟨by decide +kernel, by decide +kernel, by decide +kernel⟩, by decide⟩, aw_w (List.mem_of_getElem? (i := 2219) (by decide +kernel)) rfl, aw_w (List.mem_of_getElem? (i := 2220) (by decide +kernel)) rfl⟩
def Y12_image : mY := (yX12_image, cX12_image, 3, none)
theorem k12_image : mOKv Y12_image 1 := ⟨⟨aw_w (List.mem_of_getElem? (i := 2261) (by decide +kernel)) rfl, N_12, by decide +kernel, ⟨by decide +kernel, by decide +kernel, by decide +kernel⟩, by decide⟩, aw_w (List.mem_of_getElem? (i := 2259) (by decide +kernel)) rfl, aw_w (List.mem_of_getElem? (i := 2260) (by decide +kernel)) rfl⟩
def Y12_inBehind : mY := (yX12_inBehind, cX12_inBehind, 3, (some .int))
theorem k12_inBehind : mOKv Y12_inBehind 1 := ⟨⟨aw_w (List.mem_of_getElem? (i := 2084) (by decide +kernel)) rfl, N_12, by decide +kernel, ⟨by decide +kernel, by decide +kernel, by decide +kernel⟩, by decide⟩, aw_w (List.mem_of_getElem? (i := 2083) (by decide +kernel)) rfl, aw_w (List.mem_of_getElem? (i := 110) (by decide +kernel)) rfl⟩
def Y12_inBy : mY := (yX12_inBy, cX12_inBy, 4, (some .int))
theorem k12_inBy : mOKv Y12_inBy 1 := ⟨⟨aw_w (List.mem_of_getElem? (i := 1957) (by decide +kernel)) rfl, N_12, by decide +kernel, ⟨by decide +kernel, by decide +kernel, by decide +kernel⟩, by decide⟩, aw_w (List.mem_of_getElem? (i := 1956) (by decide +kernel)) rfl, aw_w (List.mem_of_getElem? (i := 94) (by decide +kernel)) rfl⟩
def Y12_init : mY := (yX12_init, cX12_init, 1, none)
theorem k12_init : mOKi Y12_init 0 := ⟨⟨aw_w (List.mem_of_getElem? (i := 1619) (by decide +kernel)) rfl, N_12, by decide +kernel, ⟨by decide +kernel, by decide +kernel, by decide +kernel⟩, by decide⟩, aw_w (List.mem_of_getElem? (i := 1618) (by decide +kernel)) rfl, rfl, rfl⟩
def Y12_isBody : mY := (yX12_isBody, cX12_isBody, 2, (some .boolean))
theorem k12_isBody : mOKv Y12_isBody 1 := ⟨⟨aw_w (List.mem_of_getElem? (i := 2060) (by decide +kernel)) rfl, N_12, by decide +kernel, ⟨by decide +kernel, by decide +kernel, by decide +kernel⟩, by decide⟩, aw_w (List.mem_of_getElem? (i := 2059) (by decide +kernel)) rfl, aw_w (List.mem_of_getElem? (i := 105) (by decide +kernel)) rfl⟩
def Y12_isChest : mY := (yX12_isChest, cX12_isChest, 3, (some .boolean))
theorem k12_isChest : mOKv Y12_isChest 1 := ⟨⟨aw_w (List.mem_of_getElem? (i := 1885) (by decide +kernel)) rfl, N_12, by decide +kernel, ⟨by decide +kernel, by decide +kernel, by decide +kernel⟩, by decide⟩, aw_w (List.mem_of_getElem? (i := 1884) (by decide +kernel)) rfl, aw_w (List.mem_of_getElem? (i := 82) (by decide +kernel)) rfl⟩
def Y12_isDescription : mY := (yX12_isDescription, cX12_isDescription, 4, (some .boolean))
theorem k12_isDescription : mOKv Y12_isDescription 1 := ⟨⟨aw_w (List.mem_of_getElem? (i := 1969) (by decide +kernel)) rfl, N_12, by decide +kernel, ⟨by decide +kernel, by decide +kernel, by decide +kernel⟩, by decide⟩, aw_w (List.mem_of_getElem? (i := 1968) (by decide +kernel)) rfl, aw_w (List.mem_of_getElem? (i := 95) (by decide +kernel)) rfl⟩
def Y12_isDigit : mY := (yX12_isDigit, cX12_isDigit, 1, (some .boolean))
theorem k12_isDigit : mOKs Y12_isDigit 1 := ⟨⟨aw_w (List.mem_of_getElem? (i := 1748) (by decide +kernel)) rfl, N_12, by decide +kernel, ⟨by decide +kernel, by decide +kernel, by decide +kernel⟩, by decide⟩, aw_w (List.mem_of_getElem? (i := 1747) (by decide +kernel)) rfl⟩
def Y12_isHallWord : mY := (yX12_isHallWord, cX12_isHallWord, 2, (some .boolean))
theorem k12_isHallWord : mOKv Y12_isHallWord 1 := ⟨⟨aw_w (List.mem_of_getElem? (i := 1952) (by decide +kernel)) rfl, N_12, by decide +kernel, ⟨by decide +kernel, by decide +kernel, by decide +kernel⟩, by decide⟩, aw_w (List.mem_of_getElem? (i := 1951) (by decide +kernel)) rfl, aw_w (List.mem_of_getElem? (i := 93) (by decide +kernel)) rfl⟩
def Y12_isIn : mY := (yX12_isIn, cX12_isIn, 2, (some .boolean))
theorem k12_isIn : mOKv Y12_isIn 1 := ⟨⟨aw_w (List.mem_of_getElem? (i := 1870) (by decide +kernel)) rfl, N_12, by decide +kernel, ⟨by decide +kernel, by decide +kernel, by decide +kernel⟩, by decide⟩, aw_w (List.mem_of_getElem? (i := 1869) (by decide +kernel)) rfl, aw_w (List.mem_of_getElem? (i := 81) (by decide +kernel)) rfl⟩
def Y12_isLetter : mY := (yX12_isLetter, cX12_isLetter, 1, (some .boolean))
theorem k12_isLetter : mOKs Y12_isLetter 1 := ⟨⟨aw_w (List.mem_of_getElem? (i := 1741) (by decide +kernel)) rfl, N_12, by decide +kernel, ⟨by decide +kernel, by decide +kernel, by decide +kernel⟩, by decide⟩, aw_w (List.mem_of_getElem? (i := 1740) (by decide +kernel)) rfl⟩
def Y12_isMark : mY := (yX12_isMark, cX12_isMark, 3, (some .boolean))
theorem k12_isMark : mOKv Y12_isMark 1 := ⟨⟨aw_w (List.mem_of_getElem? (i := 1889) (by decide +kernel)) rfl, N_12, by decide +kernel, ⟨by decide +kernel, by decide +kernel, by decide +kernel⟩, by decide⟩, aw_w (List.mem_of_getElem? (i := 1888) (by decide +kernel)) rfl, aw_w (List.mem_of_getElem? (i := 83) (by decide +kernel)) rfl⟩
def Y12_isNew : mY := (yX12_isNew, cX12_isNew, 3, (some .boolean))
theorem k12_isNew : mOKv Y12_isNew 0 := ⟨⟨aw_w (List.mem_of_getElem? (i := 2209) (by decide +kernel)) rfl, N_12, by decide +kernel, ⟨by decide +kernel, by decide +kernel, by decide +kernel⟩, by decide⟩, aw_w (List.mem_of_getElem? (i := 2208) (by decide +kernel)) rfl, aw_w (List.mem_of_getElem? (i := 123) (by decide +kernel)) rfl⟩
def Y12_isSign : mY := (yX12_isSign, cX12_isSign, 2, (some .boolean))
theorem k12_isSign : mOKv Y12_isSign 1 := ⟨⟨aw_w (List.mem_of_getElem? (i := 1828) (by decide +kernel)) rfl, N_12, by decide +kernel, ⟨by decide +kernel, by decide +kernel, by decide +kernel⟩, by decide⟩, aw_w (List.mem_of_getElem? (i := 1827) (by decide +kernel)) rfl, aw_w (List.mem_of_getElem? (i := 73) (by decide +kernel)) rfl⟩
def Y12_isSignByte : mY := (yX12_isSignByte, cX12_isSignByte, 2, (some .boolean))
theorem k12_isSignByte : mOKs Y12_isSignByte 1 := ⟨⟨aw_w (List.mem_of_getElem? (i := 1751) (by decide +kernel)) rfl, N_12, by decide +kernel, ⟨by decide +kernel, by decide +kernel, by decide +kernel⟩, by decide⟩, aw_w (List.mem_of_getElem? (i := 1750) (by decide +kernel)) rfl⟩
def Y12_isTray : mY := (yX12_isTray, cX12_isTray, 1, (some .boolean))
theorem k12_isTray : mOKs Y12_isTray 1 := ⟨⟨aw_w (List.mem_of_getElem? (i := 2129) (by decide +kernel)) rfl, N_12, by decide +kernel, ⟨by decide +kernel, by decide +kernel, by decide +kernel⟩, by decide⟩, aw_w (List.mem_of_getElem? (i := 2128) (by decide +kernel)) rfl⟩
def Y12_isWord : mY := (yX12_isWord, cX12_isWord, 4, (some .boolean))
theorem k12_isWord : mOKv Y12_isWord 1 := ⟨⟨aw_w (List.mem_of_getElem? (i := 1764) (by decide +kernel)) rfl, N_12, by decide +kernel, ⟨by decide +kernel, by decide +kernel, by decide +kernel⟩, by decide⟩, aw_w (List.mem_of_getElem? (i := 1763) (by decide +kernel)) rfl, aw_w (List.mem_of_getElem? (i := 59) (by decide +kernel)) rfl⟩
def Y12_judge : mY := (yX12_judge, cX12_judge, 7, (some .int))
theorem k12_judge : mOKv Y12_judge 2 := ⟨⟨aw_w (List.mem_of_getElem? (i := 2122) (by decide +kernel)) rfl, N_12, by decide +kernel, ⟨by decide +kernel, by decide +kernel, by decide +kernel⟩, by decide⟩, aw_w (List.mem_of_getElem? (i := 2120) (by decide +kernel)) rfl, aw_w (List.mem_of_getElem? (i := 2121) (by decide +kernel)) rfl⟩
def Y12_keeps : mY := (yX12_keeps, cX12_keeps, 2, none)
theorem k12_keeps : mOKv Y12_keeps 0 := ⟨⟨aw_w (List.mem_of_getElem? (i := 2064) (by decide +kernel)) rfl, N_12, by decide +kernel, ⟨by decide +kernel, by decide +kernel, by decide +kernel⟩, by decide⟩, aw_w (List.mem_of_getElem? (i := 2063) (by decide +kernel)) rfl, aw_w (List.mem_of_getElem? (i := 106) (by decide +kernel)) rfl⟩
def Y12_lamp : mY := (yX12_lamp, cX12_lamp, 1, (some .int))
theorem k12_lamp : mOKv Y12_lamp 0 := ⟨⟨aw_w (List.mem_of_getElem? (i := 2088) (by decide +kernel)) rfl, N_12, by decide +kernel, ⟨by decide +kernel, by decide +kernel, by decide +kernel⟩, by decide⟩, aw_w (List.mem_of_getElem? (i := 2086) (by decide +kernel)) rfl, aw_w (List.mem_of_getElem? (i := 2087) (by decide +kernel)) rfl⟩
def Y12_laysHold : mY := (yX12_laysHold, cX12_laysHold, 2, none)
theorem k12_laysHold : mOKv Y12_laysHold 0 := ⟨⟨aw_w (List.mem_of_getElem? (i := 1906) (by decide +kernel)) rfl, N_12, by decide +kernel, ⟨by decide +kernel, by decide +kernel, by decide +kernel⟩, by decide⟩, aw_w (List.mem_of_getElem? (i := 1905) (by decide +kernel)) rfl, aw_w (List.mem_of_getElem? (i := 86) (by decide +kernel)) rfl⟩
def Y12_laysStep : mY := (yX12_laysStep, cX12_laysStep, 2, none)
theorem k12_laysStep : mOKv Y12_laysStep 1 := ⟨⟨aw_w (List.mem_of_getElem? (i := 1824) (by decide +kernel)) rfl, N_12, by decide +kernel, ⟨by decide +kernel, by decide +kernel, by decide +kernel⟩, by decide⟩, aw_w (List.mem_of_getElem? (i := 1823) (by decide +kernel)) rfl, aw_w (List.mem_of_getElem? (i := 72) (by decide +kernel)) rfl⟩
def Y12_least : mY := (yX12_least, cX12_least, 2, (some .int))
theorem k12_least : mOKv Y12_least 1 := ⟨⟨aw_w (List.mem_of_getElem? (i := 2003) (by decide +kernel)) rfl, N_12, by decide +kernel, ⟨by decide +kernel, by decide +kernel, by decide +kernel⟩, by decide⟩, aw_w (List.mem_of_getElem? (i := 2001) (by decide +kernel)) rfl, aw_w (List.mem_of_getElem? (i := 2002) (by decide +kernel)) rfl⟩
def Y12_leastOf : mY := (yX12_leastOf, cX12_leastOf, 10, (some .int))
theorem k12_leastOf : mOKv Y12_leastOf 3 := ⟨⟨aw_w (List.mem_of_getElem? (i := 2011) (by decide +kernel)) rfl, N_12, by decide +kernel, ⟨by decide +kernel, by decide +kernel, by decide +kernel⟩, by decide⟩, aw_w (List.mem_of_getElem? (i := 2010) (by decide +kernel)) rfl, aw_w (List.mem_of_getElem? (i := 101) (by decide +kernel)) rfl⟩
def Y12_likeIt : mY := (yX12_likeIt, cX12_likeIt, 4, (some .int))
theorem k12_likeIt : mOKv Y12_likeIt 1 := ⟨⟨aw_w (List.mem_of_getElem? (i := 1944) (by decide +kernel)) rfl, N_12, by decide +kernel, ⟨by decide +kernel, by decide +kernel, by decide +kernel⟩, by decide⟩, aw_w (List.mem_of_getElem? (i := 1943) (by decide +kernel)) rfl, aw_w (List.mem_of_getElem? (i := 92) (by decide +kernel)) rfl⟩
def Y12_look : mY := (yX12_look, cX12_look, 5, (some .int))
theorem k12_look : mOKv Y12_look 3 := ⟨⟨aw_w (List.mem_of_getElem? (i := 1893) (by decide +kernel)) rfl, N_12, by decide +kernel, ⟨by decide +kernel, by decide +kernel, by decide +kernel⟩, by decide⟩, aw_w (List.mem_of_getElem? (i := 1892) (by decide +kernel)) rfl, aw_w (List.mem_of_getElem? (i := 84) (by decide +kernel)) rfl⟩
def Y12_looksBy : mY := (yX12_looksBy, cX12_looksBy, 4, (some .int))
theorem k12_looksBy : mOKv Y12_looksBy 2 := ⟨⟨aw_w (List.mem_of_getElem? (i := 1897) (by decide +kernel)) rfl, N_12, by decide +kernel, ⟨by decide +kernel, by decide +kernel, by decide +kernel⟩, by decide⟩, aw_w (List.mem_of_getElem? (i := 1896) (by decide +kernel)) rfl, aw_w (List.mem_of_getElem? (i := 85) (by decide +kernel)) rfl⟩
def Y12_mark : mY := (yX12_mark, cX12_mark, 4, (some .int))
theorem k12_mark : mOKv Y12_mark 3 := ⟨⟨aw_w (List.mem_of_getElem? (i := 1881) (by decide +kernel)) rfl, N_12, by decide +kernel, ⟨by decide +kernel, by decide +kernel, by decide +kernel⟩, by decide⟩, aw_w (List.mem_of_getElem? (i := 1879) (by decide +kernel)) rfl, aw_w (List.mem_of_getElem? (i := 1880) (by decide +kernel)) rfl⟩
def Y12_mustSign : mY := (yX12_mustSign, cX12_mustSign, 2, none)
theorem k12_mustSign : mOKv Y12_mustSign 1 := ⟨⟨aw_w (List.mem_of_getElem? (i := 1782) (by decide +kernel)) rfl, N_12, by decide +kernel, ⟨by decide +kernel, by decide +kernel, by decide +kernel⟩, by decide⟩, aw_w (List.mem_of_getElem? (i := 1781) (by decide +kernel)) rfl, aw_w (List.mem_of_getElem? (i := 63) (by decide +kernel)) rfl⟩
def Y12_mustWord : mY := (yX12_mustWord, cX12_mustWord, 2, none)
theorem k12_mustWord : mOKv Y12_mustWord 1 := ⟨⟨aw_w (List.mem_of_getElem? (i := 1756) (by decide +kernel)) rfl, N_12, by decide +kernel, ⟨by decide +kernel, by decide +kernel, by decide +kernel⟩, by decide⟩, aw_w (List.mem_of_getElem? (i := 1755) (by decide +kernel)) rfl, aw_w (List.mem_of_getElem? (i := 57) (by decide +kernel)) rfl⟩
def Y12_nearest : mY := (yX12_nearest, cX12_nearest, 6, (some .int))
theorem k12_nearest : mOKv Y12_nearest 1 := ⟨⟨aw_w (List.mem_of_getElem? (i := 2225) (by decide +kernel)) rfl, N_12, by decide +kernel, ⟨by decide +kernel, by decide +kernel, by decide +kernel⟩, by decide⟩, aw_w (List.mem_of_getElem? (i := 2223) (by decide +kernel)) rfl, aw_w (List.mem_of_getElem? (i := 2224) (by decide +kernel)) rfl⟩
def Y12_night : mY := (yX12_night, cX12_night, 7, (some .int))
theorem k12_night : mOKv Y12_night 2 := ⟨⟨aw_w (List.mem_of_getElem? (i := 2159) (by decide +kernel)) rfl, N_12, by decide +kernel, ⟨by decide +kernel, by decide +kernel, by decide +kernel⟩, by decide⟩, aw_w (List.mem_of_getElem? (i := 2157) (by decide +kernel)) rfl, aw_w (List.mem_of_getElem? (i := 2158) (by decide +kernel)) rfl⟩
def Y12_noClaims : mY := (yX12_noClaims, cX12_noClaims, 2, none)
theorem k12_noClaims : mOKv Y12_noClaims 0 := ⟨⟨aw_w (List.mem_of_getElem? (i := 2080) (by decide +kernel)) rfl, N_12, by decide +kernel, ⟨by decide +kernel, by decide +kernel, by decide +kernel⟩, by decide⟩, aw_w (List.mem_of_getElem? (i := 2079) (by decide +kernel)) rfl, aw_w (List.mem_of_getElem? (i := 109) (by decide +kernel)) rfl⟩
def Y12_number : mY := (yX12_number, cX12_number, 4, (some .int))
theorem k12_number : mOKv Y12_number 2 := ⟨⟨aw_w (List.mem_of_getElem? (i := 1774) (by decide +kernel)) rfl, N_12, by decide +kernel, ⟨by decide +kernel, by decide +kernel, by decide +kernel⟩, by decide⟩, aw_w (List.mem_of_getElem? (i := 1773) (by decide +kernel)) rfl, aw_w (List.mem_of_getElem? (i := 61) (by decide +kernel)) rfl⟩
def Y12_part : mY := (yX12_part, cX12_part, 5, (some .int))
theorem k12_part : mOKv Y12_part 2 := ⟨⟨aw_w (List.mem_of_getElem? (i := 2194) (by decide +kernel)) rfl, N_12, by decide +kernel, ⟨by decide +kernel, by decide +kernel, by decide +kernel⟩, by decide⟩, aw_w (List.mem_of_getElem? (i := 2193) (by decide +kernel)) rfl, aw_w (List.mem_of_getElem? (i := 121) (by decide +kernel)) rfl⟩
def Y12_parts : mY := (yX12_parts, cX12_parts, 7, (some .int))
theorem k12_parts : mOKv Y12_parts 0 := ⟨⟨aw_w (List.mem_of_getElem? (i := 2217) (by decide +kernel)) rfl, N_12, by decide +kernel, ⟨by decide +kernel, by decide +kernel, by decide +kernel⟩, by decide⟩, aw_w (List.mem_of_getElem? (i := 2215) (by decide +kernel)) rfl, aw_w (List.mem_of_getElem? (i := 2216) (by decide +kernel)) rfl⟩
def Y12_partsAll : mY := (yX12_partsAll, cX12_partsAll, 4, (some .boolean))
theorem k12_partsAll : mOKv Y12_partsAll 1 := ⟨⟨aw_w (List.mem_of_getElem? (i := 2178) (by decide +kernel)) rfl, N_12, by decide +kernel, ⟨by decide +kernel, by decide +kernel, by decide +kernel⟩, by decide⟩, aw_w (List.mem_of_getElem? (i := 2177) (by decide +kernel)) rfl, aw_w (List.mem_of_getElem? (i := 118) (by decide +kernel)) rfl⟩
def Y12_perform : mY := (yX12_perform, cX12_perform, 3, (some .int))
theorem k12_perform : mOKv Y12_perform 1 := ⟨⟨aw_w (List.mem_of_getElem? (i := 2155) (by decide +kernel)) rfl, N_12, by decide +kernel, ⟨by decide +kernel, by decide +kernel, by decide +kernel⟩, by decide⟩, aw_w (List.mem_of_getElem? (i := 2153) (by decide +kernel)) rfl, aw_w (List.mem_of_getElem? (i := 2154) (by decide +kernel)) rfl⟩
def Y12_person : mY := (yX12_person, cX12_person, 3, (some .int))
theorem k12_person : mOKv Y12_person 2 := ⟨⟨aw_w (List.mem_of_getElem? (i := 2109) (by decide +kernel)) rfl, N_12, by decide +kernel, ⟨by decide +kernel, by decide +kernel, by decide +kernel⟩, by decide⟩, aw_w (List.mem_of_getElem? (i := 2107) (by decide +kernel)) rfl, aw_w (List.mem_of_getElem? (i := 2108) (by decide +kernel)) rfl⟩
def Y12_plain : mY := (yX12_plain, cX12_plain, 5, (some .int))
theorem k12_plain : mOKv Y12_plain 1 := ⟨⟨aw_w (List.mem_of_getElem? (i := 1926) (by decide +kernel)) rfl, N_12, by decide +kernel, ⟨by decide +kernel, by decide +kernel, by decide +kernel⟩, by decide⟩, aw_w (List.mem_of_getElem? (i := 1925) (by decide +kernel)) rfl, aw_w (List.mem_of_getElem? (i := 91) (by decide +kernel)) rfl⟩
def Y12_price : mY := (yX12_price, cX12_price, 2, (some .int))
theorem k12_price : mOKv Y12_price 1 := ⟨⟨aw_w (List.mem_of_getElem? (i := 2028) (by decide +kernel)) rfl, N_12, by decide +kernel, ⟨by decide +kernel, by decide +kernel, by decide +kernel⟩, by decide⟩, aw_w (List.mem_of_getElem? (i := 2026) (by decide +kernel)) rfl, aw_w (List.mem_of_getElem? (i := 2027) (by decide +kernel)) rfl⟩
def Y12_priceOf : mY := (yX12_priceOf, cX12_priceOf, 3, (some .int))
theorem k12_priceOf : mOKv Y12_priceOf 1 := ⟨⟨aw_w (List.mem_of_getElem? (i := 2032) (by decide +kernel)) rfl, N_12, by decide +kernel, ⟨by decide +kernel, by decide +kernel, by decide +kernel⟩, by decide⟩, aw_w (List.mem_of_getElem? (i := 2031) (by decide +kernel)) rfl, aw_w (List.mem_of_getElem? (i := 103) (by decide +kernel)) rfl⟩
def Y12_putsAside : mY := (yX12_putsAside, cX12_putsAside, 2, none)
theorem k12_putsAside : mOKv Y12_putsAside 0 := ⟨⟨aw_w (List.mem_of_getElem? (i := 2133) (by decide +kernel)) rfl, N_12, by decide +kernel, ⟨by decide +kernel, by decide +kernel, by decide +kernel⟩, by decide⟩, aw_w (List.mem_of_getElem? (i := 2132) (by decide +kernel)) rfl, aw_w (List.mem_of_getElem? (i := 113) (by decide +kernel)) rfl⟩
def Y12_putsBack : mY := (yX12_putsBack, cX12_putsBack, 2, none)
theorem k12_putsBack : mOKv Y12_putsBack 0 := ⟨⟨aw_w (List.mem_of_getElem? (i := 2151) (by decide +kernel)) rfl, N_12, by decide +kernel, ⟨by decide +kernel, by decide +kernel, by decide +kernel⟩, by decide⟩, aw_w (List.mem_of_getElem? (i := 2150) (by decide +kernel)) rfl, aw_w (List.mem_of_getElem? (i := 116) (by decide +kernel)) rfl⟩
def Y12_rank : mY := (yX12_rank, cX12_rank, 3, (some .int))
theorem k12_rank : mOKv Y12_rank 1 := ⟨⟨aw_w (List.mem_of_getElem? (i := 2048) (by decide +kernel)) rfl, N_12, by decide +kernel, ⟨by decide +kernel, by decide +kernel, by decide +kernel⟩, by decide⟩, aw_w (List.mem_of_getElem? (i := 2046) (by decide +kernel)) rfl, aw_w (List.mem_of_getElem? (i := 2047) (by decide +kernel)) rfl⟩
def Y12_readAtom : mY := (yX12_readAtom, cX12_readAtom, 3, none)
theorem k12_readAtom : mOKv Y12_readAtom 0 := ⟨⟨aw_w (List.mem_of_getElem? (i := 1840) (by decide +kernel)) rfl, N_12, by decide +kernel, ⟨by decide +kernel, by decide +kernel, by decide +kernel⟩, by decide⟩, aw_w (List.mem_of_getElem? (i := 1839) (by decide +kernel)) rfl, aw_w (List.mem_of_getElem? (i := 76) (by decide +kernel)) rfl⟩
def Y12_readBoth : mY := (yX12_readBoth, cX12_readBoth, 1, none)
theorem k12_readBoth : mOKv Y12_readBoth 0 := ⟨⟨aw_w (List.mem_of_getElem? (i := 1811) (by decide +kernel)) rfl, N_12, by decide +kernel, ⟨by decide +kernel, by decide +kernel, by decide +kernel⟩, by decide⟩, aw_w (List.mem_of_getElem? (i := 1810) (by decide +kernel)) rfl, aw_w (List.mem_of_getElem? (i := 69) (by decide +kernel)) rfl⟩
def Y12_readChest : mY := (yX12_readChest, cX12_readChest, 4, none)
theorem k12_readChest : mOKv Y12_readChest 1 := ⟨⟨aw_w (List.mem_of_getElem? (i := 1791) (by decide +kernel)) rfl, N_12, by decide +kernel, ⟨by decide +kernel, by decide +kernel, by decide +kernel⟩, by decide⟩, aw_w (List.mem_of_getElem? (i := 1790) (by decide +kernel)) rfl, aw_w (List.mem_of_getElem? (i := 65) (by decide +kernel)) rfl⟩
def Y12_readHallWord : mY := (yX12_readHallWord, cX12_readHallWord, 2, none)
theorem k12_readHallWord : mOKv Y12_readHallWord 0 := ⟨⟨aw_w (List.mem_of_getElem? (i := 1801) (by decide +kernel)) rfl, N_12, by decide +kernel, ⟨by decide +kernel, by decide +kernel, by decide +kernel⟩, by decide⟩, aw_w (List.mem_of_getElem? (i := 1800) (by decide +kernel)) rfl, aw_w (List.mem_of_getElem? (i := 67) (by decide +kernel)) rfl⟩
def Y12_readLamp : mY := (yX12_readLamp, cX12_readLamp, 2, none)
theorem k12_readLamp : mOKv Y12_readLamp 0 := ⟨⟨aw_w (List.mem_of_getElem? (i := 1856) (by decide +kernel)) rfl, N_12, by decide +kernel, ⟨by decide +kernel, by decide +kernel, by decide +kernel⟩, by decide⟩, aw_w (List.mem_of_getElem? (i := 1855) (by decide +kernel)) rfl, aw_w (List.mem_of_getElem? (i := 78) (by decide +kernel)) rfl⟩
def Y12_readLine : mY := (yX12_readLine, cX12_readLine, 1, none)
theorem k12_readLine : mOKv Y12_readLine 0 := ⟨⟨aw_w (List.mem_of_getElem? (i := 1786) (by decide +kernel)) rfl, N_12, by decide +kernel, ⟨by decide +kernel, by decide +kernel, by decide +kernel⟩, by decide⟩, aw_w (List.mem_of_getElem? (i := 1785) (by decide +kernel)) rfl, aw_w (List.mem_of_getElem? (i := 64) (by decide +kernel)) rfl⟩
def Y12_readStop : mY := (yX12_readStop, cX12_readStop, 1, none)
theorem k12_readStop : mOKv Y12_readStop 0 := ⟨⟨aw_w (List.mem_of_getElem? (i := 1778) (by decide +kernel)) rfl, N_12, by decide +kernel, ⟨by decide +kernel, by decide +kernel, by decide +kernel⟩, by decide⟩, aw_w (List.mem_of_getElem? (i := 1777) (by decide +kernel)) rfl, aw_w (List.mem_of_getElem? (i := 62) (by decide +kernel)) rfl⟩
def Y12_readSum : mY := (yX12_readSum, cX12_readSum, 2, none)
theorem k12_readSum : mOKv Y12_readSum 0 := ⟨⟨aw_w (List.mem_of_getElem? (i := 1832) (by decide +kernel)) rfl, N_12, by decide +kernel, ⟨by decide +kernel, by decide +kernel, by decide +kernel⟩, by decide⟩, aw_w (List.mem_of_getElem? (i := 1831) (by decide +kernel)) rfl, aw_w (List.mem_of_getElem? (i := 74) (by decide +kernel)) rfl⟩
def Y12_readTerm : mY := (yX12_readTerm, cX12_readTerm, 1, none)
theorem k12_readTerm : mOKv Y12_readTerm 0 := ⟨⟨aw_w (List.mem_of_getElem? (i := 1836) (by decide +kernel)) rfl, N_12, by decide +kernel, ⟨by decide +kernel, by decide +kernel, by decide +kernel⟩, by decide⟩, aw_w (List.mem_of_getElem? (i := 1835) (by decide +kernel)) rfl, aw_w (List.mem_of_getElem? (i := 75) (by decide +kernel)) rfl⟩
def Y12_readTruth : mY := (yX12_readTruth, cX12_readTruth, 1, none)
theorem k12_readTruth : mOKv Y12_readTruth 0 := ⟨⟨aw_w (List.mem_of_getElem? (i := 1807) (by decide +kernel)) rfl, N_12, by decide +kernel, ⟨by decide +kernel, by decide +kernel, by decide +kernel⟩, by decide⟩, aw_w (List.mem_of_getElem? (i := 1806) (by decide +kernel)) rfl, aw_w (List.mem_of_getElem? (i := 68) (by decide +kernel)) rfl⟩
def Y12_readUnit : mY := (yX12_readUnit, cX12_readUnit, 2, none)
theorem k12_readUnit : mOKv Y12_readUnit 0 := ⟨⟨aw_w (List.mem_of_getElem? (i := 1815) (by decide +kernel)) rfl, N_12, by decide +kernel, ⟨by decide +kernel, by decide +kernel, by decide +kernel⟩, by decide⟩, aw_w (List.mem_of_getElem? (i := 1814) (by decide +kernel)) rfl, aw_w (List.mem_of_getElem? (i := 70) (by decide +kernel)) rfl⟩
def Y12_readsOn : mY := (yX12_readsOn, cX12_readsOn, 2, none)
theorem k12_readsOn : mOKv Y12_readsOn 0 := ⟨⟨aw_w (List.mem_of_getElem? (i := 1738) (by decide +kernel)) rfl, N_12, by decide +kernel, ⟨by decide +kernel, by decide +kernel, by decide +kernel⟩, by decide⟩, aw_w (List.mem_of_getElem? (i := 1737) (by decide +kernel)) rfl, aw_w (List.mem_of_getElem? (i := 55) (by decide +kernel)) rfl⟩
def Y12_restore : mY := (yX12_restore, cX12_restore, 3, none)
theorem k12_restore : mOKv Y12_restore 1 := ⟨⟨aw_w (List.mem_of_getElem? (i := 2265) (by decide +kernel)) rfl, N_12, by decide +kernel, ⟨by decide +kernel, by decide +kernel, by decide +kernel⟩, by decide⟩, aw_w (List.mem_of_getElem? (i := 2263) (by decide +kernel)) rfl, aw_w (List.mem_of_getElem? (i := 2264) (by decide +kernel)) rfl⟩
def Y12_see : mY := (yX12_see, cX12_see, 2, (some .int))
theorem k12_see : mOKv Y12_see 1 := ⟨⟨aw_w (List.mem_of_getElem? (i := 1745) (by decide +kernel)) rfl, N_12, by decide +kernel, ⟨by decide +kernel, by decide +kernel, by decide +kernel⟩, by decide⟩, aw_w (List.mem_of_getElem? (i := 1744) (by decide +kernel)) rfl, aw_w (List.mem_of_getElem? (i := 56) (by decide +kernel)) rfl⟩
def Y12_seenWords : mY := (yX12_seenWords, cX12_seenWords, 3, (some .int))
theorem k12_seenWords : mOKv Y12_seenWords 0 := ⟨⟨aw_w (List.mem_of_getElem? (i := 1914) (by decide +kernel)) rfl, N_12, by decide +kernel, ⟨by decide +kernel, by decide +kernel, by decide +kernel⟩, by decide⟩, aw_w (List.mem_of_getElem? (i := 1913) (by decide +kernel)) rfl, aw_w (List.mem_of_getElem? (i := 88) (by decide +kernel)) rfl⟩
def Y12_settle : mY := (yX12_settle, cX12_settle, 1, (some .int))
theorem k12_settle : mOKv Y12_settle 0 := ⟨⟨aw_w (List.mem_of_getElem? (i := 2068) (by decide +kernel)) rfl, N_12, by decide +kernel, ⟨by decide +kernel, by decide +kernel, by decide +kernel⟩, by decide⟩, aw_w (List.mem_of_getElem? (i := 2066) (by decide +kernel)) rfl, aw_w (List.mem_of_getElem? (i := 2067) (by decide +kernel)) rfl⟩
def Y12_settles : mY := (yX12_settles, cX12_settles, 3, (some .int))
theorem k12_settles : mOKv Y12_settles 0 := ⟨⟨aw_w (List.mem_of_getElem? (i := 2072) (by decide +kernel)) rfl, N_12, by decide +kernel, ⟨by decide +kernel, by decide +kernel, by decide +kernel⟩, by decide⟩, aw_w (List.mem_of_getElem? (i := 2071) (by decide +kernel)) rfl, aw_w (List.mem_of_getElem? (i := 107) (by decide +kernel)) rfl⟩
def Y12_shorter : mY := (yX12_shorter, cX12_shorter, 5, (some .int))
theorem k12_shorter : mOKv Y12_shorter 1 := ⟨⟨aw_w (List.mem_of_getElem? (i := 2052) (by decide +kernel)) rfl, N_12, by decide +kernel, ⟨by decide +kernel, by decide +kernel, by decide +kernel⟩, by decide⟩, aw_w (List.mem_of_getElem? (i := 2050) (by decide +kernel)) rfl, aw_w (List.mem_of_getElem? (i := 2051) (by decide +kernel)) rfl⟩
def Y12_size : mY := (yX12_size, cX12_size, 3, (some .int))
theorem k12_size : mOKs Y12_size 1 := ⟨⟨aw_w (List.mem_of_getElem? (i := 1991) (by decide +kernel)) rfl, N_12, by decide +kernel, ⟨by decide +kernel, by decide +kernel, by decide +kernel⟩, by decide⟩, aw_w (List.mem_of_getElem? (i := 1990) (by decide +kernel)) rfl⟩
def Y12_stake : mY := (yX12_stake, cX12_stake, 3, (some .int))
theorem k12_stake : mOKv Y12_stake 1 := ⟨⟨aw_w (List.mem_of_getElem? (i := 2105) (by decide +kernel)) rfl, N_12, by decide +kernel, ⟨by decide +kernel, by decide +kernel, by decide +kernel⟩, by decide⟩, aw_w (List.mem_of_getElem? (i := 2103) (by decide +kernel)) rfl, aw_w (List.mem_of_getElem? (i := 2104) (by decide +kernel)) rfl⟩
def Y12_sure : mY := (yX12_sure, cX12_sure, 2, (some .int))
theorem k12_sure : mOKv Y12_sure 1 := ⟨⟨aw_w (List.mem_of_getElem? (i := 2024) (by decide +kernel)) rfl, N_12, by decide +kernel, ⟨by decide +kernel, by decide +kernel, by decide +kernel⟩, by decide⟩, aw_w (List.mem_of_getElem? (i := 2022) (by decide +kernel)) rfl, aw_w (List.mem_of_getElem? (i := 2023) (by decide +kernel)) rfl⟩
def Y12_tells : mY := (yX12_tells, cX12_tells, 2, (some .int))
theorem k12_tells : mOKv Y12_tells 1 := ⟨⟨aw_w (List.mem_of_getElem? (i := 1984) (by decide +kernel)) rfl, N_12, by decide +kernel, ⟨by decide +kernel, by decide +kernel, by decide +kernel⟩, by decide⟩, aw_w (List.mem_of_getElem? (i := 1982) (by decide +kernel)) rfl, aw_w (List.mem_of_getElem? (i := 1983) (by decide +kernel)) rfl⟩
def Y12_tellsNothing : mY := (yX12_tellsNothing, cX12_tellsNothing, 2, none)
theorem k12_tellsNothing : mOKs Y12_tellsNothing 1 := ⟨⟨aw_w (List.mem_of_getElem? (i := 1623) (by decide +kernel)) rfl, N_12, by decide +kernel, ⟨by decide +kernel, by decide +kernel, by decide +kernel⟩, by decide⟩, aw_w (List.mem_of_getElem? (i := 1622) (by decide +kernel)) rfl⟩
def Y12_thrown : mY := (yX12_thrown, cX12_thrown, 1, (some .int))
theorem k12_thrown : mOKv Y12_thrown 0 := ⟨⟨aw_w (List.mem_of_getElem? (i := 1719) (by decide +kernel)) rfl, N_12, by decide +kernel, ⟨by decide +kernel, by decide +kernel, by decide +kernel⟩, by decide⟩, aw_w (List.mem_of_getElem? (i := 1717) (by decide +kernel)) rfl, aw_w (List.mem_of_getElem? (i := 1718) (by decide +kernel)) rfl⟩
def Y12_toldBy : mY := (yX12_toldBy, cX12_toldBy, 4, (some .int))
theorem k12_toldBy : mOKv Y12_toldBy 1 := ⟨⟨aw_w (List.mem_of_getElem? (i := 1988) (by decide +kernel)) rfl, N_12, by decide +kernel, ⟨by decide +kernel, by decide +kernel, by decide +kernel⟩, by decide⟩, aw_w (List.mem_of_getElem? (i := 1987) (by decide +kernel)) rfl, aw_w (List.mem_of_getElem? (i := 98) (by decide +kernel)) rfl⟩
def Y12_took : mY := (yX12_took, cX12_took, 3, (some .boolean))
theorem k12_took : mOKv Y12_took 1 := ⟨⟨aw_w (List.mem_of_getElem? (i := 1760) (by decide +kernel)) rfl, N_12, by decide +kernel, ⟨by decide +kernel, by decide +kernel, by decide +kernel⟩, by decide⟩, aw_w (List.mem_of_getElem? (i := 1759) (by decide +kernel)) rfl, aw_w (List.mem_of_getElem? (i := 58) (by decide +kernel)) rfl⟩
def Y12_tray : mY := (yX12_tray, cX12_tray, 5, none)
theorem k12_tray : mOKv Y12_tray 3 := ⟨⟨aw_w (List.mem_of_getElem? (i := 2245) (by decide +kernel)) rfl, N_12, by decide +kernel, ⟨by decide +kernel, by decide +kernel, by decide +kernel⟩, by decide⟩, aw_w (List.mem_of_getElem? (i := 2243) (by decide +kernel)) rfl, aw_w (List.mem_of_getElem? (i := 2244) (by decide +kernel)) rfl⟩
def Y12_trayFault : mY := (yX12_trayFault, cX12_trayFault, 2, (some .int))
theorem k12_trayFault : mOKv Y12_trayFault 1 := ⟨⟨aw_w (List.mem_of_getElem? (i := 2126) (by decide +kernel)) rfl, N_12, by decide +kernel, ⟨by decide +kernel, by decide +kernel, by decide +kernel⟩, by decide⟩, aw_w (List.mem_of_getElem? (i := 2125) (by decide +kernel)) rfl, aw_w (List.mem_of_getElem? (i := 112) (by decide +kernel)) rfl⟩
def Y12_twins : mY := (yX12_twins, cX12_twins, 3, (some .int))
theorem k12_twins : mOKv Y12_twins 0 := ⟨⟨aw_w (List.mem_of_getElem? (i := 2213) (by decide +kernel)) rfl, N_12, by decide +kernel, ⟨by decide +kernel, by decide +kernel, by decide +kernel⟩, by decide⟩, aw_w (List.mem_of_getElem? (i := 2211) (by decide +kernel)) rfl, aw_w (List.mem_of_getElem? (i := 2212) (by decide +kernel)) rfl⟩
def Y12_undo : mY := (yX12_undo, cX12_undo, 3, (some .int))
theorem k12_undo : mOKv Y12_undo 1 := ⟨⟨aw_w (List.mem_of_getElem? (i := 2117) (by decide +kernel)) rfl, N_12, by decide +kernel, ⟨by decide +kernel, by decide +kernel, by decide +kernel⟩, by decide⟩, aw_w (List.mem_of_getElem? (i := 2115) (by decide +kernel)) rfl, aw_w (List.mem_of_getElem? (i := 2116) (by decide +kernel)) rfl⟩
def Y12_ways : mY := (yX12_ways, cX12_ways, 2, (some .int))
theorem k12_ways : mOKv Y12_ways 1 := ⟨⟨aw_w (List.mem_of_getElem? (i := 2040) (by decide +kernel)) rfl, N_12, by decide +kernel, ⟨by decide +kernel, by decide +kernel, by decide +kernel⟩, by decide⟩, aw_w (List.mem_of_getElem? (i := 2038) (by decide +kernel)) rfl, aw_w (List.mem_of_getElem? (i := 2039) (by decide +kernel)) rfl⟩
def Y12_whyTold : mY := (yX12_whyTold, cX12_whyTold, 3, (some .int))
theorem k12_whyTold : mOKv Y12_whyTold 1 := ⟨⟨aw_w (List.mem_of_getElem? (i := 2137) (by decide +kernel)) rfl, N_12, by decide +kernel, ⟨by decide +kernel, by decide +kernel, by decide +kernel⟩, by decide⟩, aw_w (List.mem_of_getElem? (i := 2136) (by decide +kernel)) rfl, aw_w (List.mem_of_getElem? (i := 114) (by decide +kernel)) rfl⟩
def Y12_winner : mY := (yX12_winner, cX12_winner, 1, (some .int))
theorem k12_winner : mOKv Y12_winner 0 := ⟨⟨aw_w (List.mem_of_getElem? (i := 2113) (by decide +kernel)) rfl, N_12, by decide +kernel, ⟨by decide +kernel, by decide +kernel, by decide +kernel⟩, by decide⟩, aw_w (List.mem_of_getElem? (i := 2111) (by decide +kernel)) rfl, aw_w (List.mem_of_getElem? (i := 2112) (by decide +kernel)) rfl⟩
def Y12_winnerOf : mY := (yX12_winnerOf, cX12_winnerOf, 4, (some .int))
theorem k12_winnerOf : mOKv Y12_winnerOf 0 := ⟨⟨aw_w (List.mem_of_getElem? (i := 2076) (by decide +kernel)) rfl, N_12, by decide +kernel, ⟨by decide +kernel, by decide +kernel, by decide +kernel⟩, by decide⟩, aw_w (List.mem_of_getElem? (i := 2075) (by decide +kernel)) rfl, aw_w (List.mem_of_getElem? (i := 108) (by decide +kernel)) rfl⟩
def Y12_within : mY := (yX12_within, cX12_within, 6, (some .boolean))
theorem k12_within : mOKs Y12_within 3 := ⟨⟨aw_w (List.mem_of_getElem? (i := 1730) (by decide +kernel)) rfl, N_12, by decide +kernel, ⟨by decide +kernel, by decide +kernel, by decide +kernel⟩, by decide⟩, aw_w (List.mem_of_getElem? (i := 1729) (by decide +kernel)) rfl⟩
def Y12_word : mY := (yX12_word, cX12_word, 3, (some .int))
theorem k12_word : mOKv Y12_word 2 := ⟨⟨aw_w (List.mem_of_getElem? (i := 1948) (by decide +kernel)) rfl, N_12, by decide +kernel, ⟨by decide +kernel, by decide +kernel, by decide +kernel⟩, by decide⟩, aw_w (List.mem_of_getElem? (i := 1946) (by decide +kernel)) rfl, aw_w (List.mem_of_getElem? (i := 1947) (by decide +kernel)) rfl⟩
def Y12_wordStep : mY := (yX12_wordStep, cX12_wordStep, 1, (some .int))
theorem k12_wordStep : mOKv Y12_wordStep 0 := ⟨⟨aw_w (List.mem_of_getElem? (i := 1844) (by decide +kernel)) rfl, N_12, by decide +kernel, ⟨by decide +kernel, by decide +kernel, by decide +kernel⟩, by decide⟩, aw_w (List.mem_of_getElem? (i := 1843) (by decide +kernel)) rfl, aw_w (List.mem_of_getElem? (i := 77) (by decide +kernel)) rfl⟩
def Y12_words : mY := (yX12_words, cX12_words, 1, (some .int))
theorem k12_words : mOKv Y12_words 0 := ⟨⟨aw_w (List.mem_of_getElem? (i := 1918) (by decide +kernel)) rfl, N_12, by decide +kernel, ⟨by decide +kernel, by decide +kernel, by decide +kernel⟩, by decide⟩, aw_w (List.mem_of_getElem? (i := 1917) (by decide +kernel)) rfl, aw_w (List.mem_of_getElem? (i := 89) (by decide +kernel)) rfl⟩
def Y12_wordsOf : mY := (yX12_wordsOf, cX12_wordsOf, 4, (some .int))
theorem k12_wordsOf : mOKv Y12_wordsOf 2 := ⟨⟨aw_w (List.mem_of_getElem? (i := 1910) (by decide +kernel)) rfl, N_12, by decide +kernel, ⟨by decide +kernel, by decide +kernel, by decide +kernel⟩, by decide⟩, aw_w (List.mem_of_getElem? (i := 1909) (by decide +kernel)) rfl, aw_w (List.mem_of_getElem? (i := 87) (by decide +kernel)) rfl⟩
def Y12_write : mY := (yX12_write, cX12_write, 5, (some .long))
theorem k12_write : mOKv Y12_write 3 := ⟨⟨aw_w (List.mem_of_getElem? (i := 2249) (by decide +kernel)) rfl, N_12, by decide +kernel, ⟨by decide +kernel, by decide +kernel, by decide +kernel⟩, by decide⟩, aw_w (List.mem_of_getElem? (i := 2247) (by decide +kernel)) rfl, aw_w (List.mem_of_getElem? (i := 2248) (by decide +kernel)) rfl⟩
def Y1_agreeing : mY := (yX1_agreeing, cX1_agreeing, 6, (some .int))
theorem k1_agreeing : mOKs Y1_agreeing 4 := ⟨⟨aw_w (List.mem_of_getElem? (i := 589) (by decide +kernel)) rfl, N_1, by decide +kernel, ⟨by decide +kernel, by decide +kernel, by decide +kernel⟩, by decide⟩, aw_w (List.mem_of_getElem? (i := 588) (by decide +kernel)) rfl⟩
def Y1_cheapest : mY := (yX1_cheapest, cX1_cheapest, 6, (some .long))
theorem k1_cheapest : mOKv Y1_cheapest 4 := ⟨⟨aw_w (List.mem_of_getElem? (i := 578) (by decide +kernel)) rfl, N_1, by decide +kernel, ⟨by decide +kernel, by decide +kernel, by decide +kernel⟩, by decide⟩, aw_w (List.mem_of_getElem? (i := 576) (by decide +kernel)) rfl, aw_w (List.mem_of_getElem? (i := 577) (by decide +kernel)) rfl⟩
def Y1_cheapestByAnLight : mY := (yX1_cheapestByAnyLight, cX1_cheapestByAnyLight, 7, (some .long))
theorem k1_cheapestByAnLight : mOKv Y1_cheapestByAnLight 3 := ⟨⟨aw_w (List.mem_of_getElem? (i := 1251) (by decide +kernel)) rfl, N_1, by decide +kernel, ⟨by decide +kernel, by decide +kernel, by decide +kernel⟩, by decide⟩, aw_w (List.mem_of_getElem? (i := 1249) (by decide +kernel)) rfl, aw_w (List.mem_of_getElem? (i := 1250) (by decide +kernel)) rfl⟩
def Y1_costIn : mY := (yX1_costIn, cX1_costIn, 2, (some .int))
theorem k1_costIn : mOKs Y1_costIn 1 := ⟨⟨aw_w (List.mem_of_getElem? (i := 621) (by decide +kernel)) rfl, N_1, by decide +kernel, ⟨by decide +kernel, by decide +kernel, by decide +kernel⟩, by decide⟩, aw_w (List.mem_of_getElem? (i := 620) (by decide +kernel)) rfl⟩
def Y1_described : mY := (yX1_described, cX1_described, 2, (some .int))
theorem k1_described : mOKs Y1_described 2 := ⟨⟨aw_w (List.mem_of_getElem? (i := 618) (by decide +kernel)) rfl, N_1, by decide +kernel, ⟨by decide +kernel, by decide +kernel, by decide +kernel⟩, by decide⟩, aw_w (List.mem_of_getElem? (i := 617) (by decide +kernel)) rfl⟩
def Y1_fewestThatHarden : mY := (yX1_fewestThatHarden, cX1_fewestThatHarden, 10, (some .int))
theorem k1_fewestThatHarden : mOKv Y1_fewestThatHarden 4 := ⟨⟨aw_w (List.mem_of_getElem? (i := 1440) (by decide +kernel)) rfl, N_1, by decide +kernel, ⟨by decide +kernel, by decide +kernel, by decide +kernel⟩, by decide⟩, aw_w (List.mem_of_getElem? (i := 1438) (by decide +kernel)) rfl, aw_w (List.mem_of_getElem? (i := 1439) (by decide +kernel)) rfl⟩
def Y1_init : mY := (yX1_init, cX1_init, 1, none)
theorem k1_init : mOKi Y1_init 0 := ⟨⟨aw_w (List.mem_of_getElem? (i := 438) (by decide +kernel)) rfl, N_1, by decide +kernel, ⟨by decide +kernel, by decide +kernel, by decide +kernel⟩, by decide⟩, aw_w (List.mem_of_getElem? (i := 437) (by decide +kernel)) rfl, rfl, rfl⟩
def Y1_isHard : mY := (yX1_isHard, cX1_isHard, 6, (some .boolean))
theorem k1_isHard : mOKv Y1_isHard 4 := ⟨⟨aw_w (List.mem_of_getElem? (i := 1446) (by decide +kernel)) rfl, N_1, by decide +kernel, ⟨by decide +kernel, by decide +kernel, by decide +kernel⟩, by decide⟩, aw_w (List.mem_of_getElem? (i := 1445) (by decide +kernel)) rfl, aw_w (List.mem_of_getElem? (i := 46) (by decide +kernel)) rfl⟩
def Y1_leastOfRows : mY := (yX1_leastOfRows, cX1_leastOfRows, 9, (some .long))
theorem k1_leastOfRows : mOKv Y1_leastOfRows 3 := ⟨⟨aw_w (List.mem_of_getElem? (i := 614) (by decide +kernel)) rfl, N_1, by decide +kernel, ⟨by decide +kernel, by decide +kernel, by decide +kernel⟩, by decide⟩, aw_w (List.mem_of_getElem? (i := 613) (by decide +kernel)) rfl, aw_w (List.mem_of_getElem? (i := 3) (by decide +kernel)) rfl⟩
def Y1_numberIn : mY := (yX1_numberIn, cX1_numberIn, 2, (some .int))
theorem k1_numberIn : mOKs Y1_numberIn 1 := ⟨⟨aw_w (List.mem_of_getElem? (i := 1232) (by decide +kernel)) rfl, N_1, by decide +kernel, ⟨by decide +kernel, by decide +kernel, by decide +kernel⟩, by decide⟩, aw_w (List.mem_of_getElem? (i := 1231) (by decide +kernel)) rfl⟩
def Y1_sharpest : mY := (yX1_sharpest, cX1_sharpest, 7, (some .int))
theorem k1_sharpest : mOKv Y1_sharpest 2 := ⟨⟨aw_w (List.mem_of_getElem? (i := 1542) (by decide +kernel)) rfl, N_1, by decide +kernel, ⟨by decide +kernel, by decide +kernel, by decide +kernel⟩, by decide⟩, aw_w (List.mem_of_getElem? (i := 1541) (by decide +kernel)) rfl, aw_w (List.mem_of_getElem? (i := 52) (by decide +kernel)) rfl⟩
def Y1_spread : mY := (yX1_spread, cX1_spread, 10, none)
theorem k1_spread : mOKv Y1_spread 3 := ⟨⟨aw_w (List.mem_of_getElem? (i := 606) (by decide +kernel)) rfl, N_1, by decide +kernel, ⟨by decide +kernel, by decide +kernel, by decide +kernel⟩, by decide⟩, aw_w (List.mem_of_getElem? (i := 605) (by decide +kernel)) rfl, aw_w (List.mem_of_getElem? (i := 2) (by decide +kernel)) rfl⟩
def Y1_tellingBelow : mY := (yX1_tellingBelow, cX1_tellingBelow, 7, (some .int))
theorem k1_tellingBelow : mOKv Y1_tellingBelow 4 := ⟨⟨aw_w (List.mem_of_getElem? (i := 1269) (by decide +kernel)) rfl, N_1, by decide +kernel, ⟨by decide +kernel, by decide +kernel, by decide +kernel⟩, by decide⟩, aw_w (List.mem_of_getElem? (i := 1267) (by decide +kernel)) rfl, aw_w (List.mem_of_getElem? (i := 1268) (by decide +kernel)) rfl⟩
def Y1_weighNow : mY := (yX1_weighNow, cX1_weighNow, 5, none)
theorem k1_weighNow : mOKv Y1_weighNow 3 := ⟨⟨aw_w (List.mem_of_getElem? (i := 586) (by decide +kernel)) rfl, N_1, by decide +kernel, ⟨by decide +kernel, by decide +kernel, by decide +kernel⟩, by decide⟩, aw_w (List.mem_of_getElem? (i := 585) (by decide +kernel)) rfl, aw_w (List.mem_of_getElem? (i := 1) (by decide +kernel)) rfl⟩
def Y1_wordByWord : mY := (yX1_wordByWord, cX1_wordByWord, 8, (some .int))
theorem k1_wordByWord : mOKv Y1_wordByWord 3 := ⟨⟨aw_w (List.mem_of_getElem? (i := 1538) (by decide +kernel)) rfl, N_1, by decide +kernel, ⟨by decide +kernel, by decide +kernel, by decide +kernel⟩, by decide⟩, aw_w (List.mem_of_getElem? (i := 1536) (by decide +kernel)) rfl, aw_w (List.mem_of_getElem? (i := 1537) (by decide +kernel)) rfl⟩
def Y2_init : mY := (yX2_init, cX2_init, 1, none)
theorem k2_init : mOKi Y2_init 0 := ⟨⟨aw_w (List.mem_of_getElem? (i := 474) (by decide +kernel)) rfl, N_2, by decide +kernel, ⟨by decide +kernel, by decide +kernel, by decide +kernel⟩, by decide⟩, aw_w (List.mem_of_getElem? (i := 473) (by decide +kernel)) rfl, rfl, rfl⟩
def Y2_isMade : mY := (yX2_isMade, cX2_isMade, 7, (some .boolean))
theorem k2_isMade : mOKv Y2_isMade 3 := ⟨⟨aw_w (List.mem_of_getElem? (i := 1505) (by decide +kernel)) rfl, N_2, by decide +kernel, ⟨by decide +kernel, by decide +kernel, by decide +kernel⟩, by decide⟩, aw_w (List.mem_of_getElem? (i := 1504) (by decide +kernel)) rfl, aw_w (List.mem_of_getElem? (i := 51) (by decide +kernel)) rfl⟩
def Y2_make : mY := (yX2_make, cX2_make, 6, (some .int))
theorem k2_make : mOKv Y2_make 3 := ⟨⟨aw_w (List.mem_of_getElem? (i := 1493) (by decide +kernel)) rfl, N_2, by decide +kernel, ⟨by decide +kernel, by decide +kernel, by decide +kernel⟩, by decide⟩, aw_w (List.mem_of_getElem? (i := 1491) (by decide +kernel)) rfl, aw_w (List.mem_of_getElem? (i := 1492) (by decide +kernel)) rfl⟩
def Y2_stillAlike : mY := (yX2_stillAlike, cX2_stillAlike, 5, (some .int))
theorem k2_stillAlike : mOKv Y2_stillAlike 2 := ⟨⟨aw_w (List.mem_of_getElem? (i := 1500) (by decide +kernel)) rfl, N_2, by decide +kernel, ⟨by decide +kernel, by decide +kernel, by decide +kernel⟩, by decide⟩, aw_w (List.mem_of_getElem? (i := 1499) (by decide +kernel)) rfl, aw_w (List.mem_of_getElem? (i := 50) (by decide +kernel)) rfl⟩
def Y3_emit : mY := (yX3_emit, cX3_emit, 3, none)
theorem k3_emit : mOKv Y3_emit 2 := ⟨⟨aw_w (List.mem_of_getElem? (i := 983) (by decide +kernel)) rfl, N_3, by decide +kernel, ⟨by decide +kernel, by decide +kernel, by decide +kernel⟩, by decide⟩, aw_w (List.mem_of_getElem? (i := 982) (by decide +kernel)) rfl, aw_w (List.mem_of_getElem? (i := 23) (by decide +kernel)) rfl⟩
def Y3_endWord : mY := (yX3_endWord, cX3_endWord, 1, none)
theorem k3_endWord : mOKv Y3_endWord 0 := ⟨⟨aw_w (List.mem_of_getElem? (i := 1038) (by decide +kernel)) rfl, N_3, by decide +kernel, ⟨by decide +kernel, by decide +kernel, by decide +kernel⟩, by decide⟩, aw_w (List.mem_of_getElem? (i := 1037) (by decide +kernel)) rfl, aw_w (List.mem_of_getElem? (i := 28) (by decide +kernel)) rfl⟩
def Y3_fail : mY := (yX3_fail, cX3_fail, 2, none)
theorem k3_fail : mOKv Y3_fail 1 := ⟨⟨aw_w (List.mem_of_getElem? (i := 914) (by decide +kernel)) rfl, N_3, by decide +kernel, ⟨by decide +kernel, by decide +kernel, by decide +kernel⟩, by decide⟩, aw_w (List.mem_of_getElem? (i := 913) (by decide +kernel)) rfl, aw_w (List.mem_of_getElem? (i := 13) (by decide +kernel)) rfl⟩
def Y3_init : mY := (yX3_init, cX3_init, 1, none)
theorem k3_init : mOKi Y3_init 0 := ⟨⟨aw_w (List.mem_of_getElem? (i := 168) (by decide +kernel)) rfl, N_3, by decide +kernel, ⟨by decide +kernel, by decide +kernel, by decide +kernel⟩, by decide⟩, aw_w (List.mem_of_getElem? (i := 167) (by decide +kernel)) rfl, rfl, rfl⟩
def Y3_mayNest : mY := (yX3_mayNest, cX3_mayNest, 2, (some .boolean))
theorem k3_mayNest : mOKv Y3_mayNest 1 := ⟨⟨aw_w (List.mem_of_getElem? (i := 979) (by decide +kernel)) rfl, N_3, by decide +kernel, ⟨by decide +kernel, by decide +kernel, by decide +kernel⟩, by decide⟩, aw_w (List.mem_of_getElem? (i := 978) (by decide +kernel)) rfl, aw_w (List.mem_of_getElem? (i := 22) (by decide +kernel)) rfl⟩
def Y3_noteRead : mY := (yX3_noteRead, cX3_noteRead, 4, none)
theorem k3_noteRead : mOKv Y3_noteRead 2 := ⟨⟨aw_w (List.mem_of_getElem? (i := 1001) (by decide +kernel)) rfl, N_3, by decide +kernel, ⟨by decide +kernel, by decide +kernel, by decide +kernel⟩, by decide⟩, aw_w (List.mem_of_getElem? (i := 1000) (by decide +kernel)) rfl, aw_w (List.mem_of_getElem? (i := 26) (by decide +kernel)) rfl⟩
def Y3_read : mY := (yX3_read, cX3_read, 4, (some (.object "LeastWords$Plan")))
theorem k3_read : mOKv Y3_read 2 := ⟨⟨aw_w (List.mem_of_getElem? (i := 808) (by decide +kernel)) rfl, N_3, by decide +kernel, ⟨by decide +kernel, by decide +kernel, by decide +kernel⟩, by decide⟩, aw_w (List.mem_of_getElem? (i := 806) (by decide +kernel)) rfl, aw_w (List.mem_of_getElem? (i := 807) (by decide +kernel)) rfl⟩
def Y3_readAtom : mY := (yX3_readAtom, cX3_readAtom, 3, none)
theorem k3_readAtom : mOKv Y3_readAtom 1 := ⟨⟨aw_w (List.mem_of_getElem? (i := 995) (by decide +kernel)) rfl, N_3, by decide +kernel, ⟨by decide +kernel, by decide +kernel, by decide +kernel⟩, by decide⟩, aw_w (List.mem_of_getElem? (i := 994) (by decide +kernel)) rfl, aw_w (List.mem_of_getElem? (i := 25) (by decide +kernel)) rfl⟩
def Y3_readChest : mY := (yX3_readChest, cX3_readChest, 4, none)
theorem k3_readChest : mOKv Y3_readChest 0 := ⟨⟨aw_w (List.mem_of_getElem? (i := 951) (by decide +kernel)) rfl, N_3, by decide +kernel, ⟨by decide +kernel, by decide +kernel, by decide +kernel⟩, by decide⟩, aw_w (List.mem_of_getElem? (i := 950) (by decide +kernel)) rfl, aw_w (List.mem_of_getElem? (i := 18) (by decide +kernel)) rfl⟩
def Y3_readLamp : mY := (yX3_readLamp, cX3_readLamp, 4, none)
theorem k3_readLamp : mOKv Y3_readLamp 0 := ⟨⟨aw_w (List.mem_of_getElem? (i := 957) (by decide +kernel)) rfl, N_3, by decide +kernel, ⟨by decide +kernel, by decide +kernel, by decide +kernel⟩, by decide⟩, aw_w (List.mem_of_getElem? (i := 956) (by decide +kernel)) rfl, aw_w (List.mem_of_getElem? (i := 19) (by decide +kernel)) rfl⟩
def Y3_readLine : mY := (yX3_readLine, cX3_readLine, 1, (some .boolean))
theorem k3_readLine : mOKv Y3_readLine 0 := ⟨⟨aw_w (List.mem_of_getElem? (i := 927) (by decide +kernel)) rfl, N_3, by decide +kernel, ⟨by decide +kernel, by decide +kernel, by decide +kernel⟩, by decide⟩, aw_w (List.mem_of_getElem? (i := 926) (by decide +kernel)) rfl, aw_w (List.mem_of_getElem? (i := 15) (by decide +kernel)) rfl⟩
def Y3_readSign : mY := (yX3_readSign, cX3_readSign, 1, (some .int))
theorem k3_readSign : mOKv Y3_readSign 0 := ⟨⟨aw_w (List.mem_of_getElem? (i := 1024) (by decide +kernel)) rfl, N_3, by decide +kernel, ⟨by decide +kernel, by decide +kernel, by decide +kernel⟩, by decide⟩, aw_w (List.mem_of_getElem? (i := 1023) (by decide +kernel)) rfl, aw_w (List.mem_of_getElem? (i := 27) (by decide +kernel)) rfl⟩
def Y3_readSum : mY := (yX3_readSum, cX3_readSum, 4, none)
theorem k3_readSum : mOKv Y3_readSum 1 := ⟨⟨aw_w (List.mem_of_getElem? (i := 991) (by decide +kernel)) rfl, N_3, by decide +kernel, ⟨by decide +kernel, by decide +kernel, by decide +kernel⟩, by decide⟩, aw_w (List.mem_of_getElem? (i := 990) (by decide +kernel)) rfl, aw_w (List.mem_of_getElem? (i := 24) (by decide +kernel)) rfl⟩
def Y3_readTruth : mY := (yX3_readTruth, cX3_readTruth, 4, none)
theorem k3_readTruth : mOKv Y3_readTruth 1 := ⟨⟨aw_w (List.mem_of_getElem? (i := 969) (by decide +kernel)) rfl, N_3, by decide +kernel, ⟨by decide +kernel, by decide +kernel, by decide +kernel⟩, by decide⟩, aw_w (List.mem_of_getElem? (i := 968) (by decide +kernel)) rfl, aw_w (List.mem_of_getElem? (i := 20) (by decide +kernel)) rfl⟩
def Y3_readUnit : mY := (yX3_readUnit, cX3_readUnit, 3, none)
theorem k3_readUnit : mOKv Y3_readUnit 1 := ⟨⟨aw_w (List.mem_of_getElem? (i := 973) (by decide +kernel)) rfl, N_3, by decide +kernel, ⟨by decide +kernel, by decide +kernel, by decide +kernel⟩, by decide⟩, aw_w (List.mem_of_getElem? (i := 972) (by decide +kernel)) rfl, aw_w (List.mem_of_getElem? (i := 21) (by decide +kernel)) rfl⟩
def Y3_readWord : mY := (yX3_readWord, cX3_readWord, 2, (some .boolean))
theorem k3_readWord : mOKv Y3_readWord 0 := ⟨⟨aw_w (List.mem_of_getElem? (i := 933) (by decide +kernel)) rfl, N_3, by decide +kernel, ⟨by decide +kernel, by decide +kernel, by decide +kernel⟩, by decide⟩, aw_w (List.mem_of_getElem? (i := 932) (by decide +kernel)) rfl, aw_w (List.mem_of_getElem? (i := 16) (by decide +kernel)) rfl⟩
def Y3_stands : mY := (yX3_stands, cX3_stands, 2, (some .boolean))
theorem k3_stands : mOKv Y3_stands 1 := ⟨⟨aw_w (List.mem_of_getElem? (i := 909) (by decide +kernel)) rfl, N_3, by decide +kernel, ⟨by decide +kernel, by decide +kernel, by decide +kernel⟩, by decide⟩, aw_w (List.mem_of_getElem? (i := 908) (by decide +kernel)) rfl, aw_w (List.mem_of_getElem? (i := 12) (by decide +kernel)) rfl⟩
def Y3_take : mY := (yX3_take, cX3_take, 2, none)
theorem k3_take : mOKv Y3_take 1 := ⟨⟨aw_w (List.mem_of_getElem? (i := 905) (by decide +kernel)) rfl, N_3, by decide +kernel, ⟨by decide +kernel, by decide +kernel, by decide +kernel⟩, by decide⟩, aw_w (List.mem_of_getElem? (i := 904) (by decide +kernel)) rfl, aw_w (List.mem_of_getElem? (i := 11) (by decide +kernel)) rfl⟩
def Y3_takeIf : mY := (yX3_takeIf, cX3_takeIf, 3, (some .boolean))
theorem k3_takeIf : mOKv Y3_takeIf 1 := ⟨⟨aw_w (List.mem_of_getElem? (i := 939) (by decide +kernel)) rfl, N_3, by decide +kernel, ⟨by decide +kernel, by decide +kernel, by decide +kernel⟩, by decide⟩, aw_w (List.mem_of_getElem? (i := 938) (by decide +kernel)) rfl, aw_w (List.mem_of_getElem? (i := 17) (by decide +kernel)) rfl⟩
def Y3_takeNumber : mY := (yX3_takeNumber, cX3_takeNumber, 4, (some .int))
theorem k3_takeNumber : mOKv Y3_takeNumber 2 := ⟨⟨aw_w (List.mem_of_getElem? (i := 919) (by decide +kernel)) rfl, N_3, by decide +kernel, ⟨by decide +kernel, by decide +kernel, by decide +kernel⟩, by decide⟩, aw_w (List.mem_of_getElem? (i := 918) (by decide +kernel)) rfl, aw_w (List.mem_of_getElem? (i := 14) (by decide +kernel)) rfl⟩
def Y4_addLamp : mY := (yX4_addLamp, cX4_addLamp, 5, none)
theorem k4_addLamp : mOKv Y4_addLamp 3 := ⟨⟨aw_w (List.mem_of_getElem? (i := 961) (by decide +kernel)) rfl, N_4, by decide +kernel, ⟨by decide +kernel, by decide +kernel, by decide +kernel⟩, by decide⟩, aw_w (List.mem_of_getElem? (i := 959) (by decide +kernel)) rfl, aw_w (List.mem_of_getElem? (i := 960) (by decide +kernel)) rfl⟩
def Y4_allChests : mY := (yX4_allChests, cX4_allChests, 1, (some .int))
theorem k4_allChests : mOKv Y4_allChests 0 := ⟨⟨aw_w (List.mem_of_getElem? (i := 1434) (by decide +kernel)) rfl, N_4, by decide +kernel, ⟨by decide +kernel, by decide +kernel, by decide +kernel⟩, by decide⟩, aw_w (List.mem_of_getElem? (i := 1432) (by decide +kernel)) rfl, aw_w (List.mem_of_getElem? (i := 1433) (by decide +kernel)) rfl⟩
def Y4_allWords : mY := (yX4_allWords, cX4_allWords, 1, (some .int))
theorem k4_allWords : mOKv Y4_allWords 0 := ⟨⟨aw_w (List.mem_of_getElem? (i := 582) (by decide +kernel)) rfl, N_4, by decide +kernel, ⟨by decide +kernel, by decide +kernel, by decide +kernel⟩, by decide⟩, aw_w (List.mem_of_getElem? (i := 580) (by decide +kernel)) rfl, aw_w (List.mem_of_getElem? (i := 581) (by decide +kernel)) rfl⟩
def Y4_bLamp : mY := (yX4_byLamp, cX4_byLamp, 4, (some .int))
theorem k4_bLamp : mOKv Y4_bLamp 2 := ⟨⟨aw_w (List.mem_of_getElem? (i := 1059) (by decide +kernel)) rfl, N_4, by decide +kernel, ⟨by decide +kernel, by decide +kernel, by decide +kernel⟩, by decide⟩, aw_w (List.mem_of_getElem? (i := 1057) (by decide +kernel)) rfl, aw_w (List.mem_of_getElem? (i := 1058) (by decide +kernel)) rfl⟩
def Y4_init : mY := (yX4_init, cX4_init, 1, none)
theorem k4_init : mOKi Y4_init 0 := ⟨⟨aw_w (List.mem_of_getElem? (i := 224) (by decide +kernel)) rfl, N_4, by decide +kernel, ⟨by decide +kernel, by decide +kernel, by decide +kernel⟩, by decide⟩, aw_w (List.mem_of_getElem? (i := 223) (by decide +kernel)) rfl, rfl, rfl⟩
def Y5_allTruths : mY := (yX5_allTruths, cX5_allTruths, 4, (some .int))
theorem k5_allTruths : mOKv Y5_allTruths 1 := ⟨⟨aw_w (List.mem_of_getElem? (i := 1063) (by decide +kernel)) rfl, N_5, by decide +kernel, ⟨by decide +kernel, by decide +kernel, by decide +kernel⟩, by decide⟩, aw_w (List.mem_of_getElem? (i := 1061) (by decide +kernel)) rfl, aw_w (List.mem_of_getElem? (i := 1062) (by decide +kernel)) rfl⟩
def Y5_atom : mY := (yX5_atom, cX5_atom, 3, (some .int))
theorem k5_atom : mOKv Y5_atom 2 := ⟨⟨aw_w (List.mem_of_getElem? (i := 1071) (by decide +kernel)) rfl, N_5, by decide +kernel, ⟨by decide +kernel, by decide +kernel, by decide +kernel⟩, by decide⟩, aw_w (List.mem_of_getElem? (i := 1070) (by decide +kernel)) rfl, aw_w (List.mem_of_getElem? (i := 29) (by decide +kernel)) rfl⟩
def Y5_face : mY := (yX5_face, cX5_face, 7, none)
theorem k5_face : mOKv Y5_face 4 := ⟨⟨aw_w (List.mem_of_getElem? (i := 1054) (by decide +kernel)) rfl, N_5, by decide +kernel, ⟨by decide +kernel, by decide +kernel, by decide +kernel⟩, by decide⟩, aw_w (List.mem_of_getElem? (i := 1052) (by decide +kernel)) rfl, aw_w (List.mem_of_getElem? (i := 1053) (by decide +kernel)) rfl⟩
def Y5_init : mY := (yX5_init, cX5_init, 1, none)
theorem k5_init : mOKi Y5_init 0 := ⟨⟨aw_w (List.mem_of_getElem? (i := 335) (by decide +kernel)) rfl, N_5, by decide +kernel, ⟨by decide +kernel, by decide +kernel, by decide +kernel⟩, by decide⟩, aw_w (List.mem_of_getElem? (i := 334) (by decide +kernel)) rfl, rfl, rfl⟩
def Y5_isTrue : mY := (yX5_isTrue, cX5_isTrue, 7, (some .boolean))
theorem k5_isTrue : mOKv Y5_isTrue 2 := ⟨⟨aw_w (List.mem_of_getElem? (i := 1067) (by decide +kernel)) rfl, N_5, by decide +kernel, ⟨by decide +kernel, by decide +kernel, by decide +kernel⟩, by decide⟩, aw_w (List.mem_of_getElem? (i := 1065) (by decide +kernel)) rfl, aw_w (List.mem_of_getElem? (i := 1066) (by decide +kernel)) rfl⟩
def Y5_join : mY := (yX5_join, cX5_join, 3, (some .int))
theorem k5_join : mOKs Y5_join 3 := ⟨⟨aw_w (List.mem_of_getElem? (i := 1086) (by decide +kernel)) rfl, N_5, by decide +kernel, ⟨by decide +kernel, by decide +kernel, by decide +kernel⟩, by decide⟩, aw_w (List.mem_of_getElem? (i := 1085) (by decide +kernel)) rfl⟩
def Y5_kept : mY := (yX5_kept, cX5_kept, 2, (some .int))
theorem k5_kept : mOKs Y5_kept 1 := ⟨⟨aw_w (List.mem_of_getElem? (i := 1089) (by decide +kernel)) rfl, N_5, by decide +kernel, ⟨by decide +kernel, by decide +kernel, by decide +kernel⟩, by decide⟩, aw_w (List.mem_of_getElem? (i := 1088) (by decide +kernel)) rfl⟩
def Y5_pairsAlike : mY := (yX5_pairsAlike, cX5_pairsAlike, 4, (some .int))
theorem k5_pairsAlike : mOKv Y5_pairsAlike 0 := ⟨⟨aw_w (List.mem_of_getElem? (i := 1083) (by decide +kernel)) rfl, N_5, by decide +kernel, ⟨by decide +kernel, by decide +kernel, by decide +kernel⟩, by decide⟩, aw_w (List.mem_of_getElem? (i := 1082) (by decide +kernel)) rfl, aw_w (List.mem_of_getElem? (i := 32) (by decide +kernel)) rfl⟩
def Y5_someLooks : mY := (yX5_someLooks, cX5_someLooks, 3, (some .int))
theorem k5_someLooks : mOKv Y5_someLooks 1 := ⟨⟨aw_w (List.mem_of_getElem? (i := 1075) (by decide +kernel)) rfl, N_5, by decide +kernel, ⟨by decide +kernel, by decide +kernel, by decide +kernel⟩, by decide⟩, aw_w (List.mem_of_getElem? (i := 1074) (by decide +kernel)) rfl, aw_w (List.mem_of_getElem? (i := 30) (by decide +kernel)) rfl⟩
def Y5_sumOfLooks : mY := (yX5_sumOfLooks, cX5_sumOfLooks, 3, (some .int))
theorem k5_sumOfLooks : mOKv Y5_sumOfLooks 0 := ⟨⟨aw_w (List.mem_of_getElem? (i := 1079) (by decide +kernel)) rfl, N_5, by decide +kernel, ⟨by decide +kernel, by decide +kernel, by decide +kernel⟩, by decide⟩, aw_w (List.mem_of_getElem? (i := 1078) (by decide +kernel)) rfl, aw_w (List.mem_of_getElem? (i := 31) (by decide +kernel)) rfl⟩
def Y6_goBack : mY := (yX6_goBack, cX6_goBack, 2, none)
theorem k6_goBack : mOKv Y6_goBack 1 := ⟨⟨aw_w (List.mem_of_getElem? (i := 1367) (by decide +kernel)) rfl, N_6, by decide +kernel, ⟨by decide +kernel, by decide +kernel, by decide +kernel⟩, by decide⟩, aw_w (List.mem_of_getElem? (i := 1365) (by decide +kernel)) rfl, aw_w (List.mem_of_getElem? (i := 1366) (by decide +kernel)) rfl⟩
def Y6_init : mY := (yX6_init, cX6_init, 2, none)
theorem k6_init : mOKi Y6_init 0 := ⟨⟨aw_w (List.mem_of_getElem? (i := 356) (by decide +kernel)) rfl, N_6, by decide +kernel, ⟨by decide +kernel, by decide +kernel, by decide +kernel⟩, by decide⟩, aw_w (List.mem_of_getElem? (i := 355) (by decide +kernel)) rfl, rfl, rfl⟩
def Y6_open : mY := (yX6_open, cX6_open, 3, none)
theorem k6_open : mOKv Y6_open 2 := ⟨⟨aw_w (List.mem_of_getElem? (i := 1042) (by decide +kernel)) rfl, N_6, by decide +kernel, ⟨by decide +kernel, by decide +kernel, by decide +kernel⟩, by decide⟩, aw_w (List.mem_of_getElem? (i := 1040) (by decide +kernel)) rfl, aw_w (List.mem_of_getElem? (i := 1041) (by decide +kernel)) rfl⟩
def Y6_remember : mY := (yX6_remember, cX6_remember, 1, none)
theorem k6_remember : mOKv Y6_remember 0 := ⟨⟨aw_w (List.mem_of_getElem? (i := 630) (by decide +kernel)) rfl, N_6, by decide +kernel, ⟨by decide +kernel, by decide +kernel, by decide +kernel⟩, by decide⟩, aw_w (List.mem_of_getElem? (i := 628) (by decide +kernel)) rfl, aw_w (List.mem_of_getElem? (i := 629) (by decide +kernel)) rfl⟩
def Y6_takeFrom : mY := (yX6_takeFrom, cX6_takeFrom, 3, none)
theorem k6_takeFrom : mOKv Y6_takeFrom 1 := ⟨⟨aw_w (List.mem_of_getElem? (i := 1606) (by decide +kernel)) rfl, N_6, by decide +kernel, ⟨by decide +kernel, by decide +kernel, by decide +kernel⟩, by decide⟩, aw_w (List.mem_of_getElem? (i := 1604) (by decide +kernel)) rfl, aw_w (List.mem_of_getElem? (i := 1605) (by decide +kernel)) rfl⟩
def Y7_alikeTo : mY := (yX7_alikeTo, cX7_alikeTo, 4, (some .int))
theorem k7_alikeTo : mOKv Y7_alikeTo 1 := ⟨⟨aw_w (List.mem_of_getElem? (i := 699) (by decide +kernel)) rfl, N_7, by decide +kernel, ⟨by decide +kernel, by decide +kernel, by decide +kernel⟩, by decide⟩, aw_w (List.mem_of_getElem? (i := 697) (by decide +kernel)) rfl, aw_w (List.mem_of_getElem? (i := 698) (by decide +kernel)) rfl⟩
def Y7_begin : mY := (yX7_begin, cX7_begin, 4, none)
theorem k7_begin : mOKv Y7_begin 2 := ⟨⟨aw_w (List.mem_of_getElem? (i := 1046) (by decide +kernel)) rfl, N_7, by decide +kernel, ⟨by decide +kernel, by decide +kernel, by decide +kernel⟩, by decide⟩, aw_w (List.mem_of_getElem? (i := 1044) (by decide +kernel)) rfl, aw_w (List.mem_of_getElem? (i := 1045) (by decide +kernel)) rfl⟩
def Y7_carryChest : mY := (yX7_carryChest, cX7_carryChest, 2, none)
theorem k7_carryChest : mOKv Y7_carryChest 1 := ⟨⟨aw_w (List.mem_of_getElem? (i := 1327) (by decide +kernel)) rfl, N_7, by decide +kernel, ⟨by decide +kernel, by decide +kernel, by decide +kernel⟩, by decide⟩, aw_w (List.mem_of_getElem? (i := 1325) (by decide +kernel)) rfl, aw_w (List.mem_of_getElem? (i := 1326) (by decide +kernel)) rfl⟩
def Y7_claimants : mY := (yX7_claimants, cX7_claimants, 3, (some .int))
theorem k7_claimants : mOKv Y7_claimants 0 := ⟨⟨aw_w (List.mem_of_getElem? (i := 728) (by decide +kernel)) rfl, N_7, by decide +kernel, ⟨by decide +kernel, by decide +kernel, by decide +kernel⟩, by decide⟩, aw_w (List.mem_of_getElem? (i := 726) (by decide +kernel)) rfl, aw_w (List.mem_of_getElem? (i := 727) (by decide +kernel)) rfl⟩
def Y7_costOf : mY := (yX7_costOf, cX7_costOf, 5, (some .int))
theorem k7_costOf : mOKv Y7_costOf 2 := ⟨⟨aw_w (List.mem_of_getElem? (i := 670) (by decide +kernel)) rfl, N_7, by decide +kernel, ⟨by decide +kernel, by decide +kernel, by decide +kernel⟩, by decide⟩, aw_w (List.mem_of_getElem? (i := 668) (by decide +kernel)) rfl, aw_w (List.mem_of_getElem? (i := 669) (by decide +kernel)) rfl⟩
def Y7_firstIn : mY := (yX7_firstIn, cX7_firstIn, 1, (some .int))
theorem k7_firstIn : mOKv Y7_firstIn 0 := ⟨⟨aw_w (List.mem_of_getElem? (i := 1097) (by decide +kernel)) rfl, N_7, by decide +kernel, ⟨by decide +kernel, by decide +kernel, by decide +kernel⟩, by decide⟩, aw_w (List.mem_of_getElem? (i := 1095) (by decide +kernel)) rfl, aw_w (List.mem_of_getElem? (i := 1096) (by decide +kernel)) rfl⟩
def Y7_fitted : mY := (yX7_fitted, cX7_fitted, 6, (some .int))
theorem k7_fitted : mOKv Y7_fitted 1 := ⟨⟨aw_w (List.mem_of_getElem? (i := 657) (by decide +kernel)) rfl, N_7, by decide +kernel, ⟨by decide +kernel, by decide +kernel, by decide +kernel⟩, by decide⟩, aw_w (List.mem_of_getElem? (i := 655) (by decide +kernel)) rfl, aw_w (List.mem_of_getElem? (i := 656) (by decide +kernel)) rfl⟩
def Y7_holders : mY := (yX7_holders, cX7_holders, 4, (some .int))
theorem k7_holders : mOKv Y7_holders 1 := ⟨⟨aw_w (List.mem_of_getElem? (i := 708) (by decide +kernel)) rfl, N_7, by decide +kernel, ⟨by decide +kernel, by decide +kernel, by decide +kernel⟩, by decide⟩, aw_w (List.mem_of_getElem? (i := 706) (by decide +kernel)) rfl, aw_w (List.mem_of_getElem? (i := 707) (by decide +kernel)) rfl⟩
def Y7_init : mY := (yX7_init, cX7_init, 1, none)
theorem k7_init : mOKi Y7_init 0 := ⟨⟨aw_w (List.mem_of_getElem? (i := 364) (by decide +kernel)) rfl, N_7, by decide +kernel, ⟨by decide +kernel, by decide +kernel, by decide +kernel⟩, by decide⟩, aw_w (List.mem_of_getElem? (i := 363) (by decide +kernel)) rfl, rfl, rfl⟩
def Y7_isIn : mY := (yX7_isIn, cX7_isIn, 2, (some .boolean))
theorem k7_isIn : mOKv Y7_isIn 1 := ⟨⟨aw_w (List.mem_of_getElem? (i := 574) (by decide +kernel)) rfl, N_7, by decide +kernel, ⟨by decide +kernel, by decide +kernel, by decide +kernel⟩, by decide⟩, aw_w (List.mem_of_getElem? (i := 572) (by decide +kernel)) rfl, aw_w (List.mem_of_getElem? (i := 573) (by decide +kernel)) rfl⟩
def Y7_learn : mY := (yX7_learn, cX7_learn, 4, none)
theorem k7_learn : mOKv Y7_learn 3 := ⟨⟨aw_w (List.mem_of_getElem? (i := 1050) (by decide +kernel)) rfl, N_7, by decide +kernel, ⟨by decide +kernel, by decide +kernel, by decide +kernel⟩, by decide⟩, aw_w (List.mem_of_getElem? (i := 1048) (by decide +kernel)) rfl, aw_w (List.mem_of_getElem? (i := 1049) (by decide +kernel)) rfl⟩
def Y7_markOf : mY := (yX7_markOf, cX7_markOf, 3, (some .int))
theorem k7_markOf : mOKv Y7_markOf 2 := ⟨⟨aw_w (List.mem_of_getElem? (i := 1138) (by decide +kernel)) rfl, N_7, by decide +kernel, ⟨by decide +kernel, by decide +kernel, by decide +kernel⟩, by decide⟩, aw_w (List.mem_of_getElem? (i := 1136) (by decide +kernel)) rfl, aw_w (List.mem_of_getElem? (i := 1137) (by decide +kernel)) rfl⟩
def Y7_nextIn : mY := (yX7_nextIn, cX7_nextIn, 3, (some .int))
theorem k7_nextIn : mOKv Y7_nextIn 1 := ⟨⟨aw_w (List.mem_of_getElem? (i := 1316) (by decide +kernel)) rfl, N_7, by decide +kernel, ⟨by decide +kernel, by decide +kernel, by decide +kernel⟩, by decide⟩, aw_w (List.mem_of_getElem? (i := 1315) (by decide +kernel)) rfl, aw_w (List.mem_of_getElem? (i := 41) (by decide +kernel)) rfl⟩
def Y7_setMark : mY := (yX7_setMark, cX7_setMark, 4, none)
theorem k7_setMark : mOKv Y7_setMark 3 := ⟨⟨aw_w (List.mem_of_getElem? (i := 1339) (by decide +kernel)) rfl, N_7, by decide +kernel, ⟨by decide +kernel, by decide +kernel, by decide +kernel⟩, by decide⟩, aw_w (List.mem_of_getElem? (i := 1337) (by decide +kernel)) rfl, aw_w (List.mem_of_getElem? (i := 1338) (by decide +kernel)) rfl⟩
def Y7_setStake : mY := (yX7_setStake, cX7_setStake, 2, none)
theorem k7_setStake : mOKv Y7_setStake 1 := ⟨⟨aw_w (List.mem_of_getElem? (i := 1101) (by decide +kernel)) rfl, N_7, by decide +kernel, ⟨by decide +kernel, by decide +kernel, by decide +kernel⟩, by decide⟩, aw_w (List.mem_of_getElem? (i := 1099) (by decide +kernel)) rfl, aw_w (List.mem_of_getElem? (i := 1100) (by decide +kernel)) rfl⟩
def Y7_settleClaims : mY := (yX7_settleClaims, cX7_settleClaims, 3, (some .int))
theorem k7_settleClaims : mOKv Y7_settleClaims 1 := ⟨⟨aw_w (List.mem_of_getElem? (i := 1311) (by decide +kernel)) rfl, N_7, by decide +kernel, ⟨by decide +kernel, by decide +kernel, by decide +kernel⟩, by decide⟩, aw_w (List.mem_of_getElem? (i := 1309) (by decide +kernel)) rfl, aw_w (List.mem_of_getElem? (i := 1310) (by decide +kernel)) rfl⟩
def Y7_takeFrom : mY := (yX7_takeFrom, cX7_takeFrom, 2, none)
theorem k7_takeFrom : mOKv Y7_takeFrom 1 := ⟨⟨aw_w (List.mem_of_getElem? (i := 634) (by decide +kernel)) rfl, N_7, by decide +kernel, ⟨by decide +kernel, by decide +kernel, by decide +kernel⟩, by decide⟩, aw_w (List.mem_of_getElem? (i := 632) (by decide +kernel)) rfl, aw_w (List.mem_of_getElem? (i := 633) (by decide +kernel)) rfl⟩
def Y7_toldBy : mY := (yX7_toldBy, cX7_toldBy, 3, (some .int))
theorem k7_toldBy : mOKv Y7_toldBy 1 := ⟨⟨aw_w (List.mem_of_getElem? (i := 653) (by decide +kernel)) rfl, N_7, by decide +kernel, ⟨by decide +kernel, by decide +kernel, by decide +kernel⟩, by decide⟩, aw_w (List.mem_of_getElem? (i := 651) (by decide +kernel)) rfl, aw_w (List.mem_of_getElem? (i := 652) (by decide +kernel)) rfl⟩
def Y7_truth : mY := (yX7_truth, cX7_truth, 2, (some .int))
theorem k7_truth : mOKv Y7_truth 1 := ⟨⟨aw_w (List.mem_of_getElem? (i := 597) (by decide +kernel)) rfl, N_7, by decide +kernel, ⟨by decide +kernel, by decide +kernel, by decide +kernel⟩, by decide⟩, aw_w (List.mem_of_getElem? (i := 595) (by decide +kernel)) rfl, aw_w (List.mem_of_getElem? (i := 596) (by decide +kernel)) rfl⟩
def Y7_truthBy : mY := (yX7_truthBy, cX7_truthBy, 3, (some .int))
theorem k7_truthBy : mOKv Y7_truthBy 2 := ⟨⟨aw_w (List.mem_of_getElem? (i := 593) (by decide +kernel)) rfl, N_7, by decide +kernel, ⟨by decide +kernel, by decide +kernel, by decide +kernel⟩, by decide⟩, aw_w (List.mem_of_getElem? (i := 591) (by decide +kernel)) rfl, aw_w (List.mem_of_getElem? (i := 592) (by decide +kernel)) rfl⟩
def Y7_winning : mY := (yX7_winning, cX7_winning, 6, (some .int))
theorem k7_winning : mOKv Y7_winning 1 := ⟨⟨aw_w (List.mem_of_getElem? (i := 648) (by decide +kernel)) rfl, N_7, by decide +kernel, ⟨by decide +kernel, by decide +kernel, by decide +kernel⟩, by decide⟩, aw_w (List.mem_of_getElem? (i := 646) (by decide +kernel)) rfl, aw_w (List.mem_of_getElem? (i := 647) (by decide +kernel)) rfl⟩
def Y7_wordCost : mY := (yX7_wordCost, cX7_wordCost, 4, (some .int))
theorem k7_wordCost : mOKv Y7_wordCost 3 := ⟨⟨aw_w (List.mem_of_getElem? (i := 602) (by decide +kernel)) rfl, N_7, by decide +kernel, ⟨by decide +kernel, by decide +kernel, by decide +kernel⟩, by decide⟩, aw_w (List.mem_of_getElem? (i := 600) (by decide +kernel)) rfl, aw_w (List.mem_of_getElem? (i := 601) (by decide +kernel)) rfl⟩
def Y8_isSpelled : mY := (yX8_isSpelled, cX8_isSpelled, 5, (some .boolean))
theorem k8_isSpelled : mOKv Y8_isSpelled 3 := ⟨⟨aw_w (List.mem_of_getElem? (i := 847) (by decide +kernel)) rfl, N_8, by decide +kernel, ⟨by decide +kernel, by decide +kernel, by decide +kernel⟩, by decide⟩, aw_w (List.mem_of_getElem? (i := 845) (by decide +kernel)) rfl, aw_w (List.mem_of_getElem? (i := 10) (by decide +kernel)) rfl⟩
def Y8_spelled : mY := (yX8_spelled, cX8_spelled, 5, (some (.object "LeastWords$Token")))
theorem k8_spelled : mOKs Y8_spelled 4 := ⟨⟨aw_w (List.mem_of_getElem? (i := 840) (by decide +kernel)) rfl, N_8, by decide +kernel, ⟨by decide +kernel, by decide +kernel, by decide +kernel⟩, by decide⟩, aw_w (List.mem_of_getElem? (i := 839) (by decide +kernel)) rfl⟩
def Y9_init : mY := (yX9_init, cX9_init, 1, none)
theorem k9_init : mOKi Y9_init 0 := ⟨⟨aw_w (List.mem_of_getElem? (i := 174) (by decide +kernel)) rfl, N_9, by decide +kernel, ⟨by decide +kernel, by decide +kernel, by decide +kernel⟩, by decide⟩, aw_w (List.mem_of_getElem? (i := 173) (by decide +kernel)) rfl, rfl, rfl⟩
def Y9_isDigit : mY := (yX9_isDigit, cX9_isDigit, 1, (some .boolean))
theorem k9_isDigit : mOKs Y9_isDigit 1 := ⟨⟨aw_w (List.mem_of_getElem? (i := 826) (by decide +kernel)) rfl, N_9, by decide +kernel, ⟨by decide +kernel, by decide +kernel, by decide +kernel⟩, by decide⟩, aw_w (List.mem_of_getElem? (i := 825) (by decide +kernel)) rfl⟩
def Y9_isLetter : mY := (yX9_isLetter, cX9_isLetter, 1, (some .boolean))
theorem k9_isLetter : mOKs Y9_isLetter 1 := ⟨⟨aw_w (List.mem_of_getElem? (i := 835) (by decide +kernel)) rfl, N_9, by decide +kernel, ⟨by decide +kernel, by decide +kernel, by decide +kernel⟩, by decide⟩, aw_w (List.mem_of_getElem? (i := 834) (by decide +kernel)) rfl⟩
def Y9_next : mY := (yX9_next, cX9_next, 1, none)
theorem k9_next : mOKv Y9_next 0 := ⟨⟨aw_w (List.mem_of_getElem? (i := 899) (by decide +kernel)) rfl, N_9, by decide +kernel, ⟨by decide +kernel, by decide +kernel, by decide +kernel⟩, by decide⟩, aw_w (List.mem_of_getElem? (i := 897) (by decide +kernel)) rfl, aw_w (List.mem_of_getElem? (i := 898) (by decide +kernel)) rfl⟩
def Y9_open : mY := (yX9_open, cX9_open, 5, none)
theorem k9_open : mOKv Y9_open 2 := ⟨⟨aw_w (List.mem_of_getElem? (i := 812) (by decide +kernel)) rfl, N_9, by decide +kernel, ⟨by decide +kernel, by decide +kernel, by decide +kernel⟩, by decide⟩, aw_w (List.mem_of_getElem? (i := 810) (by decide +kernel)) rfl, aw_w (List.mem_of_getElem? (i := 811) (by decide +kernel)) rfl⟩
def Y9_scan : mY := (yX9_scan, cX9_scan, 2, (some (.object "LeastWords$Token")))
theorem k9_scan : mOKv Y9_scan 0 := ⟨⟨aw_w (List.mem_of_getElem? (i := 823) (by decide +kernel)) rfl, N_9, by decide +kernel, ⟨by decide +kernel, by decide +kernel, by decide +kernel⟩, by decide⟩, aw_w (List.mem_of_getElem? (i := 822) (by decide +kernel)) rfl, aw_w (List.mem_of_getElem? (i := 8) (by decide +kernel)) rfl⟩
def Y9_scanNumber : mY := (yX9_scanNumber, cX9_scanNumber, 2, (some (.object "LeastWords$Token")))
theorem k9_scanNumber : mOKv Y9_scanNumber 0 := ⟨⟨aw_w (List.mem_of_getElem? (i := 830) (by decide +kernel)) rfl, N_9, by decide +kernel, ⟨by decide +kernel, by decide +kernel, by decide +kernel⟩, by decide⟩, aw_w (List.mem_of_getElem? (i := 829) (by decide +kernel)) rfl, aw_w (List.mem_of_getElem? (i := 9) (by decide +kernel)) rfl⟩
def Y9_skipBlanks : mY := (yX9_skipBlanks, cX9_skipBlanks, 1, none)
theorem k9_skipBlanks : mOKv Y9_skipBlanks 0 := ⟨⟨aw_w (List.mem_of_getElem? (i := 819) (by decide +kernel)) rfl, N_9, by decide +kernel, ⟨by decide +kernel, by decide +kernel, by decide +kernel⟩, by decide⟩, aw_w (List.mem_of_getElem? (i := 818) (by decide +kernel)) rfl, aw_w (List.mem_of_getElem? (i := 7) (by decide +kernel)) rfl⟩
theorem cL_8 : Cond.classLink RL 8 RX11 ∈ aw := aw_w (List.mem_of_getElem? (i := 156) (by decide +kernel)) rfl
theorem lL_137 : Cond.methodLink RL 137 yX11_init ∈ aw := aw_w (List.mem_of_getElem? (i := 158) (by decide +kernel)) rfl
theorem c11_17 : Cond.classLink RX11 17 RX3 ∈ aw := aw_w (List.mem_of_getElem? (i := 164) (by decide +kernel)) rfl
theorem n11_19 : Cond.methodLinkNest RX11 19 yX3_init "LeastWords" ∈ ow := List.mem_filter.mpr ⟨List.mem_of_getElem? (i := 166) (by decide +kernel), rfl⟩
theorem c3_9 : Cond.classLink RX3 9 RX9 ∈ aw := aw_w (List.mem_of_getElem? (i := 170) (by decide +kernel)) rfl
theorem n3_11 : Cond.methodLinkNest RX3 11 yX9_init "LeastWords" ∈ ow := List.mem_filter.mpr ⟨List.mem_of_getElem? (i := 172) (by decide +kernel), rfl⟩
theorem c9_9 : Cond.classLink RX9 9 RX8 ∈ aw := aw_w (List.mem_of_getElem? (i := 176) (by decide +kernel)) rfl
theorem f9_11 : Cond.fieldLink RX9 11 (fN 9 0).1 (fN 9 0).2.1 (fN 9 0).2.2.1 ∈ aw := aw_w (List.mem_of_getElem? (i := 180) (by decide +kernel)) rfl
theorem f9_17 : Cond.fieldLink RX9 17 (fN 9 1).1 (fN 9 1).2.1 (fN 9 1).2.2.1 ∈ aw := aw_w (List.mem_of_getElem? (i := 181) (by decide +kernel)) rfl
theorem f9_21 : Cond.fieldLink RX9 21 (fN 9 2).1 (fN 9 2).2.1 (fN 9 2).2.2.1 ∈ aw := aw_w (List.mem_of_getElem? (i := 182) (by decide +kernel)) rfl
theorem f9_24 : Cond.fieldLink RX9 24 (fN 9 3).1 (fN 9 3).2.1 (fN 9 3).2.2.1 ∈ aw := aw_w (List.mem_of_getElem? (i := 183) (by decide +kernel)) rfl
theorem f9_41 : Cond.fieldLink RX9 41 (fN 9 4).1 (fN 9 4).2.1 (fN 9 4).2.2.1 ∈ aw := aw_w (List.mem_of_getElem? (i := 184) (by decide +kernel)) rfl
theorem f9_45 : Cond.fieldLink RX9 45 (fN 9 5).1 (fN 9 5).2.1 (fN 9 5).2.2.1 ∈ aw := aw_w (List.mem_of_getElem? (i := 185) (by decide +kernel)) rfl
theorem f9_48 : Cond.fieldLink RX9 48 (fN 9 6).1 (fN 9 6).2.1 (fN 9 6).2.2.1 ∈ aw := aw_w (List.mem_of_getElem? (i := 186) (by decide +kernel)) rfl
theorem f9_51 : Cond.fieldLink RX9 51 (fN 9 7).1 (fN 9 7).2.1 (fN 9 7).2.2.1 ∈ aw := aw_w (List.mem_of_getElem? (i := 187) (by decide +kernel)) rfl
theorem f3_39 : Cond.fieldLink RX3 39 (fN 9 7).1 (fN 9 7).2.1 (fN 9 7).2.2.1 ∈ aw := aw_w (List.mem_of_getElem? (i := 188) (by decide +kernel)) rfl
theorem f9_32 : Cond.fieldLink RX9 32 (fN 9 8).1 (fN 9 8).2.1 (fN 9 8).2.2.1 ∈ aw := aw_w (List.mem_of_getElem? (i := 189) (by decide +kernel)) rfl
theorem f3_87 : Cond.fieldLink RX3 87 (fN 9 8).1 (fN 9 8).2.1 (fN 9 8).2.2.1 ∈ aw := aw_w (List.mem_of_getElem? (i := 190) (by decide +kernel)) rfl
theorem f3_93 : Cond.fieldLink RX3 93 (fN 9 9).1 (fN 9 9).2.1 (fN 9 9).2.2.1 ∈ aw := aw_w (List.mem_of_getElem? (i := 191) (by decide +kernel)) rfl
theorem f9_70 : Cond.fieldLink RX9 70 (fN 9 9).1 (fN 9 9).2.1 (fN 9 9).2.2.1 ∈ aw := aw_w (List.mem_of_getElem? (i := 192) (by decide +kernel)) rfl
theorem f9_64 : Cond.fieldLink RX9 64 (fN 9 10).1 (fN 9 10).2.1 (fN 9 10).2.2.1 ∈ aw := aw_w (List.mem_of_getElem? (i := 193) (by decide +kernel)) rfl
theorem f3_105 : Cond.fieldLink RX3 105 (fN 9 10).1 (fN 9 10).2.1 (fN 9 10).2.2.1 ∈ aw := aw_w (List.mem_of_getElem? (i := 194) (by decide +kernel)) rfl
theorem c3_18 : Cond.classLink RX3 18 RX4 ∈ aw := aw_w (List.mem_of_getElem? (i := 220) (by decide +kernel)) rfl
theorem n3_20 : Cond.methodLinkNest RX3 20 yX4_init "LeastWords" ∈ ow := List.mem_filter.mpr ⟨List.mem_of_getElem? (i := 222) (by decide +kernel), rfl⟩
theorem f3_66 : Cond.fieldLink RX3 66 (fN 4 0).1 (fN 4 0).2.1 (fN 4 0).2.2.1 ∈ aw := aw_w (List.mem_of_getElem? (i := 226) (by decide +kernel)) rfl
theorem f11_108 : Cond.fieldLink RX11 108 (fN 4 0).1 (fN 4 0).2.1 (fN 4 0).2.2.1 ∈ aw := aw_w (List.mem_of_getElem? (i := 227) (by decide +kernel)) rfl
theorem f4_9 : Cond.fieldLink RX4 9 (fN 4 1).1 (fN 4 1).2.1 (fN 4 1).2.2.1 ∈ aw := aw_w (List.mem_of_getElem? (i := 228) (by decide +kernel)) rfl
theorem f5_18 : Cond.fieldLink RX5 18 (fN 4 1).1 (fN 4 1).2.1 (fN 4 1).2.2.1 ∈ aw := aw_w (List.mem_of_getElem? (i := 229) (by decide +kernel)) rfl
theorem f3_60 : Cond.fieldLink RX3 60 (fN 4 1).1 (fN 4 1).2.1 (fN 4 1).2.2.1 ∈ aw := aw_w (List.mem_of_getElem? (i := 230) (by decide +kernel)) rfl
theorem f2_72 : Cond.fieldLink RX2 72 (fN 4 1).1 (fN 4 1).2.1 (fN 4 1).2.2.1 ∈ aw := aw_w (List.mem_of_getElem? (i := 231) (by decide +kernel)) rfl
theorem f11_297 : Cond.fieldLink RX11 297 (fN 4 1).1 (fN 4 1).2.1 (fN 4 1).2.2.1 ∈ aw := aw_w (List.mem_of_getElem? (i := 232) (by decide +kernel)) rfl
theorem f4_40 : Cond.fieldLink RX4 40 (fN 4 2).1 (fN 4 2).2.1 (fN 4 2).2.2.1 ∈ aw := aw_w (List.mem_of_getElem? (i := 233) (by decide +kernel)) rfl
theorem f7_56 : Cond.fieldLink RX7 56 (fN 4 2).1 (fN 4 2).2.1 (fN 4 2).2.2.1 ∈ aw := aw_w (List.mem_of_getElem? (i := 234) (by decide +kernel)) rfl
theorem f3_144 : Cond.fieldLink RX3 144 (fN 4 2).1 (fN 4 2).2.1 (fN 4 2).2.2.1 ∈ aw := aw_w (List.mem_of_getElem? (i := 235) (by decide +kernel)) rfl
theorem f11_208 : Cond.fieldLink RX11 208 (fN 4 2).1 (fN 4 2).2.1 (fN 4 2).2.2.1 ∈ aw := aw_w (List.mem_of_getElem? (i := 236) (by decide +kernel)) rfl
theorem f7_63 : Cond.fieldLink RX7 63 (fN 4 3).1 (fN 4 3).2.1 (fN 4 3).2.2.1 ∈ aw := aw_w (List.mem_of_getElem? (i := 237) (by decide +kernel)) rfl
theorem f3_147 : Cond.fieldLink RX3 147 (fN 4 3).1 (fN 4 3).2.1 (fN 4 3).2.2.1 ∈ aw := aw_w (List.mem_of_getElem? (i := 238) (by decide +kernel)) rfl
theorem f2_32 : Cond.fieldLink RX2 32 (fN 4 4).1 (fN 4 4).2.1 (fN 4 4).2.2.1 ∈ aw := aw_w (List.mem_of_getElem? (i := 239) (by decide +kernel)) rfl
theorem f4_43 : Cond.fieldLink RX4 43 (fN 4 4).1 (fN 4 4).2.1 (fN 4 4).2.2.1 ∈ aw := aw_w (List.mem_of_getElem? (i := 240) (by decide +kernel)) rfl
theorem f5_37 : Cond.fieldLink RX5 37 (fN 4 4).1 (fN 4 4).2.1 (fN 4 4).2.2.1 ∈ aw := aw_w (List.mem_of_getElem? (i := 241) (by decide +kernel)) rfl
theorem f1_58 : Cond.fieldLink RX1 58 (fN 4 4).1 (fN 4 4).2.1 (fN 4 4).2.2.1 ∈ aw := aw_w (List.mem_of_getElem? (i := 242) (by decide +kernel)) rfl
theorem f0_71 : Cond.fieldLink RX0 71 (fN 4 4).1 (fN 4 4).2.1 (fN 4 4).2.2.1 ∈ aw := aw_w (List.mem_of_getElem? (i := 243) (by decide +kernel)) rfl
theorem f3_160 : Cond.fieldLink RX3 160 (fN 4 4).1 (fN 4 4).2.1 (fN 4 4).2.2.1 ∈ aw := aw_w (List.mem_of_getElem? (i := 244) (by decide +kernel)) rfl
theorem f7_105 : Cond.fieldLink RX7 105 (fN 4 4).1 (fN 4 4).2.1 (fN 4 4).2.2.1 ∈ aw := aw_w (List.mem_of_getElem? (i := 245) (by decide +kernel)) rfl
theorem f11_352 : Cond.fieldLink RX11 352 (fN 4 4).1 (fN 4 4).2.1 (fN 4 4).2.2.1 ∈ aw := aw_w (List.mem_of_getElem? (i := 246) (by decide +kernel)) rfl
theorem f11_167 : Cond.fieldLink RX11 167 (fN 4 5).1 (fN 4 5).2.1 (fN 4 5).2.2.1 ∈ aw := aw_w (List.mem_of_getElem? (i := 247) (by decide +kernel)) rfl
theorem f3_166 : Cond.fieldLink RX3 166 (fN 4 5).1 (fN 4 5).2.1 (fN 4 5).2.2.1 ∈ aw := aw_w (List.mem_of_getElem? (i := 248) (by decide +kernel)) rfl
theorem f4_50 : Cond.fieldLink RX4 50 (fN 4 6).1 (fN 4 6).2.1 (fN 4 6).2.2.1 ∈ aw := aw_w (List.mem_of_getElem? (i := 249) (by decide +kernel)) rfl
theorem f3_153 : Cond.fieldLink RX3 153 (fN 4 6).1 (fN 4 6).2.1 (fN 4 6).2.2.1 ∈ aw := aw_w (List.mem_of_getElem? (i := 250) (by decide +kernel)) rfl
theorem f4_15 : Cond.fieldLink RX4 15 (fN 4 7).1 (fN 4 7).2.1 (fN 4 7).2.2.1 ∈ aw := aw_w (List.mem_of_getElem? (i := 251) (by decide +kernel)) rfl
theorem f3_135 : Cond.fieldLink RX3 135 (fN 4 7).1 (fN 4 7).2.1 (fN 4 7).2.2.1 ∈ aw := aw_w (List.mem_of_getElem? (i := 252) (by decide +kernel)) rfl
theorem f7_115 : Cond.fieldLink RX7 115 (fN 4 7).1 (fN 4 7).2.1 (fN 4 7).2.2.1 ∈ aw := aw_w (List.mem_of_getElem? (i := 253) (by decide +kernel)) rfl
theorem f11_399 : Cond.fieldLink RX11 399 (fN 4 7).1 (fN 4 7).2.1 (fN 4 7).2.2.1 ∈ aw := aw_w (List.mem_of_getElem? (i := 254) (by decide +kernel)) rfl
theorem f4_18 : Cond.fieldLink RX4 18 (fN 4 8).1 (fN 4 8).2.1 (fN 4 8).2.2.1 ∈ aw := aw_w (List.mem_of_getElem? (i := 255) (by decide +kernel)) rfl
theorem f3_141 : Cond.fieldLink RX3 141 (fN 4 8).1 (fN 4 8).2.1 (fN 4 8).2.2.1 ∈ aw := aw_w (List.mem_of_getElem? (i := 256) (by decide +kernel)) rfl
theorem f11_393 : Cond.fieldLink RX11 393 (fN 4 8).1 (fN 4 8).2.1 (fN 4 8).2.2.1 ∈ aw := aw_w (List.mem_of_getElem? (i := 257) (by decide +kernel)) rfl
theorem f2_75 : Cond.fieldLink RX2 75 (fN 4 9).1 (fN 4 9).2.1 (fN 4 9).2.2.1 ∈ aw := aw_w (List.mem_of_getElem? (i := 258) (by decide +kernel)) rfl
theorem f3_186 : Cond.fieldLink RX3 186 (fN 4 9).1 (fN 4 9).2.1 (fN 4 9).2.2.1 ∈ aw := aw_w (List.mem_of_getElem? (i := 259) (by decide +kernel)) rfl
theorem f4_21 : Cond.fieldLink RX4 21 (fN 4 10).1 (fN 4 10).2.1 (fN 4 10).2.2.1 ∈ aw := aw_w (List.mem_of_getElem? (i := 260) (by decide +kernel)) rfl
theorem f7_53 : Cond.fieldLink RX7 53 (fN 4 10).1 (fN 4 10).2.1 (fN 4 10).2.2.1 ∈ aw := aw_w (List.mem_of_getElem? (i := 261) (by decide +kernel)) rfl
theorem f3_150 : Cond.fieldLink RX3 150 (fN 4 10).1 (fN 4 10).2.1 (fN 4 10).2.2.1 ∈ aw := aw_w (List.mem_of_getElem? (i := 262) (by decide +kernel)) rfl
theorem f4_25 : Cond.fieldLink RX4 25 (fN 4 11).1 (fN 4 11).2.1 (fN 4 11).2.2.1 ∈ aw := aw_w (List.mem_of_getElem? (i := 263) (by decide +kernel)) rfl
theorem f11_160 : Cond.fieldLink RX11 160 (fN 4 11).1 (fN 4 11).2.1 (fN 4 11).2.2.1 ∈ aw := aw_w (List.mem_of_getElem? (i := 264) (by decide +kernel)) rfl
theorem f3_169 : Cond.fieldLink RX3 169 (fN 4 11).1 (fN 4 11).2.1 (fN 4 11).2.2.1 ∈ aw := aw_w (List.mem_of_getElem? (i := 265) (by decide +kernel)) rfl
theorem f7_112 : Cond.fieldLink RX7 112 (fN 4 11).1 (fN 4 11).2.1 (fN 4 11).2.2.1 ∈ aw := aw_w (List.mem_of_getElem? (i := 266) (by decide +kernel)) rfl
theorem f4_28 : Cond.fieldLink RX4 28 (fN 4 12).1 (fN 4 12).2.1 (fN 4 12).2.2.1 ∈ aw := aw_w (List.mem_of_getElem? (i := 267) (by decide +kernel)) rfl
theorem f5_44 : Cond.fieldLink RX5 44 (fN 4 12).1 (fN 4 12).2.1 (fN 4 12).2.2.1 ∈ aw := aw_w (List.mem_of_getElem? (i := 268) (by decide +kernel)) rfl
theorem f3_181 : Cond.fieldLink RX3 181 (fN 4 12).1 (fN 4 12).2.1 (fN 4 12).2.2.1 ∈ aw := aw_w (List.mem_of_getElem? (i := 269) (by decide +kernel)) rfl
theorem f4_31 : Cond.fieldLink RX4 31 (fN 4 13).1 (fN 4 13).2.1 (fN 4 13).2.2.1 ∈ aw := aw_w (List.mem_of_getElem? (i := 270) (by decide +kernel)) rfl
theorem f2_78 : Cond.fieldLink RX2 78 (fN 4 13).1 (fN 4 13).2.1 (fN 4 13).2.2.1 ∈ aw := aw_w (List.mem_of_getElem? (i := 271) (by decide +kernel)) rfl
theorem f3_178 : Cond.fieldLink RX3 178 (fN 4 13).1 (fN 4 13).2.1 (fN 4 13).2.2.1 ∈ aw := aw_w (List.mem_of_getElem? (i := 272) (by decide +kernel)) rfl
theorem f4_34 : Cond.fieldLink RX4 34 (fN 4 14).1 (fN 4 14).2.1 (fN 4 14).2.2.1 ∈ aw := aw_w (List.mem_of_getElem? (i := 273) (by decide +kernel)) rfl
theorem f3_42 : Cond.fieldLink RX3 42 (fN 4 14).1 (fN 4 14).2.1 (fN 4 14).2.2.1 ∈ aw := aw_w (List.mem_of_getElem? (i := 274) (by decide +kernel)) rfl
theorem f5_47 : Cond.fieldLink RX5 47 (fN 4 14).1 (fN 4 14).2.1 (fN 4 14).2.2.1 ∈ aw := aw_w (List.mem_of_getElem? (i := 275) (by decide +kernel)) rfl
theorem f4_37 : Cond.fieldLink RX4 37 (fN 4 15).1 (fN 4 15).2.1 (fN 4 15).2.2.1 ∈ aw := aw_w (List.mem_of_getElem? (i := 276) (by decide +kernel)) rfl
theorem f4_46 : Cond.fieldLink RX4 46 (fN 4 16).1 (fN 4 16).2.1 (fN 4 16).2.2.1 ∈ aw := aw_w (List.mem_of_getElem? (i := 277) (by decide +kernel)) rfl
theorem f3_12 : Cond.fieldLink RX3 12 (fN 3 0).1 (fN 3 0).2.1 (fN 3 0).2.2.1 ∈ aw := aw_w (List.mem_of_getElem? (i := 313) (by decide +kernel)) rfl
theorem f3_32 : Cond.fieldLink RX3 32 (fN 3 1).1 (fN 3 1).2.1 (fN 3 1).2.2.1 ∈ aw := aw_w (List.mem_of_getElem? (i := 314) (by decide +kernel)) rfl
theorem f3_21 : Cond.fieldLink RX3 21 (fN 3 2).1 (fN 3 2).2.1 (fN 3 2).2.2.1 ∈ aw := aw_w (List.mem_of_getElem? (i := 315) (by decide +kernel)) rfl
theorem f3_29 : Cond.fieldLink RX3 29 (fN 3 3).1 (fN 3 3).2.1 (fN 3 3).2.2.1 ∈ aw := aw_w (List.mem_of_getElem? (i := 316) (by decide +kernel)) rfl
theorem f11_95 : Cond.fieldLink RX11 95 (fN 3 3).1 (fN 3 3).2.1 (fN 3 3).2.2.1 ∈ aw := aw_w (List.mem_of_getElem? (i := 317) (by decide +kernel)) rfl
theorem f3_25 : Cond.fieldLink RX3 25 (fN 3 4).1 (fN 3 4).2.1 (fN 3 4).2.2.1 ∈ aw := aw_w (List.mem_of_getElem? (i := 318) (by decide +kernel)) rfl
theorem f11_101 : Cond.fieldLink RX11 101 (fN 3 4).1 (fN 3 4).2.1 (fN 3 4).2.2.1 ∈ aw := aw_w (List.mem_of_getElem? (i := 319) (by decide +kernel)) rfl
theorem c11_24 : Cond.classLink RX11 24 RX5 ∈ aw := aw_w (List.mem_of_getElem? (i := 331) (by decide +kernel)) rfl
theorem n11_26 : Cond.methodLinkNest RX11 26 yX5_init "LeastWords" ∈ ow := List.mem_filter.mpr ⟨List.mem_of_getElem? (i := 333) (by decide +kernel), rfl⟩
theorem f5_11 : Cond.fieldLink RX5 11 (fN 5 0).1 (fN 5 0).2.1 (fN 5 0).2.2.1 ∈ aw := aw_w (List.mem_of_getElem? (i := 337) (by decide +kernel)) rfl
theorem f2_52 : Cond.fieldLink RX2 52 (fN 5 0).1 (fN 5 0).2.1 (fN 5 0).2.2.1 ∈ aw := aw_w (List.mem_of_getElem? (i := 338) (by decide +kernel)) rfl
theorem f11_349 : Cond.fieldLink RX11 349 (fN 5 0).1 (fN 5 0).2.1 (fN 5 0).2.2.1 ∈ aw := aw_w (List.mem_of_getElem? (i := 339) (by decide +kernel)) rfl
theorem f5_15 : Cond.fieldLink RX5 15 (fN 5 1).1 (fN 5 1).2.1 (fN 5 1).2.2.1 ∈ aw := aw_w (List.mem_of_getElem? (i := 340) (by decide +kernel)) rfl
theorem f5_30 : Cond.fieldLink RX5 30 (fN 5 2).1 (fN 5 2).2.1 (fN 5 2).2.2.1 ∈ aw := aw_w (List.mem_of_getElem? (i := 341) (by decide +kernel)) rfl
theorem f5_31 : Cond.fieldLink RX5 31 (fN 5 3).1 (fN 5 3).2.1 (fN 5 3).2.2.1 ∈ aw := aw_w (List.mem_of_getElem? (i := 342) (by decide +kernel)) rfl
theorem c11_31 : Cond.classLink RX11 31 RX6 ∈ aw := aw_w (List.mem_of_getElem? (i := 352) (by decide +kernel)) rfl
theorem l11_33 : Cond.methodLink RX11 33 yX6_init ∈ aw := aw_w (List.mem_of_getElem? (i := 354) (by decide +kernel)) rfl
theorem c6_9 : Cond.classLink RX6 9 RX4 ∈ aw := aw_w (List.mem_of_getElem? (i := 358) (by decide +kernel)) rfl
theorem n6_11 : Cond.methodLinkNest RX6 11 yX4_init "LeastWords" ∈ ow := List.mem_filter.mpr ⟨List.mem_of_getElem? (i := 359) (by decide +kernel), rfl⟩
theorem c6_18 : Cond.classLink RX6 18 RX7 ∈ aw := aw_w (List.mem_of_getElem? (i := 360) (by decide +kernel)) rfl
theorem l6_20 : Cond.methodLink RX6 20 yX7_init ∈ aw := aw_w (List.mem_of_getElem? (i := 362) (by decide +kernel)) rfl
theorem f7_9 : Cond.fieldLink RX7 9 (fN 7 0).1 (fN 7 0).2.1 (fN 7 0).2.2.1 ∈ aw := aw_w (List.mem_of_getElem? (i := 369) (by decide +kernel)) rfl
theorem fn2_41 : Cond.fieldLinkNest RX2 41 (fN 7 0).1 (fN 7 0).2.1 (fN 7 0).2.2.1 "LeastWords" ∈ ow := List.mem_filter.mpr ⟨List.mem_of_getElem? (i := 370) (by decide +kernel), rfl⟩
theorem f7_15 : Cond.fieldLink RX7 15 (fN 7 1).1 (fN 7 1).2.1 (fN 7 1).2.2.1 ∈ aw := aw_w (List.mem_of_getElem? (i := 371) (by decide +kernel)) rfl
theorem f7_18 : Cond.fieldLink RX7 18 (fN 7 2).1 (fN 7 2).2.1 (fN 7 2).2.2.1 ∈ aw := aw_w (List.mem_of_getElem? (i := 372) (by decide +kernel)) rfl
theorem f7_21 : Cond.fieldLink RX7 21 (fN 7 3).1 (fN 7 3).2.1 (fN 7 3).2.2.1 ∈ aw := aw_w (List.mem_of_getElem? (i := 373) (by decide +kernel)) rfl
theorem f11_225 : Cond.fieldLink RX11 225 (fN 7 3).1 (fN 7 3).2.1 (fN 7 3).2.2.1 ∈ aw := aw_w (List.mem_of_getElem? (i := 374) (by decide +kernel)) rfl
theorem f7_24 : Cond.fieldLink RX7 24 (fN 7 4).1 (fN 7 4).2.1 (fN 7 4).2.2.1 ∈ aw := aw_w (List.mem_of_getElem? (i := 375) (by decide +kernel)) rfl
theorem f11_251 : Cond.fieldLink RX11 251 (fN 7 4).1 (fN 7 4).2.1 (fN 7 4).2.2.1 ∈ aw := aw_w (List.mem_of_getElem? (i := 376) (by decide +kernel)) rfl
theorem f7_43 : Cond.fieldLink RX7 43 (fN 7 5).1 (fN 7 5).2.1 (fN 7 5).2.2.1 ∈ aw := aw_w (List.mem_of_getElem? (i := 377) (by decide +kernel)) rfl
theorem f2_61 : Cond.fieldLink RX2 61 (fN 7 5).1 (fN 7 5).2.1 (fN 7 5).2.2.1 ∈ aw := aw_w (List.mem_of_getElem? (i := 378) (by decide +kernel)) rfl
theorem f1_36 : Cond.fieldLink RX1 36 (fN 7 5).1 (fN 7 5).2.1 (fN 7 5).2.2.1 ∈ aw := aw_w (List.mem_of_getElem? (i := 379) (by decide +kernel)) rfl
theorem f0_55 : Cond.fieldLink RX0 55 (fN 7 5).1 (fN 7 5).2.1 (fN 7 5).2.2.1 ∈ aw := aw_w (List.mem_of_getElem? (i := 380) (by decide +kernel)) rfl
theorem f11_288 : Cond.fieldLink RX11 288 (fN 7 5).1 (fN 7 5).2.1 (fN 7 5).2.2.1 ∈ aw := aw_w (List.mem_of_getElem? (i := 381) (by decide +kernel)) rfl
theorem f7_27 : Cond.fieldLink RX7 27 (fN 7 6).1 (fN 7 6).2.1 (fN 7 6).2.2.1 ∈ aw := aw_w (List.mem_of_getElem? (i := 382) (by decide +kernel)) rfl
theorem f11_228 : Cond.fieldLink RX11 228 (fN 7 6).1 (fN 7 6).2.1 (fN 7 6).2.2.1 ∈ aw := aw_w (List.mem_of_getElem? (i := 383) (by decide +kernel)) rfl
theorem f7_46 : Cond.fieldLink RX7 46 (fN 7 7).1 (fN 7 7).2.1 (fN 7 7).2.2.1 ∈ aw := aw_w (List.mem_of_getElem? (i := 384) (by decide +kernel)) rfl
theorem f11_170 : Cond.fieldLink RX11 170 (fN 7 7).1 (fN 7 7).2.1 (fN 7 7).2.2.1 ∈ aw := aw_w (List.mem_of_getElem? (i := 385) (by decide +kernel)) rfl
theorem f2_44 : Cond.fieldLink RX2 44 (fN 7 8).1 (fN 7 8).2.1 (fN 7 8).2.2.1 ∈ aw := aw_w (List.mem_of_getElem? (i := 386) (by decide +kernel)) rfl
theorem f7_49 : Cond.fieldLink RX7 49 (fN 7 8).1 (fN 7 8).2.1 (fN 7 8).2.2.1 ∈ aw := aw_w (List.mem_of_getElem? (i := 387) (by decide +kernel)) rfl
theorem f11_126 : Cond.fieldLink RX11 126 (fN 7 8).1 (fN 7 8).2.1 (fN 7 8).2.2.1 ∈ aw := aw_w (List.mem_of_getElem? (i := 388) (by decide +kernel)) rfl
theorem f1_89 : Cond.fieldLink RX1 89 (fN 7 8).1 (fN 7 8).2.1 (fN 7 8).2.2.1 ∈ aw := aw_w (List.mem_of_getElem? (i := 389) (by decide +kernel)) rfl
theorem f6_12 : Cond.fieldLink RX6 12 (fN 6 0).1 (fN 6 0).2.1 (fN 6 0).2.2.1 ∈ aw := aw_w (List.mem_of_getElem? (i := 410) (by decide +kernel)) rfl
theorem f11_130 : Cond.fieldLink RX11 130 (fN 6 0).1 (fN 6 0).2.1 (fN 6 0).2.2.1 ∈ aw := aw_w (List.mem_of_getElem? (i := 411) (by decide +kernel)) rfl
theorem f6_21 : Cond.fieldLink RX6 21 (fN 6 1).1 (fN 6 1).2.1 (fN 6 1).2.2.1 ∈ aw := aw_w (List.mem_of_getElem? (i := 412) (by decide +kernel)) rfl
theorem f11_119 : Cond.fieldLink RX11 119 (fN 6 1).1 (fN 6 1).2.1 (fN 6 1).2.2.1 ∈ aw := aw_w (List.mem_of_getElem? (i := 413) (by decide +kernel)) rfl
theorem f6_25 : Cond.fieldLink RX6 25 (fN 6 2).1 (fN 6 2).2.1 (fN 6 2).2.2.1 ∈ aw := aw_w (List.mem_of_getElem? (i := 414) (by decide +kernel)) rfl
theorem f6_33 : Cond.fieldLink RX6 33 (fN 6 3).1 (fN 6 3).2.1 (fN 6 3).2.2.1 ∈ aw := aw_w (List.mem_of_getElem? (i := 415) (by decide +kernel)) rfl
theorem f6_37 : Cond.fieldLink RX6 37 (fN 6 4).1 (fN 6 4).2.1 (fN 6 4).2.2.1 ∈ aw := aw_w (List.mem_of_getElem? (i := 416) (by decide +kernel)) rfl
theorem f11_257 : Cond.fieldLink RX11 257 (fN 6 4).1 (fN 6 4).2.1 (fN 6 4).2.2.1 ∈ aw := aw_w (List.mem_of_getElem? (i := 417) (by decide +kernel)) rfl
theorem c11_42 : Cond.classLink RX11 42 RX10 ∈ aw := aw_w (List.mem_of_getElem? (i := 430) (by decide +kernel)) rfl
theorem c11_48 : Cond.classLink RX11 48 RX7 ∈ aw := aw_w (List.mem_of_getElem? (i := 432) (by decide +kernel)) rfl
theorem l11_50 : Cond.methodLink RX11 50 yX7_init ∈ aw := aw_w (List.mem_of_getElem? (i := 433) (by decide +kernel)) rfl
theorem c11_55 : Cond.classLink RX11 55 RX1 ∈ aw := aw_w (List.mem_of_getElem? (i := 434) (by decide +kernel)) rfl
theorem n11_57 : Cond.methodLinkNest RX11 57 yX1_init "LeastWords" ∈ ow := List.mem_filter.mpr ⟨List.mem_of_getElem? (i := 436) (by decide +kernel), rfl⟩
theorem f1_9 : Cond.fieldLink RX1 9 (fN 1 0).1 (fN 1 0).2.1 (fN 1 0).2.2.1 ∈ aw := aw_w (List.mem_of_getElem? (i := 440) (by decide +kernel)) rfl
theorem f1_15 : Cond.fieldLink RX1 15 (fN 1 1).1 (fN 1 1).2.1 (fN 1 1).2.2.1 ∈ aw := aw_w (List.mem_of_getElem? (i := 441) (by decide +kernel)) rfl
theorem f1_19 : Cond.fieldLink RX1 19 (fN 1 2).1 (fN 1 2).2.1 (fN 1 2).2.2.1 ∈ aw := aw_w (List.mem_of_getElem? (i := 442) (by decide +kernel)) rfl
theorem c11_62 : Cond.classLink RX11 62 RX0 ∈ aw := aw_w (List.mem_of_getElem? (i := 451) (by decide +kernel)) rfl
theorem n11_64 : Cond.methodLinkNest RX11 64 yX0_init "LeastWords" ∈ ow := List.mem_filter.mpr ⟨List.mem_of_getElem? (i := 453) (by decide +kernel), rfl⟩
theorem f0_11 : Cond.fieldLink RX0 11 (fN 0 0).1 (fN 0 0).2.1 (fN 0 0).2.2.1 ∈ aw := aw_w (List.mem_of_getElem? (i := 457) (by decide +kernel)) rfl
theorem f0_15 : Cond.fieldLink RX0 15 (fN 0 1).1 (fN 0 1).2.1 (fN 0 1).2.2.1 ∈ aw := aw_w (List.mem_of_getElem? (i := 458) (by decide +kernel)) rfl
theorem f0_19 : Cond.fieldLink RX0 19 (fN 0 2).1 (fN 0 2).2.1 (fN 0 2).2.2.1 ∈ aw := aw_w (List.mem_of_getElem? (i := 459) (by decide +kernel)) rfl
theorem f0_63 : Cond.fieldLink RX0 63 (fN 0 3).1 (fN 0 3).2.1 (fN 0 3).2.2.1 ∈ aw := aw_w (List.mem_of_getElem? (i := 460) (by decide +kernel)) rfl
theorem c11_69 : Cond.classLink RX11 69 RX2 ∈ aw := aw_w (List.mem_of_getElem? (i := 470) (by decide +kernel)) rfl
theorem n11_71 : Cond.methodLinkNest RX11 71 yX2_init "LeastWords" ∈ ow := List.mem_filter.mpr ⟨List.mem_of_getElem? (i := 472) (by decide +kernel), rfl⟩
theorem c2_9 : Cond.classLink RX2 9 RX5 ∈ aw := aw_w (List.mem_of_getElem? (i := 476) (by decide +kernel)) rfl
theorem n2_11 : Cond.methodLinkNest RX2 11 yX5_init "LeastWords" ∈ ow := List.mem_filter.mpr ⟨List.mem_of_getElem? (i := 477) (by decide +kernel), rfl⟩
theorem c2_25 : Cond.classLink RX2 25 RX4 ∈ aw := aw_w (List.mem_of_getElem? (i := 478) (by decide +kernel)) rfl
theorem n2_27 : Cond.methodLinkNest RX2 27 yX4_init "LeastWords" ∈ ow := List.mem_filter.mpr ⟨List.mem_of_getElem? (i := 479) (by decide +kernel), rfl⟩
theorem f2_12 : Cond.fieldLink RX2 12 (fN 2 0).1 (fN 2 0).2.1 (fN 2 0).2.2.1 ∈ aw := aw_w (List.mem_of_getElem? (i := 480) (by decide +kernel)) rfl
theorem f11_346 : Cond.fieldLink RX11 346 (fN 2 0).1 (fN 2 0).2.1 (fN 2 0).2.2.1 ∈ aw := aw_w (List.mem_of_getElem? (i := 481) (by decide +kernel)) rfl
theorem f2_18 : Cond.fieldLink RX2 18 (fN 2 1).1 (fN 2 1).2.1 (fN 2 1).2.2.1 ∈ aw := aw_w (List.mem_of_getElem? (i := 482) (by decide +kernel)) rfl
theorem f2_22 : Cond.fieldLink RX2 22 (fN 2 2).1 (fN 2 2).2.1 (fN 2 2).2.2.1 ∈ aw := aw_w (List.mem_of_getElem? (i := 483) (by decide +kernel)) rfl
theorem f2_28 : Cond.fieldLink RX2 28 (fN 2 3).1 (fN 2 3).2.1 (fN 2 3).2.2.1 ∈ aw := aw_w (List.mem_of_getElem? (i := 484) (by decide +kernel)) rfl
theorem n11_76 : Cond.methodLinkNest RX11 76 yX10_init "LeastWords" ∈ ow := List.mem_filter.mpr ⟨List.mem_of_getElem? (i := 495) (by decide +kernel), rfl⟩
theorem f10_9 : Cond.fieldLink RX10 9 (fN 10 0).1 (fN 10 0).2.1 (fN 10 0).2.2.1 ∈ aw := aw_w (List.mem_of_getElem? (i := 499) (by decide +kernel)) rfl
theorem f11_421 : Cond.fieldLink RX11 421 (fN 10 0).1 (fN 10 0).2.1 (fN 10 0).2.2.1 ∈ aw := aw_w (List.mem_of_getElem? (i := 500) (by decide +kernel)) rfl
theorem f10_23 : Cond.fieldLink RX10 23 (fN 10 1).1 (fN 10 1).2.1 (fN 10 1).2.2.1 ∈ aw := aw_w (List.mem_of_getElem? (i := 501) (by decide +kernel)) rfl
theorem f11_273 : Cond.fieldLink RX11 273 (fN 10 1).1 (fN 10 1).2.1 (fN 10 1).2.2.1 ∈ aw := aw_w (List.mem_of_getElem? (i := 502) (by decide +kernel)) rfl
theorem f10_15 : Cond.fieldLink RX10 15 (fN 10 2).1 (fN 10 2).2.1 (fN 10 2).2.2.1 ∈ aw := aw_w (List.mem_of_getElem? (i := 503) (by decide +kernel)) rfl
theorem f11_276 : Cond.fieldLink RX11 276 (fN 10 2).1 (fN 10 2).2.1 (fN 10 2).2.2.1 ∈ aw := aw_w (List.mem_of_getElem? (i := 504) (by decide +kernel)) rfl
theorem f10_19 : Cond.fieldLink RX10 19 (fN 10 3).1 (fN 10 3).2.1 (fN 10 3).2.2.1 ∈ aw := aw_w (List.mem_of_getElem? (i := 505) (by decide +kernel)) rfl
theorem f11_9 : Cond.fieldLink RX11 9 (fN 11 0).1 (fN 11 0).2.1 (fN 11 0).2.2.1 ∈ aw := aw_w (List.mem_of_getElem? (i := 515) (by decide +kernel)) rfl
theorem f11_77 : Cond.fieldLink RX11 77 (fN 11 1).1 (fN 11 1).2.1 (fN 11 1).2.2.1 ∈ aw := aw_w (List.mem_of_getElem? (i := 516) (by decide +kernel)) rfl
theorem f11_98 : Cond.fieldLink RX11 98 (fN 11 2).1 (fN 11 2).2.1 (fN 11 2).2.2.1 ∈ aw := aw_w (List.mem_of_getElem? (i := 517) (by decide +kernel)) rfl
theorem f11_13 : Cond.fieldLink RX11 13 (fN 11 3).1 (fN 11 3).2.1 (fN 11 3).2.2.1 ∈ aw := aw_w (List.mem_of_getElem? (i := 518) (by decide +kernel)) rfl
theorem f11_20 : Cond.fieldLink RX11 20 (fN 11 4).1 (fN 11 4).2.1 (fN 11 4).2.2.1 ∈ aw := aw_w (List.mem_of_getElem? (i := 519) (by decide +kernel)) rfl
theorem f11_27 : Cond.fieldLink RX11 27 (fN 11 5).1 (fN 11 5).2.1 (fN 11 5).2.2.1 ∈ aw := aw_w (List.mem_of_getElem? (i := 520) (by decide +kernel)) rfl
theorem f11_34 : Cond.fieldLink RX11 34 (fN 11 6).1 (fN 11 6).2.1 (fN 11 6).2.2.1 ∈ aw := aw_w (List.mem_of_getElem? (i := 521) (by decide +kernel)) rfl
theorem f11_38 : Cond.fieldLink RX11 38 (fN 11 7).1 (fN 11 7).2.1 (fN 11 7).2.2.1 ∈ aw := aw_w (List.mem_of_getElem? (i := 522) (by decide +kernel)) rfl
theorem f11_44 : Cond.fieldLink RX11 44 (fN 11 8).1 (fN 11 8).2.1 (fN 11 8).2.2.1 ∈ aw := aw_w (List.mem_of_getElem? (i := 523) (by decide +kernel)) rfl
theorem f11_51 : Cond.fieldLink RX11 51 (fN 11 9).1 (fN 11 9).2.1 (fN 11 9).2.2.1 ∈ aw := aw_w (List.mem_of_getElem? (i := 524) (by decide +kernel)) rfl
theorem f11_58 : Cond.fieldLink RX11 58 (fN 11 10).1 (fN 11 10).2.1 (fN 11 10).2.2.1 ∈ aw := aw_w (List.mem_of_getElem? (i := 525) (by decide +kernel)) rfl
theorem f11_65 : Cond.fieldLink RX11 65 (fN 11 11).1 (fN 11 11).2.1 (fN 11 11).2.2.1 ∈ aw := aw_w (List.mem_of_getElem? (i := 526) (by decide +kernel)) rfl
theorem f11_72 : Cond.fieldLink RX11 72 (fN 11 12).1 (fN 11 12).2.1 (fN 11 12).2.2.1 ∈ aw := aw_w (List.mem_of_getElem? (i := 527) (by decide +kernel)) rfl
theorem lL_141 : Cond.methodLink RL 141 yX11_feed ∈ aw := aw_w (List.mem_of_getElem? (i := 555) (by decide +kernel)) rfl
theorem l11_80 : Cond.methodLink RX11 80 yX11_putOnTape ∈ aw := aw_w (List.mem_of_getElem? (i := 559) (by decide +kernel)) rfl
theorem lL_155 : Cond.methodLink RL 155 yX11_fault ∈ aw := aw_w (List.mem_of_getElem? (i := 563) (by decide +kernel)) rfl
theorem lL_194 : Cond.methodLink RL 194 yX11_hardest ∈ aw := aw_w (List.mem_of_getElem? (i := 567) (by decide +kernel)) rfl
theorem l11_141 : Cond.methodLink RX11 141 yX7_isIn ∈ aw := aw_w (List.mem_of_getElem? (i := 571) (by decide +kernel)) rfl
theorem l11_193 : Cond.methodLink RX11 193 yX1_cheapest ∈ aw := aw_w (List.mem_of_getElem? (i := 575) (by decide +kernel)) rfl
theorem l1_26 : Cond.methodLink RX1 26 yX4_allWords ∈ aw := aw_w (List.mem_of_getElem? (i := 579) (by decide +kernel)) rfl
theorem l1_32 : Cond.methodLink RX1 32 yX1_weighNow ∈ aw := aw_w (List.mem_of_getElem? (i := 583) (by decide +kernel)) rfl
theorem l1_61 : Cond.methodLink RX1 61 yX1_agreeing ∈ aw := aw_w (List.mem_of_getElem? (i := 587) (by decide +kernel)) rfl
theorem l1_54 : Cond.methodLink RX1 54 yX7_truthBy ∈ aw := aw_w (List.mem_of_getElem? (i := 590) (by decide +kernel)) rfl
theorem l1_46 : Cond.methodLink RX1 46 yX7_truth ∈ aw := aw_w (List.mem_of_getElem? (i := 594) (by decide +kernel)) rfl
theorem l7_82 : Cond.methodLink RX7 82 yX7_truthBy ∈ aw := aw_w (List.mem_of_getElem? (i := 598) (by decide +kernel)) rfl
theorem l1_65 : Cond.methodLink RX1 65 yX7_wordCost ∈ aw := aw_w (List.mem_of_getElem? (i := 599) (by decide +kernel)) rfl
theorem l1_42 : Cond.methodLink RX1 42 yX1_spread ∈ aw := aw_w (List.mem_of_getElem? (i := 603) (by decide +kernel)) rfl
theorem l1_50 : Cond.methodLink RX1 50 yX1_leastOfRows ∈ aw := aw_w (List.mem_of_getElem? (i := 611) (by decide +kernel)) rfl
theorem K1_22 : Cond.constantLong RX1 22 (-1) ∈ aw := aw_w (List.mem_of_getElem? (i := 615) (by decide +kernel)) rfl
theorem l1_85 : Cond.methodLink RX1 85 yX1_described ∈ aw := aw_w (List.mem_of_getElem? (i := 616) (by decide +kernel)) rfl
theorem l11_205 : Cond.methodLink RX11 205 yX1_costIn ∈ aw := aw_w (List.mem_of_getElem? (i := 619) (by decide +kernel)) rfl
theorem K11_211 : Cond.constant RX11 211 (2147483647) ∈ aw := aw_w (List.mem_of_getElem? (i := 622) (by decide +kernel)) rfl
theorem lL_214 : Cond.methodLink RL 214 yX11_lamp ∈ aw := aw_w (List.mem_of_getElem? (i := 623) (by decide +kernel)) rfl
theorem l11_222 : Cond.methodLink RX11 222 yX6_remember ∈ aw := aw_w (List.mem_of_getElem? (i := 627) (by decide +kernel)) rfl
theorem l6_40 : Cond.methodLink RX6 40 yX7_takeFrom ∈ aw := aw_w (List.mem_of_getElem? (i := 631) (by decide +kernel)) rfl
theorem lL_231 : Cond.methodLink RL 231 yX11_winner ∈ aw := aw_w (List.mem_of_getElem? (i := 641) (by decide +kernel)) rfl
theorem l11_254 : Cond.methodLink RX11 254 yX7_winning ∈ aw := aw_w (List.mem_of_getElem? (i := 645) (by decide +kernel)) rfl
theorem K7_118 : Cond.constant RX7 118 (2147483647) ∈ aw := aw_w (List.mem_of_getElem? (i := 649) (by decide +kernel)) rfl
theorem l7_119 : Cond.methodLink RX7 119 yX7_toldBy ∈ aw := aw_w (List.mem_of_getElem? (i := 650) (by decide +kernel)) rfl
theorem l7_94 : Cond.methodLink RX7 94 yX7_fitted ∈ aw := aw_w (List.mem_of_getElem? (i := 654) (by decide +kernel)) rfl
theorem l7_86 : Cond.methodLink RX7 86 yX7_isIn ∈ aw := aw_w (List.mem_of_getElem? (i := 658) (by decide +kernel)) rfl
theorem l7_90 : Cond.methodLink RX7 90 yX7_truth ∈ aw := aw_w (List.mem_of_getElem? (i := 659) (by decide +kernel)) rfl
theorem l7_122 : Cond.methodLink RX7 122 yX7_costOf ∈ aw := aw_w (List.mem_of_getElem? (i := 667) (by decide +kernel)) rfl
theorem l7_108 : Cond.methodLink RX7 108 yX7_wordCost ∈ aw := aw_w (List.mem_of_getElem? (i := 671) (by decide +kernel)) rfl
theorem lL_250 : Cond.methodLink RL 250 yX11_book ∈ aw := aw_w (List.mem_of_getElem? (i := 672) (by decide +kernel)) rfl
theorem l11_330 : Cond.methodLink RX11 330 yX0_fewestWords ∈ aw := aw_w (List.mem_of_getElem? (i := 676) (by decide +kernel)) rfl
theorem l0_22 : Cond.methodLink RX0 22 yX0_learnPairs ∈ aw := aw_w (List.mem_of_getElem? (i := 680) (by decide +kernel)) rfl
theorem l0_42 : Cond.methodLink RX0 42 yX7_isIn ∈ aw := aw_w (List.mem_of_getElem? (i := 684) (by decide +kernel)) rfl
theorem l0_48 : Cond.methodLink RX0 48 yX7_truth ∈ aw := aw_w (List.mem_of_getElem? (i := 685) (by decide +kernel)) rfl
theorem l0_26 : Cond.methodLink RX0 26 yX4_allWords ∈ aw := aw_w (List.mem_of_getElem? (i := 686) (by decide +kernel)) rfl
theorem l0_38 : Cond.methodLink RX0 38 yX0_partsAll ∈ aw := aw_w (List.mem_of_getElem? (i := 688) (by decide +kernel)) rfl
theorem lL_260 : Cond.methodLink RL 260 yX11_twins ∈ aw := aw_w (List.mem_of_getElem? (i := 692) (by decide +kernel)) rfl
theorem l11_149 : Cond.methodLink RX11 149 yX7_alikeTo ∈ aw := aw_w (List.mem_of_getElem? (i := 696) (by decide +kernel)) rfl
theorem lL_264 : Cond.methodLink RL 264 yX11_parts ∈ aw := aw_w (List.mem_of_getElem? (i := 700) (by decide +kernel)) rfl
theorem l11_164 : Cond.methodLink RX11 164 yX7_holders ∈ aw := aw_w (List.mem_of_getElem? (i := 705) (by decide +kernel)) rfl
theorem lL_268 : Cond.methodLink RL 268 yX11_idle ∈ aw := aw_w (List.mem_of_getElem? (i := 712) (by decide +kernel)) rfl
theorem lL_281 : Cond.methodLink RL 281 yX11_changing ∈ aw := aw_w (List.mem_of_getElem? (i := 716) (by decide +kernel)) rfl
theorem l11_173 : Cond.methodLink RX11 173 yX7_truthBy ∈ aw := aw_w (List.mem_of_getElem? (i := 720) (by decide +kernel)) rfl
theorem lL_308 : Cond.methodLink RL 308 yX11_count ∈ aw := aw_w (List.mem_of_getElem? (i := 721) (by decide +kernel)) rfl
theorem l11_396 : Cond.methodLink RX11 396 yX7_claimants ∈ aw := aw_w (List.mem_of_getElem? (i := 725) (by decide +kernel)) rfl
theorem lL_146 : Cond.methodLink RL 146 yL_hall ∈ aw := aw_w (List.mem_of_getElem? (i := 729) (by decide +kernel)) rfl
theorem cL_13 : Cond.classLink RL 13 "java/lang/IllegalArgumentException" ∈ aw := aw_w (List.mem_of_getElem? (i := 732) (by decide +kernel)) rfl
theorem lL_7 : Cond.methodLink RL 7 yX11_hall ∈ aw := aw_w (List.mem_of_getElem? (i := 733) (by decide +kernel)) rfl
theorem c11_84 : Cond.classLink RX11 84 "java/lang/IllegalArgumentException" ∈ aw := aw_w (List.mem_of_getElem? (i := 737) (by decide +kernel)) rfl
theorem l11_91 : Cond.methodLink RX11 91 yX3_read ∈ aw := aw_w (List.mem_of_getElem? (i := 805) (by decide +kernel)) rfl
theorem l3_35 : Cond.methodLink RX3 35 yX9_open ∈ aw := aw_w (List.mem_of_getElem? (i := 809) (by decide +kernel)) rfl
theorem l9_57 : Cond.methodLink RX9 57 yX9_skipBlanks ∈ aw := aw_w (List.mem_of_getElem? (i := 816) (by decide +kernel)) rfl
theorem l9_60 : Cond.methodLink RX9 60 yX9_scan ∈ aw := aw_w (List.mem_of_getElem? (i := 820) (by decide +kernel)) rfl
theorem l9_73 : Cond.methodLink RX9 73 yX9_isDigit ∈ aw := aw_w (List.mem_of_getElem? (i := 824) (by decide +kernel)) rfl
theorem l9_77 : Cond.methodLink RX9 77 yX9_scanNumber ∈ aw := aw_w (List.mem_of_getElem? (i := 827) (by decide +kernel)) rfl
theorem l9_80 : Cond.methodLink RX9 80 yX9_isLetter ∈ aw := aw_w (List.mem_of_getElem? (i := 833) (by decide +kernel)) rfl
theorem l9_86 : Cond.methodLink RX9 86 yX8_spelled ∈ aw := aw_w (List.mem_of_getElem? (i := 838) (by decide +kernel)) rfl
theorem l8_129 : Cond.methodLink RX8 129 yX8_isSpelled ∈ aw := aw_w (List.mem_of_getElem? (i := 843) (by decide +kernel)) rfl
theorem l9_67 : Cond.methodLink RX9 67 yX9_next ∈ aw := aw_w (List.mem_of_getElem? (i := 896) (by decide +kernel)) rfl
theorem l3_52 : Cond.methodLink RX3 52 yX3_take ∈ aw := aw_w (List.mem_of_getElem? (i := 902) (by decide +kernel)) rfl
theorem l3_72 : Cond.methodLink RX3 72 yX3_stands ∈ aw := aw_w (List.mem_of_getElem? (i := 906) (by decide +kernel)) rfl
theorem l3_96 : Cond.methodLink RX3 96 yX9_next ∈ aw := aw_w (List.mem_of_getElem? (i := 910) (by decide +kernel)) rfl
theorem l3_99 : Cond.methodLink RX3 99 yX3_fail ∈ aw := aw_w (List.mem_of_getElem? (i := 911) (by decide +kernel)) rfl
theorem l3_56 : Cond.methodLink RX3 56 yX3_takeNumber ∈ aw := aw_w (List.mem_of_getElem? (i := 916) (by decide +kernel)) rfl
theorem l3_76 : Cond.methodLink RX3 76 yX3_readLine ∈ aw := aw_w (List.mem_of_getElem? (i := 924) (by decide +kernel)) rfl
theorem l3_111 : Cond.methodLink RX3 111 yX3_readWord ∈ aw := aw_w (List.mem_of_getElem? (i := 930) (by decide +kernel)) rfl
theorem l3_132 : Cond.methodLink RX3 132 yX3_takeIf ∈ aw := aw_w (List.mem_of_getElem? (i := 936) (by decide +kernel)) rfl
theorem l3_120 : Cond.methodLink RX3 120 yX3_readChest ∈ aw := aw_w (List.mem_of_getElem? (i := 948) (by decide +kernel)) rfl
theorem l3_126 : Cond.methodLink RX3 126 yX3_readLamp ∈ aw := aw_w (List.mem_of_getElem? (i := 954) (by decide +kernel)) rfl
theorem l3_156 : Cond.methodLink RX3 156 yX4_addLamp ∈ aw := aw_w (List.mem_of_getElem? (i := 958) (by decide +kernel)) rfl
theorem l3_80 : Cond.methodLink RX3 80 yX3_readTruth ∈ aw := aw_w (List.mem_of_getElem? (i := 966) (by decide +kernel)) rfl
theorem l3_194 : Cond.methodLink RX3 194 yX3_readUnit ∈ aw := aw_w (List.mem_of_getElem? (i := 970) (by decide +kernel)) rfl
theorem l3_210 : Cond.methodLink RX3 210 yX3_mayNest ∈ aw := aw_w (List.mem_of_getElem? (i := 976) (by decide +kernel)) rfl
theorem l3_203 : Cond.methodLink RX3 203 yX3_emit ∈ aw := aw_w (List.mem_of_getElem? (i := 980) (by decide +kernel)) rfl
theorem l3_220 : Cond.methodLink RX3 220 yX3_readSum ∈ aw := aw_w (List.mem_of_getElem? (i := 988) (by decide +kernel)) rfl
theorem l3_236 : Cond.methodLink RX3 236 yX3_readAtom ∈ aw := aw_w (List.mem_of_getElem? (i := 992) (by decide +kernel)) rfl
theorem l3_251 : Cond.methodLink RX3 251 yX3_noteRead ∈ aw := aw_w (List.mem_of_getElem? (i := 998) (by decide +kernel)) rfl
theorem l3_223 : Cond.methodLink RX3 223 yX3_readSign ∈ aw := aw_w (List.mem_of_getElem? (i := 1021) (by decide +kernel)) rfl
theorem l3_84 : Cond.methodLink RX3 84 yX3_endWord ∈ aw := aw_w (List.mem_of_getElem? (i := 1035) (by decide +kernel)) rfl
theorem l11_104 : Cond.methodLink RX11 104 yX6_open ∈ aw := aw_w (List.mem_of_getElem? (i := 1039) (by decide +kernel)) rfl
theorem l6_29 : Cond.methodLink RX6 29 yX7_begin ∈ aw := aw_w (List.mem_of_getElem? (i := 1043) (by decide +kernel)) rfl
theorem l7_59 : Cond.methodLink RX7 59 yX7_learn ∈ aw := aw_w (List.mem_of_getElem? (i := 1047) (by decide +kernel)) rfl
theorem l7_72 : Cond.methodLink RX7 72 yX5_face ∈ aw := aw_w (List.mem_of_getElem? (i := 1051) (by decide +kernel)) rfl
theorem l5_34 : Cond.methodLink RX5 34 yX4_byLamp ∈ aw := aw_w (List.mem_of_getElem? (i := 1056) (by decide +kernel)) rfl
theorem l7_78 : Cond.methodLink RX7 78 yX5_allTruths ∈ aw := aw_w (List.mem_of_getElem? (i := 1060) (by decide +kernel)) rfl
theorem l5_40 : Cond.methodLink RX5 40 yX5_isTrue ∈ aw := aw_w (List.mem_of_getElem? (i := 1064) (by decide +kernel)) rfl
theorem l5_50 : Cond.methodLink RX5 50 yX5_atom ∈ aw := aw_w (List.mem_of_getElem? (i := 1068) (by decide +kernel)) rfl
theorem l5_57 : Cond.methodLink RX5 57 yX5_someLooks ∈ aw := aw_w (List.mem_of_getElem? (i := 1072) (by decide +kernel)) rfl
theorem l5_61 : Cond.methodLink RX5 61 yX5_sumOfLooks ∈ aw := aw_w (List.mem_of_getElem? (i := 1076) (by decide +kernel)) rfl
theorem l5_65 : Cond.methodLink RX5 65 yX5_pairsAlike ∈ aw := aw_w (List.mem_of_getElem? (i := 1080) (by decide +kernel)) rfl
theorem l5_53 : Cond.methodLink RX5 53 yX5_join ∈ aw := aw_w (List.mem_of_getElem? (i := 1084) (by decide +kernel)) rfl
theorem l5_68 : Cond.methodLink RX5 68 yX5_kept ∈ aw := aw_w (List.mem_of_getElem? (i := 1087) (by decide +kernel)) rfl
theorem K5_72 : Cond.constantLong RX5 72 (1000000) ∈ aw := aw_w (List.mem_of_getElem? (i := 1090) (by decide +kernel)) rfl
theorem K5_74 : Cond.constant RX5 74 (1000000) ∈ aw := aw_w (List.mem_of_getElem? (i := 1091) (by decide +kernel)) rfl
theorem K5_75 : Cond.constantLong RX5 75 (-1000000) ∈ aw := aw_w (List.mem_of_getElem? (i := 1092) (by decide +kernel)) rfl
theorem K5_77 : Cond.constant RX5 77 (-1000000) ∈ aw := aw_w (List.mem_of_getElem? (i := 1093) (by decide +kernel)) rfl
theorem l7_64 : Cond.methodLink RX7 64 yX7_firstIn ∈ aw := aw_w (List.mem_of_getElem? (i := 1094) (by decide +kernel)) rfl
theorem l7_68 : Cond.methodLink RX7 68 yX7_setStake ∈ aw := aw_w (List.mem_of_getElem? (i := 1098) (by decide +kernel)) rfl
theorem lL_159 : Cond.methodLink RL 159 yL_mark ∈ aw := aw_w (List.mem_of_getElem? (i := 1102) (by decide +kernel)) rfl
theorem cL_19 : Cond.classLink RL 19 "java/util/NoSuchElementException" ∈ aw := aw_w (List.mem_of_getElem? (i := 1105) (by decide +kernel)) rfl
theorem lL_15 : Cond.methodLink RL 15 yX11_mark ∈ aw := aw_w (List.mem_of_getElem? (i := 1106) (by decide +kernel)) rfl
theorem l11_113 : Cond.methodLink RX11 113 yX11_needChest ∈ aw := aw_w (List.mem_of_getElem? (i := 1110) (by decide +kernel)) rfl
theorem c11_402 : Cond.classLink RX11 402 "java/util/NoSuchElementException" ∈ aw := aw_w (List.mem_of_getElem? (i := 1114) (by decide +kernel)) rfl
theorem l11_116 : Cond.methodLink RX11 116 yX11_needMark ∈ aw := aw_w (List.mem_of_getElem? (i := 1130) (by decide +kernel)) rfl
theorem l11_122 : Cond.methodLink RX11 122 yX7_markOf ∈ aw := aw_w (List.mem_of_getElem? (i := 1135) (by decide +kernel)) rfl
theorem l11_134 : Cond.methodLink RX11 134 yX4_byLamp ∈ aw := aw_w (List.mem_of_getElem? (i := 1139) (by decide +kernel)) rfl
theorem lL_163 : Cond.methodLink RL 163 yL_chest ∈ aw := aw_w (List.mem_of_getElem? (i := 1140) (by decide +kernel)) rfl
theorem lL_21 : Cond.methodLink RL 21 yX11_chest ∈ aw := aw_w (List.mem_of_getElem? (i := 1143) (by decide +kernel)) rfl
theorem l11_137 : Cond.methodLink RX11 137 yX11_needWhat ∈ aw := aw_w (List.mem_of_getElem? (i := 1147) (by decide +kernel)) rfl
theorem l11_145 : Cond.methodLink RX11 145 yX7_truth ∈ aw := aw_w (List.mem_of_getElem? (i := 1152) (by decide +kernel)) rfl
theorem lL_167 : Cond.methodLink RL 167 yL_word ∈ aw := aw_w (List.mem_of_getElem? (i := 1153) (by decide +kernel)) rfl
theorem lL_25 : Cond.methodLink RL 25 yX11_word ∈ aw := aw_w (List.mem_of_getElem? (i := 1156) (by decide +kernel)) rfl
theorem l11_157 : Cond.methodLink RX11 157 yX11_needWord ∈ aw := aw_w (List.mem_of_getElem? (i := 1160) (by decide +kernel)) rfl
theorem lL_170 : Cond.methodLink RL 170 yL_holds ∈ aw := aw_w (List.mem_of_getElem? (i := 1165) (by decide +kernel)) rfl
theorem lL_28 : Cond.methodLink RL 28 yX11_holds ∈ aw := aw_w (List.mem_of_getElem? (i := 1168) (by decide +kernel)) rfl
theorem lL_173 : Cond.methodLink RL 173 yL_fits ∈ aw := aw_w (List.mem_of_getElem? (i := 1172) (by decide +kernel)) rfl
theorem lL_32 : Cond.methodLink RL 32 yX11_fits ∈ aw := aw_w (List.mem_of_getElem? (i := 1175) (by decide +kernel)) rfl
theorem l11_177 : Cond.methodLink RX11 177 yX11_needDescription ∈ aw := aw_w (List.mem_of_getElem? (i := 1179) (by decide +kernel)) rfl
theorem l11_362 : Cond.methodLink RX11 362 yX4_allWords ∈ aw := aw_w (List.mem_of_getElem? (i := 1183) (by decide +kernel)) rfl
theorem l11_180 : Cond.methodLink RX11 180 yX7_fitted ∈ aw := aw_w (List.mem_of_getElem? (i := 1185) (by decide +kernel)) rfl
theorem lL_176 : Cond.methodLink RL 176 yL_tells ∈ aw := aw_w (List.mem_of_getElem? (i := 1186) (by decide +kernel)) rfl
theorem lL_35 : Cond.methodLink RL 35 yX11_tells ∈ aw := aw_w (List.mem_of_getElem? (i := 1189) (by decide +kernel)) rfl
theorem l11_183 : Cond.methodLink RX11 183 yX7_toldBy ∈ aw := aw_w (List.mem_of_getElem? (i := 1193) (by decide +kernel)) rfl
theorem lL_179 : Cond.methodLink RL 179 yL_cost ∈ aw := aw_w (List.mem_of_getElem? (i := 1194) (by decide +kernel)) rfl
theorem lL_38 : Cond.methodLink RL 38 yX11_cost ∈ aw := aw_w (List.mem_of_getElem? (i := 1197) (by decide +kernel)) rfl
theorem l11_186 : Cond.methodLink RX11 186 yX7_costOf ∈ aw := aw_w (List.mem_of_getElem? (i := 1201) (by decide +kernel)) rfl
theorem lL_182 : Cond.methodLink RL 182 yL_least ∈ aw := aw_w (List.mem_of_getElem? (i := 1202) (by decide +kernel)) rfl
theorem cL_44 : Cond.classLink RL 44 "java/lang/IllegalStateException" ∈ aw := aw_w (List.mem_of_getElem? (i := 1205) (by decide +kernel)) rfl
theorem lL_41 : Cond.methodLink RL 41 yX11_least ∈ aw := aw_w (List.mem_of_getElem? (i := 1206) (by decide +kernel)) rfl
theorem l11_190 : Cond.methodLink RX11 190 yX11_needChestIn ∈ aw := aw_w (List.mem_of_getElem? (i := 1210) (by decide +kernel)) rfl
theorem c11_310 : Cond.classLink RX11 310 "java/lang/IllegalStateException" ∈ aw := aw_w (List.mem_of_getElem? (i := 1214) (by decide +kernel)) rfl
theorem l11_197 : Cond.methodLink RX11 197 yX1_numberIn ∈ aw := aw_w (List.mem_of_getElem? (i := 1230) (by decide +kernel)) rfl
theorem K1_24 : Cond.constantLong RX1 24 (1048575) ∈ aw := aw_w (List.mem_of_getElem? (i := 1233) (by decide +kernel)) rfl
theorem lL_185 : Cond.methodLink RL 185 yL_blind ∈ aw := aw_w (List.mem_of_getElem? (i := 1234) (by decide +kernel)) rfl
theorem lL_46 : Cond.methodLink RL 46 yX11_blind ∈ aw := aw_w (List.mem_of_getElem? (i := 1237) (by decide +kernel)) rfl
theorem lL_188 : Cond.methodLink RL 188 yL_sure ∈ aw := aw_w (List.mem_of_getElem? (i := 1241) (by decide +kernel)) rfl
theorem lL_49 : Cond.methodLink RL 49 yX11_sure ∈ aw := aw_w (List.mem_of_getElem? (i := 1244) (by decide +kernel)) rfl
theorem l11_201 : Cond.methodLink RX11 201 yX1_cheapestByAnyLight ∈ aw := aw_w (List.mem_of_getElem? (i := 1248) (by decide +kernel)) rfl
theorem lL_191 : Cond.methodLink RL 191 yL_price ∈ aw := aw_w (List.mem_of_getElem? (i := 1252) (by decide +kernel)) rfl
theorem lL_52 : Cond.methodLink RL 52 yX11_price ∈ aw := aw_w (List.mem_of_getElem? (i := 1255) (by decide +kernel)) rfl
theorem lL_198 : Cond.methodLink RL 198 yL_ways ∈ aw := aw_w (List.mem_of_getElem? (i := 1259) (by decide +kernel)) rfl
theorem lL_55 : Cond.methodLink RL 55 yX11_ways ∈ aw := aw_w (List.mem_of_getElem? (i := 1262) (by decide +kernel)) rfl
theorem l11_212 : Cond.methodLink RX11 212 yX1_tellingBelow ∈ aw := aw_w (List.mem_of_getElem? (i := 1266) (by decide +kernel)) rfl
theorem lL_201 : Cond.methodLink RL 201 yL_rank ∈ aw := aw_w (List.mem_of_getElem? (i := 1270) (by decide +kernel)) rfl
theorem lL_58 : Cond.methodLink RL 58 yX11_rank ∈ aw := aw_w (List.mem_of_getElem? (i := 1273) (by decide +kernel)) rfl
theorem lL_204 : Cond.methodLink RL 204 yL_shorter ∈ aw := aw_w (List.mem_of_getElem? (i := 1277) (by decide +kernel)) rfl
theorem lL_61 : Cond.methodLink RL 61 yX11_shorter ∈ aw := aw_w (List.mem_of_getElem? (i := 1280) (by decide +kernel)) rfl
theorem lL_207 : Cond.methodLink RL 207 yL_claim ∈ aw := aw_w (List.mem_of_getElem? (i := 1284) (by decide +kernel)) rfl
theorem lL_64 : Cond.methodLink RL 64 yX11_claim ∈ aw := aw_w (List.mem_of_getElem? (i := 1287) (by decide +kernel)) rfl
theorem l11_216 : Cond.methodLink RX11 216 yX11_needPerson ∈ aw := aw_w (List.mem_of_getElem? (i := 1291) (by decide +kernel)) rfl
theorem l11_219 : Cond.methodLink RX11 219 yX11_needStake ∈ aw := aw_w (List.mem_of_getElem? (i := 1296) (by decide +kernel)) rfl
theorem lL_210 : Cond.methodLink RL 210 yL_settle ∈ aw := aw_w (List.mem_of_getElem? (i := 1301) (by decide +kernel)) rfl
theorem lL_67 : Cond.methodLink RL 67 yX11_settle ∈ aw := aw_w (List.mem_of_getElem? (i := 1304) (by decide +kernel)) rfl
theorem l11_231 : Cond.methodLink RX11 231 yX7_settleClaims ∈ aw := aw_w (List.mem_of_getElem? (i := 1308) (by decide +kernel)) rfl
theorem l7_126 : Cond.methodLink RX7 126 yX7_winning ∈ aw := aw_w (List.mem_of_getElem? (i := 1312) (by decide +kernel)) rfl
theorem l7_129 : Cond.methodLink RX7 129 yX7_nextIn ∈ aw := aw_w (List.mem_of_getElem? (i := 1313) (by decide +kernel)) rfl
theorem lL_218 : Cond.methodLink RL 218 yL_carry ∈ aw := aw_w (List.mem_of_getElem? (i := 1317) (by decide +kernel)) rfl
theorem lL_71 : Cond.methodLink RL 71 yX11_carry ∈ aw := aw_w (List.mem_of_getElem? (i := 1320) (by decide +kernel)) rfl
theorem l11_235 : Cond.methodLink RX11 235 yX7_carryChest ∈ aw := aw_w (List.mem_of_getElem? (i := 1324) (by decide +kernel)) rfl
theorem lL_221 : Cond.methodLink RL 221 yL_change ∈ aw := aw_w (List.mem_of_getElem? (i := 1328) (by decide +kernel)) rfl
theorem lL_74 : Cond.methodLink RL 74 yX11_change ∈ aw := aw_w (List.mem_of_getElem? (i := 1331) (by decide +kernel)) rfl
theorem l11_240 : Cond.methodLink RX11 240 yX7_setMark ∈ aw := aw_w (List.mem_of_getElem? (i := 1336) (by decide +kernel)) rfl
theorem l11_244 : Cond.methodLink RX11 244 yX7_learn ∈ aw := aw_w (List.mem_of_getElem? (i := 1340) (by decide +kernel)) rfl
theorem lL_225 : Cond.methodLink RL 225 yL_stake ∈ aw := aw_w (List.mem_of_getElem? (i := 1341) (by decide +kernel)) rfl
theorem lL_78 : Cond.methodLink RL 78 yX11_stake ∈ aw := aw_w (List.mem_of_getElem? (i := 1344) (by decide +kernel)) rfl
theorem l11_248 : Cond.methodLink RX11 248 yX7_setStake ∈ aw := aw_w (List.mem_of_getElem? (i := 1348) (by decide +kernel)) rfl
theorem lL_228 : Cond.methodLink RL 228 yL_person ∈ aw := aw_w (List.mem_of_getElem? (i := 1349) (by decide +kernel)) rfl
theorem lL_81 : Cond.methodLink RL 81 yX11_person ∈ aw := aw_w (List.mem_of_getElem? (i := 1352) (by decide +kernel)) rfl
theorem lL_235 : Cond.methodLink RL 235 yL_undo ∈ aw := aw_w (List.mem_of_getElem? (i := 1356) (by decide +kernel)) rfl
theorem lL_84 : Cond.methodLink RL 84 yX11_undo ∈ aw := aw_w (List.mem_of_getElem? (i := 1359) (by decide +kernel)) rfl
theorem l11_262 : Cond.methodLink RX11 262 yX6_goBack ∈ aw := aw_w (List.mem_of_getElem? (i := 1364) (by decide +kernel)) rfl
theorem lL_238 : Cond.methodLink RL 238 yL_judge ∈ aw := aw_w (List.mem_of_getElem? (i := 1371) (by decide +kernel)) rfl
theorem lL_87 : Cond.methodLink RL 87 yX11_judge ∈ aw := aw_w (List.mem_of_getElem? (i := 1374) (by decide +kernel)) rfl
theorem l11_265 : Cond.methodLink RX11 265 yX11_needFilledTray ∈ aw := aw_w (List.mem_of_getElem? (i := 1378) (by decide +kernel)) rfl
theorem l11_368 : Cond.methodLink RX11 368 yX11_needTray ∈ aw := aw_w (List.mem_of_getElem? (i := 1382) (by decide +kernel)) rfl
theorem l11_269 : Cond.methodLink RX11 269 yX7_takeFrom ∈ aw := aw_w (List.mem_of_getElem? (i := 1388) (by decide +kernel)) rfl
theorem l11_280 : Cond.methodLink RX11 280 yX11_canBe ∈ aw := aw_w (List.mem_of_getElem? (i := 1389) (by decide +kernel)) rfl
theorem K11_291 : Cond.constantLong RX11 291 (1400) ∈ aw := aw_w (List.mem_of_getElem? (i := 1393) (by decide +kernel)) rfl
theorem K11_293 : Cond.constantLong RX11 293 (100) ∈ aw := aw_w (List.mem_of_getElem? (i := 1394) (by decide +kernel)) rfl
theorem K11_295 : Cond.constantLong RX11 295 (10) ∈ aw := aw_w (List.mem_of_getElem? (i := 1395) (by decide +kernel)) rfl
theorem K11_300 : Cond.constantLong RX11 300 (2000) ∈ aw := aw_w (List.mem_of_getElem? (i := 1396) (by decide +kernel)) rfl
theorem K11_302 : Cond.constantLong RX11 302 (2014) ∈ aw := aw_w (List.mem_of_getElem? (i := 1397) (by decide +kernel)) rfl
theorem K11_304 : Cond.constantLong RX11 304 (3000) ∈ aw := aw_w (List.mem_of_getElem? (i := 1398) (by decide +kernel)) rfl
theorem K11_306 : Cond.constantLong RX11 306 (-1) ∈ aw := aw_w (List.mem_of_getElem? (i := 1399) (by decide +kernel)) rfl
theorem l11_284 : Cond.methodLink RX11 284 yX11_doTold ∈ aw := aw_w (List.mem_of_getElem? (i := 1400) (by decide +kernel)) rfl
theorem lL_241 : Cond.methodLink RL 241 yL_perform ∈ aw := aw_w (List.mem_of_getElem? (i := 1404) (by decide +kernel)) rfl
theorem lL_90 : Cond.methodLink RL 90 yX11_perform ∈ aw := aw_w (List.mem_of_getElem? (i := 1407) (by decide +kernel)) rfl
theorem lL_244 : Cond.methodLink RL 244 yL_night ∈ aw := aw_w (List.mem_of_getElem? (i := 1411) (by decide +kernel)) rfl
theorem lL_93 : Cond.methodLink RL 93 yX11_night ∈ aw := aw_w (List.mem_of_getElem? (i := 1414) (by decide +kernel)) rfl
theorem l11_315 : Cond.methodLink RX11 315 yX11_afterDraw ∈ aw := aw_w (List.mem_of_getElem? (i := 1420) (by decide +kernel)) rfl
theorem K11_318 : Cond.constant RX11 318 (1103515245) ∈ aw := aw_w (List.mem_of_getElem? (i := 1423) (by decide +kernel)) rfl
theorem lL_247 : Cond.methodLink RL 247 yL_hardened ∈ aw := aw_w (List.mem_of_getElem? (i := 1424) (by decide +kernel)) rfl
theorem lL_96 : Cond.methodLink RL 96 yX11_hardened ∈ aw := aw_w (List.mem_of_getElem? (i := 1427) (by decide +kernel)) rfl
theorem l11_319 : Cond.methodLink RX11 319 yX4_allChests ∈ aw := aw_w (List.mem_of_getElem? (i := 1431) (by decide +kernel)) rfl
theorem l11_327 : Cond.methodLink RX11 327 yX1_fewestThatHarden ∈ aw := aw_w (List.mem_of_getElem? (i := 1437) (by decide +kernel)) rfl
theorem l1_69 : Cond.methodLink RX1 69 yX4_allChests ∈ aw := aw_w (List.mem_of_getElem? (i := 1441) (by decide +kernel)) rfl
theorem l1_77 : Cond.methodLink RX1 77 yX1_isHard ∈ aw := aw_w (List.mem_of_getElem? (i := 1443) (by decide +kernel)) rfl
theorem lL_254 : Cond.methodLink RL 254 yL_asking ∈ aw := aw_w (List.mem_of_getElem? (i := 1447) (by decide +kernel)) rfl
theorem lL_99 : Cond.methodLink RL 99 yX11_asking ∈ aw := aw_w (List.mem_of_getElem? (i := 1450) (by decide +kernel)) rfl
theorem l11_334 : Cond.methodLink RX11 334 yX0_questions ∈ aw := aw_w (List.mem_of_getElem? (i := 1454) (by decide +kernel)) rfl
theorem l0_51 : Cond.methodLink RX0 51 yX0_begin ∈ aw := aw_w (List.mem_of_getElem? (i := 1458) (by decide +kernel)) rfl
theorem l0_78 : Cond.methodLink RX0 78 yX7_holders ∈ aw := aw_w (List.mem_of_getElem? (i := 1465) (by decide +kernel)) rfl
theorem l0_59 : Cond.methodLink RX0 59 yX0_needed ∈ aw := aw_w (List.mem_of_getElem? (i := 1466) (by decide +kernel)) rfl
theorem l0_80 : Cond.methodLink RX0 80 yX0_leastNeeded ∈ aw := aw_w (List.mem_of_getElem? (i := 1470) (by decide +kernel)) rfl
theorem l11_337 : Cond.methodLink RX11 337 yX0_firstQuestion ∈ aw := aw_w (List.mem_of_getElem? (i := 1479) (by decide +kernel)) rfl
theorem lL_257 : Cond.methodLink RL 257 yL_fresh ∈ aw := aw_w (List.mem_of_getElem? (i := 1483) (by decide +kernel)) rfl
theorem lL_102 : Cond.methodLink RL 102 yX11_fresh ∈ aw := aw_w (List.mem_of_getElem? (i := 1486) (by decide +kernel)) rfl
theorem l11_342 : Cond.methodLink RX11 342 yX2_make ∈ aw := aw_w (List.mem_of_getElem? (i := 1490) (by decide +kernel)) rfl
theorem l2_36 : Cond.methodLink RX2 36 yX7_holders ∈ aw := aw_w (List.mem_of_getElem? (i := 1494) (by decide +kernel)) rfl
theorem l2_48 : Cond.methodLink RX2 48 yX5_face ∈ aw := aw_w (List.mem_of_getElem? (i := 1495) (by decide +kernel)) rfl
theorem l2_64 : Cond.methodLink RX2 64 yX2_stillAlike ∈ aw := aw_w (List.mem_of_getElem? (i := 1497) (by decide +kernel)) rfl
theorem l2_81 : Cond.methodLink RX2 81 yX5_isTrue ∈ aw := aw_w (List.mem_of_getElem? (i := 1501) (by decide +kernel)) rfl
theorem l2_68 : Cond.methodLink RX2 68 yX2_isMade ∈ aw := aw_w (List.mem_of_getElem? (i := 1502) (by decide +kernel)) rfl
theorem lL_272 : Cond.methodLink RL 272 yL_nearest ∈ aw := aw_w (List.mem_of_getElem? (i := 1506) (by decide +kernel)) rfl
theorem lL_105 : Cond.methodLink RL 105 yX11_nearest ∈ aw := aw_w (List.mem_of_getElem? (i := 1509) (by decide +kernel)) rfl
theorem lL_275 : Cond.methodLink RL 275 yL_differ ∈ aw := aw_w (List.mem_of_getElem? (i := 1513) (by decide +kernel)) rfl
theorem lL_108 : Cond.methodLink RL 108 yX11_differ ∈ aw := aw_w (List.mem_of_getElem? (i := 1516) (by decide +kernel)) rfl
theorem lL_278 : Cond.methodLink RL 278 yL_common ∈ aw := aw_w (List.mem_of_getElem? (i := 1520) (by decide +kernel)) rfl
theorem lL_111 : Cond.methodLink RL 111 yX11_common ∈ aw := aw_w (List.mem_of_getElem? (i := 1523) (by decide +kernel)) rfl
theorem lL_285 : Cond.methodLink RL 285 yL_greedy ∈ aw := aw_w (List.mem_of_getElem? (i := 1528) (by decide +kernel)) rfl
theorem lL_114 : Cond.methodLink RL 114 yX11_greedy ∈ aw := aw_w (List.mem_of_getElem? (i := 1531) (by decide +kernel)) rfl
theorem l11_365 : Cond.methodLink RX11 365 yX1_wordByWord ∈ aw := aw_w (List.mem_of_getElem? (i := 1535) (by decide +kernel)) rfl
theorem l1_81 : Cond.methodLink RX1 81 yX1_sharpest ∈ aw := aw_w (List.mem_of_getElem? (i := 1539) (by decide +kernel)) rfl
theorem lL_288 : Cond.methodLink RL 288 yL_tray ∈ aw := aw_w (List.mem_of_getElem? (i := 1543) (by decide +kernel)) rfl
theorem lL_117 : Cond.methodLink RL 117 yX11_tray ∈ aw := aw_w (List.mem_of_getElem? (i := 1546) (by decide +kernel)) rfl
theorem l11_373 : Cond.methodLink RX11 373 yX10_lay ∈ aw := aw_w (List.mem_of_getElem? (i := 1551) (by decide +kernel)) rfl
theorem lL_294 : Cond.methodLink RL 294 yL_write ∈ aw := aw_w (List.mem_of_getElem? (i := 1556) (by decide +kernel)) rfl
theorem cL_125 : Cond.classLink RL 125 "java/lang/IndexOutOfBoundsException" ∈ aw := aw_w (List.mem_of_getElem? (i := 1559) (by decide +kernel)) rfl
theorem lL_121 : Cond.methodLink RL 121 yX11_write ∈ aw := aw_w (List.mem_of_getElem? (i := 1560) (by decide +kernel)) rfl
theorem c11_376 : Cond.classLink RX11 376 "java/lang/IndexOutOfBoundsException" ∈ aw := aw_w (List.mem_of_getElem? (i := 1564) (by decide +kernel)) rfl
theorem l11_381 : Cond.methodLink RX11 381 yX10_cut ∈ aw := aw_w (List.mem_of_getElem? (i := 1580) (by decide +kernel)) rfl
theorem lL_298 : Cond.methodLink RL 298 yL_copy ∈ aw := aw_w (List.mem_of_getElem? (i := 1584) (by decide +kernel)) rfl
theorem lL_127 : Cond.methodLink RL 127 yX11_copy ∈ aw := aw_w (List.mem_of_getElem? (i := 1587) (by decide +kernel)) rfl
theorem lL_301 : Cond.methodLink RL 301 yL_image ∈ aw := aw_w (List.mem_of_getElem? (i := 1591) (by decide +kernel)) rfl
theorem lL_130 : Cond.methodLink RL 130 yX11_image ∈ aw := aw_w (List.mem_of_getElem? (i := 1594) (by decide +kernel)) rfl
theorem l11_385 : Cond.methodLink RX11 385 yX11_needImage ∈ aw := aw_w (List.mem_of_getElem? (i := 1598) (by decide +kernel)) rfl
theorem l11_388 : Cond.methodLink RX11 388 yX6_takeFrom ∈ aw := aw_w (List.mem_of_getElem? (i := 1603) (by decide +kernel)) rfl
theorem lL_305 : Cond.methodLink RL 305 yL_restore ∈ aw := aw_w (List.mem_of_getElem? (i := 1607) (by decide +kernel)) rfl
theorem lL_134 : Cond.methodLink RL 134 yX11_restore ∈ aw := aw_w (List.mem_of_getElem? (i := 1610) (by decide +kernel)) rfl
theorem cL_138 : Cond.classLink RL 138 RX12 ∈ aw := aw_w (List.mem_of_getElem? (i := 1615) (by decide +kernel)) rfl
theorem lL_140 : Cond.methodLink RL 140 yX12_init ∈ aw := aw_w (List.mem_of_getElem? (i := 1617) (by decide +kernel)) rfl
theorem l12_64 : Cond.methodLink RX12 64 yX12_tellsNothing ∈ aw := aw_w (List.mem_of_getElem? (i := 1621) (by decide +kernel)) rfl
theorem f12_9 : Cond.fieldLink RX12 9 (fN 12 0).1 (fN 12 0).2.1 (fN 12 0).2.2.1 ∈ aw := aw_w (List.mem_of_getElem? (i := 1624) (by decide +kernel)) rfl
theorem f12_13 : Cond.fieldLink RX12 13 (fN 12 1).1 (fN 12 1).2.1 (fN 12 1).2.2.1 ∈ aw := aw_w (List.mem_of_getElem? (i := 1625) (by decide +kernel)) rfl
theorem f12_16 : Cond.fieldLink RX12 16 (fN 12 2).1 (fN 12 2).2.1 (fN 12 2).2.2.1 ∈ aw := aw_w (List.mem_of_getElem? (i := 1626) (by decide +kernel)) rfl
theorem f12_19 : Cond.fieldLink RX12 19 (fN 12 3).1 (fN 12 3).2.1 (fN 12 3).2.2.1 ∈ aw := aw_w (List.mem_of_getElem? (i := 1627) (by decide +kernel)) rfl
theorem f12_68 : Cond.fieldLink RX12 68 (fN 12 4).1 (fN 12 4).2.1 (fN 12 4).2.2.1 ∈ aw := aw_w (List.mem_of_getElem? (i := 1628) (by decide +kernel)) rfl
theorem f12_23 : Cond.fieldLink RX12 23 (fN 12 5).1 (fN 12 5).2.1 (fN 12 5).2.2.1 ∈ aw := aw_w (List.mem_of_getElem? (i := 1629) (by decide +kernel)) rfl
theorem f12_71 : Cond.fieldLink RX12 71 (fN 12 6).1 (fN 12 6).2.1 (fN 12 6).2.2.1 ∈ aw := aw_w (List.mem_of_getElem? (i := 1630) (by decide +kernel)) rfl
theorem f12_74 : Cond.fieldLink RX12 74 (fN 12 7).1 (fN 12 7).2.1 (fN 12 7).2.2.1 ∈ aw := aw_w (List.mem_of_getElem? (i := 1631) (by decide +kernel)) rfl
theorem f12_77 : Cond.fieldLink RX12 77 (fN 12 8).1 (fN 12 8).2.1 (fN 12 8).2.2.1 ∈ aw := aw_w (List.mem_of_getElem? (i := 1632) (by decide +kernel)) rfl
theorem f12_80 : Cond.fieldLink RX12 80 (fN 12 9).1 (fN 12 9).2.1 (fN 12 9).2.2.1 ∈ aw := aw_w (List.mem_of_getElem? (i := 1633) (by decide +kernel)) rfl
theorem f12_83 : Cond.fieldLink RX12 83 (fN 12 10).1 (fN 12 10).2.1 (fN 12 10).2.2.1 ∈ aw := aw_w (List.mem_of_getElem? (i := 1634) (by decide +kernel)) rfl
theorem f12_97 : Cond.fieldLink RX12 97 (fN 12 11).1 (fN 12 11).2.1 (fN 12 11).2.2.1 ∈ aw := aw_w (List.mem_of_getElem? (i := 1635) (by decide +kernel)) rfl
theorem f12_103 : Cond.fieldLink RX12 103 (fN 12 12).1 (fN 12 12).2.1 (fN 12 12).2.2.1 ∈ aw := aw_w (List.mem_of_getElem? (i := 1636) (by decide +kernel)) rfl
theorem f12_106 : Cond.fieldLink RX12 106 (fN 12 13).1 (fN 12 13).2.1 (fN 12 13).2.2.1 ∈ aw := aw_w (List.mem_of_getElem? (i := 1637) (by decide +kernel)) rfl
theorem f12_236 : Cond.fieldLink RX12 236 (fN 12 14).1 (fN 12 14).2.1 (fN 12 14).2.2.1 ∈ aw := aw_w (List.mem_of_getElem? (i := 1638) (by decide +kernel)) rfl
theorem f12_26 : Cond.fieldLink RX12 26 (fN 12 15).1 (fN 12 15).2.1 (fN 12 15).2.2.1 ∈ aw := aw_w (List.mem_of_getElem? (i := 1639) (by decide +kernel)) rfl
theorem f12_136 : Cond.fieldLink RX12 136 (fN 12 16).1 (fN 12 16).2.1 (fN 12 16).2.2.1 ∈ aw := aw_w (List.mem_of_getElem? (i := 1640) (by decide +kernel)) rfl
theorem f12_30 : Cond.fieldLink RX12 30 (fN 12 17).1 (fN 12 17).2.1 (fN 12 17).2.2.1 ∈ aw := aw_w (List.mem_of_getElem? (i := 1641) (by decide +kernel)) rfl
theorem f12_33 : Cond.fieldLink RX12 33 (fN 12 18).1 (fN 12 18).2.1 (fN 12 18).2.2.1 ∈ aw := aw_w (List.mem_of_getElem? (i := 1642) (by decide +kernel)) rfl
theorem f12_273 : Cond.fieldLink RX12 273 (fN 12 19).1 (fN 12 19).2.1 (fN 12 19).2.2.1 ∈ aw := aw_w (List.mem_of_getElem? (i := 1643) (by decide +kernel)) rfl
theorem f12_36 : Cond.fieldLink RX12 36 (fN 12 20).1 (fN 12 20).2.1 (fN 12 20).2.2.1 ∈ aw := aw_w (List.mem_of_getElem? (i := 1644) (by decide +kernel)) rfl
theorem f12_39 : Cond.fieldLink RX12 39 (fN 12 21).1 (fN 12 21).2.1 (fN 12 21).2.2.1 ∈ aw := aw_w (List.mem_of_getElem? (i := 1645) (by decide +kernel)) rfl
theorem f12_42 : Cond.fieldLink RX12 42 (fN 12 22).1 (fN 12 22).2.1 (fN 12 22).2.2.1 ∈ aw := aw_w (List.mem_of_getElem? (i := 1646) (by decide +kernel)) rfl
theorem f12_45 : Cond.fieldLink RX12 45 (fN 12 23).1 (fN 12 23).2.1 (fN 12 23).2.2.1 ∈ aw := aw_w (List.mem_of_getElem? (i := 1647) (by decide +kernel)) rfl
theorem f12_414 : Cond.fieldLink RX12 414 (fN 12 24).1 (fN 12 24).2.1 (fN 12 24).2.2.1 ∈ aw := aw_w (List.mem_of_getElem? (i := 1648) (by decide +kernel)) rfl
theorem f12_48 : Cond.fieldLink RX12 48 (fN 12 25).1 (fN 12 25).2.1 (fN 12 25).2.2.1 ∈ aw := aw_w (List.mem_of_getElem? (i := 1649) (by decide +kernel)) rfl
theorem f12_51 : Cond.fieldLink RX12 51 (fN 12 26).1 (fN 12 26).2.1 (fN 12 26).2.2.1 ∈ aw := aw_w (List.mem_of_getElem? (i := 1650) (by decide +kernel)) rfl
theorem f12_54 : Cond.fieldLink RX12 54 (fN 12 27).1 (fN 12 27).2.1 (fN 12 27).2.2.1 ∈ aw := aw_w (List.mem_of_getElem? (i := 1651) (by decide +kernel)) rfl
theorem f12_57 : Cond.fieldLink RX12 57 (fN 12 28).1 (fN 12 28).2.1 (fN 12 28).2.2.1 ∈ aw := aw_w (List.mem_of_getElem? (i := 1652) (by decide +kernel)) rfl
theorem f12_60 : Cond.fieldLink RX12 60 (fN 12 29).1 (fN 12 29).2.1 (fN 12 29).2.2.1 ∈ aw := aw_w (List.mem_of_getElem? (i := 1653) (by decide +kernel)) rfl
theorem lL_152 : Cond.methodLink RL 152 yX12_thrown ∈ aw := aw_w (List.mem_of_getElem? (i := 1716) (by decide +kernel)) rfl
theorem lL_145 : Cond.methodLink RL 145 yX12_feed ∈ aw := aw_w (List.mem_of_getElem? (i := 1720) (by decide +kernel)) rfl
theorem lL_151 : Cond.methodLink RL 151 yX12_hall ∈ aw := aw_w (List.mem_of_getElem? (i := 1724) (by decide +kernel)) rfl
theorem l12_132 : Cond.methodLink RX12 132 yX12_within ∈ aw := aw_w (List.mem_of_getElem? (i := 1728) (by decide +kernel)) rfl
theorem l12_224 : Cond.methodLink RX12 224 yX12_fails ∈ aw := aw_w (List.mem_of_getElem? (i := 1731) (by decide +kernel)) rfl
theorem l12_122 : Cond.methodLink RX12 122 yX12_readsOn ∈ aw := aw_w (List.mem_of_getElem? (i := 1735) (by decide +kernel)) rfl
theorem l12_86 : Cond.methodLink RX12 86 yX12_isLetter ∈ aw := aw_w (List.mem_of_getElem? (i := 1739) (by decide +kernel)) rfl
theorem l12_90 : Cond.methodLink RX12 90 yX12_see ∈ aw := aw_w (List.mem_of_getElem? (i := 1742) (by decide +kernel)) rfl
theorem l12_94 : Cond.methodLink RX12 94 yX12_isDigit ∈ aw := aw_w (List.mem_of_getElem? (i := 1746) (by decide +kernel)) rfl
theorem l12_100 : Cond.methodLink RX12 100 yX12_isSignByte ∈ aw := aw_w (List.mem_of_getElem? (i := 1749) (by decide +kernel)) rfl
theorem l12_229 : Cond.methodLink RX12 229 yX12_mustWord ∈ aw := aw_w (List.mem_of_getElem? (i := 1753) (by decide +kernel)) rfl
theorem l12_125 : Cond.methodLink RX12 125 yX12_took ∈ aw := aw_w (List.mem_of_getElem? (i := 1757) (by decide +kernel)) rfl
theorem l12_118 : Cond.methodLink RX12 118 yX12_isWord ∈ aw := aw_w (List.mem_of_getElem? (i := 1761) (by decide +kernel)) rfl
theorem l12_128 : Cond.methodLink RX12 128 yX12_blames ∈ aw := aw_w (List.mem_of_getElem? (i := 1767) (by decide +kernel)) rfl
theorem l12_177 : Cond.methodLink RX12 177 yX12_number ∈ aw := aw_w (List.mem_of_getElem? (i := 1771) (by decide +kernel)) rfl
theorem l12_221 : Cond.methodLink RX12 221 yX12_readStop ∈ aw := aw_w (List.mem_of_getElem? (i := 1775) (by decide +kernel)) rfl
theorem l12_163 : Cond.methodLink RX12 163 yX12_mustSign ∈ aw := aw_w (List.mem_of_getElem? (i := 1779) (by decide +kernel)) rfl
theorem l12_233 : Cond.methodLink RX12 233 yX12_readLine ∈ aw := aw_w (List.mem_of_getElem? (i := 1783) (by decide +kernel)) rfl
theorem l12_201 : Cond.methodLink RX12 201 yX12_readChest ∈ aw := aw_w (List.mem_of_getElem? (i := 1788) (by decide +kernel)) rfl
theorem l12_191 : Cond.methodLink RX12 191 yX12_begins ∈ aw := aw_w (List.mem_of_getElem? (i := 1792) (by decide +kernel)) rfl
theorem l12_209 : Cond.methodLink RX12 209 yX12_readHallWord ∈ aw := aw_w (List.mem_of_getElem? (i := 1798) (by decide +kernel)) rfl
theorem l12_160 : Cond.methodLink RX12 160 yX12_readTruth ∈ aw := aw_w (List.mem_of_getElem? (i := 1804) (by decide +kernel)) rfl
theorem l12_139 : Cond.methodLink RX12 139 yX12_readBoth ∈ aw := aw_w (List.mem_of_getElem? (i := 1808) (by decide +kernel)) rfl
theorem l12_147 : Cond.methodLink RX12 147 yX12_readUnit ∈ aw := aw_w (List.mem_of_getElem? (i := 1812) (by decide +kernel)) rfl
theorem l12_154 : Cond.methodLink RX12 154 yX12_goesIn ∈ aw := aw_w (List.mem_of_getElem? (i := 1817) (by decide +kernel)) rfl
theorem l12_144 : Cond.methodLink RX12 144 yX12_laysStep ∈ aw := aw_w (List.mem_of_getElem? (i := 1821) (by decide +kernel)) rfl
theorem l12_157 : Cond.methodLink RX12 157 yX12_isSign ∈ aw := aw_w (List.mem_of_getElem? (i := 1825) (by decide +kernel)) rfl
theorem l12_166 : Cond.methodLink RX12 166 yX12_readSum ∈ aw := aw_w (List.mem_of_getElem? (i := 1829) (by decide +kernel)) rfl
theorem l12_169 : Cond.methodLink RX12 169 yX12_readTerm ∈ aw := aw_w (List.mem_of_getElem? (i := 1833) (by decide +kernel)) rfl
theorem l12_172 : Cond.methodLink RX12 172 yX12_readAtom ∈ aw := aw_w (List.mem_of_getElem? (i := 1837) (by decide +kernel)) rfl
theorem l12_188 : Cond.methodLink RX12 188 yX12_wordStep ∈ aw := aw_w (List.mem_of_getElem? (i := 1841) (by decide +kernel)) rfl
theorem l12_214 : Cond.methodLink RX12 214 yX12_readLamp ∈ aw := aw_w (List.mem_of_getElem? (i := 1853) (by decide +kernel)) rfl
theorem l12_239 : Cond.methodLink RX12 239 yX12_firstIn ∈ aw := aw_w (List.mem_of_getElem? (i := 1859) (by decide +kernel)) rfl
theorem l12_245 : Cond.methodLink RX12 245 yX12_chests ∈ aw := aw_w (List.mem_of_getElem? (i := 1863) (by decide +kernel)) rfl
theorem l12_250 : Cond.methodLink RX12 250 yX12_isIn ∈ aw := aw_w (List.mem_of_getElem? (i := 1867) (by decide +kernel)) rfl
theorem l12_248 : Cond.methodLink RX12 248 yX12_has ∈ aw := aw_w (List.mem_of_getElem? (i := 1871) (by decide +kernel)) rfl
theorem lL_158 : Cond.methodLink RL 158 yX12_fault ∈ aw := aw_w (List.mem_of_getElem? (i := 1874) (by decide +kernel)) rfl
theorem lL_162 : Cond.methodLink RL 162 yX12_mark ∈ aw := aw_w (List.mem_of_getElem? (i := 1878) (by decide +kernel)) rfl
theorem l12_297 : Cond.methodLink RX12 297 yX12_isChest ∈ aw := aw_w (List.mem_of_getElem? (i := 1882) (by decide +kernel)) rfl
theorem l12_301 : Cond.methodLink RX12 301 yX12_isMark ∈ aw := aw_w (List.mem_of_getElem? (i := 1886) (by decide +kernel)) rfl
theorem l12_286 : Cond.methodLink RX12 286 yX12_look ∈ aw := aw_w (List.mem_of_getElem? (i := 1890) (by decide +kernel)) rfl
theorem l12_253 : Cond.methodLink RX12 253 yX12_looksBy ∈ aw := aw_w (List.mem_of_getElem? (i := 1894) (by decide +kernel)) rfl
theorem lL_166 : Cond.methodLink RL 166 yX12_chest ∈ aw := aw_w (List.mem_of_getElem? (i := 1898) (by decide +kernel)) rfl
theorem K12_304 : Cond.constantLong RX12 304 (2) ∈ aw := aw_w (List.mem_of_getElem? (i := 1902) (by decide +kernel)) rfl
theorem l12_306 : Cond.methodLink RX12 306 yX12_laysHold ∈ aw := aw_w (List.mem_of_getElem? (i := 1903) (by decide +kernel)) rfl
theorem l12_293 : Cond.methodLink RX12 293 yX12_wordsOf ∈ aw := aw_w (List.mem_of_getElem? (i := 1907) (by decide +kernel)) rfl
theorem l12_290 : Cond.methodLink RX12 290 yX12_seenWords ∈ aw := aw_w (List.mem_of_getElem? (i := 1911) (by decide +kernel)) rfl
theorem l12_242 : Cond.methodLink RX12 242 yX12_words ∈ aw := aw_w (List.mem_of_getElem? (i := 1915) (by decide +kernel)) rfl
theorem l12_283 : Cond.methodLink RX12 283 yX12_holdsNow ∈ aw := aw_w (List.mem_of_getElem? (i := 1919) (by decide +kernel)) rfl
theorem l12_276 : Cond.methodLink RX12 276 yX12_plain ∈ aw := aw_w (List.mem_of_getElem? (i := 1923) (by decide +kernel)) rfl
theorem l12_279 : Cond.methodLink RX12 279 yX12_done ∈ aw := aw_w (List.mem_of_getElem? (i := 1927) (by decide +kernel)) rfl
theorem l12_269 : Cond.methodLink RX12 269 yX12_bound ∈ aw := aw_w (List.mem_of_getElem? (i := 1930) (by decide +kernel)) rfl
theorem K12_256 : Cond.constantLong RX12 256 (-1000000) ∈ aw := aw_w (List.mem_of_getElem? (i := 1933) (by decide +kernel)) rfl
theorem K12_258 : Cond.constantLong RX12 258 (1000000) ∈ aw := aw_w (List.mem_of_getElem? (i := 1934) (by decide +kernel)) rfl
theorem l12_309 : Cond.methodLink RX12 309 yX12_likeIt ∈ aw := aw_w (List.mem_of_getElem? (i := 1941) (by decide +kernel)) rfl
theorem lL_169 : Cond.methodLink RL 169 yX12_word ∈ aw := aw_w (List.mem_of_getElem? (i := 1945) (by decide +kernel)) rfl
theorem l12_312 : Cond.methodLink RX12 312 yX12_isHallWord ∈ aw := aw_w (List.mem_of_getElem? (i := 1949) (by decide +kernel)) rfl
theorem K12_315 : Cond.constantLong RX12 315 (3) ∈ aw := aw_w (List.mem_of_getElem? (i := 1953) (by decide +kernel)) rfl
theorem l12_317 : Cond.methodLink RX12 317 yX12_inBy ∈ aw := aw_w (List.mem_of_getElem? (i := 1954) (by decide +kernel)) rfl
theorem lL_172 : Cond.methodLink RL 172 yX12_holds ∈ aw := aw_w (List.mem_of_getElem? (i := 1958) (by decide +kernel)) rfl
theorem lL_175 : Cond.methodLink RL 175 yX12_fits ∈ aw := aw_w (List.mem_of_getElem? (i := 1962) (by decide +kernel)) rfl
theorem l12_333 : Cond.methodLink RX12 333 yX12_isDescription ∈ aw := aw_w (List.mem_of_getElem? (i := 1966) (by decide +kernel)) rfl
theorem l12_320 : Cond.methodLink RX12 320 yX12_allWords ∈ aw := aw_w (List.mem_of_getElem? (i := 1970) (by decide +kernel)) rfl
theorem l12_326 : Cond.methodLink RX12 326 yX12_fitsOf ∈ aw := aw_w (List.mem_of_getElem? (i := 1974) (by decide +kernel)) rfl
theorem l12_323 : Cond.methodLink RX12 323 yX12_fitsBy ∈ aw := aw_w (List.mem_of_getElem? (i := 1978) (by decide +kernel)) rfl
theorem lL_178 : Cond.methodLink RL 178 yX12_tells ∈ aw := aw_w (List.mem_of_getElem? (i := 1981) (by decide +kernel)) rfl
theorem l12_336 : Cond.methodLink RX12 336 yX12_toldBy ∈ aw := aw_w (List.mem_of_getElem? (i := 1985) (by decide +kernel)) rfl
theorem l12_330 : Cond.methodLink RX12 330 yX12_size ∈ aw := aw_w (List.mem_of_getElem? (i := 1989) (by decide +kernel)) rfl
theorem lL_181 : Cond.methodLink RL 181 yX12_cost ∈ aw := aw_w (List.mem_of_getElem? (i := 1992) (by decide +kernel)) rfl
theorem l12_339 : Cond.methodLink RX12 339 yX12_costOf ∈ aw := aw_w (List.mem_of_getElem? (i := 1996) (by decide +kernel)) rfl
theorem lL_184 : Cond.methodLink RL 184 yX12_least ∈ aw := aw_w (List.mem_of_getElem? (i := 2000) (by decide +kernel)) rfl
theorem l12_346 : Cond.methodLink RX12 346 yX12_chestFault ∈ aw := aw_w (List.mem_of_getElem? (i := 2004) (by decide +kernel)) rfl
theorem l12_349 : Cond.methodLink RX12 349 yX12_leastOf ∈ aw := aw_w (List.mem_of_getElem? (i := 2008) (by decide +kernel)) rfl
theorem K12_342 : Cond.constant RX12 342 (536870912) ∈ aw := aw_w (List.mem_of_getElem? (i := 2012) (by decide +kernel)) rfl
theorem l12_343 : Cond.methodLink RX12 343 yX12_described ∈ aw := aw_w (List.mem_of_getElem? (i := 2013) (by decide +kernel)) rfl
theorem lL_187 : Cond.methodLink RL 187 yX12_blind ∈ aw := aw_w (List.mem_of_getElem? (i := 2017) (by decide +kernel)) rfl
theorem lL_190 : Cond.methodLink RL 190 yX12_sure ∈ aw := aw_w (List.mem_of_getElem? (i := 2021) (by decide +kernel)) rfl
theorem lL_193 : Cond.methodLink RL 193 yX12_price ∈ aw := aw_w (List.mem_of_getElem? (i := 2025) (by decide +kernel)) rfl
theorem l12_352 : Cond.methodLink RX12 352 yX12_priceOf ∈ aw := aw_w (List.mem_of_getElem? (i := 2029) (by decide +kernel)) rfl
theorem lL_197 : Cond.methodLink RL 197 yX12_hardest ∈ aw := aw_w (List.mem_of_getElem? (i := 2033) (by decide +kernel)) rfl
theorem lL_200 : Cond.methodLink RL 200 yX12_ways ∈ aw := aw_w (List.mem_of_getElem? (i := 2037) (by decide +kernel)) rfl
theorem l12_355 : Cond.methodLink RX12 355 yX12_cheaper ∈ aw := aw_w (List.mem_of_getElem? (i := 2041) (by decide +kernel)) rfl
theorem lL_203 : Cond.methodLink RL 203 yX12_rank ∈ aw := aw_w (List.mem_of_getElem? (i := 2045) (by decide +kernel)) rfl
theorem lL_206 : Cond.methodLink RL 206 yX12_shorter ∈ aw := aw_w (List.mem_of_getElem? (i := 2049) (by decide +kernel)) rfl
theorem lL_209 : Cond.methodLink RL 209 yX12_claim ∈ aw := aw_w (List.mem_of_getElem? (i := 2053) (by decide +kernel)) rfl
theorem l12_367 : Cond.methodLink RX12 367 yX12_isBody ∈ aw := aw_w (List.mem_of_getElem? (i := 2057) (by decide +kernel)) rfl
theorem l12_370 : Cond.methodLink RX12 370 yX12_keeps ∈ aw := aw_w (List.mem_of_getElem? (i := 2061) (by decide +kernel)) rfl
theorem lL_213 : Cond.methodLink RL 213 yX12_settle ∈ aw := aw_w (List.mem_of_getElem? (i := 2065) (by decide +kernel)) rfl
theorem l12_373 : Cond.methodLink RX12 373 yX12_settles ∈ aw := aw_w (List.mem_of_getElem? (i := 2069) (by decide +kernel)) rfl
theorem l12_358 : Cond.methodLink RX12 358 yX12_winnerOf ∈ aw := aw_w (List.mem_of_getElem? (i := 2073) (by decide +kernel)) rfl
theorem l12_361 : Cond.methodLink RX12 361 yX12_noClaims ∈ aw := aw_w (List.mem_of_getElem? (i := 2077) (by decide +kernel)) rfl
theorem l12_364 : Cond.methodLink RX12 364 yX12_inBehind ∈ aw := aw_w (List.mem_of_getElem? (i := 2081) (by decide +kernel)) rfl
theorem lL_217 : Cond.methodLink RL 217 yX12_lamp ∈ aw := aw_w (List.mem_of_getElem? (i := 2085) (by decide +kernel)) rfl
theorem lL_220 : Cond.methodLink RL 220 yX12_carry ∈ aw := aw_w (List.mem_of_getElem? (i := 2089) (by decide +kernel)) rfl
theorem l12_376 : Cond.methodLink RX12 376 yX12_carries ∈ aw := aw_w (List.mem_of_getElem? (i := 2093) (by decide +kernel)) rfl
theorem lL_224 : Cond.methodLink RL 224 yX12_change ∈ aw := aw_w (List.mem_of_getElem? (i := 2097) (by decide +kernel)) rfl
theorem K12_379 : Cond.constantLong RX12 379 (9) ∈ aw := aw_w (List.mem_of_getElem? (i := 2101) (by decide +kernel)) rfl
theorem lL_227 : Cond.methodLink RL 227 yX12_stake ∈ aw := aw_w (List.mem_of_getElem? (i := 2102) (by decide +kernel)) rfl
theorem lL_230 : Cond.methodLink RL 230 yX12_person ∈ aw := aw_w (List.mem_of_getElem? (i := 2106) (by decide +kernel)) rfl
theorem lL_234 : Cond.methodLink RL 234 yX12_winner ∈ aw := aw_w (List.mem_of_getElem? (i := 2110) (by decide +kernel)) rfl
theorem lL_237 : Cond.methodLink RL 237 yX12_undo ∈ aw := aw_w (List.mem_of_getElem? (i := 2114) (by decide +kernel)) rfl
theorem K12_381 : Cond.constantLong RX12 381 (10) ∈ aw := aw_w (List.mem_of_getElem? (i := 2118) (by decide +kernel)) rfl
theorem lL_240 : Cond.methodLink RL 240 yX12_judge ∈ aw := aw_w (List.mem_of_getElem? (i := 2119) (by decide +kernel)) rfl
theorem l12_398 : Cond.methodLink RX12 398 yX12_trayFault ∈ aw := aw_w (List.mem_of_getElem? (i := 2123) (by decide +kernel)) rfl
theorem l12_383 : Cond.methodLink RX12 383 yX12_isTray ∈ aw := aw_w (List.mem_of_getElem? (i := 2127) (by decide +kernel)) rfl
theorem l12_401 : Cond.methodLink RX12 401 yX12_putsAside ∈ aw := aw_w (List.mem_of_getElem? (i := 2130) (by decide +kernel)) rfl
theorem l12_404 : Cond.methodLink RX12 404 yX12_whyTold ∈ aw := aw_w (List.mem_of_getElem? (i := 2134) (by decide +kernel)) rfl
theorem K12_386 : Cond.constantLong RX12 386 (-1) ∈ aw := aw_w (List.mem_of_getElem? (i := 2138) (by decide +kernel)) rfl
theorem K12_388 : Cond.constantLong RX12 388 (1399) ∈ aw := aw_w (List.mem_of_getElem? (i := 2139) (by decide +kernel)) rfl
theorem K12_390 : Cond.constantLong RX12 390 (100) ∈ aw := aw_w (List.mem_of_getElem? (i := 2140) (by decide +kernel)) rfl
theorem K12_392 : Cond.constantLong RX12 392 (3000) ∈ aw := aw_w (List.mem_of_getElem? (i := 2141) (by decide +kernel)) rfl
theorem K12_394 : Cond.constantLong RX12 394 (2000) ∈ aw := aw_w (List.mem_of_getElem? (i := 2142) (by decide +kernel)) rfl
theorem K12_396 : Cond.constantLong RX12 396 (2013) ∈ aw := aw_w (List.mem_of_getElem? (i := 2143) (by decide +kernel)) rfl
theorem l12_407 : Cond.methodLink RX12 407 yX12_does ∈ aw := aw_w (List.mem_of_getElem? (i := 2144) (by decide +kernel)) rfl
theorem l12_410 : Cond.methodLink RX12 410 yX12_putsBack ∈ aw := aw_w (List.mem_of_getElem? (i := 2148) (by decide +kernel)) rfl
theorem lL_243 : Cond.methodLink RL 243 yX12_perform ∈ aw := aw_w (List.mem_of_getElem? (i := 2152) (by decide +kernel)) rfl
theorem lL_246 : Cond.methodLink RL 246 yX12_night ∈ aw := aw_w (List.mem_of_getElem? (i := 2156) (by decide +kernel)) rfl
theorem K12_417 : Cond.constantLong RX12 417 (30) ∈ aw := aw_w (List.mem_of_getElem? (i := 2160) (by decide +kernel)) rfl
theorem l12_419 : Cond.methodLink RX12 419 yX12_draw ∈ aw := aw_w (List.mem_of_getElem? (i := 2161) (by decide +kernel)) rfl
theorem K12_413 : Cond.constant RX12 413 (1103515245) ∈ aw := aw_w (List.mem_of_getElem? (i := 2165) (by decide +kernel)) rfl
theorem lL_249 : Cond.methodLink RL 249 yX12_hardened ∈ aw := aw_w (List.mem_of_getElem? (i := 2166) (by decide +kernel)) rfl
theorem K12_422 : Cond.constantLong RX12 422 (99) ∈ aw := aw_w (List.mem_of_getElem? (i := 2170) (by decide +kernel)) rfl
theorem lL_253 : Cond.methodLink RL 253 yX12_book ∈ aw := aw_w (List.mem_of_getElem? (i := 2171) (by decide +kernel)) rfl
theorem l12_424 : Cond.methodLink RX12 424 yX12_partsAll ∈ aw := aw_w (List.mem_of_getElem? (i := 2175) (by decide +kernel)) rfl
theorem lL_256 : Cond.methodLink RL 256 yX12_asking ∈ aw := aw_w (List.mem_of_getElem? (i := 2179) (by decide +kernel)) rfl
theorem l12_430 : Cond.methodLink RX12 430 yX12_asksOf ∈ aw := aw_w (List.mem_of_getElem? (i := 2183) (by decide +kernel)) rfl
theorem l12_435 : Cond.methodLink RX12 435 yX12_asksBy ∈ aw := aw_w (List.mem_of_getElem? (i := 2187) (by decide +kernel)) rfl
theorem l12_427 : Cond.methodLink RX12 427 yX12_part ∈ aw := aw_w (List.mem_of_getElem? (i := 2191) (by decide +kernel)) rfl
theorem lL_259 : Cond.methodLink RL 259 yX12_fresh ∈ aw := aw_w (List.mem_of_getElem? (i := 2197) (by decide +kernel)) rfl
theorem K12_448 : Cond.constantLong RX12 448 (15) ∈ aw := aw_w (List.mem_of_getElem? (i := 2201) (by decide +kernel)) rfl
theorem l12_444 : Cond.methodLink RX12 444 yX12_goesNew ∈ aw := aw_w (List.mem_of_getElem? (i := 2202) (by decide +kernel)) rfl
theorem l12_440 : Cond.methodLink RX12 440 yX12_isNew ∈ aw := aw_w (List.mem_of_getElem? (i := 2206) (by decide +kernel)) rfl
theorem lL_263 : Cond.methodLink RL 263 yX12_twins ∈ aw := aw_w (List.mem_of_getElem? (i := 2210) (by decide +kernel)) rfl
theorem lL_267 : Cond.methodLink RL 267 yX12_parts ∈ aw := aw_w (List.mem_of_getElem? (i := 2214) (by decide +kernel)) rfl
theorem lL_271 : Cond.methodLink RL 271 yX12_idle ∈ aw := aw_w (List.mem_of_getElem? (i := 2218) (by decide +kernel)) rfl
theorem lL_274 : Cond.methodLink RL 274 yX12_nearest ∈ aw := aw_w (List.mem_of_getElem? (i := 2222) (by decide +kernel)) rfl
theorem lL_277 : Cond.methodLink RL 277 yX12_differ ∈ aw := aw_w (List.mem_of_getElem? (i := 2226) (by decide +kernel)) rfl
theorem lL_280 : Cond.methodLink RL 280 yX12_common ∈ aw := aw_w (List.mem_of_getElem? (i := 2230) (by decide +kernel)) rfl
theorem lL_284 : Cond.methodLink RL 284 yX12_changing ∈ aw := aw_w (List.mem_of_getElem? (i := 2234) (by decide +kernel)) rfl
theorem lL_287 : Cond.methodLink RL 287 yX12_greedy ∈ aw := aw_w (List.mem_of_getElem? (i := 2238) (by decide +kernel)) rfl
theorem lL_291 : Cond.methodLink RL 291 yX12_tray ∈ aw := aw_w (List.mem_of_getElem? (i := 2242) (by decide +kernel)) rfl
theorem lL_297 : Cond.methodLink RL 297 yX12_write ∈ aw := aw_w (List.mem_of_getElem? (i := 2246) (by decide +kernel)) rfl
theorem l12_450 : Cond.methodLink RX12 450 yX12_cut ∈ aw := aw_w (List.mem_of_getElem? (i := 2250) (by decide +kernel)) rfl
theorem lL_300 : Cond.methodLink RL 300 yX12_copy ∈ aw := aw_w (List.mem_of_getElem? (i := 2254) (by decide +kernel)) rfl
theorem lL_304 : Cond.methodLink RL 304 yX12_image ∈ aw := aw_w (List.mem_of_getElem? (i := 2258) (by decide +kernel)) rfl
theorem lL_307 : Cond.methodLink RL 307 yX12_restore ∈ aw := aw_w (List.mem_of_getElem? (i := 2262) (by decide +kernel)) rfl
theorem lL_311 : Cond.methodLink RL 311 yX12_count ∈ aw := aw_w (List.mem_of_getElem? (i := 2266) (by decide +kernel)) rfl
theorem l12_454 : Cond.methodLink RX12 454 yX12_claims ∈ aw := aw_w (List.mem_of_getElem? (i := 2270) (by decide +kernel)) rfl
theorem KL_292 : Cond.constantLong RL 292 (4294967295) ∈ aw := aw_w (List.mem_of_getElem? (i := 2274) (by decide +kernel)) rfl
