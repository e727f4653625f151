/-! MAKING: the words -/
set_option maxRecDepth 100000 in
theorem oi_inst : Cond.instanceMethod Lib.objectInit ∈ gw := gw_of (in_1 (List.mem_of_getElem? (i := 28) rfl)) rfl
set_option maxRecDepth 100000 in
theorem oi_code : Cond.code Lib.objectInit ⟨#[0xb1]⟩ 1 none ∈ gw := gw_of (in_1 (List.mem_of_getElem? (i := 29) rfl)) rfl
set_option maxRecDepth 100000 in
theorem oi_X10_1 : Cond.methodLink "ThreeSundays" 1 Lib.objectInit ∈ gw := gw_of (in_1 (List.mem_of_getElem? (i := 27) rfl)) rfl
set_option maxRecDepth 100000 in
theorem oi_X0_3 : Cond.methodLink "ThreeSundays$Family" 3 Lib.objectInit ∈ gw := gw_of (in_1 (List.mem_of_getElem? (i := 41) rfl)) rfl
set_option maxRecDepth 100000 in
theorem oi_X1_1 : Cond.methodLink "ThreeSundays$Formula" 1 Lib.objectInit ∈ gw := gw_of (in_1 (List.mem_of_getElem? (i := 76) rfl)) rfl
set_option maxRecDepth 100000 in
theorem oi_X2_3 : Cond.methodLink "ThreeSundays$History" 3 Lib.objectInit ∈ gw := gw_of (in_2 (List.mem_of_getElem? (i := 92) rfl)) rfl
set_option maxRecDepth 100000 in
theorem oi_X3_3 : Cond.methodLink "ThreeSundays$Parish" 3 Lib.objectInit ∈ gw := gw_of (in_2 (List.mem_of_getElem? (i := 67) rfl)) rfl
set_option maxRecDepth 100000 in
theorem oi_X4_3 : Cond.methodLink "ThreeSundays$Parser" 3 Lib.objectInit ∈ gw := gw_of (in_2 (List.mem_of_getElem? (i := 43) rfl)) rfl
set_option maxRecDepth 100000 in
theorem oi_X5_3 : Cond.methodLink "ThreeSundays$Said" 3 Lib.objectInit ∈ gw := gw_of (in_2 (List.mem_of_getElem? (i := 132) rfl)) rfl
set_option maxRecDepth 100000 in
theorem oi_X6_3 : Cond.methodLink "ThreeSundays$Season" 3 Lib.objectInit ∈ gw := gw_of (in_2 (List.mem_of_getElem? (i := 116) rfl)) rfl
set_option maxRecDepth 100000 in
theorem oi_X7_5 : Cond.methodLink "ThreeSundays$State" 5 Lib.objectInit ∈ gw := gw_of (in_2 (List.mem_of_getElem? (i := 81) rfl)) rfl
set_option maxRecDepth 100000 in
theorem oi_X8_3 : Cond.methodLink "ThreeSundays$Tape" 3 Lib.objectInit ∈ gw := gw_of (in_1 (List.mem_of_getElem? (i := 193) rfl)) rfl
set_option maxRecDepth 100000 in
theorem oi_X9_3 : Cond.methodLink "ThreeSundays$Town" 3 Lib.objectInit ∈ gw := gw_of (in_1 (List.mem_of_getElem? (i := 35) rfl)) rfl
set_option maxRecDepth 100000 in
theorem oi_X11_1 : Cond.methodLink "ThreeSundaysModel" 1 Lib.objectInit ∈ gw := gw_of (in_6 (List.mem_of_getElem? (i := 25) rfl)) rfl
set_option maxRecDepth 100000 in
theorem cw_X10_7 : Cond.classLink "ThreeSundays" 7 "ThreeSundays$Town" ∈ gw := gw_of (in_1 (List.mem_of_getElem? (i := 30) rfl)) rfl
set_option maxRecDepth 100000 in
theorem cw_X10_19 : Cond.classLink "ThreeSundays" 19 "ThreeSundays$Tape" ∈ gw := gw_of (in_1 (List.mem_of_getElem? (i := 188) rfl)) rfl
set_option maxRecDepth 100000 in
theorem cw_X10_26 : Cond.classLink "ThreeSundays" 26 "ThreeSundays$Parser" ∈ gw := gw_of (in_2 (List.mem_of_getElem? (i := 38) rfl)) rfl
set_option maxRecDepth 100000 in
theorem cw_X10_35 : Cond.classLink "ThreeSundays" 35 "ThreeSundays$Parish" ∈ gw := gw_of (in_2 (List.mem_of_getElem? (i := 62) rfl)) rfl
set_option maxRecDepth 100000 in
theorem cw_X10_44 : Cond.classLink "ThreeSundays" 44 "ThreeSundays$State" ∈ gw := gw_of (in_2 (List.mem_of_getElem? (i := 76) rfl)) rfl
set_option maxRecDepth 100000 in
theorem cw_X10_54 : Cond.classLink "ThreeSundays" 54 "ThreeSundays$History" ∈ gw := gw_of (in_2 (List.mem_of_getElem? (i := 87) rfl)) rfl
set_option maxRecDepth 100000 in
theorem cw_X10_65 : Cond.classLink "ThreeSundays" 65 "ThreeSundays$Season" ∈ gw := gw_of (in_2 (List.mem_of_getElem? (i := 111) rfl)) rfl
set_option maxRecDepth 100000 in
theorem cw_X10_72 : Cond.classLink "ThreeSundays" 72 "ThreeSundays$Said" ∈ gw := gw_of (in_2 (List.mem_of_getElem? (i := 127) rfl)) rfl
set_option maxRecDepth 100000 in
theorem cw_X2_11 : Cond.classLink "ThreeSundays$History" 11 ("[" ++ (FieldType.array .int).toString) ∈ gw := gw_of (in_2 (List.mem_of_getElem? (i := 93) rfl)) rfl
set_option maxRecDepth 100000 in
theorem cw_X9_40 : Cond.classLink "ThreeSundays$Town" 40 "ThreeSundays$Family" ∈ gw := gw_of (in_1 (List.mem_of_getElem? (i := 36) rfl)) rfl
set_option maxRecDepth 100000 in
theorem cw_X9_47 : Cond.classLink "ThreeSundays$Town" 47 "ThreeSundays$Formula" ∈ gw := gw_of (in_1 (List.mem_of_getElem? (i := 71) rfl)) rfl
set_option maxRecDepth 100000 in
theorem cw_L_7 : Cond.classLink "ThreeSundaysLaw" 7 "ThreeSundays" ∈ gw := gw_of (in_1 (List.mem_of_getElem? (i := 22) rfl)) rfl
set_option maxRecDepth 100000 in
theorem cw_L_10 : Cond.classLink "ThreeSundaysLaw" 10 "ThreeSundaysModel" ∈ gw := gw_of (in_6 (List.mem_of_getElem? (i := 20) rfl)) rfl
set_option maxRecDepth 100000 in
theorem it_0 : Cond.instantiable "ThreeSundays$Family" 6 ∈ gw := gw_of (in_1 (List.mem_of_getElem? (i := 37) rfl)) rfl
set_option maxRecDepth 100000 in
theorem ini_0 : Cond.initialized "ThreeSundays$Family" ∈ gw := gw_of (in_1 (List.mem_of_getElem? (i := 3) rfl)) rfl
set_option maxRecDepth 100000 in
theorem it_1 : Cond.instantiable "ThreeSundays$Formula" 4 ∈ gw := gw_of (in_1 (List.mem_of_getElem? (i := 72) rfl)) rfl
set_option maxRecDepth 100000 in
theorem ini_1 : Cond.initialized "ThreeSundays$Formula" ∈ gw := gw_of (in_1 (List.mem_of_getElem? (i := 4) rfl)) rfl
set_option maxRecDepth 100000 in
theorem it_2 : Cond.instantiable "ThreeSundays$History" 4 ∈ gw := gw_of (in_2 (List.mem_of_getElem? (i := 88) rfl)) rfl
set_option maxRecDepth 100000 in
theorem ini_2 : Cond.initialized "ThreeSundays$History" ∈ gw := gw_of (in_1 (List.mem_of_getElem? (i := 13) rfl)) rfl
set_option maxRecDepth 100000 in
theorem it_3 : Cond.instantiable "ThreeSundays$Parish" 2 ∈ gw := gw_of (in_2 (List.mem_of_getElem? (i := 63) rfl)) rfl
set_option maxRecDepth 100000 in
theorem ini_3 : Cond.initialized "ThreeSundays$Parish" ∈ gw := gw_of (in_1 (List.mem_of_getElem? (i := 11) rfl)) rfl
set_option maxRecDepth 100000 in
theorem it_4 : Cond.instantiable "ThreeSundays$Parser" 5 ∈ gw := gw_of (in_2 (List.mem_of_getElem? (i := 39) rfl)) rfl
set_option maxRecDepth 100000 in
theorem ini_4 : Cond.initialized "ThreeSundays$Parser" ∈ gw := gw_of (in_1 (List.mem_of_getElem? (i := 10) rfl)) rfl
set_option maxRecDepth 100000 in
theorem it_5 : Cond.instantiable "ThreeSundays$Said" 8 ∈ gw := gw_of (in_2 (List.mem_of_getElem? (i := 128) rfl)) rfl
set_option maxRecDepth 100000 in
theorem ini_5 : Cond.initialized "ThreeSundays$Said" ∈ gw := gw_of (in_1 (List.mem_of_getElem? (i := 15) rfl)) rfl
set_option maxRecDepth 100000 in
theorem it_6 : Cond.instantiable "ThreeSundays$Season" 3 ∈ gw := gw_of (in_2 (List.mem_of_getElem? (i := 112) rfl)) rfl
set_option maxRecDepth 100000 in
theorem ini_6 : Cond.initialized "ThreeSundays$Season" ∈ gw := gw_of (in_1 (List.mem_of_getElem? (i := 14) rfl)) rfl
set_option maxRecDepth 100000 in
theorem it_7 : Cond.instantiable "ThreeSundays$State" 1 ∈ gw := gw_of (in_2 (List.mem_of_getElem? (i := 77) rfl)) rfl
set_option maxRecDepth 100000 in
theorem ini_7 : Cond.initialized "ThreeSundays$State" ∈ gw := gw_of (in_1 (List.mem_of_getElem? (i := 12) rfl)) rfl
set_option maxRecDepth 100000 in
theorem it_8 : Cond.instantiable "ThreeSundays$Tape" 8 ∈ gw := gw_of (in_1 (List.mem_of_getElem? (i := 189) rfl)) rfl
set_option maxRecDepth 100000 in
theorem ini_8 : Cond.initialized "ThreeSundays$Tape" ∈ gw := gw_of (in_1 (List.mem_of_getElem? (i := 5) rfl)) rfl
set_option maxRecDepth 100000 in
theorem it_9 : Cond.instantiable "ThreeSundays$Town" 18 ∈ gw := gw_of (in_1 (List.mem_of_getElem? (i := 31) rfl)) rfl
set_option maxRecDepth 100000 in
theorem ini_9 : Cond.initialized "ThreeSundays$Town" ∈ gw := gw_of (in_1 (List.mem_of_getElem? (i := 2) rfl)) rfl
set_option maxRecDepth 100000 in
theorem it_10 : Cond.instantiable "ThreeSundays" 12 ∈ gw := gw_of (in_1 (List.mem_of_getElem? (i := 23) rfl)) rfl
set_option maxRecDepth 100000 in
theorem ini_10 : Cond.initialized "ThreeSundays" ∈ gw := gw_of (in_1 (List.mem_of_getElem? (i := 1) rfl)) rfl
set_option maxRecDepth 100000 in
theorem it_11 : Cond.instantiable "ThreeSundaysModel" 81 ∈ gw := gw_of (in_6 (List.mem_of_getElem? (i := 21) rfl)) rfl
set_option maxRecDepth 100000 in
theorem ini_11 : Cond.initialized "ThreeSundaysModel" ∈ gw := gw_of (in_1 (List.mem_of_getElem? (i := 18) rfl)) rfl
set_option maxRecDepth 100000 in
theorem ci_X10_21 : mCi "ThreeSundays" 21 m_X8_init 0 := ⟨gw_of (in_1 (List.mem_of_getElem? (i := 190) rfl)) rfl, gw_of (in_1 (List.mem_of_getElem? (i := 191) rfl)) rfl, rfl, gw_of (in_1 (List.mem_of_getElem? (i := 5) rfl)) rfl, gw_of (in_1 (List.mem_of_getElem? (i := 192) rfl)) rfl, ⟨by decide +kernel, by decide +kernel, by decide +kernel, by decide +kernel, by decide +kernel⟩⟩
set_option maxRecDepth 100000 in
theorem ci_X10_28 : mCi "ThreeSundays" 28 m_X4_init 2 := ⟨gw_of (in_2 (List.mem_of_getElem? (i := 40) rfl)) rfl, gw_of (in_2 (List.mem_of_getElem? (i := 41) rfl)) rfl, rfl, gw_of (in_1 (List.mem_of_getElem? (i := 10) rfl)) rfl, gw_of (in_2 (List.mem_of_getElem? (i := 42) rfl)) rfl, ⟨by decide +kernel, by decide +kernel, by decide +kernel, by decide +kernel, by decide +kernel⟩⟩
set_option maxRecDepth 100000 in
theorem ci_X10_37 : mCi "ThreeSundays" 37 m_X3_init 1 := ⟨gw_of (in_2 (List.mem_of_getElem? (i := 64) rfl)) rfl, gw_of (in_2 (List.mem_of_getElem? (i := 65) rfl)) rfl, rfl, gw_of (in_1 (List.mem_of_getElem? (i := 11) rfl)) rfl, gw_of (in_2 (List.mem_of_getElem? (i := 66) rfl)) rfl, ⟨by decide +kernel, by decide +kernel, by decide +kernel, by decide +kernel, by decide +kernel⟩⟩
set_option maxRecDepth 100000 in
theorem ci_L_9 : mCi "ThreeSundaysLaw" 9 m_X10_init 0 := ⟨gw_of (in_1 (List.mem_of_getElem? (i := 24) rfl)) rfl, gw_of (in_1 (List.mem_of_getElem? (i := 25) rfl)) rfl, rfl, gw_of (in_1 (List.mem_of_getElem? (i := 1) rfl)) rfl, gw_of (in_1 (List.mem_of_getElem? (i := 26) rfl)) rfl, ⟨by decide +kernel, by decide +kernel, by decide +kernel, by decide +kernel, by decide +kernel⟩⟩
set_option maxRecDepth 100000 in
theorem ci_L_12 : mCi "ThreeSundaysLaw" 12 m_X11_init 0 := ⟨gw_of (in_6 (List.mem_of_getElem? (i := 22) rfl)) rfl, gw_of (in_6 (List.mem_of_getElem? (i := 23) rfl)) rfl, rfl, gw_of (in_1 (List.mem_of_getElem? (i := 18) rfl)) rfl, gw_of (in_6 (List.mem_of_getElem? (i := 24) rfl)) rfl, ⟨by decide +kernel, by decide +kernel, by decide +kernel, by decide +kernel, by decide +kernel⟩⟩
set_option maxRecDepth 100000 in
theorem cn_X10_9 : mCn "ThreeSundays" 9 m_X9_init 0 := ⟨List.mem_of_getElem? (i := 0) rfl, gw_of (in_1 (List.mem_of_getElem? (i := 33) rfl)) rfl, rfl, gw_of (in_1 (List.mem_of_getElem? (i := 2) rfl)) rfl, gw_of (in_1 (List.mem_of_getElem? (i := 34) rfl)) rfl, ⟨by decide +kernel, by decide +kernel, by decide +kernel, by decide +kernel, by decide +kernel⟩⟩
set_option maxRecDepth 100000 in
theorem cn_X10_46 : mCn "ThreeSundays" 46 m_X7_init 0 := ⟨List.mem_of_getElem? (i := 3) rfl, gw_of (in_2 (List.mem_of_getElem? (i := 79) rfl)) rfl, rfl, gw_of (in_1 (List.mem_of_getElem? (i := 12) rfl)) rfl, gw_of (in_2 (List.mem_of_getElem? (i := 80) rfl)) rfl, ⟨by decide +kernel, by decide +kernel, by decide +kernel, by decide +kernel, by decide +kernel⟩⟩
set_option maxRecDepth 100000 in
theorem cn_X10_56 : mCn "ThreeSundays" 56 m_X2_init 0 := ⟨List.mem_of_getElem? (i := 4) rfl, gw_of (in_2 (List.mem_of_getElem? (i := 90) rfl)) rfl, rfl, gw_of (in_1 (List.mem_of_getElem? (i := 13) rfl)) rfl, gw_of (in_2 (List.mem_of_getElem? (i := 91) rfl)) rfl, ⟨by decide +kernel, by decide +kernel, by decide +kernel, by decide +kernel, by decide +kernel⟩⟩
set_option maxRecDepth 100000 in
theorem cn_X10_67 : mCn "ThreeSundays" 67 m_X6_init 0 := ⟨List.mem_of_getElem? (i := 5) rfl, gw_of (in_2 (List.mem_of_getElem? (i := 114) rfl)) rfl, rfl, gw_of (in_1 (List.mem_of_getElem? (i := 14) rfl)) rfl, gw_of (in_2 (List.mem_of_getElem? (i := 115) rfl)) rfl, ⟨by decide +kernel, by decide +kernel, by decide +kernel, by decide +kernel, by decide +kernel⟩⟩
set_option maxRecDepth 100000 in
theorem cn_X10_74 : mCn "ThreeSundays" 74 m_X5_init 0 := ⟨List.mem_of_getElem? (i := 6) rfl, gw_of (in_2 (List.mem_of_getElem? (i := 130) rfl)) rfl, rfl, gw_of (in_1 (List.mem_of_getElem? (i := 15) rfl)) rfl, gw_of (in_2 (List.mem_of_getElem? (i := 131) rfl)) rfl, ⟨by decide +kernel, by decide +kernel, by decide +kernel, by decide +kernel, by decide +kernel⟩⟩
set_option maxRecDepth 100000 in
theorem cn_X9_42 : mCn "ThreeSundays$Town" 42 m_X0_init 0 := ⟨List.mem_of_getElem? (i := 1) rfl, gw_of (in_1 (List.mem_of_getElem? (i := 39) rfl)) rfl, rfl, gw_of (in_1 (List.mem_of_getElem? (i := 3) rfl)) rfl, gw_of (in_1 (List.mem_of_getElem? (i := 40) rfl)) rfl, ⟨by decide +kernel, by decide +kernel, by decide +kernel, by decide +kernel, by decide +kernel⟩⟩
set_option maxRecDepth 100000 in
theorem cn_X9_49 : mCn "ThreeSundays$Town" 49 m_X1_init 0 := ⟨List.mem_of_getElem? (i := 2) rfl, gw_of (in_1 (List.mem_of_getElem? (i := 74) rfl)) rfl, rfl, gw_of (in_1 (List.mem_of_getElem? (i := 4) rfl)) rfl, gw_of (in_1 (List.mem_of_getElem? (i := 75) rfl)) rfl, ⟨by decide +kernel, by decide +kernel, by decide +kernel, by decide +kernel, by decide +kernel⟩⟩
