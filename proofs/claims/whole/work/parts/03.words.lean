theorem mw_0 : (Cond.fieldLink R_M 9 "AreaCore$Memory" "words" "[I") ∈ wd := mt_1 (List.mem_of_getElem? (i := 35) (by decide +kernel)) (by decide +kernel)
theorem mw_1 : (Cond.fieldLink R_R 18 "AreaCore$Registers" "level" "I") ∈ wd := mt_1 (List.mem_of_getElem? (i := 62) (by decide +kernel)) (by decide +kernel)
theorem mw_2 : (Cond.fieldLink R_R 22 "AreaCore$Registers" "set" "I") ∈ wd := mt_1 (List.mem_of_getElem? (i := 64) (by decide +kernel)) (by decide +kernel)
theorem mw_3 : (Cond.fieldLink R_R 25 "AreaCore$Registers" "depth" "I") ∈ wd := mt_1 (List.mem_of_getElem? (i := 66) (by decide +kernel)) (by decide +kernel)
theorem mw_4 : (Cond.fieldLink R_R 28 "AreaCore$Registers" "pc" "I") ∈ wd := mt_1 (List.mem_of_getElem? (i := 53) (by decide +kernel)) (by decide +kernel)
theorem mw_5 : (Cond.fieldLink R_R 31 "AreaCore$Registers" "priority" "I") ∈ wd := mt_1 (List.mem_of_getElem? (i := 69) (by decide +kernel)) (by decide +kernel)
theorem mw_6 : (Cond.fieldLink R_R 34 "AreaCore$Registers" "enabled" "Z") ∈ wd := mt_1 (List.mem_of_getElem? (i := 72) (by decide +kernel)) (by decide +kernel)
theorem mw_7 : (Cond.fieldLink R_R 15 "AreaCore$Registers" "a" "[I") ∈ wd := mt_1 (List.mem_of_getElem? (i := 49) (by decide +kernel)) (by decide +kernel)
theorem mw_8 : (Cond.fieldLink R_R 38 "AreaCore$Registers" "free" "I") ∈ wd := mt_1 (List.mem_of_getElem? (i := 56) (by decide +kernel)) (by decide +kernel)
theorem mw_9 : (Cond.fieldLink R_R 54 "AreaCore$Registers" "link" "I") ∈ wd := mt_1 (List.mem_of_getElem? (i := 60) (by decide +kernel)) (by decide +kernel)
theorem mw_10 : (Cond.fieldLink R_R 9 "AreaCore$Registers" "d" "[I") ∈ wd := mt_1 (List.mem_of_getElem? (i := 46) (by decide +kernel)) (by decide +kernel)
theorem mw_11 : (Cond.fieldLink R_R 65 "AreaCore$Registers" "last" "I") ∈ wd := mt_1 (List.mem_of_getElem? (i := 58) (by decide +kernel)) (by decide +kernel)
theorem mw_12 : (Cond.fieldLink R_R 68 "AreaCore$Registers" "drained" "Z") ∈ wd := mt_1 (List.mem_of_getElem? (i := 75) (by decide +kernel)) (by decide +kernel)
theorem mw_13 : (Cond.fieldLink R_G 9 "AreaCore$Ranges" "lows" "[I") ∈ wd := mt_1 (List.mem_of_getElem? (i := 107) (by decide +kernel)) (by decide +kernel)
theorem mw_14 : (Cond.fieldLink R_G 15 "AreaCore$Ranges" "highs" "[I") ∈ wd := mt_1 (List.mem_of_getElem? (i := 108) (by decide +kernel)) (by decide +kernel)
theorem mw_15 : (Cond.fieldLink R_G 18 "AreaCore$Ranges" "rights" "[I") ∈ wd := mt_1 (List.mem_of_getElem? (i := 109) (by decide +kernel)) (by decide +kernel)
theorem mw_16 : (Cond.fieldLink R_T 9 "AreaCore$Interrupts" "pending" "I") ∈ wd := mt_1 (List.mem_of_getElem? (i := 129) (by decide +kernel)) (by decide +kernel)
theorem mw_17 : (Cond.fieldLink R_T 15 "AreaCore$Interrupts" "time" "I") ∈ wd := mt_1 (List.mem_of_getElem? (i := 123) (by decide +kernel)) (by decide +kernel)
theorem mw_18 : (Cond.fieldLink R_T 18 "AreaCore$Interrupts" "every" "I") ∈ wd := mt_1 (List.mem_of_getElem? (i := 125) (by decide +kernel)) (by decide +kernel)
theorem mw_19 : (Cond.fieldLink R_T 21 "AreaCore$Interrupts" "asked" "I") ∈ wd := mt_1 (List.mem_of_getElem? (i := 127) (by decide +kernel)) (by decide +kernel)
theorem mw_20 : (Cond.fieldLink R_T 32 "AreaCore$Interrupts" "taken" "I") ∈ wd := mt_1 (List.mem_of_getElem? (i := 131) (by decide +kernel)) (by decide +kernel)
theorem mw_21 : (Cond.fieldLink R_P 110 "AreaCore$Processor" "guarding" "Z") ∈ wd := mt_1 (List.mem_of_getElem? (i := 154) (by decide +kernel)) (by decide +kernel)
theorem mw_22 : (Cond.fieldLink R_P 21 "AreaCore$Processor" "registers" "LAreaCore$Registers;") ∈ wd := mt_1 (List.mem_of_getElem? (i := 146) (by decide +kernel)) (by decide +kernel)
theorem mw_23 : (Cond.fieldLink R_P 113 "AreaCore$Registers" "level" "I") ∈ wd := mt_1 (List.mem_of_getElem? (i := 63) (by decide +kernel)) (by decide +kernel)
theorem mw_24 : (Cond.fieldLink R_P 12 "AreaCore$Processor" "memory" "LAreaCore$Memory;") ∈ wd := mt_1 (List.mem_of_getElem? (i := 144) (by decide +kernel)) (by decide +kernel)
theorem mw_25 : (Cond.fieldLink R_P 35 "AreaCore$Processor" "interrupts" "LAreaCore$Interrupts;") ∈ wd := mt_1 (List.mem_of_getElem? (i := 150) (by decide +kernel)) (by decide +kernel)
theorem mw_26 : (Cond.fieldLink R_P 57 "AreaCore$Registers" "priority" "I") ∈ wd := mt_1 (List.mem_of_getElem? (i := 68) (by decide +kernel)) (by decide +kernel)
theorem mw_27 : (Cond.fieldLink R_P 94 "AreaCore$Processor" "other" "I") ∈ wd := mt_1 (List.mem_of_getElem? (i := 158) (by decide +kernel)) (by decide +kernel)
theorem mw_28 : (Cond.fieldLink R_P 67 "AreaCore$Registers" "pc" "I") ∈ wd := mt_1 (List.mem_of_getElem? (i := 52) (by decide +kernel)) (by decide +kernel)
theorem mw_29 : (Cond.fieldLink R_P 80 "AreaCore$Processor" "runs" "Z") ∈ wd := mt_1 (List.mem_of_getElem? (i := 152) (by decide +kernel)) (by decide +kernel)
theorem mw_30 : (Cond.fieldLink R_P 100 "AreaCore$Processor" "table" "I") ∈ wd := mt_1 (List.mem_of_getElem? (i := 157) (by decide +kernel)) (by decide +kernel)
theorem mw_31 : (Cond.fieldLink R_P 103 "AreaCore$Registers" "d" "[I") ∈ wd := mt_1 (List.mem_of_getElem? (i := 47) (by decide +kernel)) (by decide +kernel)
theorem mw_32 : (Cond.fieldLink R_P 107 "AreaCore$Processor" "traps" "I") ∈ wd := mt_1 (List.mem_of_getElem? (i := 160) (by decide +kernel)) (by decide +kernel)
theorem mw_33 : (Cond.fieldLink R_P 39 "AreaCore$Processor" "latestTrap" "I") ∈ wd := mt_1 (List.mem_of_getElem? (i := 162) (by decide +kernel)) (by decide +kernel)
theorem mw_34 : (Cond.fieldLink R_P 46 "AreaCore$Registers" "drained" "Z") ∈ wd := mt_1 (List.mem_of_getElem? (i := 74) (by decide +kernel)) (by decide +kernel)
theorem mw_35 : (Cond.fieldLink R_P 28 "AreaCore$Processor" "ranges" "LAreaCore$Ranges;") ∈ wd := mt_1 (List.mem_of_getElem? (i := 148) (by decide +kernel)) (by decide +kernel)
theorem mw_36 : (Cond.fieldLink R_P 124 "AreaCore$Registers" "set" "I") ∈ wd := mt_1 (List.mem_of_getElem? (i := 65) (by decide +kernel)) (by decide +kernel)
theorem mw_37 : (Cond.fieldLink R_P 172 "AreaCore$Registers" "a" "[I") ∈ wd := mt_1 (List.mem_of_getElem? (i := 51) (by decide +kernel)) (by decide +kernel)
theorem mw_38 : (Cond.constant R_P 194 (65535 : Int32)) ∈ wd := mt_3 (List.mem_of_getElem? (i := 4) (by decide +kernel)) (by decide +kernel)
theorem mw_39 : (Cond.constant R_P 195 (65536 : Int32)) ∈ wd := mt_3 (List.mem_of_getElem? (i := 5) (by decide +kernel)) (by decide +kernel)
theorem mw_40 : (Cond.fieldLink R_P 150 "AreaCore$Registers" "depth" "I") ∈ wd := mt_1 (List.mem_of_getElem? (i := 67) (by decide +kernel)) (by decide +kernel)
theorem mw_41 : (Cond.fieldLink R_P 204 "AreaCore$Registers" "link" "I") ∈ wd := mt_1 (List.mem_of_getElem? (i := 61) (by decide +kernel)) (by decide +kernel)
theorem mw_42 : (Cond.fieldLink R_P 50 "AreaCore$Registers" "enabled" "Z") ∈ wd := mt_1 (List.mem_of_getElem? (i := 71) (by decide +kernel)) (by decide +kernel)
theorem mw_43 : (Cond.fieldLink R_C 10 "AreaCore" "core" "LAreaCore$Processor;") ∈ wd := mt_1 (List.mem_of_getElem? (i := 185) (by decide +kernel)) (by decide +kernel)
theorem mw_44 : (Cond.fieldLink R_C 22 "AreaCore$Processor" "memory" "LAreaCore$Memory;") ∈ wd := mt_1 (List.mem_of_getElem? (i := 145) (by decide +kernel)) (by decide +kernel)
theorem mw_45 : (Cond.fieldLink R_C 37 "AreaCore$Processor" "runs" "Z") ∈ wd := mt_1 (List.mem_of_getElem? (i := 153) (by decide +kernel)) (by decide +kernel)
theorem mw_46 : (Cond.fieldLink R_C 50 "AreaCore$Processor" "registers" "LAreaCore$Registers;") ∈ wd := mt_1 (List.mem_of_getElem? (i := 147) (by decide +kernel)) (by decide +kernel)
theorem mw_47 : (Cond.fieldLink R_C 54 "AreaCore$Registers" "free" "I") ∈ wd := mt_1 (List.mem_of_getElem? (i := 55) (by decide +kernel)) (by decide +kernel)
theorem mw_48 : (Cond.fieldLink R_C 60 "AreaCore$Registers" "last" "I") ∈ wd := mt_1 (List.mem_of_getElem? (i := 57) (by decide +kernel)) (by decide +kernel)
theorem mw_49 : (Cond.fieldLink R_C 63 "AreaCore$Registers" "link" "I") ∈ wd := mt_1 (List.mem_of_getElem? (i := 59) (by decide +kernel)) (by decide +kernel)
theorem mw_50 : (Cond.fieldLink R_C 66 "AreaCore$Processor" "table" "I") ∈ wd := mt_1 (List.mem_of_getElem? (i := 156) (by decide +kernel)) (by decide +kernel)
theorem mw_51 : (Cond.fieldLink R_C 69 "AreaCore$Processor" "other" "I") ∈ wd := mt_1 (List.mem_of_getElem? (i := 159) (by decide +kernel)) (by decide +kernel)
theorem mw_52 : (Cond.fieldLink R_C 76 "AreaCore$Processor" "ranges" "LAreaCore$Ranges;") ∈ wd := mt_1 (List.mem_of_getElem? (i := 149) (by decide +kernel)) (by decide +kernel)
theorem mw_53 : (Cond.fieldLink R_C 86 "AreaCore$Processor" "guarding" "Z") ∈ wd := mt_1 (List.mem_of_getElem? (i := 155) (by decide +kernel)) (by decide +kernel)
theorem mw_54 : (Cond.fieldLink R_C 94 "AreaCore$Processor" "interrupts" "LAreaCore$Interrupts;") ∈ wd := mt_1 (List.mem_of_getElem? (i := 151) (by decide +kernel)) (by decide +kernel)
theorem mw_55 : (Cond.fieldLink R_C 98 "AreaCore$Interrupts" "every" "I") ∈ wd := mt_1 (List.mem_of_getElem? (i := 126) (by decide +kernel)) (by decide +kernel)
theorem mw_56 : (Cond.fieldLink R_C 101 "AreaCore$Interrupts" "asked" "I") ∈ wd := mt_1 (List.mem_of_getElem? (i := 128) (by decide +kernel)) (by decide +kernel)
theorem mw_57 : (Cond.fieldLink R_C 130 "AreaCore$Registers" "a" "[I") ∈ wd := mt_1 (List.mem_of_getElem? (i := 50) (by decide +kernel)) (by decide +kernel)
theorem mw_58 : (Cond.fieldLink R_C 126 "AreaCore$Registers" "d" "[I") ∈ wd := mt_1 (List.mem_of_getElem? (i := 48) (by decide +kernel)) (by decide +kernel)
theorem mw_59 : (Cond.fieldLink R_C 137 "AreaCore$Registers" "pc" "I") ∈ wd := mt_1 (List.mem_of_getElem? (i := 54) (by decide +kernel)) (by decide +kernel)
theorem mw_60 : (Cond.fieldLink R_C 144 "AreaCore$Registers" "priority" "I") ∈ wd := mt_1 (List.mem_of_getElem? (i := 70) (by decide +kernel)) (by decide +kernel)
theorem mw_61 : (Cond.fieldLink R_C 147 "AreaCore$Registers" "enabled" "Z") ∈ wd := mt_1 (List.mem_of_getElem? (i := 73) (by decide +kernel)) (by decide +kernel)
theorem mw_62 : (Cond.fieldLink R_C 150 "AreaCore$Interrupts" "time" "I") ∈ wd := mt_1 (List.mem_of_getElem? (i := 124) (by decide +kernel)) (by decide +kernel)
theorem mw_63 : (Cond.fieldLink R_C 153 "AreaCore$Interrupts" "pending" "I") ∈ wd := mt_1 (List.mem_of_getElem? (i := 130) (by decide +kernel)) (by decide +kernel)
theorem mw_64 : (Cond.fieldLink R_C 156 "AreaCore$Processor" "traps" "I") ∈ wd := mt_1 (List.mem_of_getElem? (i := 161) (by decide +kernel)) (by decide +kernel)
theorem mw_65 : (Cond.fieldLink R_C 159 "AreaCore$Processor" "latestTrap" "I") ∈ wd := mt_1 (List.mem_of_getElem? (i := 163) (by decide +kernel)) (by decide +kernel)
theorem mw_66 : (Cond.fieldLink R_C 162 "AreaCore$Interrupts" "taken" "I") ∈ wd := mt_1 (List.mem_of_getElem? (i := 132) (by decide +kernel)) (by decide +kernel)
theorem mw_67 : (Cond.fieldLink R_X 38 "AreaCoreModel" "thrown" "I") ∈ wd := mt_3 (List.mem_of_getElem? (i := 94) (by decide +kernel)) (by decide +kernel)
theorem mw_68 : (Cond.fieldLink R_X 19 "AreaCoreModel" "own" "[I") ∈ wd := mt_3 (List.mem_of_getElem? (i := 98) (by decide +kernel)) (by decide +kernel)
theorem mw_69 : (Cond.fieldLink R_X 7 "AreaCoreModel" "memory" "[I") ∈ wd := mt_3 (List.mem_of_getElem? (i := 95) (by decide +kernel)) (by decide +kernel)
theorem mw_70 : (Cond.fieldLink R_X 53 "AreaCoreModel" "level" "I") ∈ wd := mt_3 (List.mem_of_getElem? (i := 99) (by decide +kernel)) (by decide +kernel)
theorem mw_71 : (Cond.fieldLink R_X 56 "AreaCoreModel" "set" "I") ∈ wd := mt_3 (List.mem_of_getElem? (i := 100) (by decide +kernel)) (by decide +kernel)
theorem mw_72 : (Cond.fieldLink R_X 59 "AreaCoreModel" "depth" "I") ∈ wd := mt_3 (List.mem_of_getElem? (i := 101) (by decide +kernel)) (by decide +kernel)
theorem mw_73 : (Cond.fieldLink R_X 16 "AreaCoreModel" "a" "[I") ∈ wd := mt_3 (List.mem_of_getElem? (i := 97) (by decide +kernel)) (by decide +kernel)
theorem mw_74 : (Cond.fieldLink R_X 13 "AreaCoreModel" "d" "[I") ∈ wd := mt_3 (List.mem_of_getElem? (i := 96) (by decide +kernel)) (by decide +kernel)
theorem mw_75 : (Cond.fieldLink R_X 62 "AreaCoreModel" "priority" "I") ∈ wd := mt_3 (List.mem_of_getElem? (i := 102) (by decide +kernel)) (by decide +kernel)
theorem mw_76 : (Cond.fieldLink R_X 65 "AreaCoreModel" "enabled" "Z") ∈ wd := mt_3 (List.mem_of_getElem? (i := 103) (by decide +kernel)) (by decide +kernel)
theorem mw_77 : (Cond.fieldLink R_X 68 "AreaCoreModel" "drained" "Z") ∈ wd := mt_3 (List.mem_of_getElem? (i := 118) (by decide +kernel)) (by decide +kernel)
theorem mw_78 : (Cond.fieldLink R_X 45 "AreaCoreModel" "runs" "Z") ∈ wd := mt_3 (List.mem_of_getElem? (i := 105) (by decide +kernel)) (by decide +kernel)
theorem mw_79 : (Cond.fieldLink R_X 71 "AreaCoreModel" "trap" "I") ∈ wd := mt_3 (List.mem_of_getElem? (i := 120) (by decide +kernel)) (by decide +kernel)
theorem mw_80 : (Cond.fieldLink R_X 78 "AreaCoreModel" "third" "Z") ∈ wd := mt_3 (List.mem_of_getElem? (i := 119) (by decide +kernel)) (by decide +kernel)
theorem mw_81 : (Cond.fieldLink R_X 81 "AreaCoreModel" "table" "I") ∈ wd := mt_3 (List.mem_of_getElem? (i := 109) (by decide +kernel)) (by decide +kernel)
theorem mw_82 : (Cond.fieldLink R_X 88 "AreaCoreModel" "traps" "I") ∈ wd := mt_3 (List.mem_of_getElem? (i := 115) (by decide +kernel)) (by decide +kernel)
theorem mw_83 : (Cond.fieldLink R_X 35 "AreaCoreModel" "latest" "I") ∈ wd := mt_3 (List.mem_of_getElem? (i := 116) (by decide +kernel)) (by decide +kernel)
theorem mw_84 : (Cond.fieldLink R_X 91 "AreaCoreModel" "guarding" "Z") ∈ wd := mt_3 (List.mem_of_getElem? (i := 111) (by decide +kernel)) (by decide +kernel)
theorem mw_85 : (Cond.fieldLink R_X 26 "AreaCoreModel" "low" "[I") ∈ wd := mt_3 (List.mem_of_getElem? (i := 112) (by decide +kernel)) (by decide +kernel)
theorem mw_86 : (Cond.fieldLink R_X 29 "AreaCoreModel" "high" "[I") ∈ wd := mt_3 (List.mem_of_getElem? (i := 113) (by decide +kernel)) (by decide +kernel)
theorem mw_87 : (Cond.fieldLink R_X 32 "AreaCoreModel" "rights" "[I") ∈ wd := mt_3 (List.mem_of_getElem? (i := 114) (by decide +kernel)) (by decide +kernel)
theorem mw_88 : (Cond.constant R_X 98 (65535 : Int32)) ∈ wd := mt_4 (List.mem_of_getElem? (i := 18) (by decide +kernel)) (by decide +kernel)
theorem mw_89 : (Cond.constant R_X 103 (65536 : Int32)) ∈ wd := mt_4 (List.mem_of_getElem? (i := 23) (by decide +kernel)) (by decide +kernel)
theorem mw_90 : (Cond.fieldLink R_X 131 "AreaCoreModel" "time" "I") ∈ wd := mt_3 (List.mem_of_getElem? (i := 106) (by decide +kernel)) (by decide +kernel)
theorem mw_91 : (Cond.fieldLink R_X 134 "AreaCoreModel" "every" "I") ∈ wd := mt_3 (List.mem_of_getElem? (i := 107) (by decide +kernel)) (by decide +kernel)
theorem mw_92 : (Cond.fieldLink R_X 137 "AreaCoreModel" "pending" "I") ∈ wd := mt_3 (List.mem_of_getElem? (i := 104) (by decide +kernel)) (by decide +kernel)
theorem mw_93 : (Cond.fieldLink R_X 22 "AreaCoreModel" "timed" "I") ∈ wd := mt_3 (List.mem_of_getElem? (i := 108) (by decide +kernel)) (by decide +kernel)
theorem mw_94 : (Cond.fieldLink R_X 140 "AreaCoreModel" "other" "I") ∈ wd := mt_3 (List.mem_of_getElem? (i := 110) (by decide +kernel)) (by decide +kernel)
theorem mw_95 : (Cond.fieldLink R_X 143 "AreaCoreModel" "taken" "I") ∈ wd := mt_3 (List.mem_of_getElem? (i := 117) (by decide +kernel)) (by decide +kernel)
theorem mw_96 : (Cond.methodLink R_M 15 y_M_has) ∈ wd := mt_1 (List.mem_of_getElem? (i := 200) (by decide +kernel)) (by decide +kernel)
theorem mw_97 : (Cond.code y_M_has b_M_has 1 (some .boolean)) ∈ wd := mt_1 (List.mem_of_getElem? (i := 195) (by decide +kernel)) (by decide +kernel)
theorem mw_98 : (Cond.static y_M_has) ∈ wd := mt_1 (List.mem_of_getElem? (i := 194) (by decide +kernel)) (by decide +kernel)
theorem mw_99 : (Cond.initialized y_M_has.cls) ∈ wd := mt_1 (List.mem_of_getElem? (i := 3) (by decide +kernel)) (by decide +kernel)
theorem mw_100 : (Cond.methodLink R_M 19 y_M_areaStart) ∈ wd := mt_2 (List.mem_of_getElem? (i := 15) (by decide +kernel)) (by decide +kernel)
theorem mw_101 : (Cond.code y_M_areaStart b_M_areaStart 1 (some .int)) ∈ wd := mt_2 (List.mem_of_getElem? (i := 17) (by decide +kernel)) (by decide +kernel)
theorem mw_102 : (Cond.static y_M_areaStart) ∈ wd := mt_2 (List.mem_of_getElem? (i := 16) (by decide +kernel)) (by decide +kernel)
theorem mw_103 : (Cond.initialized y_M_areaStart.cls) ∈ wd := mt_1 (List.mem_of_getElem? (i := 3) (by decide +kernel)) (by decide +kernel)
theorem mw_104 : (Cond.methodLink R_M 23 y_M_write) ∈ wd := mt_2 (List.mem_of_getElem? (i := 116) (by decide +kernel)) (by decide +kernel)
theorem mw_105 : (Cond.code y_M_write b_M_write 3 (none)) ∈ wd := mt_1 (List.mem_of_getElem? (i := 199) (by decide +kernel)) (by decide +kernel)
theorem mw_106 : (Cond.instanceMethod y_M_write) ∈ wd := mt_1 (List.mem_of_getElem? (i := 197) (by decide +kernel)) (by decide +kernel)
theorem mw_107 : (Cond.selects R_M y_M_write y_M_write) ∈ wd := mt_1 (List.mem_of_getElem? (i := 198) (by decide +kernel)) (by decide +kernel)
theorem mw_108 : (Cond.initialized R_M) ∈ wd := mt_1 (List.mem_of_getElem? (i := 3) (by decide +kernel)) (by decide +kernel)
theorem mw_109 : (Cond.methodLink R_M 27 y_M_isArea) ∈ wd := mt_2 (List.mem_of_getElem? (i := 12) (by decide +kernel)) (by decide +kernel)
theorem mw_110 : (Cond.code y_M_isArea b_M_isArea 1 (some .boolean)) ∈ wd := mt_2 (List.mem_of_getElem? (i := 14) (by decide +kernel)) (by decide +kernel)
theorem mw_111 : (Cond.static y_M_isArea) ∈ wd := mt_2 (List.mem_of_getElem? (i := 13) (by decide +kernel)) (by decide +kernel)
theorem mw_112 : (Cond.initialized y_M_isArea.cls) ∈ wd := mt_1 (List.mem_of_getElem? (i := 3) (by decide +kernel)) (by decide +kernel)
theorem mw_113 : (Cond.methodLink R_M 30 y_M_read) ∈ wd := mt_2 (List.mem_of_getElem? (i := 18) (by decide +kernel)) (by decide +kernel)
theorem mw_114 : (Cond.code y_M_read b_M_read 2 (some .int)) ∈ wd := mt_1 (List.mem_of_getElem? (i := 235) (by decide +kernel)) (by decide +kernel)
theorem mw_115 : (Cond.instanceMethod y_M_read) ∈ wd := mt_1 (List.mem_of_getElem? (i := 233) (by decide +kernel)) (by decide +kernel)
theorem mw_116 : (Cond.selects R_M y_M_read y_M_read) ∈ wd := mt_1 (List.mem_of_getElem? (i := 234) (by decide +kernel)) (by decide +kernel)
theorem mw_117 : (Cond.methodLink R_R 41 y_M_isArea) ∈ wd := mt_2 (List.mem_of_getElem? (i := 180) (by decide +kernel)) (by decide +kernel)
theorem mw_118 : (Cond.methodLink R_R 47 y_M_areaStart) ∈ wd := mt_2 (List.mem_of_getElem? (i := 181) (by decide +kernel)) (by decide +kernel)
theorem mw_119 : (Cond.methodLink R_R 51 y_M_read) ∈ wd := mt_2 (List.mem_of_getElem? (i := 182) (by decide +kernel)) (by decide +kernel)
theorem mw_120 : (Cond.methodLink R_R 57 y_M_write) ∈ wd := mt_2 (List.mem_of_getElem? (i := 183) (by decide +kernel)) (by decide +kernel)
theorem mw_121 : (Cond.methodLink R_R 61 y_R_state) ∈ wd := mt_2 (List.mem_of_getElem? (i := 184) (by decide +kernel)) (by decide +kernel)
theorem mw_122 : (Cond.code y_R_state b_R_state 1 (some .int)) ∈ wd := mt_2 (List.mem_of_getElem? (i := 3) (by decide +kernel)) (by decide +kernel)
theorem mw_123 : (Cond.instanceMethod y_R_state) ∈ wd := mt_2 (List.mem_of_getElem? (i := 1) (by decide +kernel)) (by decide +kernel)
theorem mw_124 : (Cond.selects R_R y_R_state y_R_state) ∈ wd := mt_2 (List.mem_of_getElem? (i := 2) (by decide +kernel)) (by decide +kernel)
theorem mw_125 : (Cond.initialized R_R) ∈ wd := mt_1 (List.mem_of_getElem? (i := 4) (by decide +kernel)) (by decide +kernel)
theorem mw_126 : (Cond.methodLink R_R 71 y_R_takeState) ∈ wd := mt_3 (List.mem_of_getElem? (i := 29) (by decide +kernel)) (by decide +kernel)
theorem mw_127 : (Cond.code y_R_takeState b_R_takeState 2 (none)) ∈ wd := mt_3 (List.mem_of_getElem? (i := 32) (by decide +kernel)) (by decide +kernel)
theorem mw_128 : (Cond.instanceMethod y_R_takeState) ∈ wd := mt_3 (List.mem_of_getElem? (i := 31) (by decide +kernel)) (by decide +kernel)
theorem mw_129 : (Cond.selects R_R y_R_takeState y_R_takeState) ∈ wd := mt_s (by decide +kernel) (by decide +kernel)
theorem mw_130 : (Cond.methodLink R_G 21 y_G_covers) ∈ wd := mt_2 (List.mem_of_getElem? (i := 206) (by decide +kernel)) (by decide +kernel)
theorem mw_131 : (Cond.code y_G_covers b_G_covers 3 (some .boolean)) ∈ wd := mt_2 (List.mem_of_getElem? (i := 209) (by decide +kernel)) (by decide +kernel)
theorem mw_132 : (Cond.instanceMethod y_G_covers) ∈ wd := mt_2 (List.mem_of_getElem? (i := 208) (by decide +kernel)) (by decide +kernel)
theorem mw_133 : (Cond.selects R_G y_G_covers y_G_covers) ∈ wd := mt_s (by decide +kernel) (by decide +kernel)
theorem mw_134 : (Cond.initialized R_G) ∈ wd := mt_1 (List.mem_of_getElem? (i := 5) (by decide +kernel)) (by decide +kernel)
theorem mw_135 : (Cond.methodLink R_T 24 y_T_ask) ∈ wd := mt_2 (List.mem_of_getElem? (i := 166) (by decide +kernel)) (by decide +kernel)
theorem mw_136 : (Cond.code y_T_ask b_T_ask 2 (none)) ∈ wd := mt_1 (List.mem_of_getElem? (i := 223) (by decide +kernel)) (by decide +kernel)
theorem mw_137 : (Cond.instanceMethod y_T_ask) ∈ wd := mt_1 (List.mem_of_getElem? (i := 221) (by decide +kernel)) (by decide +kernel)
theorem mw_138 : (Cond.selects R_T y_T_ask y_T_ask) ∈ wd := mt_1 (List.mem_of_getElem? (i := 222) (by decide +kernel)) (by decide +kernel)
theorem mw_139 : (Cond.initialized R_T) ∈ wd := mt_1 (List.mem_of_getElem? (i := 6) (by decide +kernel)) (by decide +kernel)
theorem mw_140 : (Cond.methodLink R_T 28 y_T_isPending) ∈ wd := mt_2 (List.mem_of_getElem? (i := 171) (by decide +kernel)) (by decide +kernel)
theorem mw_141 : (Cond.code y_T_isPending b_T_isPending 2 (some .boolean)) ∈ wd := mt_1 (List.mem_of_getElem? (i := 219) (by decide +kernel)) (by decide +kernel)
theorem mw_142 : (Cond.instanceMethod y_T_isPending) ∈ wd := mt_1 (List.mem_of_getElem? (i := 217) (by decide +kernel)) (by decide +kernel)
theorem mw_143 : (Cond.selects R_T y_T_isPending y_T_isPending) ∈ wd := mt_1 (List.mem_of_getElem? (i := 218) (by decide +kernel)) (by decide +kernel)
theorem mw_144 : (Cond.methodLink R_P 87 y_R_keep) ∈ wd := mt_2 (List.mem_of_getElem? (i := 176) (by decide +kernel)) (by decide +kernel)
theorem mw_145 : (Cond.code y_R_keep b_R_keep 7 (some .boolean)) ∈ wd := mt_2 (List.mem_of_getElem? (i := 179) (by decide +kernel)) (by decide +kernel)
theorem mw_146 : (Cond.instanceMethod y_R_keep) ∈ wd := mt_2 (List.mem_of_getElem? (i := 177) (by decide +kernel)) (by decide +kernel)
theorem mw_147 : (Cond.selects R_R y_R_keep y_R_keep) ∈ wd := mt_2 (List.mem_of_getElem? (i := 178) (by decide +kernel)) (by decide +kernel)
theorem mw_148 : (Cond.methodLink R_P 91 y_T_take) ∈ wd := mt_2 (List.mem_of_getElem? (i := 185) (by decide +kernel)) (by decide +kernel)
theorem mw_149 : (Cond.code y_T_take b_T_take 2 (none)) ∈ wd := mt_2 (List.mem_of_getElem? (i := 188) (by decide +kernel)) (by decide +kernel)
theorem mw_150 : (Cond.instanceMethod y_T_take) ∈ wd := mt_2 (List.mem_of_getElem? (i := 186) (by decide +kernel)) (by decide +kernel)
theorem mw_151 : (Cond.selects R_T y_T_take y_T_take) ∈ wd := mt_2 (List.mem_of_getElem? (i := 187) (by decide +kernel)) (by decide +kernel)
theorem mw_152 : (Cond.methodLink R_P 97 y_R_enterHandler) ∈ wd := mt_2 (List.mem_of_getElem? (i := 189) (by decide +kernel)) (by decide +kernel)
theorem mw_153 : (Cond.code y_R_enterHandler b_R_enterHandler 3 (none)) ∈ wd := mt_2 (List.mem_of_getElem? (i := 192) (by decide +kernel)) (by decide +kernel)
theorem mw_154 : (Cond.instanceMethod y_R_enterHandler) ∈ wd := mt_2 (List.mem_of_getElem? (i := 190) (by decide +kernel)) (by decide +kernel)
theorem mw_155 : (Cond.selects R_R y_R_enterHandler y_R_enterHandler) ∈ wd := mt_2 (List.mem_of_getElem? (i := 191) (by decide +kernel)) (by decide +kernel)
theorem mw_156 : (Cond.methodLink R_P 83 y_P_takeTrap) ∈ wd := mt_3 (List.mem_of_getElem? (i := 60) (by decide +kernel)) (by decide +kernel)
theorem mw_157 : (Cond.code y_P_takeTrap b_P_takeTrap 5 (none)) ∈ wd := mt_3 (List.mem_of_getElem? (i := 63) (by decide +kernel)) (by decide +kernel)
theorem mw_158 : (Cond.instanceMethod y_P_takeTrap) ∈ wd := mt_3 (List.mem_of_getElem? (i := 62) (by decide +kernel)) (by decide +kernel)
theorem mw_159 : (Cond.selects R_P y_P_takeTrap y_P_takeTrap) ∈ wd := mt_s (by decide +kernel) (by decide +kernel)
theorem mw_160 : (Cond.initialized R_P) ∈ wd := mt_1 (List.mem_of_getElem? (i := 2) (by decide +kernel)) (by decide +kernel)
theorem mw_161 : (Cond.methodLink R_P 116 y_M_has) ∈ wd := mt_2 (List.mem_of_getElem? (i := 197) (by decide +kernel)) (by decide +kernel)
theorem mw_162 : (Cond.methodLink R_P 120 y_P_isGuarded) ∈ wd := mt_2 (List.mem_of_getElem? (i := 198) (by decide +kernel)) (by decide +kernel)
theorem mw_163 : (Cond.code y_P_isGuarded b_P_isGuarded 1 (some .boolean)) ∈ wd := mt_2 (List.mem_of_getElem? (i := 201) (by decide +kernel)) (by decide +kernel)
theorem mw_164 : (Cond.instanceMethod y_P_isGuarded) ∈ wd := mt_2 (List.mem_of_getElem? (i := 200) (by decide +kernel)) (by decide +kernel)
theorem mw_165 : (Cond.selects R_P y_P_isGuarded y_P_isGuarded) ∈ wd := mt_s (by decide +kernel) (by decide +kernel)
theorem mw_166 : (Cond.methodLink R_P 127 y_G_letsRun) ∈ wd := mt_2 (List.mem_of_getElem? (i := 202) (by decide +kernel)) (by decide +kernel)
theorem mw_167 : (Cond.code y_G_letsRun b_G_letsRun 3 (some .boolean)) ∈ wd := mt_2 (List.mem_of_getElem? (i := 205) (by decide +kernel)) (by decide +kernel)
theorem mw_168 : (Cond.instanceMethod y_G_letsRun) ∈ wd := mt_2 (List.mem_of_getElem? (i := 203) (by decide +kernel)) (by decide +kernel)
theorem mw_169 : (Cond.selects R_G y_G_letsRun y_G_letsRun) ∈ wd := mt_2 (List.mem_of_getElem? (i := 204) (by decide +kernel)) (by decide +kernel)
theorem mw_170 : (Cond.methodLink R_P 184 y_G_letsUse) ∈ wd := mt_2 (List.mem_of_getElem? (i := 232) (by decide +kernel)) (by decide +kernel)
theorem mw_171 : (Cond.code y_G_letsUse b_G_letsUse 6 (some .boolean)) ∈ wd := mt_2 (List.mem_of_getElem? (i := 235) (by decide +kernel)) (by decide +kernel)
theorem mw_172 : (Cond.instanceMethod y_G_letsUse) ∈ wd := mt_2 (List.mem_of_getElem? (i := 233) (by decide +kernel)) (by decide +kernel)
theorem mw_173 : (Cond.selects R_G y_G_letsUse y_G_letsUse) ∈ wd := mt_2 (List.mem_of_getElem? (i := 234) (by decide +kernel)) (by decide +kernel)
theorem mw_174 : (Cond.methodLink R_P 175 y_P_fieldA) ∈ wd := mt_2 (List.mem_of_getElem? (i := 236) (by decide +kernel)) (by decide +kernel)
theorem mw_175 : (Cond.code y_P_fieldA b_P_fieldA 1 (some .int)) ∈ wd := mt_2 (List.mem_of_getElem? (i := 238) (by decide +kernel)) (by decide +kernel)
theorem mw_176 : (Cond.static y_P_fieldA) ∈ wd := mt_2 (List.mem_of_getElem? (i := 237) (by decide +kernel)) (by decide +kernel)
theorem mw_177 : (Cond.initialized y_P_fieldA.cls) ∈ wd := mt_1 (List.mem_of_getElem? (i := 2) (by decide +kernel)) (by decide +kernel)
theorem mw_178 : (Cond.methodLink R_P 178 y_P_fieldB) ∈ wd := mt_2 (List.mem_of_getElem? (i := 225) (by decide +kernel)) (by decide +kernel)
theorem mw_179 : (Cond.code y_P_fieldB b_P_fieldB 1 (some .int)) ∈ wd := mt_2 (List.mem_of_getElem? (i := 227) (by decide +kernel)) (by decide +kernel)
theorem mw_180 : (Cond.static y_P_fieldB) ∈ wd := mt_2 (List.mem_of_getElem? (i := 226) (by decide +kernel)) (by decide +kernel)
theorem mw_181 : (Cond.initialized y_P_fieldB.cls) ∈ wd := mt_1 (List.mem_of_getElem? (i := 2) (by decide +kernel)) (by decide +kernel)
theorem mw_182 : (Cond.methodLink R_P 181 y_P_fieldC) ∈ wd := mt_3 (List.mem_of_getElem? (i := 53) (by decide +kernel)) (by decide +kernel)
theorem mw_183 : (Cond.code y_P_fieldC b_P_fieldC 1 (some .int)) ∈ wd := mt_3 (List.mem_of_getElem? (i := 55) (by decide +kernel)) (by decide +kernel)
theorem mw_184 : (Cond.static y_P_fieldC) ∈ wd := mt_3 (List.mem_of_getElem? (i := 54) (by decide +kernel)) (by decide +kernel)
theorem mw_185 : (Cond.initialized y_P_fieldC.cls) ∈ wd := mt_1 (List.mem_of_getElem? (i := 2) (by decide +kernel)) (by decide +kernel)
theorem mw_186 : (Cond.methodLink R_P 131 y_P_amount) ∈ wd := mt_2 (List.mem_of_getElem? (i := 215) (by decide +kernel)) (by decide +kernel)
theorem mw_187 : (Cond.code y_P_amount b_P_amount 1 (some .int)) ∈ wd := mt_2 (List.mem_of_getElem? (i := 217) (by decide +kernel)) (by decide +kernel)
theorem mw_188 : (Cond.static y_P_amount) ∈ wd := mt_2 (List.mem_of_getElem? (i := 216) (by decide +kernel)) (by decide +kernel)
theorem mw_189 : (Cond.initialized y_P_amount.cls) ∈ wd := mt_1 (List.mem_of_getElem? (i := 2) (by decide +kernel)) (by decide +kernel)
theorem mw_190 : (Cond.methodLink R_P 188 y_P_refuseWord) ∈ wd := mt_2 (List.mem_of_getElem? (i := 228) (by decide +kernel)) (by decide +kernel)
theorem mw_191 : (Cond.code y_P_refuseWord b_P_refuseWord 3 (some .int)) ∈ wd := mt_2 (List.mem_of_getElem? (i := 231) (by decide +kernel)) (by decide +kernel)
theorem mw_192 : (Cond.instanceMethod y_P_refuseWord) ∈ wd := mt_2 (List.mem_of_getElem? (i := 230) (by decide +kernel)) (by decide +kernel)
theorem mw_193 : (Cond.selects R_P y_P_refuseWord y_P_refuseWord) ∈ wd := mt_s (by decide +kernel) (by decide +kernel)
theorem mw_194 : (Cond.methodLink R_P 70 y_M_read) ∈ wd := mt_2 (List.mem_of_getElem? (i := 210) (by decide +kernel)) (by decide +kernel)
theorem mw_195 : (Cond.methodLink R_P 191 y_M_write) ∈ wd := mt_2 (List.mem_of_getElem? (i := 239) (by decide +kernel)) (by decide +kernel)
theorem mw_196 : (Cond.methodLink R_P 196 y_Z_floorMod) ∈ wd := mt_3 (List.mem_of_getElem? (i := 6) (by decide +kernel)) (by decide +kernel)
theorem mw_197 : (Cond.code y_Z_floorMod b_Z_floorMod 3 (some .int)) ∈ wd := mt_3 (List.mem_of_getElem? (i := 8) (by decide +kernel)) (by decide +kernel)
theorem mw_198 : (Cond.static y_Z_floorMod) ∈ wd := mt_3 (List.mem_of_getElem? (i := 7) (by decide +kernel)) (by decide +kernel)
theorem mw_199 : (Cond.initialized y_Z_floorMod.cls) ∈ wd := mt_1 (List.mem_of_getElem? (i := 13) (by decide +kernel)) (by decide +kernel)
theorem mw_200 : (Cond.methodLink R_P 201 y_R_refuseBack) ∈ wd := mt_3 (List.mem_of_getElem? (i := 21) (by decide +kernel)) (by decide +kernel)
theorem mw_201 : (Cond.code y_R_refuseBack b_R_refuseBack 3 (some .int)) ∈ wd := mt_3 (List.mem_of_getElem? (i := 24) (by decide +kernel)) (by decide +kernel)
theorem mw_202 : (Cond.instanceMethod y_R_refuseBack) ∈ wd := mt_3 (List.mem_of_getElem? (i := 22) (by decide +kernel)) (by decide +kernel)
theorem mw_203 : (Cond.selects R_R y_R_refuseBack y_R_refuseBack) ∈ wd := mt_3 (List.mem_of_getElem? (i := 23) (by decide +kernel)) (by decide +kernel)
theorem mw_204 : (Cond.methodLink R_P 207 y_R_bringBack) ∈ wd := mt_3 (List.mem_of_getElem? (i := 25) (by decide +kernel)) (by decide +kernel)
theorem mw_205 : (Cond.code y_R_bringBack b_R_bringBack 7 (none)) ∈ wd := mt_3 (List.mem_of_getElem? (i := 28) (by decide +kernel)) (by decide +kernel)
theorem mw_206 : (Cond.instanceMethod y_R_bringBack) ∈ wd := mt_3 (List.mem_of_getElem? (i := 26) (by decide +kernel)) (by decide +kernel)
theorem mw_207 : (Cond.selects R_R y_R_bringBack y_R_bringBack) ∈ wd := mt_3 (List.mem_of_getElem? (i := 27) (by decide +kernel)) (by decide +kernel)
theorem mw_208 : (Cond.methodLink R_P 134 y_P_needsTopLevel) ∈ wd := mt_2 (List.mem_of_getElem? (i := 218) (by decide +kernel)) (by decide +kernel)
theorem mw_209 : (Cond.code y_P_needsTopLevel b_P_needsTopLevel 1 (some .boolean)) ∈ wd := mt_2 (List.mem_of_getElem? (i := 220) (by decide +kernel)) (by decide +kernel)
theorem mw_210 : (Cond.static y_P_needsTopLevel) ∈ wd := mt_2 (List.mem_of_getElem? (i := 219) (by decide +kernel)) (by decide +kernel)
theorem mw_211 : (Cond.initialized y_P_needsTopLevel.cls) ∈ wd := mt_1 (List.mem_of_getElem? (i := 2) (by decide +kernel)) (by decide +kernel)
theorem mw_212 : (Cond.methodLink R_P 169 y_P_compute) ∈ wd := mt_3 (List.mem_of_getElem? (i := 49) (by decide +kernel)) (by decide +kernel)
theorem mw_213 : (Cond.code y_P_compute b_P_compute 9 (some .int)) ∈ wd := mt_3 (List.mem_of_getElem? (i := 52) (by decide +kernel)) (by decide +kernel)
theorem mw_214 : (Cond.instanceMethod y_P_compute) ∈ wd := mt_3 (List.mem_of_getElem? (i := 51) (by decide +kernel)) (by decide +kernel)
theorem mw_215 : (Cond.selects R_P y_P_compute y_P_compute) ∈ wd := mt_s (by decide +kernel) (by decide +kernel)
theorem mw_216 : (Cond.methodLink R_P 137 y_P_moveWord) ∈ wd := mt_2 (List.mem_of_getElem? (i := 221) (by decide +kernel)) (by decide +kernel)
theorem mw_217 : (Cond.code y_P_moveWord b_P_moveWord 9 (some .int)) ∈ wd := mt_2 (List.mem_of_getElem? (i := 224) (by decide +kernel)) (by decide +kernel)
theorem mw_218 : (Cond.instanceMethod y_P_moveWord) ∈ wd := mt_2 (List.mem_of_getElem? (i := 223) (by decide +kernel)) (by decide +kernel)
theorem mw_219 : (Cond.selects R_P y_P_moveWord y_P_moveWord) ∈ wd := mt_s (by decide +kernel) (by decide +kernel)
theorem mw_220 : (Cond.methodLink R_P 141 y_P_readRing) ∈ wd := mt_3 (List.mem_of_getElem? (i := 0) (by decide +kernel)) (by decide +kernel)
theorem mw_221 : (Cond.code y_P_readRing b_P_readRing 8 (some .int)) ∈ wd := mt_3 (List.mem_of_getElem? (i := 3) (by decide +kernel)) (by decide +kernel)
theorem mw_222 : (Cond.instanceMethod y_P_readRing) ∈ wd := mt_3 (List.mem_of_getElem? (i := 2) (by decide +kernel)) (by decide +kernel)
theorem mw_223 : (Cond.selects R_P y_P_readRing y_P_readRing) ∈ wd := mt_s (by decide +kernel) (by decide +kernel)
theorem mw_224 : (Cond.methodLink R_P 144 y_P_jump) ∈ wd := mt_3 (List.mem_of_getElem? (i := 9) (by decide +kernel)) (by decide +kernel)
theorem mw_225 : (Cond.code y_P_jump b_P_jump 6 (some .int)) ∈ wd := mt_3 (List.mem_of_getElem? (i := 12) (by decide +kernel)) (by decide +kernel)
theorem mw_226 : (Cond.instanceMethod y_P_jump) ∈ wd := mt_3 (List.mem_of_getElem? (i := 11) (by decide +kernel)) (by decide +kernel)
theorem mw_227 : (Cond.selects R_P y_P_jump y_P_jump) ∈ wd := mt_s (by decide +kernel) (by decide +kernel)
theorem mw_228 : (Cond.methodLink R_P 147 y_P_callDown) ∈ wd := mt_3 (List.mem_of_getElem? (i := 13) (by decide +kernel)) (by decide +kernel)
theorem mw_229 : (Cond.code y_P_callDown b_P_callDown 2 (some .int)) ∈ wd := mt_3 (List.mem_of_getElem? (i := 16) (by decide +kernel)) (by decide +kernel)
theorem mw_230 : (Cond.instanceMethod y_P_callDown) ∈ wd := mt_3 (List.mem_of_getElem? (i := 15) (by decide +kernel)) (by decide +kernel)
theorem mw_231 : (Cond.selects R_P y_P_callDown y_P_callDown) ∈ wd := mt_s (by decide +kernel) (by decide +kernel)
theorem mw_232 : (Cond.methodLink R_P 153 y_P_goBack) ∈ wd := mt_3 (List.mem_of_getElem? (i := 17) (by decide +kernel)) (by decide +kernel)
theorem mw_233 : (Cond.code y_P_goBack b_P_goBack 3 (some .int)) ∈ wd := mt_3 (List.mem_of_getElem? (i := 20) (by decide +kernel)) (by decide +kernel)
theorem mw_234 : (Cond.instanceMethod y_P_goBack) ∈ wd := mt_3 (List.mem_of_getElem? (i := 19) (by decide +kernel)) (by decide +kernel)
theorem mw_235 : (Cond.selects R_P y_P_goBack y_P_goBack) ∈ wd := mt_s (by decide +kernel) (by decide +kernel)
theorem mw_236 : (Cond.methodLink R_P 157 y_P_keepLower) ∈ wd := mt_3 (List.mem_of_getElem? (i := 33) (by decide +kernel)) (by decide +kernel)
theorem mw_237 : (Cond.code y_P_keepLower b_P_keepLower 1 (some .int)) ∈ wd := mt_3 (List.mem_of_getElem? (i := 36) (by decide +kernel)) (by decide +kernel)
theorem mw_238 : (Cond.instanceMethod y_P_keepLower) ∈ wd := mt_3 (List.mem_of_getElem? (i := 35) (by decide +kernel)) (by decide +kernel)
theorem mw_239 : (Cond.selects R_P y_P_keepLower y_P_keepLower) ∈ wd := mt_s (by decide +kernel) (by decide +kernel)
theorem mw_240 : (Cond.methodLink R_P 160 y_P_bringLowerBack) ∈ wd := mt_3 (List.mem_of_getElem? (i := 37) (by decide +kernel)) (by decide +kernel)
theorem mw_241 : (Cond.code y_P_bringLowerBack b_P_bringLowerBack 2 (some .int)) ∈ wd := mt_3 (List.mem_of_getElem? (i := 40) (by decide +kernel)) (by decide +kernel)
theorem mw_242 : (Cond.instanceMethod y_P_bringLowerBack) ∈ wd := mt_3 (List.mem_of_getElem? (i := 39) (by decide +kernel)) (by decide +kernel)
theorem mw_243 : (Cond.selects R_P y_P_bringLowerBack y_P_bringLowerBack) ∈ wd := mt_s (by decide +kernel) (by decide +kernel)
theorem mw_244 : (Cond.methodLink R_P 163 y_P_openHandler) ∈ wd := mt_3 (List.mem_of_getElem? (i := 41) (by decide +kernel)) (by decide +kernel)
theorem mw_245 : (Cond.code y_P_openHandler b_P_openHandler 2 (some .int)) ∈ wd := mt_3 (List.mem_of_getElem? (i := 44) (by decide +kernel)) (by decide +kernel)
theorem mw_246 : (Cond.instanceMethod y_P_openHandler) ∈ wd := mt_3 (List.mem_of_getElem? (i := 43) (by decide +kernel)) (by decide +kernel)
theorem mw_247 : (Cond.selects R_P y_P_openHandler y_P_openHandler) ∈ wd := mt_s (by decide +kernel) (by decide +kernel)
theorem mw_248 : (Cond.methodLink R_P 166 y_P_changeLevel) ∈ wd := mt_3 (List.mem_of_getElem? (i := 45) (by decide +kernel)) (by decide +kernel)
theorem mw_249 : (Cond.code y_P_changeLevel b_P_changeLevel 2 (some .int)) ∈ wd := mt_3 (List.mem_of_getElem? (i := 48) (by decide +kernel)) (by decide +kernel)
theorem mw_250 : (Cond.instanceMethod y_P_changeLevel) ∈ wd := mt_3 (List.mem_of_getElem? (i := 47) (by decide +kernel)) (by decide +kernel)
theorem mw_251 : (Cond.selects R_P y_P_changeLevel y_P_changeLevel) ∈ wd := mt_s (by decide +kernel) (by decide +kernel)
theorem mw_252 : (Cond.methodLink R_P 43 y_T_tick) ∈ wd := mt_2 (List.mem_of_getElem? (i := 162) (by decide +kernel)) (by decide +kernel)
theorem mw_253 : (Cond.code y_T_tick b_T_tick 1 (none)) ∈ wd := mt_2 (List.mem_of_getElem? (i := 165) (by decide +kernel)) (by decide +kernel)
theorem mw_254 : (Cond.instanceMethod y_T_tick) ∈ wd := mt_2 (List.mem_of_getElem? (i := 163) (by decide +kernel)) (by decide +kernel)
theorem mw_255 : (Cond.selects R_T y_T_tick y_T_tick) ∈ wd := mt_2 (List.mem_of_getElem? (i := 164) (by decide +kernel)) (by decide +kernel)
theorem mw_256 : (Cond.methodLink R_P 53 y_T_greatest) ∈ wd := mt_2 (List.mem_of_getElem? (i := 167) (by decide +kernel)) (by decide +kernel)
theorem mw_257 : (Cond.code y_T_greatest b_T_greatest 2 (some .int)) ∈ wd := mt_2 (List.mem_of_getElem? (i := 170) (by decide +kernel)) (by decide +kernel)
theorem mw_258 : (Cond.instanceMethod y_T_greatest) ∈ wd := mt_2 (List.mem_of_getElem? (i := 168) (by decide +kernel)) (by decide +kernel)
theorem mw_259 : (Cond.selects R_T y_T_greatest y_T_greatest) ∈ wd := mt_2 (List.mem_of_getElem? (i := 169) (by decide +kernel)) (by decide +kernel)
theorem mw_260 : (Cond.methodLink R_P 64 y_P_refuseFetch) ∈ wd := mt_2 (List.mem_of_getElem? (i := 193) (by decide +kernel)) (by decide +kernel)
theorem mw_261 : (Cond.code y_P_refuseFetch b_P_refuseFetch 2 (some .int)) ∈ wd := mt_2 (List.mem_of_getElem? (i := 196) (by decide +kernel)) (by decide +kernel)
theorem mw_262 : (Cond.instanceMethod y_P_refuseFetch) ∈ wd := mt_2 (List.mem_of_getElem? (i := 195) (by decide +kernel)) (by decide +kernel)
theorem mw_263 : (Cond.selects R_P y_P_refuseFetch y_P_refuseFetch) ∈ wd := mt_s (by decide +kernel) (by decide +kernel)
theorem mw_264 : (Cond.methodLink R_P 77 y_P_finish) ∈ wd := mt_3 (List.mem_of_getElem? (i := 56) (by decide +kernel)) (by decide +kernel)
theorem mw_265 : (Cond.code y_P_finish b_P_finish 2 (none)) ∈ wd := mt_3 (List.mem_of_getElem? (i := 59) (by decide +kernel)) (by decide +kernel)
theorem mw_266 : (Cond.instanceMethod y_P_finish) ∈ wd := mt_3 (List.mem_of_getElem? (i := 58) (by decide +kernel)) (by decide +kernel)
theorem mw_267 : (Cond.selects R_P y_P_finish y_P_finish) ∈ wd := mt_s (by decide +kernel) (by decide +kernel)
theorem mw_268 : (Cond.methodLink R_P 74 y_P_perform) ∈ wd := mt_2 (List.mem_of_getElem? (i := 211) (by decide +kernel)) (by decide +kernel)
theorem mw_269 : (Cond.code y_P_perform b_P_perform 4 (some .int)) ∈ wd := mt_2 (List.mem_of_getElem? (i := 214) (by decide +kernel)) (by decide +kernel)
theorem mw_270 : (Cond.instanceMethod y_P_perform) ∈ wd := mt_2 (List.mem_of_getElem? (i := 213) (by decide +kernel)) (by decide +kernel)
theorem mw_271 : (Cond.selects R_P y_P_perform y_P_perform) ∈ wd := mt_s (by decide +kernel) (by decide +kernel)
theorem mw_272 : (Cond.methodLink R_P 60 y_P_takeInterrupt) ∈ wd := mt_2 (List.mem_of_getElem? (i := 172) (by decide +kernel)) (by decide +kernel)
theorem mw_273 : (Cond.code y_P_takeInterrupt b_P_takeInterrupt 2 (none)) ∈ wd := mt_2 (List.mem_of_getElem? (i := 175) (by decide +kernel)) (by decide +kernel)
theorem mw_274 : (Cond.instanceMethod y_P_takeInterrupt) ∈ wd := mt_2 (List.mem_of_getElem? (i := 174) (by decide +kernel)) (by decide +kernel)
theorem mw_275 : (Cond.selects R_P y_P_takeInterrupt y_P_takeInterrupt) ∈ wd := mt_s (by decide +kernel) (by decide +kernel)
theorem mw_276 : (Cond.methodLink R_C 16 y_M_has) ∈ wd := mt_1 (List.mem_of_getElem? (i := 193) (by decide +kernel)) (by decide +kernel)
theorem mw_277 : (Cond.methodLink R_C 26 y_M_write) ∈ wd := mt_1 (List.mem_of_getElem? (i := 196) (by decide +kernel)) (by decide +kernel)
theorem mw_278 : (Cond.methodLink R_C 46 y_M_chainAreas) ∈ wd := mt_2 (List.mem_of_getElem? (i := 112) (by decide +kernel)) (by decide +kernel)
theorem mw_279 : (Cond.code y_M_chainAreas b_M_chainAreas 3 (none)) ∈ wd := mt_2 (List.mem_of_getElem? (i := 115) (by decide +kernel)) (by decide +kernel)
theorem mw_280 : (Cond.instanceMethod y_M_chainAreas) ∈ wd := mt_2 (List.mem_of_getElem? (i := 113) (by decide +kernel)) (by decide +kernel)
theorem mw_281 : (Cond.selects R_M y_M_chainAreas y_M_chainAreas) ∈ wd := mt_2 (List.mem_of_getElem? (i := 114) (by decide +kernel)) (by decide +kernel)
theorem mw_282 : (Cond.methodLink R_C 80 y_G_change) ∈ wd := mt_2 (List.mem_of_getElem? (i := 126) (by decide +kernel)) (by decide +kernel)
theorem mw_283 : (Cond.code y_G_change b_G_change 5 (none)) ∈ wd := mt_2 (List.mem_of_getElem? (i := 129) (by decide +kernel)) (by decide +kernel)
theorem mw_284 : (Cond.instanceMethod y_G_change) ∈ wd := mt_2 (List.mem_of_getElem? (i := 127) (by decide +kernel)) (by decide +kernel)
theorem mw_285 : (Cond.selects R_G y_G_change y_G_change) ∈ wd := mt_2 (List.mem_of_getElem? (i := 128) (by decide +kernel)) (by decide +kernel)
theorem mw_286 : (Cond.methodLink R_C 89 y_T_has) ∈ wd := mt_1 (List.mem_of_getElem? (i := 213) (by decide +kernel)) (by decide +kernel)
theorem mw_287 : (Cond.code y_T_has b_T_has 1 (some .boolean)) ∈ wd := mt_1 (List.mem_of_getElem? (i := 215) (by decide +kernel)) (by decide +kernel)
theorem mw_288 : (Cond.static y_T_has) ∈ wd := mt_1 (List.mem_of_getElem? (i := 214) (by decide +kernel)) (by decide +kernel)
theorem mw_289 : (Cond.initialized y_T_has.cls) ∈ wd := mt_1 (List.mem_of_getElem? (i := 6) (by decide +kernel)) (by decide +kernel)
theorem mw_290 : (Cond.methodLink R_C 104 y_T_isPending) ∈ wd := mt_1 (List.mem_of_getElem? (i := 216) (by decide +kernel)) (by decide +kernel)
theorem mw_291 : (Cond.methodLink R_C 107 y_T_ask) ∈ wd := mt_1 (List.mem_of_getElem? (i := 220) (by decide +kernel)) (by decide +kernel)
theorem mw_292 : (Cond.methodLink R_C 112 y_R_begin) ∈ wd := mt_2 (List.mem_of_getElem? (i := 146) (by decide +kernel)) (by decide +kernel)
theorem mw_293 : (Cond.code y_R_begin b_R_begin 4 (none)) ∈ wd := mt_2 (List.mem_of_getElem? (i := 149) (by decide +kernel)) (by decide +kernel)
theorem mw_294 : (Cond.instanceMethod y_R_begin) ∈ wd := mt_2 (List.mem_of_getElem? (i := 147) (by decide +kernel)) (by decide +kernel)
theorem mw_295 : (Cond.selects R_R y_R_begin y_R_begin) ∈ wd := mt_2 (List.mem_of_getElem? (i := 148) (by decide +kernel)) (by decide +kernel)
theorem mw_296 : (Cond.methodLink R_C 118 y_P_step) ∈ wd := mt_2 (List.mem_of_getElem? (i := 158) (by decide +kernel)) (by decide +kernel)
theorem mw_297 : (Cond.code y_P_step b_P_step 3 (none)) ∈ wd := mt_2 (List.mem_of_getElem? (i := 161) (by decide +kernel)) (by decide +kernel)
theorem mw_298 : (Cond.instanceMethod y_P_step) ∈ wd := mt_2 (List.mem_of_getElem? (i := 159) (by decide +kernel)) (by decide +kernel)
theorem mw_299 : (Cond.selects R_P y_P_step y_P_step) ∈ wd := mt_2 (List.mem_of_getElem? (i := 160) (by decide +kernel)) (by decide +kernel)
theorem mw_300 : (Cond.methodLink R_C 133 y_M_read) ∈ wd := mt_1 (List.mem_of_getElem? (i := 232) (by decide +kernel)) (by decide +kernel)
theorem mw_301 : (Cond.methodLink R_C 140 y_R_state) ∈ wd := mt_2 (List.mem_of_getElem? (i := 0) (by decide +kernel)) (by decide +kernel)
theorem mw_302 : (Cond.methodLink R_C 165 y_M_countAreas) ∈ wd := mt_2 (List.mem_of_getElem? (i := 8) (by decide +kernel)) (by decide +kernel)
theorem mw_303 : (Cond.code y_M_countAreas b_M_countAreas 4 (some .int)) ∈ wd := mt_2 (List.mem_of_getElem? (i := 11) (by decide +kernel)) (by decide +kernel)
theorem mw_304 : (Cond.instanceMethod y_M_countAreas) ∈ wd := mt_2 (List.mem_of_getElem? (i := 9) (by decide +kernel)) (by decide +kernel)
theorem mw_305 : (Cond.selects R_M y_M_countAreas y_M_countAreas) ∈ wd := mt_2 (List.mem_of_getElem? (i := 10) (by decide +kernel)) (by decide +kernel)
theorem mw_306 : (Cond.methodLink R_X 41 y_X_isArea) ∈ wd := mt_3 (List.mem_of_getElem? (i := 235) (by decide +kernel)) (by decide +kernel)
theorem mw_307 : (Cond.code y_X_isArea b_X_isArea 1 (some .boolean)) ∈ wd := mt_3 (List.mem_of_getElem? (i := 237) (by decide +kernel)) (by decide +kernel)
theorem mw_308 : (Cond.static y_X_isArea) ∈ wd := mt_3 (List.mem_of_getElem? (i := 236) (by decide +kernel)) (by decide +kernel)
theorem mw_309 : (Cond.initialized y_X_isArea.cls) ∈ wd := mt_1 (List.mem_of_getElem? (i := 7) (by decide +kernel)) (by decide +kernel)
theorem mw_310 : (Cond.methodLink R_X 49 y_X_wordsOf) ∈ wd := mt_3 (List.mem_of_getElem? (i := 188) (by decide +kernel)) (by decide +kernel)
theorem mw_311 : (Cond.code y_X_wordsOf b_X_wordsOf 1 (some .int)) ∈ wd := mt_3 (List.mem_of_getElem? (i := 190) (by decide +kernel)) (by decide +kernel)
theorem mw_312 : (Cond.static y_X_wordsOf) ∈ wd := mt_3 (List.mem_of_getElem? (i := 189) (by decide +kernel)) (by decide +kernel)
theorem mw_313 : (Cond.initialized y_X_wordsOf.cls) ∈ wd := mt_1 (List.mem_of_getElem? (i := 7) (by decide +kernel)) (by decide +kernel)
theorem mw_314 : (Cond.methodLink R_X 74 y_X_keep) ∈ wd := mt_3 (List.mem_of_getElem? (i := 231) (by decide +kernel)) (by decide +kernel)
theorem mw_315 : (Cond.code y_X_keep b_X_keep 6 (some .boolean)) ∈ wd := mt_3 (List.mem_of_getElem? (i := 234) (by decide +kernel)) (by decide +kernel)
theorem mw_316 : (Cond.instanceMethod y_X_keep) ∈ wd := mt_3 (List.mem_of_getElem? (i := 233) (by decide +kernel)) (by decide +kernel)
theorem mw_317 : (Cond.selects R_X y_X_keep y_X_keep) ∈ wd := mt_s (by decide +kernel) (by decide +kernel)
theorem mw_318 : (Cond.initialized R_X) ∈ wd := mt_1 (List.mem_of_getElem? (i := 7) (by decide +kernel)) (by decide +kernel)
theorem mw_319 : (Cond.methodLink R_X 84 y_X_enter) ∈ wd := mt_3 (List.mem_of_getElem? (i := 227) (by decide +kernel)) (by decide +kernel)
theorem mw_320 : (Cond.code y_X_enter b_X_enter 3 (some .boolean)) ∈ wd := mt_3 (List.mem_of_getElem? (i := 230) (by decide +kernel)) (by decide +kernel)
theorem mw_321 : (Cond.instanceMethod y_X_enter) ∈ wd := mt_3 (List.mem_of_getElem? (i := 229) (by decide +kernel)) (by decide +kernel)
theorem mw_322 : (Cond.selects R_X y_X_enter y_X_enter) ∈ wd := mt_s (by decide +kernel) (by decide +kernel)
theorem mw_323 : (Cond.methodLink R_X 94 y_X_guarded) ∈ wd := mt_4 (List.mem_of_getElem? (i := 2) (by decide +kernel)) (by decide +kernel)
theorem mw_324 : (Cond.code y_X_guarded b_X_guarded 1 (some .boolean)) ∈ wd := mt_4 (List.mem_of_getElem? (i := 5) (by decide +kernel)) (by decide +kernel)
theorem mw_325 : (Cond.instanceMethod y_X_guarded) ∈ wd := mt_4 (List.mem_of_getElem? (i := 4) (by decide +kernel)) (by decide +kernel)
theorem mw_326 : (Cond.selects R_X y_X_guarded y_X_guarded) ∈ wd := mt_s (by decide +kernel) (by decide +kernel)
theorem mw_327 : (Cond.methodLink R_X 99 y_X_may) ∈ wd := mt_4 (List.mem_of_getElem? (i := 19) (by decide +kernel)) (by decide +kernel)
theorem mw_328 : (Cond.code y_X_may b_X_may 6 (some .boolean)) ∈ wd := mt_4 (List.mem_of_getElem? (i := 22) (by decide +kernel)) (by decide +kernel)
theorem mw_329 : (Cond.instanceMethod y_X_may) ∈ wd := mt_4 (List.mem_of_getElem? (i := 21) (by decide +kernel)) (by decide +kernel)
theorem mw_330 : (Cond.selects R_X y_X_may y_X_may) ∈ wd := mt_s (by decide +kernel) (by decide +kernel)
theorem mw_331 : (Cond.methodLink R_X 104 y_X_canBring) ∈ wd := mt_4 (List.mem_of_getElem? (i := 31) (by decide +kernel)) (by decide +kernel)
theorem mw_332 : (Cond.code y_X_canBring b_X_canBring 3 (some .boolean)) ∈ wd := mt_4 (List.mem_of_getElem? (i := 34) (by decide +kernel)) (by decide +kernel)
theorem mw_333 : (Cond.instanceMethod y_X_canBring) ∈ wd := mt_4 (List.mem_of_getElem? (i := 33) (by decide +kernel)) (by decide +kernel)
theorem mw_334 : (Cond.selects R_X y_X_canBring y_X_canBring) ∈ wd := mt_s (by decide +kernel) (by decide +kernel)
theorem mw_335 : (Cond.methodLink R_X 107 y_X_bring) ∈ wd := mt_4 (List.mem_of_getElem? (i := 35) (by decide +kernel)) (by decide +kernel)
theorem mw_336 : (Cond.code y_X_bring b_X_bring 6 (none)) ∈ wd := mt_4 (List.mem_of_getElem? (i := 38) (by decide +kernel)) (by decide +kernel)
theorem mw_337 : (Cond.instanceMethod y_X_bring) ∈ wd := mt_4 (List.mem_of_getElem? (i := 37) (by decide +kernel)) (by decide +kernel)
theorem mw_338 : (Cond.selects R_X y_X_bring y_X_bring) ∈ wd := mt_s (by decide +kernel) (by decide +kernel)
theorem mw_339 : (Cond.methodLink R_X 127 y_X_system) ∈ wd := mt_4 (List.mem_of_getElem? (i := 39) (by decide +kernel)) (by decide +kernel)
theorem mw_340 : (Cond.code y_X_system b_X_system 3 (none)) ∈ wd := mt_4 (List.mem_of_getElem? (i := 42) (by decide +kernel)) (by decide +kernel)
theorem mw_341 : (Cond.instanceMethod y_X_system) ∈ wd := mt_4 (List.mem_of_getElem? (i := 41) (by decide +kernel)) (by decide +kernel)
theorem mw_342 : (Cond.selects R_X y_X_system y_X_system) ∈ wd := mt_s (by decide +kernel) (by decide +kernel)
theorem mw_343 : (Cond.methodLink R_X 111 y_X_reckon) ∈ wd := mt_4 (List.mem_of_getElem? (i := 10) (by decide +kernel)) (by decide +kernel)
theorem mw_344 : (Cond.code y_X_reckon b_X_reckon 8 (none)) ∈ wd := mt_4 (List.mem_of_getElem? (i := 13) (by decide +kernel)) (by decide +kernel)
theorem mw_345 : (Cond.instanceMethod y_X_reckon) ∈ wd := mt_4 (List.mem_of_getElem? (i := 12) (by decide +kernel)) (by decide +kernel)
theorem mw_346 : (Cond.selects R_X y_X_reckon y_X_reckon) ∈ wd := mt_s (by decide +kernel) (by decide +kernel)
theorem mw_347 : (Cond.methodLink R_X 115 y_X_move) ∈ wd := mt_4 (List.mem_of_getElem? (i := 14) (by decide +kernel)) (by decide +kernel)
theorem mw_348 : (Cond.code y_X_move b_X_move 11 (none)) ∈ wd := mt_4 (List.mem_of_getElem? (i := 17) (by decide +kernel)) (by decide +kernel)
theorem mw_349 : (Cond.instanceMethod y_X_move) ∈ wd := mt_4 (List.mem_of_getElem? (i := 16) (by decide +kernel)) (by decide +kernel)
theorem mw_350 : (Cond.selects R_X y_X_move y_X_move) ∈ wd := mt_s (by decide +kernel) (by decide +kernel)
theorem mw_351 : (Cond.methodLink R_X 119 y_X_jump) ∈ wd := mt_4 (List.mem_of_getElem? (i := 24) (by decide +kernel)) (by decide +kernel)
theorem mw_352 : (Cond.code y_X_jump b_X_jump 6 (some .int)) ∈ wd := mt_4 (List.mem_of_getElem? (i := 26) (by decide +kernel)) (by decide +kernel)
theorem mw_353 : (Cond.static y_X_jump) ∈ wd := mt_4 (List.mem_of_getElem? (i := 25) (by decide +kernel)) (by decide +kernel)
theorem mw_354 : (Cond.initialized y_X_jump.cls) ∈ wd := mt_1 (List.mem_of_getElem? (i := 7) (by decide +kernel)) (by decide +kernel)
theorem mw_355 : (Cond.methodLink R_X 123 y_X_context) ∈ wd := mt_4 (List.mem_of_getElem? (i := 27) (by decide +kernel)) (by decide +kernel)
theorem mw_356 : (Cond.code y_X_context b_X_context 5 (some .int)) ∈ wd := mt_4 (List.mem_of_getElem? (i := 30) (by decide +kernel)) (by decide +kernel)
theorem mw_357 : (Cond.instanceMethod y_X_context) ∈ wd := mt_4 (List.mem_of_getElem? (i := 29) (by decide +kernel)) (by decide +kernel)
theorem mw_358 : (Cond.selects R_X y_X_context y_X_context) ∈ wd := mt_s (by decide +kernel) (by decide +kernel)
theorem mw_359 : (Cond.methodLink R_X 146 y_X_take) ∈ wd := mt_3 (List.mem_of_getElem? (i := 238) (by decide +kernel)) (by decide +kernel)
theorem mw_360 : (Cond.code y_X_take b_X_take 3 (none)) ∈ wd := mt_4 (List.mem_of_getElem? (i := 1) (by decide +kernel)) (by decide +kernel)
theorem mw_361 : (Cond.instanceMethod y_X_take) ∈ wd := mt_4 (List.mem_of_getElem? (i := 0) (by decide +kernel)) (by decide +kernel)
theorem mw_362 : (Cond.selects R_X y_X_take y_X_take) ∈ wd := mt_s (by decide +kernel) (by decide +kernel)
theorem mw_363 : (Cond.methodLink R_X 149 y_X_instruction) ∈ wd := mt_4 (List.mem_of_getElem? (i := 6) (by decide +kernel)) (by decide +kernel)
theorem mw_364 : (Cond.code y_X_instruction b_X_instruction 9 (none)) ∈ wd := mt_4 (List.mem_of_getElem? (i := 9) (by decide +kernel)) (by decide +kernel)
theorem mw_365 : (Cond.instanceMethod y_X_instruction) ∈ wd := mt_4 (List.mem_of_getElem? (i := 8) (by decide +kernel)) (by decide +kernel)
theorem mw_366 : (Cond.selects R_X y_X_instruction y_X_instruction) ∈ wd := mt_s (by decide +kernel) (by decide +kernel)
theorem mw_367 : (Cond.methodLink R_X 153 y_X_step) ∈ wd := mt_3 (List.mem_of_getElem? (i := 223) (by decide +kernel)) (by decide +kernel)
theorem mw_368 : (Cond.code y_X_step b_X_step 3 (none)) ∈ wd := mt_3 (List.mem_of_getElem? (i := 226) (by decide +kernel)) (by decide +kernel)
theorem mw_369 : (Cond.instanceMethod y_X_step) ∈ wd := mt_3 (List.mem_of_getElem? (i := 225) (by decide +kernel)) (by decide +kernel)
theorem mw_370 : (Cond.selects R_X y_X_step y_X_step) ∈ wd := mt_s (by decide +kernel) (by decide +kernel)
theorem g_M_read_M_has_15 : GoodIn wd (va_wsS R_M 15 y_M_has (.code y_M_has b_M_has 1 (some .boolean) :: wd)) := zz_goodS wd_good mw_96 mw_98 mw_99 mw_97
theorem g_M_write_M_has_15 : GoodIn wd (va_wsS R_M 15 y_M_has (.code y_M_has b_M_has 1 (some .boolean) :: wd)) := zz_goodS wd_good mw_96 mw_98 mw_99 mw_97
theorem g_M_chainAreas_M_areaStart_19 : GoodIn wd (va_wsS R_M 19 y_M_areaStart (.code y_M_areaStart b_M_areaStart 1 (some .int) :: wd)) := zz_goodS wd_good mw_100 mw_102 mw_103 mw_101
theorem g_M_chainAreas_M_write_23 : GoodIn wd (wsV R_M 23 R_M y_M_write (.code y_M_write b_M_write 3 (none) :: wd)) := zz_goodV wd_good mw_104 mw_106 mw_107 mw_108 mw_105
theorem g_M_countAreas_M_isArea_27 : GoodIn wd (va_wsS R_M 27 y_M_isArea (.code y_M_isArea b_M_isArea 1 (some .boolean) :: wd)) := zz_goodS wd_good mw_109 mw_111 mw_112 mw_110
theorem g_M_countAreas_M_areaStart_19 : GoodIn wd (va_wsS R_M 19 y_M_areaStart (.code y_M_areaStart b_M_areaStart 1 (some .int) :: wd)) := zz_goodS wd_good mw_100 mw_102 mw_103 mw_101
theorem g_M_countAreas_M_read_30 : GoodIn wd (wsV R_M 30 R_M y_M_read (.code y_M_read b_M_read 2 (some .int) :: wd)) := zz_goodV wd_good mw_113 mw_115 mw_116 mw_108 mw_114
theorem g_R_keep_M_isArea_41 : GoodIn wd (va_wsS R_R 41 y_M_isArea (.code y_M_isArea b_M_isArea 1 (some .boolean) :: wd)) := zz_goodS wd_good mw_117 mw_111 mw_112 mw_110
theorem g_R_keep_M_areaStart_47 : GoodIn wd (va_wsS R_R 47 y_M_areaStart (.code y_M_areaStart b_M_areaStart 1 (some .int) :: wd)) := zz_goodS wd_good mw_118 mw_102 mw_103 mw_101
theorem g_R_keep_M_read_51 : GoodIn wd (wsV R_R 51 R_M y_M_read (.code y_M_read b_M_read 2 (some .int) :: wd)) := zz_goodV wd_good mw_119 mw_115 mw_116 mw_108 mw_114
theorem g_R_keep_M_write_57 : GoodIn wd (wsV R_R 57 R_M y_M_write (.code y_M_write b_M_write 3 (none) :: wd)) := zz_goodV wd_good mw_120 mw_106 mw_107 mw_108 mw_105
theorem g_R_keep_R_state_61 : GoodIn wd (wsV R_R 61 R_R y_R_state (.code y_R_state b_R_state 1 (some .int) :: wd)) := zz_goodV wd_good mw_121 mw_123 mw_124 mw_125 mw_122
theorem g_R_refuseBack_M_isArea_41 : GoodIn wd (va_wsS R_R 41 y_M_isArea (.code y_M_isArea b_M_isArea 1 (some .boolean) :: wd)) := zz_goodS wd_good mw_117 mw_111 mw_112 mw_110
theorem g_R_bringBack_M_areaStart_47 : GoodIn wd (va_wsS R_R 47 y_M_areaStart (.code y_M_areaStart b_M_areaStart 1 (some .int) :: wd)) := zz_goodS wd_good mw_118 mw_102 mw_103 mw_101
theorem g_R_bringBack_M_read_51 : GoodIn wd (wsV R_R 51 R_M y_M_read (.code y_M_read b_M_read 2 (some .int) :: wd)) := zz_goodV wd_good mw_119 mw_115 mw_116 mw_108 mw_114
theorem g_R_bringBack_R_takeState_71 : GoodIn wd (wsV R_R 71 R_R y_R_takeState (.code y_R_takeState b_R_takeState 2 (none) :: wd)) := zz_goodV wd_good mw_126 mw_128 mw_129 mw_125 mw_127
theorem g_R_bringBack_M_write_57 : GoodIn wd (wsV R_R 57 R_M y_M_write (.code y_M_write b_M_write 3 (none) :: wd)) := zz_goodV wd_good mw_120 mw_106 mw_107 mw_108 mw_105
theorem g_G_letsRun_G_covers_21 : GoodIn wd (wsV R_G 21 R_G y_G_covers (.code y_G_covers b_G_covers 3 (some .boolean) :: wd)) := zz_goodV wd_good mw_130 mw_132 mw_133 mw_134 mw_131
theorem g_G_letsUse_G_covers_21 : GoodIn wd (wsV R_G 21 R_G y_G_covers (.code y_G_covers b_G_covers 3 (some .boolean) :: wd)) := zz_goodV wd_good mw_130 mw_132 mw_133 mw_134 mw_131
theorem g_T_tick_T_ask_24 : GoodIn wd (wsV R_T 24 R_T y_T_ask (.code y_T_ask b_T_ask 2 (none) :: wd)) := zz_goodV wd_good mw_135 mw_137 mw_138 mw_139 mw_136
theorem g_T_greatest_T_isPending_28 : GoodIn wd (wsV R_T 28 R_T y_T_isPending (.code y_T_isPending b_T_isPending 2 (some .boolean) :: wd)) := zz_goodV wd_good mw_140 mw_142 mw_143 mw_139 mw_141
theorem g_P_takeInterrupt_R_keep_87 : GoodIn wd (wsV R_P 87 R_R y_R_keep (.code y_R_keep b_R_keep 7 (some .boolean) :: wd)) := zz_goodV wd_good mw_144 mw_146 mw_147 mw_125 mw_145
theorem g_P_takeInterrupt_T_take_91 : GoodIn wd (wsV R_P 91 R_T y_T_take (.code y_T_take b_T_take 2 (none) :: wd)) := zz_goodV wd_good mw_148 mw_150 mw_151 mw_139 mw_149
theorem g_P_takeInterrupt_R_enterHandler_97 : GoodIn wd (wsV R_P 97 R_R y_R_enterHandler (.code y_R_enterHandler b_R_enterHandler 3 (none) :: wd)) := zz_goodV wd_good mw_152 mw_154 mw_155 mw_125 mw_153
theorem g_P_takeTrap_R_keep_87 : GoodIn wd (wsV R_P 87 R_R y_R_keep (.code y_R_keep b_R_keep 7 (some .boolean) :: wd)) := zz_goodV wd_good mw_144 mw_146 mw_147 mw_125 mw_145
theorem g_P_takeTrap_R_enterHandler_97 : GoodIn wd (wsV R_P 97 R_R y_R_enterHandler (.code y_R_enterHandler b_R_enterHandler 3 (none) :: wd)) := zz_goodV wd_good mw_152 mw_154 mw_155 mw_125 mw_153
theorem g_P_finish_P_takeTrap_83 : GoodIn wd (wsV R_P 83 R_P y_P_takeTrap (.code y_P_takeTrap b_P_takeTrap 5 (none) :: wd)) := zz_goodV wd_good mw_156 mw_158 mw_159 mw_160 mw_157
theorem g_P_refuseFetch_M_has_116 : GoodIn wd (va_wsS R_P 116 y_M_has (.code y_M_has b_M_has 1 (some .boolean) :: wd)) := zz_goodS wd_good mw_161 mw_98 mw_99 mw_97
theorem g_P_refuseFetch_P_isGuarded_120 : GoodIn wd (wsV R_P 120 R_P y_P_isGuarded (.code y_P_isGuarded b_P_isGuarded 1 (some .boolean) :: wd)) := zz_goodV wd_good mw_162 mw_164 mw_165 mw_160 mw_163
theorem g_P_refuseFetch_G_letsRun_127 : GoodIn wd (wsV R_P 127 R_G y_G_letsRun (.code y_G_letsRun b_G_letsRun 3 (some .boolean) :: wd)) := zz_goodV wd_good mw_166 mw_168 mw_169 mw_134 mw_167
theorem g_P_refuseWord_M_has_116 : GoodIn wd (va_wsS R_P 116 y_M_has (.code y_M_has b_M_has 1 (some .boolean) :: wd)) := zz_goodS wd_good mw_161 mw_98 mw_99 mw_97
theorem g_P_refuseWord_P_isGuarded_120 : GoodIn wd (wsV R_P 120 R_P y_P_isGuarded (.code y_P_isGuarded b_P_isGuarded 1 (some .boolean) :: wd)) := zz_goodV wd_good mw_162 mw_164 mw_165 mw_160 mw_163
theorem g_P_refuseWord_G_letsUse_184 : GoodIn wd (wsV R_P 184 R_G y_G_letsUse (.code y_G_letsUse b_G_letsUse 6 (some .boolean) :: wd)) := zz_goodV wd_good mw_170 mw_172 mw_173 mw_134 mw_171
theorem g_P_compute_P_fieldA_175 : GoodIn wd (va_wsS R_P 175 y_P_fieldA (.code y_P_fieldA b_P_fieldA 1 (some .int) :: wd)) := zz_goodS wd_good mw_174 mw_176 mw_177 mw_175
theorem g_P_compute_P_fieldB_178 : GoodIn wd (va_wsS R_P 178 y_P_fieldB (.code y_P_fieldB b_P_fieldB 1 (some .int) :: wd)) := zz_goodS wd_good mw_178 mw_180 mw_181 mw_179
theorem g_P_compute_P_fieldC_181 : GoodIn wd (va_wsS R_P 181 y_P_fieldC (.code y_P_fieldC b_P_fieldC 1 (some .int) :: wd)) := zz_goodS wd_good mw_182 mw_184 mw_185 mw_183
theorem g_P_compute_P_amount_131 : GoodIn wd (va_wsS R_P 131 y_P_amount (.code y_P_amount b_P_amount 1 (some .int) :: wd)) := zz_goodS wd_good mw_186 mw_188 mw_189 mw_187
theorem g_P_moveWord_P_fieldB_178 : GoodIn wd (va_wsS R_P 178 y_P_fieldB (.code y_P_fieldB b_P_fieldB 1 (some .int) :: wd)) := zz_goodS wd_good mw_178 mw_180 mw_181 mw_179
theorem g_P_moveWord_P_amount_131 : GoodIn wd (va_wsS R_P 131 y_P_amount (.code y_P_amount b_P_amount 1 (some .int) :: wd)) := zz_goodS wd_good mw_186 mw_188 mw_189 mw_187
theorem g_P_moveWord_P_refuseWord_188 : GoodIn wd (wsV R_P 188 R_P y_P_refuseWord (.code y_P_refuseWord b_P_refuseWord 3 (some .int) :: wd)) := zz_goodV wd_good mw_190 mw_192 mw_193 mw_160 mw_191
theorem g_P_moveWord_P_fieldA_175 : GoodIn wd (va_wsS R_P 175 y_P_fieldA (.code y_P_fieldA b_P_fieldA 1 (some .int) :: wd)) := zz_goodS wd_good mw_174 mw_176 mw_177 mw_175
theorem g_P_moveWord_M_read_70 : GoodIn wd (wsV R_P 70 R_M y_M_read (.code y_M_read b_M_read 2 (some .int) :: wd)) := zz_goodV wd_good mw_194 mw_115 mw_116 mw_108 mw_114
theorem g_P_moveWord_M_write_191 : GoodIn wd (wsV R_P 191 R_M y_M_write (.code y_M_write b_M_write 3 (none) :: wd)) := zz_goodV wd_good mw_195 mw_106 mw_107 mw_108 mw_105
theorem g_P_readRing_P_fieldB_178 : GoodIn wd (va_wsS R_P 178 y_P_fieldB (.code y_P_fieldB b_P_fieldB 1 (some .int) :: wd)) := zz_goodS wd_good mw_178 mw_180 mw_181 mw_179
theorem g_P_readRing_P_refuseWord_188 : GoodIn wd (wsV R_P 188 R_P y_P_refuseWord (.code y_P_refuseWord b_P_refuseWord 3 (some .int) :: wd)) := zz_goodV wd_good mw_190 mw_192 mw_193 mw_160 mw_191
theorem g_P_readRing_P_fieldA_175 : GoodIn wd (va_wsS R_P 175 y_P_fieldA (.code y_P_fieldA b_P_fieldA 1 (some .int) :: wd)) := zz_goodS wd_good mw_174 mw_176 mw_177 mw_175
theorem g_P_readRing_M_read_70 : GoodIn wd (wsV R_P 70 R_M y_M_read (.code y_M_read b_M_read 2 (some .int) :: wd)) := zz_goodV wd_good mw_194 mw_115 mw_116 mw_108 mw_114
theorem g_P_readRing_P_amount_131 : GoodIn wd (va_wsS R_P 131 y_P_amount (.code y_P_amount b_P_amount 1 (some .int) :: wd)) := zz_goodS wd_good mw_186 mw_188 mw_189 mw_187
theorem g_P_readRing_Z_floorMod_196 : GoodIn wd (va_wsS R_P 196 y_Z_floorMod (.code y_Z_floorMod b_Z_floorMod 3 (some .int) :: wd)) := zz_goodS wd_good mw_196 mw_198 mw_199 mw_197
theorem g_P_jump_P_fieldA_175 : GoodIn wd (va_wsS R_P 175 y_P_fieldA (.code y_P_fieldA b_P_fieldA 1 (some .int) :: wd)) := zz_goodS wd_good mw_174 mw_176 mw_177 mw_175
theorem g_P_jump_P_fieldB_178 : GoodIn wd (va_wsS R_P 178 y_P_fieldB (.code y_P_fieldB b_P_fieldB 1 (some .int) :: wd)) := zz_goodS wd_good mw_178 mw_180 mw_181 mw_179
theorem g_P_jump_P_amount_131 : GoodIn wd (va_wsS R_P 131 y_P_amount (.code y_P_amount b_P_amount 1 (some .int) :: wd)) := zz_goodS wd_good mw_186 mw_188 mw_189 mw_187
theorem g_P_callDown_R_keep_87 : GoodIn wd (wsV R_P 87 R_R y_R_keep (.code y_R_keep b_R_keep 7 (some .boolean) :: wd)) := zz_goodV wd_good mw_144 mw_146 mw_147 mw_125 mw_145
theorem g_P_goBack_R_refuseBack_201 : GoodIn wd (wsV R_P 201 R_R y_R_refuseBack (.code y_R_refuseBack b_R_refuseBack 3 (some .int) :: wd)) := zz_goodV wd_good mw_200 mw_202 mw_203 mw_125 mw_201
theorem g_P_goBack_R_bringBack_207 : GoodIn wd (wsV R_P 207 R_R y_R_bringBack (.code y_R_bringBack b_R_bringBack 7 (none) :: wd)) := zz_goodV wd_good mw_204 mw_206 mw_207 mw_125 mw_205
theorem g_P_keepLower_R_keep_87 : GoodIn wd (wsV R_P 87 R_R y_R_keep (.code y_R_keep b_R_keep 7 (some .boolean) :: wd)) := zz_goodV wd_good mw_144 mw_146 mw_147 mw_125 mw_145
theorem g_P_bringLowerBack_R_refuseBack_201 : GoodIn wd (wsV R_P 201 R_R y_R_refuseBack (.code y_R_refuseBack b_R_refuseBack 3 (some .int) :: wd)) := zz_goodV wd_good mw_200 mw_202 mw_203 mw_125 mw_201
theorem g_P_bringLowerBack_R_bringBack_207 : GoodIn wd (wsV R_P 207 R_R y_R_bringBack (.code y_R_bringBack b_R_bringBack 7 (none) :: wd)) := zz_goodV wd_good mw_204 mw_206 mw_207 mw_125 mw_205
theorem g_P_openHandler_R_keep_87 : GoodIn wd (wsV R_P 87 R_R y_R_keep (.code y_R_keep b_R_keep 7 (some .boolean) :: wd)) := zz_goodV wd_good mw_144 mw_146 mw_147 mw_125 mw_145
theorem g_P_perform_P_amount_131 : GoodIn wd (va_wsS R_P 131 y_P_amount (.code y_P_amount b_P_amount 1 (some .int) :: wd)) := zz_goodS wd_good mw_186 mw_188 mw_189 mw_187
theorem g_P_perform_P_needsTopLevel_134 : GoodIn wd (va_wsS R_P 134 y_P_needsTopLevel (.code y_P_needsTopLevel b_P_needsTopLevel 1 (some .boolean) :: wd)) := zz_goodS wd_good mw_208 mw_210 mw_211 mw_209
theorem g_P_perform_P_compute_169 : GoodIn wd (wsV R_P 169 R_P y_P_compute (.code y_P_compute b_P_compute 9 (some .int) :: wd)) := zz_goodV wd_good mw_212 mw_214 mw_215 mw_160 mw_213
theorem g_P_perform_P_moveWord_137 : GoodIn wd (wsV R_P 137 R_P y_P_moveWord (.code y_P_moveWord b_P_moveWord 9 (some .int) :: wd)) := zz_goodV wd_good mw_216 mw_218 mw_219 mw_160 mw_217
theorem g_P_perform_P_readRing_141 : GoodIn wd (wsV R_P 141 R_P y_P_readRing (.code y_P_readRing b_P_readRing 8 (some .int) :: wd)) := zz_goodV wd_good mw_220 mw_222 mw_223 mw_160 mw_221
theorem g_P_perform_P_jump_144 : GoodIn wd (wsV R_P 144 R_P y_P_jump (.code y_P_jump b_P_jump 6 (some .int) :: wd)) := zz_goodV wd_good mw_224 mw_226 mw_227 mw_160 mw_225
theorem g_P_perform_P_callDown_147 : GoodIn wd (wsV R_P 147 R_P y_P_callDown (.code y_P_callDown b_P_callDown 2 (some .int) :: wd)) := zz_goodV wd_good mw_228 mw_230 mw_231 mw_160 mw_229
theorem g_P_perform_P_goBack_153 : GoodIn wd (wsV R_P 153 R_P y_P_goBack (.code y_P_goBack b_P_goBack 3 (some .int) :: wd)) := zz_goodV wd_good mw_232 mw_234 mw_235 mw_160 mw_233
theorem g_P_perform_P_keepLower_157 : GoodIn wd (wsV R_P 157 R_P y_P_keepLower (.code y_P_keepLower b_P_keepLower 1 (some .int) :: wd)) := zz_goodV wd_good mw_236 mw_238 mw_239 mw_160 mw_237
theorem g_P_perform_P_bringLowerBack_160 : GoodIn wd (wsV R_P 160 R_P y_P_bringLowerBack (.code y_P_bringLowerBack b_P_bringLowerBack 2 (some .int) :: wd)) := zz_goodV wd_good mw_240 mw_242 mw_243 mw_160 mw_241
theorem g_P_perform_P_openHandler_163 : GoodIn wd (wsV R_P 163 R_P y_P_openHandler (.code y_P_openHandler b_P_openHandler 2 (some .int) :: wd)) := zz_goodV wd_good mw_244 mw_246 mw_247 mw_160 mw_245
theorem g_P_perform_P_changeLevel_166 : GoodIn wd (wsV R_P 166 R_P y_P_changeLevel (.code y_P_changeLevel b_P_changeLevel 2 (some .int) :: wd)) := zz_goodV wd_good mw_248 mw_250 mw_251 mw_160 mw_249
theorem g_P_step_T_tick_43 : GoodIn wd (wsV R_P 43 R_T y_T_tick (.code y_T_tick b_T_tick 1 (none) :: wd)) := zz_goodV wd_good mw_252 mw_254 mw_255 mw_139 mw_253
theorem g_P_step_T_greatest_53 : GoodIn wd (wsV R_P 53 R_T y_T_greatest (.code y_T_greatest b_T_greatest 2 (some .int) :: wd)) := zz_goodV wd_good mw_256 mw_258 mw_259 mw_139 mw_257
theorem g_P_step_P_refuseFetch_64 : GoodIn wd (wsV R_P 64 R_P y_P_refuseFetch (.code y_P_refuseFetch b_P_refuseFetch 2 (some .int) :: wd)) := zz_goodV wd_good mw_260 mw_262 mw_263 mw_160 mw_261
theorem g_P_step_P_finish_77 : GoodIn wd (wsV R_P 77 R_P y_P_finish (.code y_P_finish b_P_finish 2 (none) :: wd)) := zz_goodV wd_good mw_264 mw_266 mw_267 mw_160 mw_265
theorem g_P_step_M_read_70 : GoodIn wd (wsV R_P 70 R_M y_M_read (.code y_M_read b_M_read 2 (some .int) :: wd)) := zz_goodV wd_good mw_194 mw_115 mw_116 mw_108 mw_114
theorem g_P_step_P_perform_74 : GoodIn wd (wsV R_P 74 R_P y_P_perform (.code y_P_perform b_P_perform 4 (some .int) :: wd)) := zz_goodV wd_good mw_268 mw_270 mw_271 mw_160 mw_269
theorem g_P_step_P_takeInterrupt_60 : GoodIn wd (wsV R_P 60 R_P y_P_takeInterrupt (.code y_P_takeInterrupt b_P_takeInterrupt 2 (none) :: wd)) := zz_goodV wd_good mw_272 mw_274 mw_275 mw_160 mw_273
theorem g_P_step_P_takeTrap_83 : GoodIn wd (wsV R_P 83 R_P y_P_takeTrap (.code y_P_takeTrap b_P_takeTrap 5 (none) :: wd)) := zz_goodV wd_good mw_156 mw_158 mw_159 mw_160 mw_157
theorem g_C_put_M_has_16 : GoodIn wd (va_wsS R_C 16 y_M_has (.code y_M_has b_M_has 1 (some .boolean) :: wd)) := zz_goodS wd_good mw_276 mw_98 mw_99 mw_97
theorem g_C_put_M_write_26 : GoodIn wd (wsV R_C 26 R_M y_M_write (.code y_M_write b_M_write 3 (none) :: wd)) := zz_goodV wd_good mw_277 mw_106 mw_107 mw_108 mw_105
theorem g_C_pool_M_chainAreas_46 : GoodIn wd (wsV R_C 46 R_M y_M_chainAreas (.code y_M_chainAreas b_M_chainAreas 3 (none) :: wd)) := zz_goodV wd_good mw_278 mw_280 mw_281 mw_108 mw_279
theorem g_C_range_G_change_80 : GoodIn wd (wsV R_C 80 R_G y_G_change (.code y_G_change b_G_change 5 (none) :: wd)) := zz_goodV wd_good mw_282 mw_284 mw_285 mw_134 mw_283
theorem g_C_timer_T_has_89 : GoodIn wd (va_wsS R_C 89 y_T_has (.code y_T_has b_T_has 1 (some .boolean) :: wd)) := zz_goodS wd_good mw_286 mw_288 mw_289 mw_287
theorem g_C_request_T_has_89 : GoodIn wd (va_wsS R_C 89 y_T_has (.code y_T_has b_T_has 1 (some .boolean) :: wd)) := zz_goodS wd_good mw_286 mw_288 mw_289 mw_287
theorem g_C_request_T_isPending_104 : GoodIn wd (wsV R_C 104 R_T y_T_isPending (.code y_T_isPending b_T_isPending 2 (some .boolean) :: wd)) := zz_goodV wd_good mw_290 mw_142 mw_143 mw_139 mw_141
theorem g_C_request_T_ask_107 : GoodIn wd (wsV R_C 107 R_T y_T_ask (.code y_T_ask b_T_ask 2 (none) :: wd)) := zz_goodV wd_good mw_291 mw_137 mw_138 mw_139 mw_136
theorem g_C_start_R_begin_112 : GoodIn wd (wsV R_C 112 R_R y_R_begin (.code y_R_begin b_R_begin 4 (none) :: wd)) := zz_goodV wd_good mw_292 mw_294 mw_295 mw_125 mw_293
theorem g_C_run_P_step_118 : GoodIn wd (wsV R_C 118 R_P y_P_step (.code y_P_step b_P_step 3 (none) :: wd)) := zz_goodV wd_good mw_296 mw_298 mw_299 mw_160 mw_297
theorem g_C_word_M_read_133 : GoodIn wd (wsV R_C 133 R_M y_M_read (.code y_M_read b_M_read 2 (some .int) :: wd)) := zz_goodV wd_good mw_300 mw_115 mw_116 mw_108 mw_114
theorem g_C_look_R_state_140 : GoodIn wd (wsV R_C 140 R_R y_R_state (.code y_R_state b_R_state 1 (some .int) :: wd)) := zz_goodV wd_good mw_301 mw_123 mw_124 mw_125 mw_122
theorem g_C_list_M_countAreas_165 : GoodIn wd (wsV R_C 165 R_M y_M_countAreas (.code y_M_countAreas b_M_countAreas 4 (some .int) :: wd)) := zz_goodV wd_good mw_302 mw_304 mw_305 mw_108 mw_303
theorem g_X_keep_X_isArea_41 : GoodIn wd (va_wsS R_X 41 y_X_isArea (.code y_X_isArea b_X_isArea 1 (some .boolean) :: wd)) := zz_goodS wd_good mw_306 mw_308 mw_309 mw_307
theorem g_X_keep_X_wordsOf_49 : GoodIn wd (va_wsS R_X 49 y_X_wordsOf (.code y_X_wordsOf b_X_wordsOf 1 (some .int) :: wd)) := zz_goodS wd_good mw_310 mw_312 mw_313 mw_311
theorem g_X_canBring_X_isArea_41 : GoodIn wd (va_wsS R_X 41 y_X_isArea (.code y_X_isArea b_X_isArea 1 (some .boolean) :: wd)) := zz_goodS wd_good mw_306 mw_308 mw_309 mw_307
theorem g_X_bring_X_wordsOf_49 : GoodIn wd (va_wsS R_X 49 y_X_wordsOf (.code y_X_wordsOf b_X_wordsOf 1 (some .int) :: wd)) := zz_goodS wd_good mw_310 mw_312 mw_313 mw_311
theorem g_X_enter_X_keep_74 : GoodIn wd (wsV R_X 74 R_X y_X_keep (.code y_X_keep b_X_keep 6 (some .boolean) :: wd)) := zz_goodV wd_good mw_314 mw_316 mw_317 mw_318 mw_315
theorem g_X_take_X_enter_84 : GoodIn wd (wsV R_X 84 R_X y_X_enter (.code y_X_enter b_X_enter 3 (some .boolean) :: wd)) := zz_goodV wd_good mw_319 mw_321 mw_322 mw_318 mw_320
theorem g_X_may_X_guarded_94 : GoodIn wd (wsV R_X 94 R_X y_X_guarded (.code y_X_guarded b_X_guarded 1 (some .boolean) :: wd)) := zz_goodV wd_good mw_323 mw_325 mw_326 mw_318 mw_324
theorem g_X_move_X_may_99 : GoodIn wd (wsV R_X 99 R_X y_X_may (.code y_X_may b_X_may 6 (some .boolean) :: wd)) := zz_goodV wd_good mw_327 mw_329 mw_330 mw_318 mw_328
theorem g_X_context_X_keep_74 : GoodIn wd (wsV R_X 74 R_X y_X_keep (.code y_X_keep b_X_keep 6 (some .boolean) :: wd)) := zz_goodV wd_good mw_314 mw_316 mw_317 mw_318 mw_315
theorem g_X_context_X_canBring_104 : GoodIn wd (wsV R_X 104 R_X y_X_canBring (.code y_X_canBring b_X_canBring 3 (some .boolean) :: wd)) := zz_goodV wd_good mw_331 mw_333 mw_334 mw_318 mw_332
theorem g_X_context_X_bring_107 : GoodIn wd (wsV R_X 107 R_X y_X_bring (.code y_X_bring b_X_bring 6 (none) :: wd)) := zz_goodV wd_good mw_335 mw_337 mw_338 mw_318 mw_336
theorem g_X_instruction_X_system_127 : GoodIn wd (wsV R_X 127 R_X y_X_system (.code y_X_system b_X_system 3 (none) :: wd)) := zz_goodV wd_good mw_339 mw_341 mw_342 mw_318 mw_340
theorem g_X_instruction_X_reckon_111 : GoodIn wd (wsV R_X 111 R_X y_X_reckon (.code y_X_reckon b_X_reckon 8 (none) :: wd)) := zz_goodV wd_good mw_343 mw_345 mw_346 mw_318 mw_344
theorem g_X_instruction_X_move_115 : GoodIn wd (wsV R_X 115 R_X y_X_move (.code y_X_move b_X_move 11 (none) :: wd)) := zz_goodV wd_good mw_347 mw_349 mw_350 mw_318 mw_348
theorem g_X_instruction_X_jump_119 : GoodIn wd (va_wsS R_X 119 y_X_jump (.code y_X_jump b_X_jump 6 (some .int) :: wd)) := zz_goodS wd_good mw_351 mw_353 mw_354 mw_352
theorem g_X_instruction_X_context_123 : GoodIn wd (wsV R_X 123 R_X y_X_context (.code y_X_context b_X_context 5 (some .int) :: wd)) := zz_goodV wd_good mw_355 mw_357 mw_358 mw_318 mw_356
theorem g_X_step_X_take_146 : GoodIn wd (wsV R_X 146 R_X y_X_take (.code y_X_take b_X_take 3 (none) :: wd)) := zz_goodV wd_good mw_359 mw_361 mw_362 mw_318 mw_360
theorem g_X_step_X_guarded_94 : GoodIn wd (wsV R_X 94 R_X y_X_guarded (.code y_X_guarded b_X_guarded 1 (some .boolean) :: wd)) := zz_goodV wd_good mw_323 mw_325 mw_326 mw_318 mw_324
theorem g_X_step_X_instruction_149 : GoodIn wd (wsV R_X 149 R_X y_X_instruction (.code y_X_instruction b_X_instruction 9 (none) :: wd)) := zz_goodV wd_good mw_363 mw_365 mw_366 mw_318 mw_364
theorem g_X_step_X_enter_84 : GoodIn wd (wsV R_X 84 R_X y_X_enter (.code y_X_enter b_X_enter 3 (some .boolean) :: wd)) := zz_goodV wd_good mw_319 mw_321 mw_322 mw_318 mw_320
theorem g_X_pool_X_wordsOf_49 : GoodIn wd (va_wsS R_X 49 y_X_wordsOf (.code y_X_wordsOf b_X_wordsOf 1 (some .int) :: wd)) := zz_goodS wd_good mw_310 mw_312 mw_313 mw_311
theorem g_X_run_X_step_153 : GoodIn wd (wsV R_X 153 R_X y_X_step (.code y_X_step b_X_step 3 (none) :: wd)) := zz_goodV wd_good mw_367 mw_369 mw_370 mw_318 mw_368
theorem g_X_list_X_isArea_41 : GoodIn wd (va_wsS R_X 41 y_X_isArea (.code y_X_isArea b_X_isArea 1 (some .boolean) :: wd)) := zz_goodS wd_good mw_306 mw_308 mw_309 mw_307
theorem g_X_list_X_wordsOf_49 : GoodIn wd (va_wsS R_X 49 y_X_wordsOf (.code y_X_wordsOf b_X_wordsOf 1 (some .int) :: wd)) := zz_goodS wd_good mw_310 mw_312 mw_313 mw_311
