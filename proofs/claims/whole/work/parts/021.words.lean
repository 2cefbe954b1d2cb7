def allW : List Cond := lw_tbl.filter goodWord
theorem tmL {w : Cond} (h : w ∈ lw_tbl) (g : goodWord w = true) : w ∈ allW := List.mem_filter.mpr ⟨h, g⟩
theorem tm0 {w : Cond} (h : w ∈ k2_sels lw_privs) (g : goodWord w = true) : w ∈ allW := tmL (List.mem_append_left _ h) g
theorem tm1 {w : Cond} (h : w ∈ tables_1_1) (g : goodWord w = true) : w ∈ allW := tmL (List.mem_append_right _ (List.mem_append_left _ h)) g
theorem tm2 {w : Cond} (h : w ∈ tables_1_2) (g : goodWord w = true) : w ∈ allW := tmL (List.mem_append_right _ (List.mem_append_right _ (List.mem_append_left _ h))) g
theorem tm3 {w : Cond} (h : w ∈ tables_1_3) (g : goodWord w = true) : w ∈ allW := tmL (List.mem_append_right _ (List.mem_append_right _ (List.mem_append_right _ (List.mem_append_left _ h)))) g
theorem tm4 {w : Cond} (h : w ∈ tables_1_4) (g : goodWord w = true) : w ∈ allW := tmL (List.mem_append_right _ (List.mem_append_right _ (List.mem_append_right _ (List.mem_append_right _ h)))) g
theorem knL : Cond.initialized RL ∈ allW := tm1 (List.mem_of_getElem? (i := 0) (by decide +kernel)) (by decide +kernel)
theorem knX8 : Cond.initialized RX8 ∈ allW := tm1 (List.mem_of_getElem? (i := 1) (by decide +kernel)) (by decide +kernel)
theorem knX5 : Cond.initialized RX5 ∈ allW := tm1 (List.mem_of_getElem? (i := 2) (by decide +kernel)) (by decide +kernel)
theorem knX6 : Cond.initialized RX6 ∈ allW := tm1 (List.mem_of_getElem? (i := 3) (by decide +kernel)) (by decide +kernel)
theorem knX4 : Cond.initialized RX4 ∈ allW := tm1 (List.mem_of_getElem? (i := 4) (by decide +kernel)) (by decide +kernel)
theorem knX2 : Cond.initialized RX2 ∈ allW := tm1 (List.mem_of_getElem? (i := 5) (by decide +kernel)) (by decide +kernel)
theorem knX7 : Cond.initialized RX7 ∈ allW := tm1 (List.mem_of_getElem? (i := 6) (by decide +kernel)) (by decide +kernel)
theorem knX3 : Cond.initialized RX3 ∈ allW := tm1 (List.mem_of_getElem? (i := 7) (by decide +kernel)) (by decide +kernel)
theorem knX1 : Cond.initialized RX1 ∈ allW := tm1 (List.mem_of_getElem? (i := 8) (by decide +kernel)) (by decide +kernel)
theorem knX0 : Cond.initialized RX0 ∈ allW := tm1 (List.mem_of_getElem? (i := 9) (by decide +kernel)) (by decide +kernel)
theorem knX9 : Cond.initialized RX9 ∈ allW := tm1 (List.mem_of_getElem? (i := 10) (by decide +kernel)) (by decide +kernel)
theorem knMath : Cond.initialized "java/lang/Math" ∈ allW := tm1 (List.mem_of_getElem? (i := 11) (by decide +kernel)) (by decide +kernel)
theorem knSys : Cond.initialized "java/lang/System" ∈ allW := tm1 (List.mem_of_getElem? (i := 12) (by decide +kernel)) (by decide +kernel)
theorem knJ7 : Cond.initialized RJ7 ∈ allW := tm1 (List.mem_of_getElem? (i := 13) (by decide +kernel)) (by decide +kernel)
theorem klL_7 : Cond.classLink RL 7 RX8 ∈ allW := tm1 (List.mem_of_getElem? (i := 14) (by decide +kernel)) (by decide +kernel)
theorem kjX8 : Cond.instantiable RX8 11 ∈ allW := tm1 (List.mem_of_getElem? (i := 15) (by decide +kernel)) (by decide +kernel)
theorem kmL_9 : Cond.methodLink RL 9 yX8_init ∈ allW := tm1 (List.mem_of_getElem? (i := 16) (by decide +kernel)) (by decide +kernel)
theorem kiX8_init : Cond.instanceMethod yX8_init ∈ allW := tm1 (List.mem_of_getElem? (i := 17) (by decide +kernel)) (by decide +kernel)
theorem kcX8_init : Cond.code yX8_init cX8_init 2 none ∈ allW := tm1 (List.mem_of_getElem? (i := 18) rfl) rfl
theorem kdX8_init : yX8_init.cls ≠ "java/lang/invoke/MethodHandle" ∧ yX8_init.cls ≠ "java/lang/invoke/VarHandle" ∧ (parseMethodDescriptor yX8_init.desc).map (fun d => d.parameters.length) = some 0 := by decide +kernel
theorem kmX8_3 : Cond.methodLink RX8 3 objectInit ∈ allW := tm1 (List.mem_of_getElem? (i := 19) (by decide +kernel)) (by decide +kernel)
theorem kiObj_init : Cond.instanceMethod objectInit ∈ allW := tm1 (List.mem_of_getElem? (i := 20) (by decide +kernel)) (by decide +kernel)
theorem kcObj_init : Cond.code objectInit ⟨#[0xb1]⟩ 1 none ∈ allW := tm1 (List.mem_of_getElem? (i := 21) rfl) rfl
theorem klX8_9 : Cond.classLink RX8 9 RX5 ∈ allW := tm1 (List.mem_of_getElem? (i := 22) (by decide +kernel)) (by decide +kernel)
theorem kjX5 : Cond.instantiable RX5 7 ∈ allW := tm1 (List.mem_of_getElem? (i := 23) (by decide +kernel)) (by decide +kernel)
theorem kmX8_11 : Cond.methodLink RX8 11 yX5_init ∈ allW := tm1 (List.mem_of_getElem? (i := 24) (by decide +kernel)) (by decide +kernel)
theorem kiX5_init : Cond.instanceMethod yX5_init ∈ allW := tm1 (List.mem_of_getElem? (i := 25) (by decide +kernel)) (by decide +kernel)
theorem kcX5_init : Cond.code yX5_init cX5_init 1 none ∈ allW := tm1 (List.mem_of_getElem? (i := 26) rfl) rfl
theorem kdX5_init : yX5_init.cls ≠ "java/lang/invoke/MethodHandle" ∧ yX5_init.cls ≠ "java/lang/invoke/VarHandle" ∧ (parseMethodDescriptor yX5_init.desc).map (fun d => d.parameters.length) = some 0 := by decide +kernel
theorem kmX5_3 : Cond.methodLink RX5 3 objectInit ∈ allW := tm1 (List.mem_of_getElem? (i := 27) (by decide +kernel)) (by decide +kernel)
theorem kmX5_21 : Cond.methodLink RX5 21 yX5_empty ∈ allW := tm1 (List.mem_of_getElem? (i := 28) (by decide +kernel)) (by decide +kernel)
theorem kiX5_empty : Cond.instanceMethod yX5_empty ∈ allW := tm1 (List.mem_of_getElem? (i := 29) (by decide +kernel)) (by decide +kernel)
theorem ksX5_empty : Cond.selects RX5 yX5_empty yX5_empty ∈ allW := tm1 (List.mem_of_getElem? (i := 30) (by decide +kernel)) (by decide +kernel)
theorem kcX5_empty : Cond.code yX5_empty cX5_empty 1 none ∈ allW := tm1 (List.mem_of_getElem? (i := 31) rfl) rfl
theorem kdX5_empty : yX5_empty.cls ≠ "java/lang/invoke/MethodHandle" ∧ yX5_empty.cls ≠ "java/lang/invoke/VarHandle" ∧ (parseMethodDescriptor yX5_empty.desc).map (fun d => d.parameters.length) = some 0 := by decide +kernel
theorem kfX5_9 : Cond.fieldLink RX5 9 (TX5 0).1 (TX5 0).2.1 (TX5 0).2.2.1 ∈ allW := tm1 (List.mem_of_getElem? (i := 32) (by decide +kernel)) (by decide +kernel)
theorem kfX7_55 : Cond.fieldLink RX7 55 (TX5 0).1 (TX5 0).2.1 (TX5 0).2.2.1 ∈ allW := tm1 (List.mem_of_getElem? (i := 33) (by decide +kernel)) (by decide +kernel)
theorem kfX8_122 : Cond.fieldLink RX8 122 (TX5 0).1 (TX5 0).2.1 (TX5 0).2.2.1 ∈ allW := tm1 (List.mem_of_getElem? (i := 34) (by decide +kernel)) (by decide +kernel)
theorem kfX5_15 : Cond.fieldLink RX5 15 (TX5 1).1 (TX5 1).2.1 (TX5 1).2.2.1 ∈ allW := tm1 (List.mem_of_getElem? (i := 35) (by decide +kernel)) (by decide +kernel)
theorem kfX7_71 : Cond.fieldLink RX7 71 (TX5 1).1 (TX5 1).2.1 (TX5 1).2.2.1 ∈ allW := tm1 (List.mem_of_getElem? (i := 36) (by decide +kernel)) (by decide +kernel)
theorem kfX8_126 : Cond.fieldLink RX8 126 (TX5 1).1 (TX5 1).2.1 (TX5 1).2.2.1 ∈ allW := tm1 (List.mem_of_getElem? (i := 37) (by decide +kernel)) (by decide +kernel)
theorem kfX5_18 : Cond.fieldLink RX5 18 (TX5 2).1 (TX5 2).2.1 (TX5 2).2.2.1 ∈ allW := tm1 (List.mem_of_getElem? (i := 38) (by decide +kernel)) (by decide +kernel)
theorem kfX4_15 : Cond.fieldLink RX4 15 (TX5 2).1 (TX5 2).2.1 (TX5 2).2.2.1 ∈ allW := tm1 (List.mem_of_getElem? (i := 39) (by decide +kernel)) (by decide +kernel)
theorem kfX5_24 : Cond.fieldLink RX5 24 (TX5 3).1 (TX5 3).2.1 (TX5 3).2.2.1 ∈ allW := tm1 (List.mem_of_getElem? (i := 40) (by decide +kernel)) (by decide +kernel)
theorem kfX0_61 : Cond.fieldLink RX0 61 (TX5 3).1 (TX5 3).2.1 (TX5 3).2.2.1 ∈ allW := tm1 (List.mem_of_getElem? (i := 41) (by decide +kernel)) (by decide +kernel)
theorem kfX7_65 : Cond.fieldLink RX7 65 (TX5 3).1 (TX5 3).2.1 (TX5 3).2.2.1 ∈ allW := tm1 (List.mem_of_getElem? (i := 42) (by decide +kernel)) (by decide +kernel)
theorem kfX6_78 : Cond.fieldLink RX6 78 (TX5 3).1 (TX5 3).2.1 (TX5 3).2.2.1 ∈ allW := tm1 (List.mem_of_getElem? (i := 43) (by decide +kernel)) (by decide +kernel)
theorem kfX8_179 : Cond.fieldLink RX8 179 (TX5 3).1 (TX5 3).2.1 (TX5 3).2.2.1 ∈ allW := tm1 (List.mem_of_getElem? (i := 44) (by decide +kernel)) (by decide +kernel)
theorem kfX5_28 : Cond.fieldLink RX5 28 (TX5 4).1 (TX5 4).2.1 (TX5 4).2.2.1 ∈ allW := tm1 (List.mem_of_getElem? (i := 45) (by decide +kernel)) (by decide +kernel)
theorem kfX7_68 : Cond.fieldLink RX7 68 (TX5 4).1 (TX5 4).2.1 (TX5 4).2.2.1 ∈ allW := tm1 (List.mem_of_getElem? (i := 46) (by decide +kernel)) (by decide +kernel)
theorem kfX6_66 : Cond.fieldLink RX6 66 (TX5 4).1 (TX5 4).2.1 (TX5 4).2.2.1 ∈ allW := tm1 (List.mem_of_getElem? (i := 47) (by decide +kernel)) (by decide +kernel)
theorem kfX8_238 : Cond.fieldLink RX8 238 (TX5 4).1 (TX5 4).2.1 (TX5 4).2.2.1 ∈ allW := tm1 (List.mem_of_getElem? (i := 48) (by decide +kernel)) (by decide +kernel)
theorem kfX5_31 : Cond.fieldLink RX5 31 (TX5 5).1 (TX5 5).2.1 (TX5 5).2.2.1 ∈ allW := tm1 (List.mem_of_getElem? (i := 49) (by decide +kernel)) (by decide +kernel)
theorem kfX7_28 : Cond.fieldLink RX7 28 (TX5 5).1 (TX5 5).2.1 (TX5 5).2.2.1 ∈ allW := tm1 (List.mem_of_getElem? (i := 50) (by decide +kernel)) (by decide +kernel)
theorem kfX6_69 : Cond.fieldLink RX6 69 (TX5 5).1 (TX5 5).2.1 (TX5 5).2.2.1 ∈ allW := tm1 (List.mem_of_getElem? (i := 51) (by decide +kernel)) (by decide +kernel)
theorem kfX8_241 : Cond.fieldLink RX8 241 (TX5 5).1 (TX5 5).2.1 (TX5 5).2.2.1 ∈ allW := tm1 (List.mem_of_getElem? (i := 52) (by decide +kernel)) (by decide +kernel)
theorem kfX5_34 : Cond.fieldLink RX5 34 (TX5 6).1 (TX5 6).2.1 (TX5 6).2.2.1 ∈ allW := tm1 (List.mem_of_getElem? (i := 53) (by decide +kernel)) (by decide +kernel)
theorem kfX7_35 : Cond.fieldLink RX7 35 (TX5 6).1 (TX5 6).2.1 (TX5 6).2.2.1 ∈ allW := tm1 (List.mem_of_getElem? (i := 54) (by decide +kernel)) (by decide +kernel)
theorem kfX6_72 : Cond.fieldLink RX6 72 (TX5 6).1 (TX5 6).2.1 (TX5 6).2.2.1 ∈ allW := tm1 (List.mem_of_getElem? (i := 55) (by decide +kernel)) (by decide +kernel)
theorem kfX8_244 : Cond.fieldLink RX8 244 (TX5 6).1 (TX5 6).2.1 (TX5 6).2.2.1 ∈ allW := tm1 (List.mem_of_getElem? (i := 56) (by decide +kernel)) (by decide +kernel)
theorem ka_int : Cond.arrayClass .int ∈ allW := tm1 (List.mem_of_getElem? (i := 72) (by decide +kernel)) (by decide +kernel)
theorem klX8_16 : Cond.classLink RX8 16 RX6 ∈ allW := tm1 (List.mem_of_getElem? (i := 73) (by decide +kernel)) (by decide +kernel)
theorem kjX6 : Cond.instantiable RX6 9 ∈ allW := tm1 (List.mem_of_getElem? (i := 74) (by decide +kernel)) (by decide +kernel)
theorem kiX6_init : Cond.instanceMethod yX6_init ∈ allW := tm1 (List.mem_of_getElem? (i := 76) (by decide +kernel)) (by decide +kernel)
theorem kcX6_init : Cond.code yX6_init cX6_init 1 none ∈ allW := tm1 (List.mem_of_getElem? (i := 77) rfl) rfl
theorem kdX6_init : yX6_init.cls ≠ "java/lang/invoke/MethodHandle" ∧ yX6_init.cls ≠ "java/lang/invoke/VarHandle" ∧ (parseMethodDescriptor yX6_init.desc).map (fun d => d.parameters.length) = some 0 := by decide +kernel
theorem kmX6_3 : Cond.methodLink RX6 3 objectInit ∈ allW := tm1 (List.mem_of_getElem? (i := 78) (by decide +kernel)) (by decide +kernel)
theorem klX6_15 : Cond.classLink RX6 15 RX5 ∈ allW := tm1 (List.mem_of_getElem? (i := 79) (by decide +kernel)) (by decide +kernel)
theorem kmX6_17 : Cond.methodLink RX6 17 yX5_init ∈ allW := tm1 (List.mem_of_getElem? (i := 80) (by decide +kernel)) (by decide +kernel)
theorem kfX6_9 : Cond.fieldLink RX6 9 (TX6 0).1 (TX6 0).2.1 (TX6 0).2.2.1 ∈ allW := tm1 (List.mem_of_getElem? (i := 81) (by decide +kernel)) (by decide +kernel)
theorem kfX6_18 : Cond.fieldLink RX6 18 (TX6 1).1 (TX6 1).2.1 (TX6 1).2.2.1 ∈ allW := tm1 (List.mem_of_getElem? (i := 82) (by decide +kernel)) (by decide +kernel)
theorem kfX8_100 : Cond.fieldLink RX8 100 (TX6 1).1 (TX6 1).2.1 (TX6 1).2.2.1 ∈ allW := tm1 (List.mem_of_getElem? (i := 83) (by decide +kernel)) (by decide +kernel)
theorem kfX6_22 : Cond.fieldLink RX6 22 (TX6 2).1 (TX6 2).2.1 (TX6 2).2.2.1 ∈ allW := tm1 (List.mem_of_getElem? (i := 84) (by decide +kernel)) (by decide +kernel)
theorem kfX8_89 : Cond.fieldLink RX8 89 (TX6 2).1 (TX6 2).2.1 (TX6 2).2.2.1 ∈ allW := tm1 (List.mem_of_getElem? (i := 85) (by decide +kernel)) (by decide +kernel)
theorem kfX6_29 : Cond.fieldLink RX6 29 (TX6 3).1 (TX6 3).2.1 (TX6 3).2.2.1 ∈ allW := tm1 (List.mem_of_getElem? (i := 86) (by decide +kernel)) (by decide +kernel)
theorem kfX6_32 : Cond.fieldLink RX6 32 (TX6 4).1 (TX6 4).2.1 (TX6 4).2.2.1 ∈ allW := tm1 (List.mem_of_getElem? (i := 87) (by decide +kernel)) (by decide +kernel)
theorem kfX8_115 : Cond.fieldLink RX8 115 (TX6 4).1 (TX6 4).2.1 (TX6 4).2.2.1 ∈ allW := tm1 (List.mem_of_getElem? (i := 88) (by decide +kernel)) (by decide +kernel)
theorem kfX6_35 : Cond.fieldLink RX6 35 (TX6 5).1 (TX6 5).2.1 (TX6 5).2.2.1 ∈ allW := tm1 (List.mem_of_getElem? (i := 89) (by decide +kernel)) (by decide +kernel)
theorem kfX8_97 : Cond.fieldLink RX8 97 (TX6 5).1 (TX6 5).2.1 (TX6 5).2.2.1 ∈ allW := tm1 (List.mem_of_getElem? (i := 90) (by decide +kernel)) (by decide +kernel)
theorem kfX6_38 : Cond.fieldLink RX6 38 (TX6 6).1 (TX6 6).2.1 (TX6 6).2.2.1 ∈ allW := tm1 (List.mem_of_getElem? (i := 91) (by decide +kernel)) (by decide +kernel)
theorem kfX6_42 : Cond.fieldLink RX6 42 (TX6 7).1 (TX6 7).2.1 (TX6 7).2.2.1 ∈ allW := tm1 (List.mem_of_getElem? (i := 92) (by decide +kernel)) (by decide +kernel)
theorem kfX6_45 : Cond.fieldLink RX6 45 (TX6 8).1 (TX6 8).2.1 (TX6 8).2.2.1 ∈ allW := tm1 (List.mem_of_getElem? (i := 93) (by decide +kernel)) (by decide +kernel)
theorem ka_char : Cond.arrayClass .char ∈ allW := tm1 (List.mem_of_getElem? (i := 113) (by decide +kernel)) (by decide +kernel)
theorem klX8_23 : Cond.classLink RX8 23 RX4 ∈ allW := tm1 (List.mem_of_getElem? (i := 114) (by decide +kernel)) (by decide +kernel)
theorem kjX4 : Cond.instantiable RX4 4 ∈ allW := tm1 (List.mem_of_getElem? (i := 115) (by decide +kernel)) (by decide +kernel)
theorem kiX4_init : Cond.instanceMethod yX4_init ∈ allW := tm1 (List.mem_of_getElem? (i := 117) (by decide +kernel)) (by decide +kernel)
theorem kcX4_init : Cond.code yX4_init cX4_init 1 none ∈ allW := tm1 (List.mem_of_getElem? (i := 118) rfl) rfl
theorem kdX4_init : yX4_init.cls ≠ "java/lang/invoke/MethodHandle" ∧ yX4_init.cls ≠ "java/lang/invoke/VarHandle" ∧ (parseMethodDescriptor yX4_init.desc).map (fun d => d.parameters.length) = some 0 := by decide +kernel
theorem kmX4_3 : Cond.methodLink RX4 3 objectInit ∈ allW := tm1 (List.mem_of_getElem? (i := 119) (by decide +kernel)) (by decide +kernel)
theorem kfX4_9 : Cond.fieldLink RX4 9 (TX4 0).1 (TX4 0).2.1 (TX4 0).2.2.1 ∈ allW := tm1 (List.mem_of_getElem? (i := 120) (by decide +kernel)) (by decide +kernel)
theorem kfX7_19 : Cond.fieldLink RX7 19 (TX4 0).1 (TX4 0).2.1 (TX4 0).2.2.1 ∈ allW := tm1 (List.mem_of_getElem? (i := 121) (by decide +kernel)) (by decide +kernel)
theorem kfX0_66 : Cond.fieldLink RX0 66 (TX4 0).1 (TX4 0).2.1 (TX4 0).2.2.1 ∈ allW := tm1 (List.mem_of_getElem? (i := 122) (by decide +kernel)) (by decide +kernel)
theorem kfX8_129 : Cond.fieldLink RX8 129 (TX4 0).1 (TX4 0).2.1 (TX4 0).2.2.1 ∈ allW := tm1 (List.mem_of_getElem? (i := 123) (by decide +kernel)) (by decide +kernel)
theorem kfX4_24 : Cond.fieldLink RX4 24 (TX4 1).1 (TX4 1).2.1 (TX4 1).2.2.1 ∈ allW := tm1 (List.mem_of_getElem? (i := 124) (by decide +kernel)) (by decide +kernel)
theorem kfX3_31 : Cond.fieldLink RX3 31 (TX4 1).1 (TX4 1).2.1 (TX4 1).2.2.1 ∈ allW := tm1 (List.mem_of_getElem? (i := 125) (by decide +kernel)) (by decide +kernel)
theorem kfX0_52 : Cond.fieldLink RX0 52 (TX4 1).1 (TX4 1).2.1 (TX4 1).2.2.1 ∈ allW := tm1 (List.mem_of_getElem? (i := 126) (by decide +kernel)) (by decide +kernel)
theorem kfX8_132 : Cond.fieldLink RX8 132 (TX4 1).1 (TX4 1).2.1 (TX4 1).2.2.1 ∈ allW := tm1 (List.mem_of_getElem? (i := 127) (by decide +kernel)) (by decide +kernel)
theorem kfX4_28 : Cond.fieldLink RX4 28 (TX4 2).1 (TX4 2).2.1 (TX4 2).2.2.1 ∈ allW := tm1 (List.mem_of_getElem? (i := 128) (by decide +kernel)) (by decide +kernel)
theorem kfX3_37 : Cond.fieldLink RX3 37 (TX4 2).1 (TX4 2).2.1 (TX4 2).2.2.1 ∈ allW := tm1 (List.mem_of_getElem? (i := 129) (by decide +kernel)) (by decide +kernel)
theorem kfX0_69 : Cond.fieldLink RX0 69 (TX4 2).1 (TX4 2).2.1 (TX4 2).2.2.1 ∈ allW := tm1 (List.mem_of_getElem? (i := 130) (by decide +kernel)) (by decide +kernel)
theorem kfX8_135 : Cond.fieldLink RX8 135 (TX4 2).1 (TX4 2).2.1 (TX4 2).2.2.1 ∈ allW := tm1 (List.mem_of_getElem? (i := 131) (by decide +kernel)) (by decide +kernel)
theorem kfX4_31 : Cond.fieldLink RX4 31 (TX4 3).1 (TX4 3).2.1 (TX4 3).2.2.1 ∈ allW := tm1 (List.mem_of_getElem? (i := 132) (by decide +kernel)) (by decide +kernel)
theorem kfX8_138 : Cond.fieldLink RX8 138 (TX4 3).1 (TX4 3).2.1 (TX4 3).2.2.1 ∈ allW := tm1 (List.mem_of_getElem? (i := 133) (by decide +kernel)) (by decide +kernel)
theorem klX8_30 : Cond.classLink RX8 30 RX2 ∈ allW := tm1 (List.mem_of_getElem? (i := 143) (by decide +kernel)) (by decide +kernel)
theorem kjX2 : Cond.instantiable RX2 3 ∈ allW := tm1 (List.mem_of_getElem? (i := 144) (by decide +kernel)) (by decide +kernel)
theorem kmX8_32 : Cond.methodLink RX8 32 yX2_init ∈ allW := tm1 (List.mem_of_getElem? (i := 145) (by decide +kernel)) (by decide +kernel)
theorem kiX2_init : Cond.instanceMethod yX2_init ∈ allW := tm1 (List.mem_of_getElem? (i := 146) (by decide +kernel)) (by decide +kernel)
theorem kcX2_init : Cond.code yX2_init cX2_init 2 none ∈ allW := tm1 (List.mem_of_getElem? (i := 147) rfl) rfl
theorem kdX2_init : yX2_init.cls ≠ "java/lang/invoke/MethodHandle" ∧ yX2_init.cls ≠ "java/lang/invoke/VarHandle" ∧ (parseMethodDescriptor yX2_init.desc).map (fun d => d.parameters.length) = some 0 := by decide +kernel
theorem kmX2_3 : Cond.methodLink RX2 3 objectInit ∈ allW := tm1 (List.mem_of_getElem? (i := 148) (by decide +kernel)) (by decide +kernel)
theorem klX2_9 : Cond.classLink RX2 9 RX4 ∈ allW := tm1 (List.mem_of_getElem? (i := 149) (by decide +kernel)) (by decide +kernel)
theorem kfX2_11 : Cond.fieldLink RX2 11 (TX2 0).1 (TX2 0).2.1 (TX2 0).2.2.1 ∈ allW := tm1 (List.mem_of_getElem? (i := 152) (by decide +kernel)) (by decide +kernel)
theorem kfX2_26 : Cond.fieldLink RX2 26 (TX2 1).1 (TX2 1).2.1 (TX2 1).2.2.1 ∈ allW := tm1 (List.mem_of_getElem? (i := 153) (by decide +kernel)) (by decide +kernel)
theorem kfX8_109 : Cond.fieldLink RX8 109 (TX2 1).1 (TX2 1).2.1 (TX2 1).2.2.1 ∈ allW := tm1 (List.mem_of_getElem? (i := 154) (by decide +kernel)) (by decide +kernel)
theorem kfX2_18 : Cond.fieldLink RX2 18 (TX2 2).1 (TX2 2).2.1 (TX2 2).2.2.1 ∈ allW := tm1 (List.mem_of_getElem? (i := 155) (by decide +kernel)) (by decide +kernel)
theorem klX8_45 : Cond.classLink RX8 45 RX7 ∈ allW := tm1 (List.mem_of_getElem? (i := 163) (by decide +kernel)) (by decide +kernel)
theorem kjX7 : Cond.instantiable RX7 8 ∈ allW := tm1 (List.mem_of_getElem? (i := 164) (by decide +kernel)) (by decide +kernel)
theorem kmX8_47 : Cond.methodLink RX8 47 yX7_init ∈ allW := tm1 (List.mem_of_getElem? (i := 165) (by decide +kernel)) (by decide +kernel)
theorem kiX7_init : Cond.instanceMethod yX7_init ∈ allW := tm1 (List.mem_of_getElem? (i := 166) (by decide +kernel)) (by decide +kernel)
theorem kcX7_init : Cond.code yX7_init cX7_init 2 none ∈ allW := tm1 (List.mem_of_getElem? (i := 167) rfl) rfl
theorem kdX7_init : yX7_init.cls ≠ "java/lang/invoke/MethodHandle" ∧ yX7_init.cls ≠ "java/lang/invoke/VarHandle" ∧ (parseMethodDescriptor yX7_init.desc).map (fun d => d.parameters.length) = some 1 := by decide +kernel
theorem kmX7_3 : Cond.methodLink RX7 3 objectInit ∈ allW := tm1 (List.mem_of_getElem? (i := 168) (by decide +kernel)) (by decide +kernel)
theorem kfX7_15 : Cond.fieldLink RX7 15 (TX7 0).1 (TX7 0).2.1 (TX7 0).2.2.1 ∈ allW := tm1 (List.mem_of_getElem? (i := 169) (by decide +kernel)) (by decide +kernel)
theorem kfX3_44 : Cond.fieldLink RX3 44 (TX7 0).1 (TX7 0).2.1 (TX7 0).2.2.1 ∈ allW := tm1 (List.mem_of_getElem? (i := 170) (by decide +kernel)) (by decide +kernel)
theorem kfX0_57 : Cond.fieldLink RX0 57 (TX7 0).1 (TX7 0).2.1 (TX7 0).2.2.1 ∈ allW := tm1 (List.mem_of_getElem? (i := 171) (by decide +kernel)) (by decide +kernel)
theorem kfX7_9 : Cond.fieldLink RX7 9 (TX7 1).1 (TX7 1).2.1 (TX7 1).2.2.1 ∈ allW := tm1 (List.mem_of_getElem? (i := 172) (by decide +kernel)) (by decide +kernel)
theorem kfX0_68 : Cond.fieldLink RX0 68 (TX7 1).1 (TX7 1).2.1 (TX7 1).2.2.1 ∈ allW := tm1 (List.mem_of_getElem? (i := 173) (by decide +kernel)) (by decide +kernel)
theorem kfX8_250 : Cond.fieldLink RX8 250 (TX7 1).1 (TX7 1).2.1 (TX7 1).2.2.1 ∈ allW := tm1 (List.mem_of_getElem? (i := 174) (by decide +kernel)) (by decide +kernel)
theorem kfX7_34 : Cond.fieldLink RX7 34 (TX7 2).1 (TX7 2).2.1 (TX7 2).2.2.1 ∈ allW := tm1 (List.mem_of_getElem? (i := 175) (by decide +kernel)) (by decide +kernel)
theorem kfX1_51 : Cond.fieldLink RX1 51 (TX7 2).1 (TX7 2).2.1 (TX7 2).2.2.1 ∈ allW := tm1 (List.mem_of_getElem? (i := 176) (by decide +kernel)) (by decide +kernel)
theorem kfX3_61 : Cond.fieldLink RX3 61 (TX7 2).1 (TX7 2).2.1 (TX7 2).2.2.1 ∈ allW := tm1 (List.mem_of_getElem? (i := 177) (by decide +kernel)) (by decide +kernel)
theorem kfX7_38 : Cond.fieldLink RX7 38 (TX7 3).1 (TX7 3).2.1 (TX7 3).2.2.1 ∈ allW := tm1 (List.mem_of_getElem? (i := 178) (by decide +kernel)) (by decide +kernel)
theorem kfX1_54 : Cond.fieldLink RX1 54 (TX7 3).1 (TX7 3).2.1 (TX7 3).2.2.1 ∈ allW := tm1 (List.mem_of_getElem? (i := 179) (by decide +kernel)) (by decide +kernel)
theorem kfX7_39 : Cond.fieldLink RX7 39 (TX7 4).1 (TX7 4).2.1 (TX7 4).2.2.1 ∈ allW := tm1 (List.mem_of_getElem? (i := 180) (by decide +kernel)) (by decide +kernel)
theorem kfX3_71 : Cond.fieldLink RX3 71 (TX7 4).1 (TX7 4).2.1 (TX7 4).2.2.1 ∈ allW := tm1 (List.mem_of_getElem? (i := 181) (by decide +kernel)) (by decide +kernel)
theorem kfX8_167 : Cond.fieldLink RX8 167 (TX7 4).1 (TX7 4).2.1 (TX7 4).2.2.1 ∈ allW := tm1 (List.mem_of_getElem? (i := 182) (by decide +kernel)) (by decide +kernel)
theorem kfX7_42 : Cond.fieldLink RX7 42 (TX7 5).1 (TX7 5).2.1 (TX7 5).2.2.1 ∈ allW := tm1 (List.mem_of_getElem? (i := 183) (by decide +kernel)) (by decide +kernel)
theorem kfX3_72 : Cond.fieldLink RX3 72 (TX7 5).1 (TX7 5).2.1 (TX7 5).2.2.1 ∈ allW := tm1 (List.mem_of_getElem? (i := 184) (by decide +kernel)) (by decide +kernel)
theorem kfX8_168 : Cond.fieldLink RX8 168 (TX7 5).1 (TX7 5).2.1 (TX7 5).2.2.1 ∈ allW := tm1 (List.mem_of_getElem? (i := 185) (by decide +kernel)) (by decide +kernel)
theorem kfX7_45 : Cond.fieldLink RX7 45 (TX7 6).1 (TX7 6).2.1 (TX7 6).2.2.1 ∈ allW := tm1 (List.mem_of_getElem? (i := 186) (by decide +kernel)) (by decide +kernel)
theorem kfX8_145 : Cond.fieldLink RX8 145 (TX7 6).1 (TX7 6).2.1 (TX7 6).2.2.1 ∈ allW := tm1 (List.mem_of_getElem? (i := 187) (by decide +kernel)) (by decide +kernel)
theorem kfX7_48 : Cond.fieldLink RX7 48 (TX7 7).1 (TX7 7).2.1 (TX7 7).2.2.1 ∈ allW := tm1 (List.mem_of_getElem? (i := 188) (by decide +kernel)) (by decide +kernel)
theorem kfX8_146 : Cond.fieldLink RX8 146 (TX7 7).1 (TX7 7).2.1 (TX7 7).2.2.1 ∈ allW := tm1 (List.mem_of_getElem? (i := 189) (by decide +kernel)) (by decide +kernel)
theorem ka_boolean : Cond.arrayClass .boolean ∈ allW := tm1 (List.mem_of_getElem? (i := 207) (by decide +kernel)) (by decide +kernel)
theorem klX8_54 : Cond.classLink RX8 54 RX3 ∈ allW := tm1 (List.mem_of_getElem? (i := 208) (by decide +kernel)) (by decide +kernel)
theorem kjX3 : Cond.instantiable RX3 2 ∈ allW := tm1 (List.mem_of_getElem? (i := 209) (by decide +kernel)) (by decide +kernel)
theorem kmX8_56 : Cond.methodLink RX8 56 yX3_init ∈ allW := tm1 (List.mem_of_getElem? (i := 210) (by decide +kernel)) (by decide +kernel)
theorem kiX3_init : Cond.instanceMethod yX3_init ∈ allW := tm1 (List.mem_of_getElem? (i := 211) (by decide +kernel)) (by decide +kernel)
theorem kcX3_init : Cond.code yX3_init cX3_init 2 none ∈ allW := tm1 (List.mem_of_getElem? (i := 212) rfl) rfl
theorem kdX3_init : yX3_init.cls ≠ "java/lang/invoke/MethodHandle" ∧ yX3_init.cls ≠ "java/lang/invoke/VarHandle" ∧ (parseMethodDescriptor yX3_init.desc).map (fun d => d.parameters.length) = some 1 := by decide +kernel
theorem kmX3_3 : Cond.methodLink RX3 3 objectInit ∈ allW := tm1 (List.mem_of_getElem? (i := 213) (by decide +kernel)) (by decide +kernel)
theorem kfX3_15 : Cond.fieldLink RX3 15 (TX3 0).1 (TX3 0).2.1 (TX3 0).2.2.1 ∈ allW := tm1 (List.mem_of_getElem? (i := 214) (by decide +kernel)) (by decide +kernel)
theorem kfX3_11 : Cond.fieldLink RX3 11 (TX3 1).1 (TX3 1).2.1 (TX3 1).2.2.1 ∈ allW := tm1 (List.mem_of_getElem? (i := 215) (by decide +kernel)) (by decide +kernel)
theorem klX8_63 : Cond.classLink RX8 63 RX1 ∈ allW := tm1 (List.mem_of_getElem? (i := 221) (by decide +kernel)) (by decide +kernel)
theorem kjX1 : Cond.instantiable RX1 9 ∈ allW := tm1 (List.mem_of_getElem? (i := 222) (by decide +kernel)) (by decide +kernel)
theorem kmX8_65 : Cond.methodLink RX8 65 yX1_init ∈ allW := tm1 (List.mem_of_getElem? (i := 223) (by decide +kernel)) (by decide +kernel)
theorem kiX1_init : Cond.instanceMethod yX1_init ∈ allW := tm1 (List.mem_of_getElem? (i := 224) (by decide +kernel)) (by decide +kernel)
theorem kcX1_init : Cond.code yX1_init cX1_init 2 none ∈ allW := tm1 (List.mem_of_getElem? (i := 225) rfl) rfl
theorem kdX1_init : yX1_init.cls ≠ "java/lang/invoke/MethodHandle" ∧ yX1_init.cls ≠ "java/lang/invoke/VarHandle" ∧ (parseMethodDescriptor yX1_init.desc).map (fun d => d.parameters.length) = some 1 := by decide +kernel
theorem kmX1_3 : Cond.methodLink RX1 3 objectInit ∈ allW := tm1 (List.mem_of_getElem? (i := 226) (by decide +kernel)) (by decide +kernel)
theorem kfX1_30 : Cond.fieldLink RX1 30 (TX1 0).1 (TX1 0).2.1 (TX1 0).2.2.1 ∈ allW := tm1 (List.mem_of_getElem? (i := 227) (by decide +kernel)) (by decide +kernel)
theorem kfX1_9 : Cond.fieldLink RX1 9 (TX1 1).1 (TX1 1).2.1 (TX1 1).2.2.1 ∈ allW := tm1 (List.mem_of_getElem? (i := 228) (by decide +kernel)) (by decide +kernel)
theorem kfX1_15 : Cond.fieldLink RX1 15 (TX1 2).1 (TX1 2).2.1 (TX1 2).2.2.1 ∈ allW := tm1 (List.mem_of_getElem? (i := 229) (by decide +kernel)) (by decide +kernel)
theorem kfX1_18 : Cond.fieldLink RX1 18 (TX1 3).1 (TX1 3).2.1 (TX1 3).2.2.1 ∈ allW := tm1 (List.mem_of_getElem? (i := 230) (by decide +kernel)) (by decide +kernel)
theorem kfX1_21 : Cond.fieldLink RX1 21 (TX1 4).1 (TX1 4).2.1 (TX1 4).2.2.1 ∈ allW := tm1 (List.mem_of_getElem? (i := 231) (by decide +kernel)) (by decide +kernel)
theorem kfX8_205 : Cond.fieldLink RX8 205 (TX1 4).1 (TX1 4).2.1 (TX1 4).2.2.1 ∈ allW := tm1 (List.mem_of_getElem? (i := 232) (by decide +kernel)) (by decide +kernel)
theorem kfX1_24 : Cond.fieldLink RX1 24 (TX1 5).1 (TX1 5).2.1 (TX1 5).2.2.1 ∈ allW := tm1 (List.mem_of_getElem? (i := 233) (by decide +kernel)) (by decide +kernel)
theorem kfX8_208 : Cond.fieldLink RX8 208 (TX1 5).1 (TX1 5).2.1 (TX1 5).2.2.1 ∈ allW := tm1 (List.mem_of_getElem? (i := 234) (by decide +kernel)) (by decide +kernel)
theorem kfX1_27 : Cond.fieldLink RX1 27 (TX1 6).1 (TX1 6).2.1 (TX1 6).2.2.1 ∈ allW := tm1 (List.mem_of_getElem? (i := 235) (by decide +kernel)) (by decide +kernel)
theorem kfX1_34 : Cond.fieldLink RX1 34 (TX1 7).1 (TX1 7).2.1 (TX1 7).2.2.1 ∈ allW := tm1 (List.mem_of_getElem? (i := 236) (by decide +kernel)) (by decide +kernel)
theorem kfX8_112 : Cond.fieldLink RX8 112 (TX1 7).1 (TX1 7).2.1 (TX1 7).2.2.1 ∈ allW := tm1 (List.mem_of_getElem? (i := 237) (by decide +kernel)) (by decide +kernel)
theorem kfX1_44 : Cond.fieldLink RX1 44 (TX1 8).1 (TX1 8).2.1 (TX1 8).2.2.1 ∈ allW := tm1 (List.mem_of_getElem? (i := 238) (by decide +kernel)) (by decide +kernel)
theorem kfX8_202 : Cond.fieldLink RX8 202 (TX1 8).1 (TX1 8).2.1 (TX1 8).2.2.1 ∈ allW := tm1 (List.mem_of_getElem? (i := 239) (by decide +kernel)) (by decide +kernel)
theorem klX8_70 : Cond.classLink RX8 70 RX0 ∈ allW := tm2 (List.mem_of_getElem? (i := 19) (by decide +kernel)) (by decide +kernel)
theorem kjX0 : Cond.instantiable RX0 5 ∈ allW := tm2 (List.mem_of_getElem? (i := 20) (by decide +kernel)) (by decide +kernel)
theorem kmX8_72 : Cond.methodLink RX8 72 yX0_init ∈ allW := tm2 (List.mem_of_getElem? (i := 21) (by decide +kernel)) (by decide +kernel)
theorem kiX0_init : Cond.instanceMethod yX0_init ∈ allW := tm2 (List.mem_of_getElem? (i := 22) (by decide +kernel)) (by decide +kernel)
theorem kcX0_init : Cond.code yX0_init cX0_init 2 none ∈ allW := tm2 (List.mem_of_getElem? (i := 23) rfl) rfl
theorem kdX0_init : yX0_init.cls ≠ "java/lang/invoke/MethodHandle" ∧ yX0_init.cls ≠ "java/lang/invoke/VarHandle" ∧ (parseMethodDescriptor yX0_init.desc).map (fun d => d.parameters.length) = some 1 := by decide +kernel
theorem kmX0_3 : Cond.methodLink RX0 3 objectInit ∈ allW := tm2 (List.mem_of_getElem? (i := 24) (by decide +kernel)) (by decide +kernel)
theorem kfX0_15 : Cond.fieldLink RX0 15 (TX0 0).1 (TX0 0).2.1 (TX0 0).2.2.1 ∈ allW := tm2 (List.mem_of_getElem? (i := 25) (by decide +kernel)) (by decide +kernel)
theorem kfX0_9 : Cond.fieldLink RX0 9 (TX0 1).1 (TX0 1).2.1 (TX0 1).2.2.1 ∈ allW := tm2 (List.mem_of_getElem? (i := 26) (by decide +kernel)) (by decide +kernel)
theorem kfX0_35 : Cond.fieldLink RX0 35 (TX0 2).1 (TX0 2).2.1 (TX0 2).2.2.1 ∈ allW := tm2 (List.mem_of_getElem? (i := 27) (by decide +kernel)) (by decide +kernel)
theorem kfX0_28 : Cond.fieldLink RX0 28 (TX0 3).1 (TX0 3).2.1 (TX0 3).2.2.1 ∈ allW := tm2 (List.mem_of_getElem? (i := 28) (by decide +kernel)) (by decide +kernel)
theorem kfX8_190 : Cond.fieldLink RX8 190 (TX0 3).1 (TX0 3).2.1 (TX0 3).2.2.1 ∈ allW := tm2 (List.mem_of_getElem? (i := 29) (by decide +kernel)) (by decide +kernel)
theorem kfX0_32 : Cond.fieldLink RX0 32 (TX0 4).1 (TX0 4).2.1 (TX0 4).2.2.1 ∈ allW := tm2 (List.mem_of_getElem? (i := 30) (by decide +kernel)) (by decide +kernel)
theorem kfX8_193 : Cond.fieldLink RX8 193 (TX0 4).1 (TX0 4).2.1 (TX0 4).2.2.1 ∈ allW := tm2 (List.mem_of_getElem? (i := 31) (by decide +kernel)) (by decide +kernel)
theorem kfX8_12 : Cond.fieldLink RX8 12 (TX8 0).1 (TX8 0).2.1 (TX8 0).2.2.1 ∈ allW := tm2 (List.mem_of_getElem? (i := 43) (by decide +kernel)) (by decide +kernel)
theorem kfX8_19 : Cond.fieldLink RX8 19 (TX8 1).1 (TX8 1).2.1 (TX8 1).2.2.1 ∈ allW := tm2 (List.mem_of_getElem? (i := 44) (by decide +kernel)) (by decide +kernel)
theorem kfX8_26 : Cond.fieldLink RX8 26 (TX8 2).1 (TX8 2).2.1 (TX8 2).2.2.1 ∈ allW := tm2 (List.mem_of_getElem? (i := 45) (by decide +kernel)) (by decide +kernel)
theorem kfX8_33 : Cond.fieldLink RX8 33 (TX8 3).1 (TX8 3).2.1 (TX8 3).2.2.1 ∈ allW := tm2 (List.mem_of_getElem? (i := 46) (by decide +kernel)) (by decide +kernel)
theorem kfX8_37 : Cond.fieldLink RX8 37 (TX8 4).1 (TX8 4).2.1 (TX8 4).2.2.1 ∈ allW := tm2 (List.mem_of_getElem? (i := 47) (by decide +kernel)) (by decide +kernel)
theorem kfX8_41 : Cond.fieldLink RX8 41 (TX8 5).1 (TX8 5).2.1 (TX8 5).2.2.1 ∈ allW := tm2 (List.mem_of_getElem? (i := 48) (by decide +kernel)) (by decide +kernel)
theorem kfX8_50 : Cond.fieldLink RX8 50 (TX8 6).1 (TX8 6).2.1 (TX8 6).2.2.1 ∈ allW := tm2 (List.mem_of_getElem? (i := 49) (by decide +kernel)) (by decide +kernel)
theorem kfX8_59 : Cond.fieldLink RX8 59 (TX8 7).1 (TX8 7).2.1 (TX8 7).2.2.1 ∈ allW := tm2 (List.mem_of_getElem? (i := 50) (by decide +kernel)) (by decide +kernel)
theorem kfX8_66 : Cond.fieldLink RX8 66 (TX8 8).1 (TX8 8).2.1 (TX8 8).2.2.1 ∈ allW := tm2 (List.mem_of_getElem? (i := 51) (by decide +kernel)) (by decide +kernel)
theorem kfX8_73 : Cond.fieldLink RX8 73 (TX8 9).1 (TX8 9).2.1 (TX8 9).2.2.1 ∈ allW := tm2 (List.mem_of_getElem? (i := 52) (by decide +kernel)) (by decide +kernel)
theorem kfX8_77 : Cond.fieldLink RX8 77 (TX8 10).1 (TX8 10).2.1 (TX8 10).2.2.1 ∈ allW := tm2 (List.mem_of_getElem? (i := 53) (by decide +kernel)) (by decide +kernel)
theorem kmL_13 : Cond.methodLink RL 13 yX8_type ∈ allW := tm2 (List.mem_of_getElem? (i := 77) (by decide +kernel)) (by decide +kernel)
theorem kiX8_type : Cond.instanceMethod yX8_type ∈ allW := tm2 (List.mem_of_getElem? (i := 78) (by decide +kernel)) (by decide +kernel)
theorem ksX8_type : Cond.selects RX8 yX8_type yX8_type ∈ allW := tm2 (List.mem_of_getElem? (i := 79) (by decide +kernel)) (by decide +kernel)
theorem kcX8_type : Cond.code yX8_type cX8_type 2 (some .int) ∈ allW := tm2 (List.mem_of_getElem? (i := 80) rfl) rfl
theorem kdX8_type : yX8_type.cls ≠ "java/lang/invoke/MethodHandle" ∧ yX8_type.cls ≠ "java/lang/invoke/VarHandle" ∧ (parseMethodDescriptor yX8_type.desc).map (fun d => d.parameters.length) = some 1 := by decide +kernel
theorem kmX8_81 : Cond.methodLink RX8 81 yX8_within ∈ allW := tm2 (List.mem_of_getElem? (i := 81) (by decide +kernel)) (by decide +kernel)
theorem ktX8_within : Cond.static yX8_within ∈ allW := tm2 (List.mem_of_getElem? (i := 82) (by decide +kernel)) (by decide +kernel)
theorem kcX8_within : Cond.code yX8_within cX8_within 3 (some .boolean) ∈ allW := tm2 (List.mem_of_getElem? (i := 83) rfl) rfl
theorem kdX8_within : yX8_within.cls ≠ "java/lang/invoke/MethodHandle" ∧ yX8_within.cls ≠ "java/lang/invoke/VarHandle" ∧ (parseMethodDescriptor yX8_within.desc).map (fun d => d.parameters.length) = some 3 := by decide +kernel
theorem kmX8_85 : Cond.methodLink RX8 85 yX6_take ∈ allW := tm2 (List.mem_of_getElem? (i := 84) (by decide +kernel)) (by decide +kernel)
theorem kiX6_take : Cond.instanceMethod yX6_take ∈ allW := tm2 (List.mem_of_getElem? (i := 85) (by decide +kernel)) (by decide +kernel)
theorem ksX6_take : Cond.selects RX6 yX6_take yX6_take ∈ allW := tm2 (List.mem_of_getElem? (i := 86) (by decide +kernel)) (by decide +kernel)
theorem kcX6_take : Cond.code yX6_take cX6_take 2 (some .boolean) ∈ allW := tm2 (List.mem_of_getElem? (i := 87) rfl) rfl
theorem kdX6_take : yX6_take.cls ≠ "java/lang/invoke/MethodHandle" ∧ yX6_take.cls ≠ "java/lang/invoke/VarHandle" ∧ (parseMethodDescriptor yX6_take.desc).map (fun d => d.parameters.length) = some 1 := by decide +kernel
theorem kmL_18 : Cond.methodLink RL 18 yX8_clear ∈ allW := tm2 (List.mem_of_getElem? (i := 88) (by decide +kernel)) (by decide +kernel)
theorem kiX8_clear : Cond.instanceMethod yX8_clear ∈ allW := tm2 (List.mem_of_getElem? (i := 89) (by decide +kernel)) (by decide +kernel)
theorem ksX8_clear : Cond.selects RX8 yX8_clear yX8_clear ∈ allW := tm2 (List.mem_of_getElem? (i := 90) (by decide +kernel)) (by decide +kernel)
theorem kcX8_clear : Cond.code yX8_clear cX8_clear 2 (some .int) ∈ allW := tm2 (List.mem_of_getElem? (i := 91) rfl) rfl
theorem kdX8_clear : yX8_clear.cls ≠ "java/lang/invoke/MethodHandle" ∧ yX8_clear.cls ≠ "java/lang/invoke/VarHandle" ∧ (parseMethodDescriptor yX8_clear.desc).map (fun d => d.parameters.length) = some 0 := by decide +kernel
theorem kmL_23 : Cond.methodLink RL 23 yX8_stairs ∈ allW := tm2 (List.mem_of_getElem? (i := 92) (by decide +kernel)) (by decide +kernel)
theorem kiX8_stairs : Cond.instanceMethod yX8_stairs ∈ allW := tm2 (List.mem_of_getElem? (i := 93) (by decide +kernel)) (by decide +kernel)
theorem ksX8_stairs : Cond.selects RX8 yX8_stairs yX8_stairs ∈ allW := tm2 (List.mem_of_getElem? (i := 94) (by decide +kernel)) (by decide +kernel)
theorem kcX8_stairs : Cond.code yX8_stairs cX8_stairs 2 (some .int) ∈ allW := tm2 (List.mem_of_getElem? (i := 95) rfl) rfl
theorem kdX8_stairs : yX8_stairs.cls ≠ "java/lang/invoke/MethodHandle" ∧ yX8_stairs.cls ≠ "java/lang/invoke/VarHandle" ∧ (parseMethodDescriptor yX8_stairs.desc).map (fun d => d.parameters.length) = some 0 := by decide +kernel
theorem kmX8_93 : Cond.methodLink RX8 93 yX6_read ∈ allW := tm2 (List.mem_of_getElem? (i := 96) (by decide +kernel)) (by decide +kernel)
theorem kiX6_read : Cond.instanceMethod yX6_read ∈ allW := tm2 (List.mem_of_getElem? (i := 97) (by decide +kernel)) (by decide +kernel)
theorem ksX6_read : Cond.selects RX6 yX6_read yX6_read ∈ allW := tm2 (List.mem_of_getElem? (i := 98) (by decide +kernel)) (by decide +kernel)
theorem kcX6_read : Cond.code yX6_read cX6_read 2 (some .boolean) ∈ allW := tm2 (List.mem_of_getElem? (i := 99) rfl) rfl
theorem kdX6_read : yX6_read.cls ≠ "java/lang/invoke/MethodHandle" ∧ yX6_read.cls ≠ "java/lang/invoke/VarHandle" ∧ (parseMethodDescriptor yX6_read.desc).map (fun d => d.parameters.length) = some 0 := by decide +kernel
theorem kmX6_26 : Cond.methodLink RX6 26 yX5_empty ∈ allW := tm2 (List.mem_of_getElem? (i := 100) (by decide +kernel)) (by decide +kernel)
theorem kmX6_48 : Cond.methodLink RX6 48 yX6_findToken ∈ allW := tm2 (List.mem_of_getElem? (i := 101) (by decide +kernel)) (by decide +kernel)
theorem kiX6_findToken : Cond.instanceMethod yX6_findToken ∈ allW := tm2 (List.mem_of_getElem? (i := 103) (by decide +kernel)) (by decide +kernel)
theorem kcX6_findToken : Cond.code yX6_findToken cX6_findToken 1 (some .boolean) ∈ allW := tm2 (List.mem_of_getElem? (i := 104) rfl) rfl
theorem kdX6_findToken : yX6_findToken.cls ≠ "java/lang/invoke/MethodHandle" ∧ yX6_findToken.cls ≠ "java/lang/invoke/VarHandle" ∧ (parseMethodDescriptor yX6_findToken.desc).map (fun d => d.parameters.length) = some 0 := by decide +kernel
theorem kmX6_52 : Cond.methodLink RX6 52 yX6_readItem ∈ allW := tm2 (List.mem_of_getElem? (i := 105) (by decide +kernel)) (by decide +kernel)
theorem kiX6_readItem : Cond.instanceMethod yX6_readItem ∈ allW := tm2 (List.mem_of_getElem? (i := 107) (by decide +kernel)) (by decide +kernel)
theorem kcX6_readItem : Cond.code yX6_readItem cX6_readItem 2 none ∈ allW := tm2 (List.mem_of_getElem? (i := 108) rfl) rfl
theorem kdX6_readItem : yX6_readItem.cls ≠ "java/lang/invoke/MethodHandle" ∧ yX6_readItem.cls ≠ "java/lang/invoke/VarHandle" ∧ (parseMethodDescriptor yX6_readItem.desc).map (fun d => d.parameters.length) = some 0 := by decide +kernel
theorem kmX6_55 : Cond.methodLink RX6 55 yX6_mayBegin ∈ allW := tm2 (List.mem_of_getElem? (i := 109) (by decide +kernel)) (by decide +kernel)
theorem kiX6_mayBegin : Cond.instanceMethod yX6_mayBegin ∈ allW := tm2 (List.mem_of_getElem? (i := 111) (by decide +kernel)) (by decide +kernel)
theorem kcX6_mayBegin : Cond.code yX6_mayBegin cX6_mayBegin 2 (some .boolean) ∈ allW := tm2 (List.mem_of_getElem? (i := 112) rfl) rfl
theorem kdX6_mayBegin : yX6_mayBegin.cls ≠ "java/lang/invoke/MethodHandle" ∧ yX6_mayBegin.cls ≠ "java/lang/invoke/VarHandle" ∧ (parseMethodDescriptor yX6_mayBegin.desc).map (fun d => d.parameters.length) = some 1 := by decide +kernel
theorem kmX6_59 : Cond.methodLink RX6 59 yX6_readStep ∈ allW := tm2 (List.mem_of_getElem? (i := 113) (by decide +kernel)) (by decide +kernel)
theorem kiX6_readStep : Cond.instanceMethod yX6_readStep ∈ allW := tm2 (List.mem_of_getElem? (i := 115) (by decide +kernel)) (by decide +kernel)
theorem kcX6_readStep : Cond.code yX6_readStep cX6_readStep 4 none ∈ allW := tm2 (List.mem_of_getElem? (i := 116) rfl) rfl
theorem kdX6_readStep : yX6_readStep.cls ≠ "java/lang/invoke/MethodHandle" ∧ yX6_readStep.cls ≠ "java/lang/invoke/VarHandle" ∧ (parseMethodDescriptor yX6_readStep.desc).map (fun d => d.parameters.length) = some 0 := by decide +kernel
theorem kmX6_62 : Cond.methodLink RX6 62 yX6_number ∈ allW := tm2 (List.mem_of_getElem? (i := 117) (by decide +kernel)) (by decide +kernel)
theorem kiX6_number : Cond.instanceMethod yX6_number ∈ allW := tm2 (List.mem_of_getElem? (i := 119) (by decide +kernel)) (by decide +kernel)
theorem kcX6_number : Cond.code yX6_number cX6_number 6 (some .int) ∈ allW := tm2 (List.mem_of_getElem? (i := 120) rfl) rfl
theorem kdX6_number : yX6_number.cls ≠ "java/lang/invoke/MethodHandle" ∧ yX6_number.cls ≠ "java/lang/invoke/VarHandle" ∧ (parseMethodDescriptor yX6_number.desc).map (fun d => d.parameters.length) = some 2 := by decide +kernel
theorem kmX6_89 : Cond.methodLink RX6 89 Lib.Math.min.name ∈ allW := tm2 (List.mem_of_getElem? (i := 122) (by decide +kernel)) (by decide +kernel)
theorem ktMath_min : Cond.static Lib.Math.min.name ∈ allW := tm2 (List.mem_of_getElem? (i := 123) (by decide +kernel)) (by decide +kernel)
theorem kcMath_min : Cond.code Lib.Math.min.name Lib.Math.min.code 2 (some .int) ∈ allW := tm2 (List.mem_of_getElem? (i := 124) rfl) rfl
theorem kmX6_81 : Cond.methodLink RX6 81 yX5_addStep ∈ allW := tm2 (List.mem_of_getElem? (i := 125) (by decide +kernel)) (by decide +kernel)
theorem kiX5_addStep : Cond.instanceMethod yX5_addStep ∈ allW := tm2 (List.mem_of_getElem? (i := 126) (by decide +kernel)) (by decide +kernel)
theorem ksX5_addStep : Cond.selects RX5 yX5_addStep yX5_addStep ∈ allW := tm2 (List.mem_of_getElem? (i := 127) (by decide +kernel)) (by decide +kernel)
theorem kcX5_addStep : Cond.code yX5_addStep cX5_addStep 4 none ∈ allW := tm2 (List.mem_of_getElem? (i := 128) rfl) rfl
theorem kdX5_addStep : yX5_addStep.cls ≠ "java/lang/invoke/MethodHandle" ∧ yX5_addStep.cls ≠ "java/lang/invoke/VarHandle" ∧ (parseMethodDescriptor yX5_addStep.desc).map (fun d => d.parameters.length) = some 3 := by decide +kernel
theorem kmX6_75 : Cond.methodLink RX6 75 yX6_endItem ∈ allW := tm2 (List.mem_of_getElem? (i := 129) (by decide +kernel)) (by decide +kernel)
theorem kiX6_endItem : Cond.instanceMethod yX6_endItem ∈ allW := tm2 (List.mem_of_getElem? (i := 131) (by decide +kernel)) (by decide +kernel)
theorem kcX6_endItem : Cond.code yX6_endItem cX6_endItem 1 none ∈ allW := tm2 (List.mem_of_getElem? (i := 132) rfl) rfl
theorem kdX6_endItem : yX6_endItem.cls ≠ "java/lang/invoke/MethodHandle" ∧ yX6_endItem.cls ≠ "java/lang/invoke/VarHandle" ∧ (parseMethodDescriptor yX6_endItem.desc).map (fun d => d.parameters.length) = some 0 := by decide +kernel
theorem kmX8_103 : Cond.methodLink RX8 103 yX5_copy ∈ allW := tm2 (List.mem_of_getElem? (i := 133) (by decide +kernel)) (by decide +kernel)
theorem kiX5_copy : Cond.instanceMethod yX5_copy ∈ allW := tm2 (List.mem_of_getElem? (i := 134) (by decide +kernel)) (by decide +kernel)
theorem ksX5_copy : Cond.selects RX5 yX5_copy yX5_copy ∈ allW := tm2 (List.mem_of_getElem? (i := 135) (by decide +kernel)) (by decide +kernel)
theorem kcX5_copy : Cond.code yX5_copy cX5_copy 2 none ∈ allW := tm2 (List.mem_of_getElem? (i := 136) rfl) rfl
theorem kdX5_copy : yX5_copy.cls ≠ "java/lang/invoke/MethodHandle" ∧ yX5_copy.cls ≠ "java/lang/invoke/VarHandle" ∧ (parseMethodDescriptor yX5_copy.desc).map (fun d => d.parameters.length) = some 1 := by decide +kernel
theorem kmX5_37 : Cond.methodLink RX5 37 arraycopyName ∈ allW := tm2 (List.mem_of_getElem? (i := 137) (by decide +kernel)) (by decide +kernel)
theorem ktSys_arraycopy : Cond.static arraycopyName ∈ allW := tm2 (List.mem_of_getElem? (i := 138) (by decide +kernel)) (by decide +kernel)
theorem kvSys_arraycopy : Cond.native arraycopyName ∈ allW := tm2 (List.mem_of_getElem? (i := 139) (by decide +kernel)) (by decide +kernel)
theorem kmX8_106 : Cond.methodLink RX8 106 yX4_begin ∈ allW := tm2 (List.mem_of_getElem? (i := 140) (by decide +kernel)) (by decide +kernel)
theorem kiX4_begin : Cond.instanceMethod yX4_begin ∈ allW := tm2 (List.mem_of_getElem? (i := 141) (by decide +kernel)) (by decide +kernel)
theorem ksX4_begin : Cond.selects RX4 yX4_begin yX4_begin ∈ allW := tm2 (List.mem_of_getElem? (i := 142) (by decide +kernel)) (by decide +kernel)
theorem kcX4_begin : Cond.code yX4_begin cX4_begin 2 none ∈ allW := tm2 (List.mem_of_getElem? (i := 143) rfl) rfl
theorem kdX4_begin : yX4_begin.cls ≠ "java/lang/invoke/MethodHandle" ∧ yX4_begin.cls ≠ "java/lang/invoke/VarHandle" ∧ (parseMethodDescriptor yX4_begin.desc).map (fun d => d.parameters.length) = some 1 := by decide +kernel
theorem kmX4_18 : Cond.methodLink RX4 18 arraycopyName ∈ allW := tm2 (List.mem_of_getElem? (i := 144) (by decide +kernel)) (by decide +kernel)
theorem kmL_27 : Cond.methodLink RL 27 yX8_step ∈ allW := tm2 (List.mem_of_getElem? (i := 145) (by decide +kernel)) (by decide +kernel)
theorem kiX8_step : Cond.instanceMethod yX8_step ∈ allW := tm2 (List.mem_of_getElem? (i := 146) (by decide +kernel)) (by decide +kernel)
theorem ksX8_step : Cond.selects RX8 yX8_step yX8_step ∈ allW := tm2 (List.mem_of_getElem? (i := 147) (by decide +kernel)) (by decide +kernel)
theorem kcX8_step : Cond.code yX8_step cX8_step 3 (some .int) ∈ allW := tm2 (List.mem_of_getElem? (i := 148) rfl) rfl
theorem kdX8_step : yX8_step.cls ≠ "java/lang/invoke/MethodHandle" ∧ yX8_step.cls ≠ "java/lang/invoke/VarHandle" ∧ (parseMethodDescriptor yX8_step.desc).map (fun d => d.parameters.length) = some 2 := by decide +kernel
theorem kmX8_118 : Cond.methodLink RX8 118 yX5_has ∈ allW := tm2 (List.mem_of_getElem? (i := 149) (by decide +kernel)) (by decide +kernel)
theorem kiX5_has : Cond.instanceMethod yX5_has ∈ allW := tm2 (List.mem_of_getElem? (i := 150) (by decide +kernel)) (by decide +kernel)
theorem ksX5_has : Cond.selects RX5 yX5_has yX5_has ∈ allW := tm2 (List.mem_of_getElem? (i := 151) (by decide +kernel)) (by decide +kernel)
theorem kcX5_has : Cond.code yX5_has cX5_has 2 (some .boolean) ∈ allW := tm2 (List.mem_of_getElem? (i := 152) rfl) rfl
theorem kdX5_has : yX5_has.cls ≠ "java/lang/invoke/MethodHandle" ∧ yX5_has.cls ≠ "java/lang/invoke/VarHandle" ∧ (parseMethodDescriptor yX5_has.desc).map (fun d => d.parameters.length) = some 1 := by decide +kernel
theorem kmL_32 : Cond.methodLink RL 32 yX8_now ∈ allW := tm2 (List.mem_of_getElem? (i := 154) (by decide +kernel)) (by decide +kernel)
theorem kiX8_now : Cond.instanceMethod yX8_now ∈ allW := tm2 (List.mem_of_getElem? (i := 155) (by decide +kernel)) (by decide +kernel)
theorem ksX8_now : Cond.selects RX8 yX8_now yX8_now ∈ allW := tm2 (List.mem_of_getElem? (i := 156) (by decide +kernel)) (by decide +kernel)
theorem kcX8_now : Cond.code yX8_now cX8_now 2 (some .int) ∈ allW := tm2 (List.mem_of_getElem? (i := 157) rfl) rfl
theorem kdX8_now : yX8_now.cls ≠ "java/lang/invoke/MethodHandle" ∧ yX8_now.cls ≠ "java/lang/invoke/VarHandle" ∧ (parseMethodDescriptor yX8_now.desc).map (fun d => d.parameters.length) = some 1 := by decide +kernel
theorem kmX8_141 : Cond.methodLink RX8 141 yX8_runFrom ∈ allW := tm2 (List.mem_of_getElem? (i := 158) (by decide +kernel)) (by decide +kernel)
theorem kiX8_runFrom : Cond.instanceMethod yX8_runFrom ∈ allW := tm2 (List.mem_of_getElem? (i := 160) (by decide +kernel)) (by decide +kernel)
theorem kcX8_runFrom : Cond.code yX8_runFrom cX8_runFrom 2 (some .int) ∈ allW := tm2 (List.mem_of_getElem? (i := 161) rfl) rfl
theorem kdX8_runFrom : yX8_runFrom.cls ≠ "java/lang/invoke/MethodHandle" ∧ yX8_runFrom.cls ≠ "java/lang/invoke/VarHandle" ∧ (parseMethodDescriptor yX8_runFrom.desc).map (fun d => d.parameters.length) = some 1 := by decide +kernel
theorem kmX8_157 : Cond.methodLink RX8 157 yX7_prepare ∈ allW := tm2 (List.mem_of_getElem? (i := 162) (by decide +kernel)) (by decide +kernel)
theorem kiX7_prepare : Cond.instanceMethod yX7_prepare ∈ allW := tm2 (List.mem_of_getElem? (i := 163) (by decide +kernel)) (by decide +kernel)
theorem ksX7_prepare : Cond.selects RX7 yX7_prepare yX7_prepare ∈ allW := tm2 (List.mem_of_getElem? (i := 164) (by decide +kernel)) (by decide +kernel)
theorem kcX7_prepare : Cond.code yX7_prepare cX7_prepare 2 none ∈ allW := tm2 (List.mem_of_getElem? (i := 165) rfl) rfl
theorem kdX7_prepare : yX7_prepare.cls ≠ "java/lang/invoke/MethodHandle" ∧ yX7_prepare.cls ≠ "java/lang/invoke/VarHandle" ∧ (parseMethodDescriptor yX7_prepare.desc).map (fun d => d.parameters.length) = some 1 := by decide +kernel
theorem kmX7_22 : Cond.methodLink RX7 22 arraycopyName ∈ allW := tm2 (List.mem_of_getElem? (i := 166) (by decide +kernel)) (by decide +kernel)
theorem kmX8_247 : Cond.methodLink RX8 247 yX7_run ∈ allW := tm2 (List.mem_of_getElem? (i := 167) (by decide +kernel)) (by decide +kernel)
theorem kiX7_run : Cond.instanceMethod yX7_run ∈ allW := tm2 (List.mem_of_getElem? (i := 168) (by decide +kernel)) (by decide +kernel)
theorem ksX7_run : Cond.selects RX7 yX7_run yX7_run ∈ allW := tm2 (List.mem_of_getElem? (i := 169) (by decide +kernel)) (by decide +kernel)
theorem kcX7_run : Cond.code yX7_run cX7_run 4 (some .int) ∈ allW := tm2 (List.mem_of_getElem? (i := 170) rfl) rfl
theorem kdX7_run : yX7_run.cls ≠ "java/lang/invoke/MethodHandle" ∧ yX7_run.cls ≠ "java/lang/invoke/VarHandle" ∧ (parseMethodDescriptor yX7_run.desc).map (fun d => d.parameters.length) = some 2 := by decide +kernel
theorem kmX7_74 : Cond.methodLink RX7 74 yX7_stand ∈ allW := tm2 (List.mem_of_getElem? (i := 171) (by decide +kernel)) (by decide +kernel)
theorem kiX7_stand : Cond.instanceMethod yX7_stand ∈ allW := tm2 (List.mem_of_getElem? (i := 172) (by decide +kernel)) (by decide +kernel)
theorem ksX7_stand : Cond.selects RX7 yX7_stand yX7_stand ∈ allW := tm2 (List.mem_of_getElem? (i := 173) (by decide +kernel)) (by decide +kernel)
theorem kcX7_stand : Cond.code yX7_stand cX7_stand 3 none ∈ allW := tm2 (List.mem_of_getElem? (i := 174) rfl) rfl
theorem kdX7_stand : yX7_stand.cls ≠ "java/lang/invoke/MethodHandle" ∧ yX7_stand.cls ≠ "java/lang/invoke/VarHandle" ∧ (parseMethodDescriptor yX7_stand.desc).map (fun d => d.parameters.length) = some 2 := by decide +kernel
theorem kmX7_51 : Cond.methodLink RX7 51 yX5_has ∈ allW := tm2 (List.mem_of_getElem? (i := 175) (by decide +kernel)) (by decide +kernel)
theorem kmX7_78 : Cond.methodLink RX7 78 yX7_turn ∈ allW := tm2 (List.mem_of_getElem? (i := 176) (by decide +kernel)) (by decide +kernel)
theorem kiX7_turn : Cond.instanceMethod yX7_turn ∈ allW := tm2 (List.mem_of_getElem? (i := 177) (by decide +kernel)) (by decide +kernel)
theorem ksX7_turn : Cond.selects RX7 yX7_turn yX7_turn ∈ allW := tm2 (List.mem_of_getElem? (i := 178) (by decide +kernel)) (by decide +kernel)
theorem kcX7_turn : Cond.code yX7_turn cX7_turn 1 none ∈ allW := tm2 (List.mem_of_getElem? (i := 179) rfl) rfl
theorem kdX7_turn : yX7_turn.cls ≠ "java/lang/invoke/MethodHandle" ∧ yX7_turn.cls ≠ "java/lang/invoke/VarHandle" ∧ (parseMethodDescriptor yX7_turn.desc).map (fun d => d.parameters.length) = some 0 := by decide +kernel
theorem ktX8_asVigour : Cond.static yX8_asVigour ∈ allW := tm2 (List.mem_of_getElem? (i := 181) (by decide +kernel)) (by decide +kernel)
theorem kcX8_asVigour : Cond.code yX8_asVigour cX8_asVigour 1 (some .int) ∈ allW := tm2 (List.mem_of_getElem? (i := 182) rfl) rfl
theorem kdX8_asVigour : yX8_asVigour.cls ≠ "java/lang/invoke/MethodHandle" ∧ yX8_asVigour.cls ≠ "java/lang/invoke/VarHandle" ∧ (parseMethodDescriptor yX8_asVigour.desc).map (fun d => d.parameters.length) = some 1 := by decide +kernel
theorem kmX7_62 : Cond.methodLink RX7 62 yX7_land ∈ allW := tm2 (List.mem_of_getElem? (i := 183) (by decide +kernel)) (by decide +kernel)
theorem kiX7_land : Cond.instanceMethod yX7_land ∈ allW := tm2 (List.mem_of_getElem? (i := 185) (by decide +kernel)) (by decide +kernel)
theorem kcX7_land : Cond.code yX7_land cX7_land 2 none ∈ allW := tm2 (List.mem_of_getElem? (i := 186) rfl) rfl
theorem kdX7_land : yX7_land.cls ≠ "java/lang/invoke/MethodHandle" ∧ yX7_land.cls ≠ "java/lang/invoke/VarHandle" ∧ (parseMethodDescriptor yX7_land.desc).map (fun d => d.parameters.length) = some 0 := by decide +kernel
theorem kmX8_149 : Cond.methodLink RX8 149 yX3_from ∈ allW := tm2 (List.mem_of_getElem? (i := 187) (by decide +kernel)) (by decide +kernel)
theorem kiX3_from : Cond.instanceMethod yX3_from ∈ allW := tm2 (List.mem_of_getElem? (i := 188) (by decide +kernel)) (by decide +kernel)
theorem ksX3_from : Cond.selects RX3 yX3_from yX3_from ∈ allW := tm2 (List.mem_of_getElem? (i := 189) (by decide +kernel)) (by decide +kernel)
theorem kcX3_from : Cond.code yX3_from cX3_from 2 (some .int) ∈ allW := tm2 (List.mem_of_getElem? (i := 190) rfl) rfl
theorem kdX3_from : yX3_from.cls ≠ "java/lang/invoke/MethodHandle" ∧ yX3_from.cls ≠ "java/lang/invoke/VarHandle" ∧ (parseMethodDescriptor yX3_from.desc).map (fun d => d.parameters.length) = some 1 := by decide +kernel
theorem kmX3_19 : Cond.methodLink RX3 19 yX7_prepare ∈ allW := tm2 (List.mem_of_getElem? (i := 191) (by decide +kernel)) (by decide +kernel)
theorem kmX3_25 : Cond.methodLink RX3 25 yJ7_fill_53178 ∈ allW := tm2 (List.mem_of_getElem? (i := 192) (by decide +kernel)) (by decide +kernel)
theorem ktJ7_fill : Cond.static yJ7_fill_53178 ∈ allW := tm2 (List.mem_of_getElem? (i := 193) (by decide +kernel)) (by decide +kernel)
theorem kcJ7_fill : Cond.code yJ7_fill_53178 cJ7_fill_53178 4 none ∈ allW := tm2 (List.mem_of_getElem? (i := 194) rfl) rfl
theorem kdJ7_fill : yJ7_fill_53178.cls ≠ "java/lang/invoke/MethodHandle" ∧ yJ7_fill_53178.cls ≠ "java/lang/invoke/VarHandle" ∧ (parseMethodDescriptor yJ7_fill_53178.desc).map (fun d => d.parameters.length) = some 2 := by decide +kernel
theorem kmX3_40 : Cond.methodLink RX3 40 yX3_fewest ∈ allW := tm2 (List.mem_of_getElem? (i := 195) (by decide +kernel)) (by decide +kernel)
theorem kiX3_fewest : Cond.instanceMethod yX3_fewest ∈ allW := tm2 (List.mem_of_getElem? (i := 197) (by decide +kernel)) (by decide +kernel)
theorem kcX3_fewest : Cond.code yX3_fewest cX3_fewest 4 (some .int) ∈ allW := tm2 (List.mem_of_getElem? (i := 198) rfl) rfl
theorem kdX3_fewest : yX3_fewest.cls ≠ "java/lang/invoke/MethodHandle" ∧ yX3_fewest.cls ≠ "java/lang/invoke/VarHandle" ∧ (parseMethodDescriptor yX3_fewest.desc).map (fun d => d.parameters.length) = some 2 := by decide +kernel
theorem kmX3_48 : Cond.methodLink RX3 48 yX5_has ∈ allW := tm2 (List.mem_of_getElem? (i := 199) (by decide +kernel)) (by decide +kernel)
theorem kmX3_54 : Cond.methodLink RX3 54 yX3_search ∈ allW := tm2 (List.mem_of_getElem? (i := 200) (by decide +kernel)) (by decide +kernel)
theorem kiX3_search : Cond.instanceMethod yX3_search ∈ allW := tm2 (List.mem_of_getElem? (i := 202) (by decide +kernel)) (by decide +kernel)
theorem kcX3_search : Cond.code yX3_search cX3_search 8 (some .int) ∈ allW := tm2 (List.mem_of_getElem? (i := 203) rfl) rfl
theorem kdX3_search : yX3_search.cls ≠ "java/lang/invoke/MethodHandle" ∧ yX3_search.cls ≠ "java/lang/invoke/VarHandle" ∧ (parseMethodDescriptor yX3_search.desc).map (fun d => d.parameters.length) = some 2 := by decide +kernel
theorem kmX3_64 : Cond.methodLink RX3 64 yX7_stand ∈ allW := tm2 (List.mem_of_getElem? (i := 205) (by decide +kernel)) (by decide +kernel)
theorem kmX3_68 : Cond.methodLink RX3 68 yX7_turn ∈ allW := tm2 (List.mem_of_getElem? (i := 206) (by decide +kernel)) (by decide +kernel)
theorem ktX8_tenTimes : Cond.static yX8_tenTimes ∈ allW := tm2 (List.mem_of_getElem? (i := 208) (by decide +kernel)) (by decide +kernel)
theorem kcX8_tenTimes : Cond.code yX8_tenTimes cX8_tenTimes 2 (some .int) ∈ allW := tm2 (List.mem_of_getElem? (i := 209) rfl) rfl
theorem kdX8_tenTimes : yX8_tenTimes.cls ≠ "java/lang/invoke/MethodHandle" ∧ yX8_tenTimes.cls ≠ "java/lang/invoke/VarHandle" ∧ (parseMethodDescriptor yX8_tenTimes.desc).map (fun d => d.parameters.length) = some 2 := by decide +kernel
theorem kmL_36 : Cond.methodLink RL 36 yX8_flips ∈ allW := tm2 (List.mem_of_getElem? (i := 210) (by decide +kernel)) (by decide +kernel)
theorem kiX8_flips : Cond.instanceMethod yX8_flips ∈ allW := tm2 (List.mem_of_getElem? (i := 211) (by decide +kernel)) (by decide +kernel)
theorem ksX8_flips : Cond.selects RX8 yX8_flips yX8_flips ∈ allW := tm2 (List.mem_of_getElem? (i := 212) (by decide +kernel)) (by decide +kernel)
theorem kcX8_flips : Cond.code yX8_flips cX8_flips 1 (some .int) ∈ allW := tm2 (List.mem_of_getElem? (i := 213) rfl) rfl
theorem kdX8_flips : yX8_flips.cls ≠ "java/lang/invoke/MethodHandle" ∧ yX8_flips.cls ≠ "java/lang/invoke/VarHandle" ∧ (parseMethodDescriptor yX8_flips.desc).map (fun d => d.parameters.length) = some 0 := by decide +kernel
theorem kmX8_153 : Cond.methodLink RX8 153 yX2_remember ∈ allW := tm2 (List.mem_of_getElem? (i := 214) (by decide +kernel)) (by decide +kernel)
theorem kiX2_remember : Cond.instanceMethod yX2_remember ∈ allW := tm2 (List.mem_of_getElem? (i := 215) (by decide +kernel)) (by decide +kernel)
theorem ksX2_remember : Cond.selects RX2 yX2_remember yX2_remember ∈ allW := tm2 (List.mem_of_getElem? (i := 216) (by decide +kernel)) (by decide +kernel)
theorem kcX2_remember : Cond.code yX2_remember cX2_remember 2 none ∈ allW := tm2 (List.mem_of_getElem? (i := 217) rfl) rfl
theorem kdX2_remember : yX2_remember.cls ≠ "java/lang/invoke/MethodHandle" ∧ yX2_remember.cls ≠ "java/lang/invoke/VarHandle" ∧ (parseMethodDescriptor yX2_remember.desc).map (fun d => d.parameters.length) = some 1 := by decide +kernel
theorem kmX2_22 : Cond.methodLink RX2 22 yX4_copy ∈ allW := tm2 (List.mem_of_getElem? (i := 218) (by decide +kernel)) (by decide +kernel)
theorem kiX4_copy : Cond.instanceMethod yX4_copy ∈ allW := tm2 (List.mem_of_getElem? (i := 219) (by decide +kernel)) (by decide +kernel)
theorem ksX4_copy : Cond.selects RX4 yX4_copy yX4_copy ∈ allW := tm2 (List.mem_of_getElem? (i := 220) (by decide +kernel)) (by decide +kernel)
theorem kcX4_copy : Cond.code yX4_copy cX4_copy 2 none ∈ allW := tm2 (List.mem_of_getElem? (i := 221) rfl) rfl
theorem kdX4_copy : yX4_copy.cls ≠ "java/lang/invoke/MethodHandle" ∧ yX4_copy.cls ≠ "java/lang/invoke/VarHandle" ∧ (parseMethodDescriptor yX4_copy.desc).map (fun d => d.parameters.length) = some 1 := by decide +kernel
theorem kmX2_29 : Cond.methodLink RX2 29 Lib.Math.min.name ∈ allW := tm2 (List.mem_of_getElem? (i := 222) (by decide +kernel)) (by decide +kernel)
theorem kmX8_160 : Cond.methodLink RX8 160 yX7_stand ∈ allW := tm2 (List.mem_of_getElem? (i := 223) (by decide +kernel)) (by decide +kernel)
theorem kmX8_164 : Cond.methodLink RX8 164 yX7_turn ∈ allW := tm2 (List.mem_of_getElem? (i := 224) (by decide +kernel)) (by decide +kernel)
theorem kmL_40 : Cond.methodLink RL 40 yX8_pushes ∈ allW := tm2 (List.mem_of_getElem? (i := 225) (by decide +kernel)) (by decide +kernel)
theorem kiX8_pushes : Cond.instanceMethod yX8_pushes ∈ allW := tm2 (List.mem_of_getElem? (i := 226) (by decide +kernel)) (by decide +kernel)
theorem ksX8_pushes : Cond.selects RX8 yX8_pushes yX8_pushes ∈ allW := tm2 (List.mem_of_getElem? (i := 227) (by decide +kernel)) (by decide +kernel)
theorem kcX8_pushes : Cond.code yX8_pushes cX8_pushes 2 (some .int) ∈ allW := tm2 (List.mem_of_getElem? (i := 228) rfl) rfl
theorem kdX8_pushes : yX8_pushes.cls ≠ "java/lang/invoke/MethodHandle" ∧ yX8_pushes.cls ≠ "java/lang/invoke/VarHandle" ∧ (parseMethodDescriptor yX8_pushes.desc).map (fun d => d.parameters.length) = some 1 := by decide +kernel
theorem kmX8_169 : Cond.methodLink RX8 169 yX8_asVigour ∈ allW := tm2 (List.mem_of_getElem? (i := 229) (by decide +kernel)) (by decide +kernel)
theorem kmL_44 : Cond.methodLink RL 44 yX8_lifts ∈ allW := tm2 (List.mem_of_getElem? (i := 230) (by decide +kernel)) (by decide +kernel)
theorem kiX8_lifts : Cond.instanceMethod yX8_lifts ∈ allW := tm2 (List.mem_of_getElem? (i := 231) (by decide +kernel)) (by decide +kernel)
theorem ksX8_lifts : Cond.selects RX8 yX8_lifts yX8_lifts ∈ allW := tm2 (List.mem_of_getElem? (i := 232) (by decide +kernel)) (by decide +kernel)
theorem kcX8_lifts : Cond.code yX8_lifts cX8_lifts 3 (some .int) ∈ allW := tm2 (List.mem_of_getElem? (i := 233) rfl) rfl
theorem kdX8_lifts : yX8_lifts.cls ≠ "java/lang/invoke/MethodHandle" ∧ yX8_lifts.cls ≠ "java/lang/invoke/VarHandle" ∧ (parseMethodDescriptor yX8_lifts.desc).map (fun d => d.parameters.length) = some 1 := by decide +kernel
theorem kmL_48 : Cond.methodLink RL 48 yX8_lays ∈ allW := tm2 (List.mem_of_getElem? (i := 234) (by decide +kernel)) (by decide +kernel)
theorem kiX8_lays : Cond.instanceMethod yX8_lays ∈ allW := tm2 (List.mem_of_getElem? (i := 235) (by decide +kernel)) (by decide +kernel)
theorem ksX8_lays : Cond.selects RX8 yX8_lays yX8_lays ∈ allW := tm2 (List.mem_of_getElem? (i := 236) (by decide +kernel)) (by decide +kernel)
theorem kcX8_lays : Cond.code yX8_lays cX8_lays 4 (some .int) ∈ allW := tm2 (List.mem_of_getElem? (i := 237) rfl) rfl
theorem kdX8_lays : yX8_lays.cls ≠ "java/lang/invoke/MethodHandle" ∧ yX8_lays.cls ≠ "java/lang/invoke/VarHandle" ∧ (parseMethodDescriptor yX8_lays.desc).map (fun d => d.parameters.length) = some 2 := by decide +kernel
theorem kmL_52 : Cond.methodLink RL 52 yX8_undo ∈ allW := tm2 (List.mem_of_getElem? (i := 238) (by decide +kernel)) (by decide +kernel)
theorem kiX8_undo : Cond.instanceMethod yX8_undo ∈ allW := tm2 (List.mem_of_getElem? (i := 239) (by decide +kernel)) (by decide +kernel)
theorem ksX8_undo : Cond.selects RX8 yX8_undo yX8_undo ∈ allW := tm3 (List.mem_of_getElem? (i := 0) (by decide +kernel)) (by decide +kernel)
theorem kcX8_undo : Cond.code yX8_undo cX8_undo 1 (some .int) ∈ allW := tm3 (List.mem_of_getElem? (i := 1) rfl) rfl
theorem kdX8_undo : yX8_undo.cls ≠ "java/lang/invoke/MethodHandle" ∧ yX8_undo.cls ≠ "java/lang/invoke/VarHandle" ∧ (parseMethodDescriptor yX8_undo.desc).map (fun d => d.parameters.length) = some 0 := by decide +kernel
theorem kmX8_172 : Cond.methodLink RX8 172 yX2_restore ∈ allW := tm3 (List.mem_of_getElem? (i := 2) (by decide +kernel)) (by decide +kernel)
theorem kiX2_restore : Cond.instanceMethod yX2_restore ∈ allW := tm3 (List.mem_of_getElem? (i := 3) (by decide +kernel)) (by decide +kernel)
theorem ksX2_restore : Cond.selects RX2 yX2_restore yX2_restore ∈ allW := tm3 (List.mem_of_getElem? (i := 4) (by decide +kernel)) (by decide +kernel)
theorem kcX2_restore : Cond.code yX2_restore cX2_restore 2 (some .boolean) ∈ allW := tm3 (List.mem_of_getElem? (i := 5) rfl) rfl
theorem kdX2_restore : yX2_restore.cls ≠ "java/lang/invoke/MethodHandle" ∧ yX2_restore.cls ≠ "java/lang/invoke/VarHandle" ∧ (parseMethodDescriptor yX2_restore.desc).map (fun d => d.parameters.length) = some 1 := by decide +kernel
theorem kmL_56 : Cond.methodLink RL 56 yX8_push ∈ allW := tm3 (List.mem_of_getElem? (i := 6) (by decide +kernel)) (by decide +kernel)
theorem kiX8_push : Cond.instanceMethod yX8_push ∈ allW := tm3 (List.mem_of_getElem? (i := 7) (by decide +kernel)) (by decide +kernel)
theorem ksX8_push : Cond.selects RX8 yX8_push yX8_push ∈ allW := tm3 (List.mem_of_getElem? (i := 8) (by decide +kernel)) (by decide +kernel)
theorem kcX8_push : Cond.code yX8_push cX8_push 3 (some .int) ∈ allW := tm3 (List.mem_of_getElem? (i := 9) rfl) rfl
theorem kdX8_push : yX8_push.cls ≠ "java/lang/invoke/MethodHandle" ∧ yX8_push.cls ≠ "java/lang/invoke/VarHandle" ∧ (parseMethodDescriptor yX8_push.desc).map (fun d => d.parameters.length) = some 1 := by decide +kernel
theorem kmX8_176 : Cond.methodLink RX8 176 yX5_hasPlace ∈ allW := tm3 (List.mem_of_getElem? (i := 10) (by decide +kernel)) (by decide +kernel)
theorem kiX5_hasPlace : Cond.instanceMethod yX5_hasPlace ∈ allW := tm3 (List.mem_of_getElem? (i := 11) (by decide +kernel)) (by decide +kernel)
theorem ksX5_hasPlace : Cond.selects RX5 yX5_hasPlace yX5_hasPlace ∈ allW := tm3 (List.mem_of_getElem? (i := 12) (by decide +kernel)) (by decide +kernel)
theorem kcX5_hasPlace : Cond.code yX5_hasPlace cX5_hasPlace 2 (some .boolean) ∈ allW := tm3 (List.mem_of_getElem? (i := 13) rfl) rfl
theorem kdX5_hasPlace : yX5_hasPlace.cls ≠ "java/lang/invoke/MethodHandle" ∧ yX5_hasPlace.cls ≠ "java/lang/invoke/VarHandle" ∧ (parseMethodDescriptor yX5_hasPlace.desc).map (fun d => d.parameters.length) = some 1 := by decide +kernel
theorem kmL_60 : Cond.methodLink RL 60 yX8_mat ∈ allW := tm3 (List.mem_of_getElem? (i := 14) (by decide +kernel)) (by decide +kernel)
theorem kiX8_mat : Cond.instanceMethod yX8_mat ∈ allW := tm3 (List.mem_of_getElem? (i := 15) (by decide +kernel)) (by decide +kernel)
theorem ksX8_mat : Cond.selects RX8 yX8_mat yX8_mat ∈ allW := tm3 (List.mem_of_getElem? (i := 16) (by decide +kernel)) (by decide +kernel)
theorem kcX8_mat : Cond.code yX8_mat cX8_mat 4 (some .int) ∈ allW := tm3 (List.mem_of_getElem? (i := 17) rfl) rfl
theorem kdX8_mat : yX8_mat.cls ≠ "java/lang/invoke/MethodHandle" ∧ yX8_mat.cls ≠ "java/lang/invoke/VarHandle" ∧ (parseMethodDescriptor yX8_mat.desc).map (fun d => d.parameters.length) = some 2 := by decide +kernel
theorem kmX8_182 : Cond.methodLink RX8 182 yX8_runWithMat ∈ allW := tm3 (List.mem_of_getElem? (i := 18) (by decide +kernel)) (by decide +kernel)
theorem kiX8_runWithMat : Cond.instanceMethod yX8_runWithMat ∈ allW := tm3 (List.mem_of_getElem? (i := 20) (by decide +kernel)) (by decide +kernel)
theorem kcX8_runWithMat : Cond.code yX8_runWithMat cX8_runWithMat 3 (some .int) ∈ allW := tm3 (List.mem_of_getElem? (i := 21) rfl) rfl
theorem kdX8_runWithMat : yX8_runWithMat.cls ≠ "java/lang/invoke/MethodHandle" ∧ yX8_runWithMat.cls ≠ "java/lang/invoke/VarHandle" ∧ (parseMethodDescriptor yX8_runWithMat.desc).map (fun d => d.parameters.length) = some 2 := by decide +kernel
theorem kmL_64 : Cond.methodLink RL 64 yX8_odds ∈ allW := tm3 (List.mem_of_getElem? (i := 22) (by decide +kernel)) (by decide +kernel)
theorem kiX8_odds : Cond.instanceMethod yX8_odds ∈ allW := tm3 (List.mem_of_getElem? (i := 23) (by decide +kernel)) (by decide +kernel)
theorem ksX8_odds : Cond.selects RX8 yX8_odds yX8_odds ∈ allW := tm3 (List.mem_of_getElem? (i := 24) (by decide +kernel)) (by decide +kernel)
theorem kcX8_odds : Cond.code yX8_odds cX8_odds 3 (some .int) ∈ allW := tm3 (List.mem_of_getElem? (i := 25) rfl) rfl
theorem kdX8_odds : yX8_odds.cls ≠ "java/lang/invoke/MethodHandle" ∧ yX8_odds.cls ≠ "java/lang/invoke/VarHandle" ∧ (parseMethodDescriptor yX8_odds.desc).map (fun d => d.parameters.length) = some 2 := by decide +kernel
theorem kmX8_186 : Cond.methodLink RX8 186 yX0_weigh ∈ allW := tm3 (List.mem_of_getElem? (i := 26) (by decide +kernel)) (by decide +kernel)
theorem kiX0_weigh : Cond.instanceMethod yX0_weigh ∈ allW := tm3 (List.mem_of_getElem? (i := 27) (by decide +kernel)) (by decide +kernel)
theorem ksX0_weigh : Cond.selects RX0 yX0_weigh yX0_weigh ∈ allW := tm3 (List.mem_of_getElem? (i := 28) (by decide +kernel)) (by decide +kernel)
theorem kcX0_weigh : Cond.code yX0_weigh cX0_weigh 6 none ∈ allW := tm3 (List.mem_of_getElem? (i := 29) rfl) rfl
theorem kdX0_weigh : yX0_weigh.cls ≠ "java/lang/invoke/MethodHandle" ∧ yX0_weigh.cls ≠ "java/lang/invoke/VarHandle" ∧ (parseMethodDescriptor yX0_weigh.desc).map (fun d => d.parameters.length) = some 2 := by decide +kernel
theorem kmX0_19 : Cond.methodLink RX0 19 yX7_prepare ∈ allW := tm3 (List.mem_of_getElem? (i := 30) (by decide +kernel)) (by decide +kernel)
theorem kmX0_25 : Cond.methodLink RX0 25 yX0_listMats ∈ allW := tm3 (List.mem_of_getElem? (i := 31) (by decide +kernel)) (by decide +kernel)
theorem kiX0_listMats : Cond.instanceMethod yX0_listMats ∈ allW := tm3 (List.mem_of_getElem? (i := 33) (by decide +kernel)) (by decide +kernel)
theorem kcX0_listMats : Cond.code yX0_listMats cX0_listMats 3 none ∈ allW := tm3 (List.mem_of_getElem? (i := 34) rfl) rfl
theorem kdX0_listMats : yX0_listMats.cls ≠ "java/lang/invoke/MethodHandle" ∧ yX0_listMats.cls ≠ "java/lang/invoke/VarHandle" ∧ (parseMethodDescriptor yX0_listMats.desc).map (fun d => d.parameters.length) = some 1 := by decide +kernel
theorem kkX0_39 : Cond.constantLong RX0 39 (10) ∈ allW := tm3 (List.mem_of_getElem? (i := 35) (by decide +kernel)) (by decide +kernel)
theorem kmX0_41 : Cond.methodLink RX0 41 yX0_weightOf ∈ allW := tm3 (List.mem_of_getElem? (i := 36) (by decide +kernel)) (by decide +kernel)
theorem kiX0_weightOf : Cond.instanceMethod yX0_weightOf ∈ allW := tm3 (List.mem_of_getElem? (i := 38) (by decide +kernel)) (by decide +kernel)
theorem kcX0_weightOf : Cond.code yX0_weightOf cX0_weightOf 6 (some .long) ∈ allW := tm3 (List.mem_of_getElem? (i := 39) rfl) rfl
theorem kdX0_weightOf : yX0_weightOf.cls ≠ "java/lang/invoke/MethodHandle" ∧ yX0_weightOf.cls ≠ "java/lang/invoke/VarHandle" ∧ (parseMethodDescriptor yX0_weightOf.desc).map (fun d => d.parameters.length) = some 2 := by decide +kernel
theorem kmX0_45 : Cond.methodLink RX0 45 yX0_reachesFloor ∈ allW := tm3 (List.mem_of_getElem? (i := 40) (by decide +kernel)) (by decide +kernel)
theorem kiX0_reachesFloor : Cond.instanceMethod yX0_reachesFloor ∈ allW := tm3 (List.mem_of_getElem? (i := 42) (by decide +kernel)) (by decide +kernel)
theorem kcX0_reachesFloor : Cond.code yX0_reachesFloor cX0_reachesFloor 5 (some .boolean) ∈ allW := tm3 (List.mem_of_getElem? (i := 43) rfl) rfl
theorem kdX0_reachesFloor : yX0_reachesFloor.cls ≠ "java/lang/invoke/MethodHandle" ∧ yX0_reachesFloor.cls ≠ "java/lang/invoke/VarHandle" ∧ (parseMethodDescriptor yX0_reachesFloor.desc).map (fun d => d.parameters.length) = some 2 := by decide +kernel
theorem kmX0_72 : Cond.methodLink RX0 72 yX7_run ∈ allW := tm3 (List.mem_of_getElem? (i := 44) (by decide +kernel)) (by decide +kernel)
theorem kmX0_76 : Cond.methodLink RX0 76 yX5_has ∈ allW := tm3 (List.mem_of_getElem? (i := 45) (by decide +kernel)) (by decide +kernel)
theorem kmX0_49 : Cond.methodLink RX0 49 yX0_reduce ∈ allW := tm3 (List.mem_of_getElem? (i := 46) (by decide +kernel)) (by decide +kernel)
theorem kiX0_reduce : Cond.instanceMethod yX0_reduce ∈ allW := tm3 (List.mem_of_getElem? (i := 48) (by decide +kernel)) (by decide +kernel)
theorem kcX0_reduce : Cond.code yX0_reduce cX0_reduce 8 none ∈ allW := tm3 (List.mem_of_getElem? (i := 49) rfl) rfl
theorem kdX0_reduce : yX0_reduce.cls ≠ "java/lang/invoke/MethodHandle" ∧ yX0_reduce.cls ≠ "java/lang/invoke/VarHandle" ∧ (parseMethodDescriptor yX0_reduce.desc).map (fun d => d.parameters.length) = some 0 := by decide +kernel
theorem kmL_68 : Cond.methodLink RL 68 yX8_sees ∈ allW := tm3 (List.mem_of_getElem? (i := 50) (by decide +kernel)) (by decide +kernel)
theorem kiX8_sees : Cond.instanceMethod yX8_sees ∈ allW := tm3 (List.mem_of_getElem? (i := 51) (by decide +kernel)) (by decide +kernel)
theorem ksX8_sees : Cond.selects RX8 yX8_sees yX8_sees ∈ allW := tm3 (List.mem_of_getElem? (i := 52) (by decide +kernel)) (by decide +kernel)
theorem kcX8_sees : Cond.code yX8_sees cX8_sees 4 (some .int) ∈ allW := tm3 (List.mem_of_getElem? (i := 53) rfl) rfl
theorem kdX8_sees : yX8_sees.cls ≠ "java/lang/invoke/MethodHandle" ∧ yX8_sees.cls ≠ "java/lang/invoke/VarHandle" ∧ (parseMethodDescriptor yX8_sees.desc).map (fun d => d.parameters.length) = some 3 := by decide +kernel
theorem kmX8_196 : Cond.methodLink RX8 196 yX1_add ∈ allW := tm3 (List.mem_of_getElem? (i := 54) (by decide +kernel)) (by decide +kernel)
theorem kiX1_add : Cond.instanceMethod yX1_add ∈ allW := tm3 (List.mem_of_getElem? (i := 55) (by decide +kernel)) (by decide +kernel)
theorem ksX1_add : Cond.selects RX1 yX1_add yX1_add ∈ allW := tm3 (List.mem_of_getElem? (i := 56) (by decide +kernel)) (by decide +kernel)
theorem kcX1_add : Cond.code yX1_add cX1_add 4 (some .boolean) ∈ allW := tm3 (List.mem_of_getElem? (i := 57) rfl) rfl
theorem kdX1_add : yX1_add.cls ≠ "java/lang/invoke/MethodHandle" ∧ yX1_add.cls ≠ "java/lang/invoke/VarHandle" ∧ (parseMethodDescriptor yX1_add.desc).map (fun d => d.parameters.length) = some 3 := by decide +kernel
theorem kmL_73 : Cond.methodLink RL 73 yX8_forget ∈ allW := tm3 (List.mem_of_getElem? (i := 58) (by decide +kernel)) (by decide +kernel)
theorem kiX8_forget : Cond.instanceMethod yX8_forget ∈ allW := tm3 (List.mem_of_getElem? (i := 59) (by decide +kernel)) (by decide +kernel)
theorem ksX8_forget : Cond.selects RX8 yX8_forget yX8_forget ∈ allW := tm3 (List.mem_of_getElem? (i := 60) (by decide +kernel)) (by decide +kernel)
theorem kcX8_forget : Cond.code yX8_forget cX8_forget 2 (some .int) ∈ allW := tm3 (List.mem_of_getElem? (i := 61) rfl) rfl
theorem kdX8_forget : yX8_forget.cls ≠ "java/lang/invoke/MethodHandle" ∧ yX8_forget.cls ≠ "java/lang/invoke/VarHandle" ∧ (parseMethodDescriptor yX8_forget.desc).map (fun d => d.parameters.length) = some 0 := by decide +kernel
theorem kmL_77 : Cond.methodLink RL 77 yX8_ways ∈ allW := tm3 (List.mem_of_getElem? (i := 62) (by decide +kernel)) (by decide +kernel)
theorem kiX8_ways : Cond.instanceMethod yX8_ways ∈ allW := tm3 (List.mem_of_getElem? (i := 63) (by decide +kernel)) (by decide +kernel)
theorem ksX8_ways : Cond.selects RX8 yX8_ways yX8_ways ∈ allW := tm3 (List.mem_of_getElem? (i := 64) (by decide +kernel)) (by decide +kernel)
theorem kcX8_ways : Cond.code yX8_ways cX8_ways 2 (some .int) ∈ allW := tm3 (List.mem_of_getElem? (i := 65) rfl) rfl
theorem kdX8_ways : yX8_ways.cls ≠ "java/lang/invoke/MethodHandle" ∧ yX8_ways.cls ≠ "java/lang/invoke/VarHandle" ∧ (parseMethodDescriptor yX8_ways.desc).map (fun d => d.parameters.length) = some 1 := by decide +kernel
theorem kmX8_199 : Cond.methodLink RX8 199 yX1_findPossible ∈ allW := tm3 (List.mem_of_getElem? (i := 66) (by decide +kernel)) (by decide +kernel)
theorem kiX1_findPossible : Cond.instanceMethod yX1_findPossible ∈ allW := tm3 (List.mem_of_getElem? (i := 67) (by decide +kernel)) (by decide +kernel)
theorem ksX1_findPossible : Cond.selects RX1 yX1_findPossible yX1_findPossible ∈ allW := tm3 (List.mem_of_getElem? (i := 68) (by decide +kernel)) (by decide +kernel)
theorem kcX1_findPossible : Cond.code yX1_findPossible cX1_findPossible 4 none ∈ allW := tm3 (List.mem_of_getElem? (i := 69) rfl) rfl
theorem kdX1_findPossible : yX1_findPossible.cls ≠ "java/lang/invoke/MethodHandle" ∧ yX1_findPossible.cls ≠ "java/lang/invoke/VarHandle" ∧ (parseMethodDescriptor yX1_findPossible.desc).map (fun d => d.parameters.length) = some 1 := by decide +kernel
theorem kmX1_38 : Cond.methodLink RX1 38 yX7_prepare ∈ allW := tm3 (List.mem_of_getElem? (i := 70) (by decide +kernel)) (by decide +kernel)
theorem kmX1_47 : Cond.methodLink RX1 47 yX1_explains ∈ allW := tm3 (List.mem_of_getElem? (i := 71) (by decide +kernel)) (by decide +kernel)
theorem kiX1_explains : Cond.instanceMethod yX1_explains ∈ allW := tm3 (List.mem_of_getElem? (i := 73) (by decide +kernel)) (by decide +kernel)
theorem kcX1_explains : Cond.code yX1_explains cX1_explains 4 (some .boolean) ∈ allW := tm3 (List.mem_of_getElem? (i := 74) rfl) rfl
theorem kdX1_explains : yX1_explains.cls ≠ "java/lang/invoke/MethodHandle" ∧ yX1_explains.cls ≠ "java/lang/invoke/VarHandle" ∧ (parseMethodDescriptor yX1_explains.desc).map (fun d => d.parameters.length) = some 2 := by decide +kernel
theorem kmX1_57 : Cond.methodLink RX1 57 yX7_run ∈ allW := tm3 (List.mem_of_getElem? (i := 75) (by decide +kernel)) (by decide +kernel)
theorem kmX8_211 : Cond.methodLink RX8 211 yX8_tenTimes ∈ allW := tm3 (List.mem_of_getElem? (i := 76) (by decide +kernel)) (by decide +kernel)
theorem kmL_81 : Cond.methodLink RL 81 yX8_next ∈ allW := tm3 (List.mem_of_getElem? (i := 77) (by decide +kernel)) (by decide +kernel)
theorem kiX8_next : Cond.instanceMethod yX8_next ∈ allW := tm3 (List.mem_of_getElem? (i := 78) (by decide +kernel)) (by decide +kernel)
theorem ksX8_next : Cond.selects RX8 yX8_next yX8_next ∈ allW := tm3 (List.mem_of_getElem? (i := 79) (by decide +kernel)) (by decide +kernel)
theorem kcX8_next : Cond.code yX8_next cX8_next 2 (some .int) ∈ allW := tm3 (List.mem_of_getElem? (i := 80) rfl) rfl
theorem kdX8_next : yX8_next.cls ≠ "java/lang/invoke/MethodHandle" ∧ yX8_next.cls ≠ "java/lang/invoke/VarHandle" ∧ (parseMethodDescriptor yX8_next.desc).map (fun d => d.parameters.length) = some 1 := by decide +kernel
theorem kmX8_214 : Cond.methodLink RX8 214 yX1_bestTry ∈ allW := tm3 (List.mem_of_getElem? (i := 81) (by decide +kernel)) (by decide +kernel)
theorem kiX1_bestTry : Cond.instanceMethod yX1_bestTry ∈ allW := tm3 (List.mem_of_getElem? (i := 82) (by decide +kernel)) (by decide +kernel)
theorem ksX1_bestTry : Cond.selects RX1 yX1_bestTry yX1_bestTry ∈ allW := tm3 (List.mem_of_getElem? (i := 83) (by decide +kernel)) (by decide +kernel)
theorem kcX1_bestTry : Cond.code yX1_bestTry cX1_bestTry 6 (some .int) ∈ allW := tm3 (List.mem_of_getElem? (i := 84) rfl) rfl
theorem kdX1_bestTry : yX1_bestTry.cls ≠ "java/lang/invoke/MethodHandle" ∧ yX1_bestTry.cls ≠ "java/lang/invoke/VarHandle" ∧ (parseMethodDescriptor yX1_bestTry.desc).map (fun d => d.parameters.length) = some 1 := by decide +kernel
theorem kmX1_61 : Cond.methodLink RX1 61 yX1_mostAtOnePlace ∈ allW := tm3 (List.mem_of_getElem? (i := 85) (by decide +kernel)) (by decide +kernel)
theorem kiX1_mostAtOnePlace : Cond.instanceMethod yX1_mostAtOnePlace ∈ allW := tm3 (List.mem_of_getElem? (i := 87) (by decide +kernel)) (by decide +kernel)
theorem kcX1_mostAtOnePlace : Cond.code yX1_mostAtOnePlace cX1_mostAtOnePlace 6 (some .int) ∈ allW := tm3 (List.mem_of_getElem? (i := 88) rfl) rfl
theorem kdX1_mostAtOnePlace : yX1_mostAtOnePlace.cls ≠ "java/lang/invoke/MethodHandle" ∧ yX1_mostAtOnePlace.cls ≠ "java/lang/invoke/VarHandle" ∧ (parseMethodDescriptor yX1_mostAtOnePlace.desc).map (fun d => d.parameters.length) = some 2 := by decide +kernel
theorem kmX1_64 : Cond.methodLink RX1 64 yJ7_fill_53178 ∈ allW := tm3 (List.mem_of_getElem? (i := 89) (by decide +kernel)) (by decide +kernel)
theorem kmX1_70 : Cond.methodLink RX1 70 Lib.Math.max.name ∈ allW := tm3 (List.mem_of_getElem? (i := 90) (by decide +kernel)) (by decide +kernel)
theorem ktMath_max : Cond.static Lib.Math.max.name ∈ allW := tm3 (List.mem_of_getElem? (i := 91) (by decide +kernel)) (by decide +kernel)
theorem kcMath_max : Cond.code Lib.Math.max.name Lib.Math.max.code 2 (some .int) ∈ allW := tm3 (List.mem_of_getElem? (i := 92) rfl) rfl
theorem kmL_85 : Cond.methodLink RL 85 yX8_rate ∈ allW := tm3 (List.mem_of_getElem? (i := 93) (by decide +kernel)) (by decide +kernel)
theorem kiX8_rate : Cond.instanceMethod yX8_rate ∈ allW := tm3 (List.mem_of_getElem? (i := 94) (by decide +kernel)) (by decide +kernel)
theorem ksX8_rate : Cond.selects RX8 yX8_rate yX8_rate ∈ allW := tm3 (List.mem_of_getElem? (i := 95) (by decide +kernel)) (by decide +kernel)
theorem kcX8_rate : Cond.code yX8_rate cX8_rate 3 (some .int) ∈ allW := tm3 (List.mem_of_getElem? (i := 96) rfl) rfl
theorem kdX8_rate : yX8_rate.cls ≠ "java/lang/invoke/MethodHandle" ∧ yX8_rate.cls ≠ "java/lang/invoke/VarHandle" ∧ (parseMethodDescriptor yX8_rate.desc).map (fun d => d.parameters.length) = some 2 := by decide +kernel
theorem kkX8_217 : Cond.constant RX8 217 (-1000000) ∈ allW := tm3 (List.mem_of_getElem? (i := 97) (by decide +kernel)) (by decide +kernel)
theorem kmX8_218 : Cond.methodLink RX8 218 yX8_asCoil ∈ allW := tm3 (List.mem_of_getElem? (i := 98) (by decide +kernel)) (by decide +kernel)
theorem kiX8_asCoil : Cond.instanceMethod yX8_asCoil ∈ allW := tm3 (List.mem_of_getElem? (i := 100) (by decide +kernel)) (by decide +kernel)
theorem kcX8_asCoil : Cond.code yX8_asCoil cX8_asCoil 2 (some .int) ∈ allW := tm3 (List.mem_of_getElem? (i := 101) rfl) rfl
theorem kdX8_asCoil : yX8_asCoil.cls ≠ "java/lang/invoke/MethodHandle" ∧ yX8_asCoil.cls ≠ "java/lang/invoke/VarHandle" ∧ (parseMethodDescriptor yX8_asCoil.desc).map (fun d => d.parameters.length) = some 1 := by decide +kernel
theorem kmX8_221 : Cond.methodLink RX8 221 yX8_asBrass ∈ allW := tm3 (List.mem_of_getElem? (i := 102) (by decide +kernel)) (by decide +kernel)
theorem kiX8_asBrass : Cond.instanceMethod yX8_asBrass ∈ allW := tm3 (List.mem_of_getElem? (i := 104) (by decide +kernel)) (by decide +kernel)
theorem kcX8_asBrass : Cond.code yX8_asBrass cX8_asBrass 2 (some .int) ∈ allW := tm3 (List.mem_of_getElem? (i := 105) rfl) rfl
theorem kdX8_asBrass : yX8_asBrass.cls ≠ "java/lang/invoke/MethodHandle" ∧ yX8_asBrass.cls ≠ "java/lang/invoke/VarHandle" ∧ (parseMethodDescriptor yX8_asBrass.desc).map (fun d => d.parameters.length) = some 1 := by decide +kernel
theorem kkX8_251 : Cond.constantLong RX8 251 (10) ∈ allW := tm3 (List.mem_of_getElem? (i := 106) (by decide +kernel)) (by decide +kernel)
theorem kmX8_224 : Cond.methodLink RX8 224 yX8_asPaper ∈ allW := tm3 (List.mem_of_getElem? (i := 107) (by decide +kernel)) (by decide +kernel)
theorem kiX8_asPaper : Cond.instanceMethod yX8_asPaper ∈ allW := tm3 (List.mem_of_getElem? (i := 109) (by decide +kernel)) (by decide +kernel)
theorem kcX8_asPaper : Cond.code yX8_asPaper cX8_asPaper 2 (some .int) ∈ allW := tm3 (List.mem_of_getElem? (i := 110) rfl) rfl
theorem kdX8_asPaper : yX8_asPaper.cls ≠ "java/lang/invoke/MethodHandle" ∧ yX8_asPaper.cls ≠ "java/lang/invoke/VarHandle" ∧ (parseMethodDescriptor yX8_asPaper.desc).map (fun d => d.parameters.length) = some 1 := by decide +kernel
theorem kkX8_253 : Cond.constantLong RX8 253 (100) ∈ allW := tm3 (List.mem_of_getElem? (i := 111) (by decide +kernel)) (by decide +kernel)
theorem kmX8_227 : Cond.methodLink RX8 227 yX8_asSilver ∈ allW := tm3 (List.mem_of_getElem? (i := 112) (by decide +kernel)) (by decide +kernel)
theorem kiX8_asSilver : Cond.instanceMethod yX8_asSilver ∈ allW := tm3 (List.mem_of_getElem? (i := 114) (by decide +kernel)) (by decide +kernel)
theorem kcX8_asSilver : Cond.code yX8_asSilver cX8_asSilver 2 (some .int) ∈ allW := tm3 (List.mem_of_getElem? (i := 115) rfl) rfl
theorem kdX8_asSilver : yX8_asSilver.cls ≠ "java/lang/invoke/MethodHandle" ∧ yX8_asSilver.cls ≠ "java/lang/invoke/VarHandle" ∧ (parseMethodDescriptor yX8_asSilver.desc).map (fun d => d.parameters.length) = some 1 := by decide +kernel
theorem kkX8_255 : Cond.constantLong RX8 255 (1000) ∈ allW := tm3 (List.mem_of_getElem? (i := 116) (by decide +kernel)) (by decide +kernel)
theorem kmX8_230 : Cond.methodLink RX8 230 yX8_asTwine ∈ allW := tm3 (List.mem_of_getElem? (i := 117) (by decide +kernel)) (by decide +kernel)
theorem kiX8_asTwine : Cond.instanceMethod yX8_asTwine ∈ allW := tm3 (List.mem_of_getElem? (i := 119) (by decide +kernel)) (by decide +kernel)
theorem kcX8_asTwine : Cond.code yX8_asTwine cX8_asTwine 2 (some .int) ∈ allW := tm3 (List.mem_of_getElem? (i := 120) rfl) rfl
theorem kdX8_asTwine : yX8_asTwine.cls ≠ "java/lang/invoke/MethodHandle" ∧ yX8_asTwine.cls ≠ "java/lang/invoke/VarHandle" ∧ (parseMethodDescriptor yX8_asTwine.desc).map (fun d => d.parameters.length) = some 1 := by decide +kernel
theorem kkX8_257 : Cond.constantLong RX8 257 (10000) ∈ allW := tm3 (List.mem_of_getElem? (i := 121) (by decide +kernel)) (by decide +kernel)
theorem kmX8_233 : Cond.methodLink RX8 233 yX8_asLead ∈ allW := tm3 (List.mem_of_getElem? (i := 122) (by decide +kernel)) (by decide +kernel)
theorem kiX8_asLead : Cond.instanceMethod yX8_asLead ∈ allW := tm3 (List.mem_of_getElem? (i := 124) (by decide +kernel)) (by decide +kernel)
theorem kcX8_asLead : Cond.code yX8_asLead cX8_asLead 2 (some .int) ∈ allW := tm3 (List.mem_of_getElem? (i := 125) rfl) rfl
theorem kdX8_asLead : yX8_asLead.cls ≠ "java/lang/invoke/MethodHandle" ∧ yX8_asLead.cls ≠ "java/lang/invoke/VarHandle" ∧ (parseMethodDescriptor yX8_asLead.desc).map (fun d => d.parameters.length) = some 1 := by decide +kernel
theorem kkX8_259 : Cond.constantLong RX8 259 (100000) ∈ allW := tm3 (List.mem_of_getElem? (i := 126) (by decide +kernel)) (by decide +kernel)
theorem kmL_89 : Cond.methodLink RL 89 yX8_keep ∈ allW := tm3 (List.mem_of_getElem? (i := 127) (by decide +kernel)) (by decide +kernel)
theorem kiX8_keep : Cond.instanceMethod yX8_keep ∈ allW := tm3 (List.mem_of_getElem? (i := 128) (by decide +kernel)) (by decide +kernel)
theorem ksX8_keep : Cond.selects RX8 yX8_keep yX8_keep ∈ allW := tm3 (List.mem_of_getElem? (i := 129) (by decide +kernel)) (by decide +kernel)
theorem kcX8_keep : Cond.code yX8_keep cX8_keep 2 (some .int) ∈ allW := tm3 (List.mem_of_getElem? (i := 130) rfl) rfl
theorem kdX8_keep : yX8_keep.cls ≠ "java/lang/invoke/MethodHandle" ∧ yX8_keep.cls ≠ "java/lang/invoke/VarHandle" ∧ (parseMethodDescriptor yX8_keep.desc).map (fun d => d.parameters.length) = some 1 := by decide +kernel
theorem kmX8_236 : Cond.methodLink RX8 236 yX4_copy ∈ allW := tm3 (List.mem_of_getElem? (i := 131) (by decide +kernel)) (by decide +kernel)
theorem kmL_93 : Cond.methodLink RL 93 yX8_back ∈ allW := tm3 (List.mem_of_getElem? (i := 132) (by decide +kernel)) (by decide +kernel)
theorem kiX8_back : Cond.instanceMethod yX8_back ∈ allW := tm3 (List.mem_of_getElem? (i := 133) (by decide +kernel)) (by decide +kernel)
theorem ksX8_back : Cond.selects RX8 yX8_back yX8_back ∈ allW := tm3 (List.mem_of_getElem? (i := 134) (by decide +kernel)) (by decide +kernel)
theorem kcX8_back : Cond.code yX8_back cX8_back 2 (some .int) ∈ allW := tm3 (List.mem_of_getElem? (i := 135) rfl) rfl
theorem kdX8_back : yX8_back.cls ≠ "java/lang/invoke/MethodHandle" ∧ yX8_back.cls ≠ "java/lang/invoke/VarHandle" ∧ (parseMethodDescriptor yX8_back.desc).map (fun d => d.parameters.length) = some 1 := by decide +kernel
theorem kmL_97 : Cond.methodLink RL 97 yX8_count ∈ allW := tm3 (List.mem_of_getElem? (i := 136) (by decide +kernel)) (by decide +kernel)
theorem kiX8_count : Cond.instanceMethod yX8_count ∈ allW := tm3 (List.mem_of_getElem? (i := 137) (by decide +kernel)) (by decide +kernel)
theorem ksX8_count : Cond.selects RX8 yX8_count yX8_count ∈ allW := tm3 (List.mem_of_getElem? (i := 138) (by decide +kernel)) (by decide +kernel)
theorem kcX8_count : Cond.code yX8_count cX8_count 2 (some .int) ∈ allW := tm3 (List.mem_of_getElem? (i := 139) rfl) rfl
theorem kdX8_count : yX8_count.cls ≠ "java/lang/invoke/MethodHandle" ∧ yX8_count.cls ≠ "java/lang/invoke/VarHandle" ∧ (parseMethodDescriptor yX8_count.desc).map (fun d => d.parameters.length) = some 1 := by decide +kernel
theorem kmL_101 : Cond.methodLink RL 101 yX8_trace ∈ allW := tm3 (List.mem_of_getElem? (i := 140) (by decide +kernel)) (by decide +kernel)
theorem kiX8_trace : Cond.instanceMethod yX8_trace ∈ allW := tm3 (List.mem_of_getElem? (i := 141) (by decide +kernel)) (by decide +kernel)
theorem ksX8_trace : Cond.selects RX8 yX8_trace yX8_trace ∈ allW := tm3 (List.mem_of_getElem? (i := 142) (by decide +kernel)) (by decide +kernel)
theorem kcX8_trace : Cond.code yX8_trace cX8_trace 1 (some .long) ∈ allW := tm3 (List.mem_of_getElem? (i := 143) rfl) rfl
theorem kdX8_trace : yX8_trace.cls ≠ "java/lang/invoke/MethodHandle" ∧ yX8_trace.cls ≠ "java/lang/invoke/VarHandle" ∧ (parseMethodDescriptor yX8_trace.desc).map (fun d => d.parameters.length) = some 0 := by decide +kernel
theorem klL_10 : Cond.classLink RL 10 RX9 ∈ allW := tm3 (List.mem_of_getElem? (i := 144) (by decide +kernel)) (by decide +kernel)
theorem kjX9 : Cond.instantiable RX9 32 ∈ allW := tm3 (List.mem_of_getElem? (i := 145) (by decide +kernel)) (by decide +kernel)
theorem kmL_12 : Cond.methodLink RL 12 yX9_init ∈ allW := tm3 (List.mem_of_getElem? (i := 146) (by decide +kernel)) (by decide +kernel)
theorem kiX9_init : Cond.instanceMethod yX9_init ∈ allW := tm3 (List.mem_of_getElem? (i := 147) (by decide +kernel)) (by decide +kernel)
theorem kcX9_init : Cond.code yX9_init cX9_init 1 none ∈ allW := tm3 (List.mem_of_getElem? (i := 148) rfl) rfl
theorem kdX9_init : yX9_init.cls ≠ "java/lang/invoke/MethodHandle" ∧ yX9_init.cls ≠ "java/lang/invoke/VarHandle" ∧ (parseMethodDescriptor yX9_init.desc).map (fun d => d.parameters.length) = some 0 := by decide +kernel
theorem kmX9_1 : Cond.methodLink RX9 1 objectInit ∈ allW := tm3 (List.mem_of_getElem? (i := 149) (by decide +kernel)) (by decide +kernel)
theorem kfX9_7 : Cond.fieldLink RX9 7 (TX9 0).1 (TX9 0).2.1 (TX9 0).2.2.1 ∈ allW := tm3 (List.mem_of_getElem? (i := 150) (by decide +kernel)) (by decide +kernel)
theorem kfX9_66 : Cond.fieldLink RX9 66 (TX9 1).1 (TX9 1).2.1 (TX9 1).2.2.1 ∈ allW := tm3 (List.mem_of_getElem? (i := 151) (by decide +kernel)) (by decide +kernel)
theorem kfX9_13 : Cond.fieldLink RX9 13 (TX9 2).1 (TX9 2).2.1 (TX9 2).2.2.1 ∈ allW := tm3 (List.mem_of_getElem? (i := 152) (by decide +kernel)) (by decide +kernel)
theorem kfX9_17 : Cond.fieldLink RX9 17 (TX9 3).1 (TX9 3).2.1 (TX9 3).2.2.1 ∈ allW := tm3 (List.mem_of_getElem? (i := 153) (by decide +kernel)) (by decide +kernel)
theorem kfX9_20 : Cond.fieldLink RX9 20 (TX9 4).1 (TX9 4).2.1 (TX9 4).2.2.1 ∈ allW := tm3 (List.mem_of_getElem? (i := 154) (by decide +kernel)) (by decide +kernel)
theorem kfX9_23 : Cond.fieldLink RX9 23 (TX9 5).1 (TX9 5).2.1 (TX9 5).2.2.1 ∈ allW := tm3 (List.mem_of_getElem? (i := 155) (by decide +kernel)) (by decide +kernel)
theorem kfX9_26 : Cond.fieldLink RX9 26 (TX9 6).1 (TX9 6).2.1 (TX9 6).2.2.1 ∈ allW := tm3 (List.mem_of_getElem? (i := 156) (by decide +kernel)) (by decide +kernel)
theorem kfX9_116 : Cond.fieldLink RX9 116 (TX9 7).1 (TX9 7).2.1 (TX9 7).2.2.1 ∈ allW := tm3 (List.mem_of_getElem? (i := 157) (by decide +kernel)) (by decide +kernel)
theorem kfX9_29 : Cond.fieldLink RX9 29 (TX9 8).1 (TX9 8).2.1 (TX9 8).2.2.1 ∈ allW := tm3 (List.mem_of_getElem? (i := 158) (by decide +kernel)) (by decide +kernel)
theorem kfX9_33 : Cond.fieldLink RX9 33 (TX9 9).1 (TX9 9).2.1 (TX9 9).2.2.1 ∈ allW := tm3 (List.mem_of_getElem? (i := 159) (by decide +kernel)) (by decide +kernel)
theorem kfX9_73 : Cond.fieldLink RX9 73 (TX9 10).1 (TX9 10).2.1 (TX9 10).2.2.1 ∈ allW := tm3 (List.mem_of_getElem? (i := 160) (by decide +kernel)) (by decide +kernel)
theorem kfX9_119 : Cond.fieldLink RX9 119 (TX9 11).1 (TX9 11).2.1 (TX9 11).2.2.1 ∈ allW := tm3 (List.mem_of_getElem? (i := 161) (by decide +kernel)) (by decide +kernel)
theorem kfX9_36 : Cond.fieldLink RX9 36 (TX9 12).1 (TX9 12).2.1 (TX9 12).2.2.1 ∈ allW := tm3 (List.mem_of_getElem? (i := 162) (by decide +kernel)) (by decide +kernel)
theorem kfX9_39 : Cond.fieldLink RX9 39 (TX9 13).1 (TX9 13).2.1 (TX9 13).2.2.1 ∈ allW := tm3 (List.mem_of_getElem? (i := 163) (by decide +kernel)) (by decide +kernel)
theorem kfX9_42 : Cond.fieldLink RX9 42 (TX9 14).1 (TX9 14).2.1 (TX9 14).2.2.1 ∈ allW := tm3 (List.mem_of_getElem? (i := 164) (by decide +kernel)) (by decide +kernel)
theorem kfX9_191 : Cond.fieldLink RX9 191 (TX9 15).1 (TX9 15).2.1 (TX9 15).2.2.1 ∈ allW := tm3 (List.mem_of_getElem? (i := 165) (by decide +kernel)) (by decide +kernel)
theorem kfX9_79 : Cond.fieldLink RX9 79 (TX9 16).1 (TX9 16).2.1 (TX9 16).2.2.1 ∈ allW := tm3 (List.mem_of_getElem? (i := 166) (by decide +kernel)) (by decide +kernel)
theorem kfX9_76 : Cond.fieldLink RX9 76 (TX9 17).1 (TX9 17).2.1 (TX9 17).2.2.1 ∈ allW := tm3 (List.mem_of_getElem? (i := 167) (by decide +kernel)) (by decide +kernel)
theorem kfX9_92 : Cond.fieldLink RX9 92 (TX9 18).1 (TX9 18).2.1 (TX9 18).2.2.1 ∈ allW := tm3 (List.mem_of_getElem? (i := 168) (by decide +kernel)) (by decide +kernel)
theorem kfX9_45 : Cond.fieldLink RX9 45 (TX9 19).1 (TX9 19).2.1 (TX9 19).2.2.1 ∈ allW := tm3 (List.mem_of_getElem? (i := 169) (by decide +kernel)) (by decide +kernel)
theorem kfX9_48 : Cond.fieldLink RX9 48 (TX9 20).1 (TX9 20).2.1 (TX9 20).2.2.1 ∈ allW := tm3 (List.mem_of_getElem? (i := 170) (by decide +kernel)) (by decide +kernel)
theorem kfX9_51 : Cond.fieldLink RX9 51 (TX9 21).1 (TX9 21).2.1 (TX9 21).2.2.1 ∈ allW := tm3 (List.mem_of_getElem? (i := 171) (by decide +kernel)) (by decide +kernel)
theorem kfX9_54 : Cond.fieldLink RX9 54 (TX9 22).1 (TX9 22).2.1 (TX9 22).2.2.1 ∈ allW := tm3 (List.mem_of_getElem? (i := 172) (by decide +kernel)) (by decide +kernel)
theorem kfX9_89 : Cond.fieldLink RX9 89 (TX9 23).1 (TX9 23).2.1 (TX9 23).2.2.1 ∈ allW := tm3 (List.mem_of_getElem? (i := 173) (by decide +kernel)) (by decide +kernel)
theorem kfX9_125 : Cond.fieldLink RX9 125 (TX9 24).1 (TX9 24).2.1 (TX9 24).2.2.1 ∈ allW := tm3 (List.mem_of_getElem? (i := 174) (by decide +kernel)) (by decide +kernel)
theorem kfX9_128 : Cond.fieldLink RX9 128 (TX9 25).1 (TX9 25).2.1 (TX9 25).2.2.1 ∈ allW := tm3 (List.mem_of_getElem? (i := 175) (by decide +kernel)) (by decide +kernel)
theorem kfX9_131 : Cond.fieldLink RX9 131 (TX9 26).1 (TX9 26).2.1 (TX9 26).2.2.1 ∈ allW := tm3 (List.mem_of_getElem? (i := 176) (by decide +kernel)) (by decide +kernel)
theorem kfX9_57 : Cond.fieldLink RX9 57 (TX9 27).1 (TX9 27).2.1 (TX9 27).2.2.1 ∈ allW := tm3 (List.mem_of_getElem? (i := 177) (by decide +kernel)) (by decide +kernel)
theorem kfX9_153 : Cond.fieldLink RX9 153 (TX9 28).1 (TX9 28).2.1 (TX9 28).2.2.1 ∈ allW := tm3 (List.mem_of_getElem? (i := 178) (by decide +kernel)) (by decide +kernel)
theorem kfX9_60 : Cond.fieldLink RX9 60 (TX9 29).1 (TX9 29).2.1 (TX9 29).2.2.1 ∈ allW := tm3 (List.mem_of_getElem? (i := 179) (by decide +kernel)) (by decide +kernel)
theorem kfX9_182 : Cond.fieldLink RX9 182 (TX9 30).1 (TX9 30).2.1 (TX9 30).2.2.1 ∈ allW := tm3 (List.mem_of_getElem? (i := 180) (by decide +kernel)) (by decide +kernel)
theorem kfX9_63 : Cond.fieldLink RX9 63 (TX9 31).1 (TX9 31).2.1 (TX9 31).2.2.1 ∈ allW := tm3 (List.mem_of_getElem? (i := 181) (by decide +kernel)) (by decide +kernel)
theorem kmL_17 : Cond.methodLink RL 17 yX9_type ∈ allW := tm4 (List.mem_of_getElem? (i := 7) (by decide +kernel)) (by decide +kernel)
theorem kiX9_type : Cond.instanceMethod yX9_type ∈ allW := tm4 (List.mem_of_getElem? (i := 8) (by decide +kernel)) (by decide +kernel)
theorem ksX9_type : Cond.selects RX9 yX9_type yX9_type ∈ allW := tm4 (List.mem_of_getElem? (i := 9) (by decide +kernel)) (by decide +kernel)
theorem kcX9_type : Cond.code yX9_type cX9_type 2 (some .int) ∈ allW := tm4 (List.mem_of_getElem? (i := 10) rfl) rfl
theorem kdX9_type : yX9_type.cls ≠ "java/lang/invoke/MethodHandle" ∧ yX9_type.cls ≠ "java/lang/invoke/VarHandle" ∧ (parseMethodDescriptor yX9_type.desc).map (fun d => d.parameters.length) = some 1 := by decide +kernel
theorem kmX9_69 : Cond.methodLink RX9 69 yX9_in ∈ allW := tm4 (List.mem_of_getElem? (i := 11) (by decide +kernel)) (by decide +kernel)
theorem ktX9_in : Cond.static yX9_in ∈ allW := tm4 (List.mem_of_getElem? (i := 12) (by decide +kernel)) (by decide +kernel)
theorem kcX9_in : Cond.code yX9_in cX9_in 3 (some .boolean) ∈ allW := tm4 (List.mem_of_getElem? (i := 13) rfl) rfl
theorem kdX9_in : yX9_in.cls ≠ "java/lang/invoke/MethodHandle" ∧ yX9_in.cls ≠ "java/lang/invoke/VarHandle" ∧ (parseMethodDescriptor yX9_in.desc).map (fun d => d.parameters.length) = some 3 := by decide +kernel
theorem kmL_22 : Cond.methodLink RL 22 yX9_clear ∈ allW := tm4 (List.mem_of_getElem? (i := 14) (by decide +kernel)) (by decide +kernel)
theorem kiX9_clear : Cond.instanceMethod yX9_clear ∈ allW := tm4 (List.mem_of_getElem? (i := 15) (by decide +kernel)) (by decide +kernel)
theorem ksX9_clear : Cond.selects RX9 yX9_clear yX9_clear ∈ allW := tm4 (List.mem_of_getElem? (i := 16) (by decide +kernel)) (by decide +kernel)
theorem kcX9_clear : Cond.code yX9_clear cX9_clear 2 (some .int) ∈ allW := tm4 (List.mem_of_getElem? (i := 17) rfl) rfl
theorem kdX9_clear : yX9_clear.cls ≠ "java/lang/invoke/MethodHandle" ∧ yX9_clear.cls ≠ "java/lang/invoke/VarHandle" ∧ (parseMethodDescriptor yX9_clear.desc).map (fun d => d.parameters.length) = some 0 := by decide +kernel
theorem kmL_26 : Cond.methodLink RL 26 yX9_stairs ∈ allW := tm4 (List.mem_of_getElem? (i := 18) (by decide +kernel)) (by decide +kernel)
theorem kiX9_stairs : Cond.instanceMethod yX9_stairs ∈ allW := tm4 (List.mem_of_getElem? (i := 19) (by decide +kernel)) (by decide +kernel)
theorem ksX9_stairs : Cond.selects RX9 yX9_stairs yX9_stairs ∈ allW := tm4 (List.mem_of_getElem? (i := 20) (by decide +kernel)) (by decide +kernel)
theorem kcX9_stairs : Cond.code yX9_stairs cX9_stairs 3 (some .int) ∈ allW := tm4 (List.mem_of_getElem? (i := 21) rfl) rfl
theorem kdX9_stairs : yX9_stairs.cls ≠ "java/lang/invoke/MethodHandle" ∧ yX9_stairs.cls ≠ "java/lang/invoke/VarHandle" ∧ (parseMethodDescriptor yX9_stairs.desc).map (fun d => d.parameters.length) = some 0 := by decide +kernel
theorem kmX9_112 : Cond.methodLink RX9 112 yX9_readItems ∈ allW := tm4 (List.mem_of_getElem? (i := 22) (by decide +kernel)) (by decide +kernel)
theorem kiX9_readItems : Cond.instanceMethod yX9_readItems ∈ allW := tm4 (List.mem_of_getElem? (i := 24) (by decide +kernel)) (by decide +kernel)
theorem kcX9_readItems : Cond.code yX9_readItems cX9_readItems 2 (some .int) ∈ allW := tm4 (List.mem_of_getElem? (i := 25) rfl) rfl
theorem kdX9_readItems : yX9_readItems.cls ≠ "java/lang/invoke/MethodHandle" ∧ yX9_readItems.cls ≠ "java/lang/invoke/VarHandle" ∧ (parseMethodDescriptor yX9_readItems.desc).map (fun d => d.parameters.length) = some 0 := by decide +kernel
theorem kmX9_86 : Cond.methodLink RX9 86 yX9_nextToken ∈ allW := tm4 (List.mem_of_getElem? (i := 26) (by decide +kernel)) (by decide +kernel)
theorem kiX9_nextToken : Cond.instanceMethod yX9_nextToken ∈ allW := tm4 (List.mem_of_getElem? (i := 28) (by decide +kernel)) (by decide +kernel)
theorem kcX9_nextToken : Cond.code yX9_nextToken cX9_nextToken 1 none ∈ allW := tm4 (List.mem_of_getElem? (i := 29) rfl) rfl
theorem kdX9_nextToken : yX9_nextToken.cls ≠ "java/lang/invoke/MethodHandle" ∧ yX9_nextToken.cls ≠ "java/lang/invoke/VarHandle" ∧ (parseMethodDescriptor yX9_nextToken.desc).map (fun d => d.parameters.length) = some 0 := by decide +kernel
theorem kmX9_82 : Cond.methodLink RX9 82 yX9_isFigure ∈ allW := tm4 (List.mem_of_getElem? (i := 30) (by decide +kernel)) (by decide +kernel)
theorem kiX9_isFigure : Cond.instanceMethod yX9_isFigure ∈ allW := tm4 (List.mem_of_getElem? (i := 32) (by decide +kernel)) (by decide +kernel)
theorem kcX9_isFigure : Cond.code yX9_isFigure cX9_isFigure 2 (some .boolean) ∈ allW := tm4 (List.mem_of_getElem? (i := 33) rfl) rfl
theorem kdX9_isFigure : yX9_isFigure.cls ≠ "java/lang/invoke/MethodHandle" ∧ yX9_isFigure.cls ≠ "java/lang/invoke/VarHandle" ∧ (parseMethodDescriptor yX9_isFigure.desc).map (fun d => d.parameters.length) = some 1 := by decide +kernel
theorem kmX9_109 : Cond.methodLink RX9 109 yX9_readsItem ∈ allW := tm4 (List.mem_of_getElem? (i := 34) (by decide +kernel)) (by decide +kernel)
theorem kiX9_readsItem : Cond.instanceMethod yX9_readsItem ∈ allW := tm4 (List.mem_of_getElem? (i := 36) (by decide +kernel)) (by decide +kernel)
theorem kcX9_readsItem : Cond.code yX9_readsItem cX9_readsItem 2 (some .boolean) ∈ allW := tm4 (List.mem_of_getElem? (i := 37) rfl) rfl
theorem kdX9_readsItem : yX9_readsItem.cls ≠ "java/lang/invoke/MethodHandle" ∧ yX9_readsItem.cls ≠ "java/lang/invoke/VarHandle" ∧ (parseMethodDescriptor yX9_readsItem.desc).map (fun d => d.parameters.length) = some 0 := by decide +kernel
theorem kmX9_99 : Cond.methodLink RX9 99 yX9_isSign ∈ allW := tm4 (List.mem_of_getElem? (i := 38) (by decide +kernel)) (by decide +kernel)
theorem kiX9_isSign : Cond.instanceMethod yX9_isSign ∈ allW := tm4 (List.mem_of_getElem? (i := 40) (by decide +kernel)) (by decide +kernel)
theorem kcX9_isSign : Cond.code yX9_isSign cX9_isSign 2 (some .boolean) ∈ allW := tm4 (List.mem_of_getElem? (i := 41) rfl) rfl
theorem kdX9_isSign : yX9_isSign.cls ≠ "java/lang/invoke/MethodHandle" ∧ yX9_isSign.cls ≠ "java/lang/invoke/VarHandle" ∧ (parseMethodDescriptor yX9_isSign.desc).map (fun d => d.parameters.length) = some 1 := by decide +kernel
theorem kmX9_102 : Cond.methodLink RX9 102 yX9_readsStep ∈ allW := tm4 (List.mem_of_getElem? (i := 42) (by decide +kernel)) (by decide +kernel)
theorem kiX9_readsStep : Cond.instanceMethod yX9_readsStep ∈ allW := tm4 (List.mem_of_getElem? (i := 44) (by decide +kernel)) (by decide +kernel)
theorem kcX9_readsStep : Cond.code yX9_readsStep cX9_readsStep 1 (some .boolean) ∈ allW := tm4 (List.mem_of_getElem? (i := 45) rfl) rfl
theorem kdX9_readsStep : yX9_readsStep.cls ≠ "java/lang/invoke/MethodHandle" ∧ yX9_readsStep.cls ≠ "java/lang/invoke/VarHandle" ∧ (parseMethodDescriptor yX9_readsStep.desc).map (fun d => d.parameters.length) = some 0 := by decide +kernel
theorem kmX9_95 : Cond.methodLink RX9 95 yX9_readsNumber ∈ allW := tm4 (List.mem_of_getElem? (i := 46) (by decide +kernel)) (by decide +kernel)
theorem kiX9_readsNumber : Cond.instanceMethod yX9_readsNumber ∈ allW := tm4 (List.mem_of_getElem? (i := 48) (by decide +kernel)) (by decide +kernel)
theorem kcX9_readsNumber : Cond.code yX9_readsNumber cX9_readsNumber 3 (some .boolean) ∈ allW := tm4 (List.mem_of_getElem? (i := 49) rfl) rfl
theorem kdX9_readsNumber : yX9_readsNumber.cls ≠ "java/lang/invoke/MethodHandle" ∧ yX9_readsNumber.cls ≠ "java/lang/invoke/VarHandle" ∧ (parseMethodDescriptor yX9_readsNumber.desc).map (fun d => d.parameters.length) = some 2 := by decide +kernel
theorem kmX9_106 : Cond.methodLink RX9 106 yX9_readsCoil ∈ allW := tm4 (List.mem_of_getElem? (i := 50) (by decide +kernel)) (by decide +kernel)
theorem kiX9_readsCoil : Cond.instanceMethod yX9_readsCoil ∈ allW := tm4 (List.mem_of_getElem? (i := 52) (by decide +kernel)) (by decide +kernel)
theorem kcX9_readsCoil : Cond.code yX9_readsCoil cX9_readsCoil 4 (some .boolean) ∈ allW := tm4 (List.mem_of_getElem? (i := 53) rfl) rfl
theorem kdX9_readsCoil : yX9_readsCoil.cls ≠ "java/lang/invoke/MethodHandle" ∧ yX9_readsCoil.cls ≠ "java/lang/invoke/VarHandle" ∧ (parseMethodDescriptor yX9_readsCoil.desc).map (fun d => d.parameters.length) = some 3 := by decide +kernel
theorem kmL_31 : Cond.methodLink RL 31 yX9_step ∈ allW := tm4 (List.mem_of_getElem? (i := 54) (by decide +kernel)) (by decide +kernel)
theorem kiX9_step : Cond.instanceMethod yX9_step ∈ allW := tm4 (List.mem_of_getElem? (i := 55) (by decide +kernel)) (by decide +kernel)
theorem ksX9_step : Cond.selects RX9 yX9_step yX9_step ∈ allW := tm4 (List.mem_of_getElem? (i := 56) (by decide +kernel)) (by decide +kernel)
theorem kcX9_step : Cond.code yX9_step cX9_step 3 (some .int) ∈ allW := tm4 (List.mem_of_getElem? (i := 57) rfl) rfl
theorem kdX9_step : yX9_step.cls ≠ "java/lang/invoke/MethodHandle" ∧ yX9_step.cls ≠ "java/lang/invoke/VarHandle" ∧ (parseMethodDescriptor yX9_step.desc).map (fun d => d.parameters.length) = some 2 := by decide +kernel
theorem kmX9_122 : Cond.methodLink RX9 122 yX9_isStep ∈ allW := tm4 (List.mem_of_getElem? (i := 58) (by decide +kernel)) (by decide +kernel)
theorem kiX9_isStep : Cond.instanceMethod yX9_isStep ∈ allW := tm4 (List.mem_of_getElem? (i := 60) (by decide +kernel)) (by decide +kernel)
theorem kcX9_isStep : Cond.code yX9_isStep cX9_isStep 2 (some .boolean) ∈ allW := tm4 (List.mem_of_getElem? (i := 61) rfl) rfl
theorem kdX9_isStep : yX9_isStep.cls ≠ "java/lang/invoke/MethodHandle" ∧ yX9_isStep.cls ≠ "java/lang/invoke/VarHandle" ∧ (parseMethodDescriptor yX9_isStep.desc).map (fun d => d.parameters.length) = some 1 := by decide +kernel
theorem kmL_35 : Cond.methodLink RL 35 yX9_now ∈ allW := tm4 (List.mem_of_getElem? (i := 62) (by decide +kernel)) (by decide +kernel)
theorem kiX9_now : Cond.instanceMethod yX9_now ∈ allW := tm4 (List.mem_of_getElem? (i := 63) (by decide +kernel)) (by decide +kernel)
theorem ksX9_now : Cond.selects RX9 yX9_now yX9_now ∈ allW := tm4 (List.mem_of_getElem? (i := 64) (by decide +kernel)) (by decide +kernel)
theorem kcX9_now : Cond.code yX9_now cX9_now 2 (some .int) ∈ allW := tm4 (List.mem_of_getElem? (i := 65) rfl) rfl
theorem kdX9_now : yX9_now.cls ≠ "java/lang/invoke/MethodHandle" ∧ yX9_now.cls ≠ "java/lang/invoke/VarHandle" ∧ (parseMethodDescriptor yX9_now.desc).map (fun d => d.parameters.length) = some 1 := by decide +kernel
theorem kmX9_169 : Cond.methodLink RX9 169 yX9_tellRun ∈ allW := tm4 (List.mem_of_getElem? (i := 66) (by decide +kernel)) (by decide +kernel)
theorem kiX9_tellRun : Cond.instanceMethod yX9_tellRun ∈ allW := tm4 (List.mem_of_getElem? (i := 68) (by decide +kernel)) (by decide +kernel)
theorem kcX9_tellRun : Cond.code yX9_tellRun cX9_tellRun 3 (some .int) ∈ allW := tm4 (List.mem_of_getElem? (i := 69) rfl) rfl
theorem kdX9_tellRun : yX9_tellRun.cls ≠ "java/lang/invoke/MethodHandle" ∧ yX9_tellRun.cls ≠ "java/lang/invoke/VarHandle" ∧ (parseMethodDescriptor yX9_tellRun.desc).map (fun d => d.parameters.length) = some 1 := by decide +kernel
theorem kmX9_163 : Cond.methodLink RX9 163 yX9_layTried ∈ allW := tm4 (List.mem_of_getElem? (i := 70) (by decide +kernel)) (by decide +kernel)
theorem kiX9_layTried : Cond.instanceMethod yX9_layTried ∈ allW := tm4 (List.mem_of_getElem? (i := 72) (by decide +kernel)) (by decide +kernel)
theorem kcX9_layTried : Cond.code yX9_layTried cX9_layTried 1 none ∈ allW := tm4 (List.mem_of_getElem? (i := 73) rfl) rfl
theorem kdX9_layTried : yX9_layTried.cls ≠ "java/lang/invoke/MethodHandle" ∧ yX9_layTried.cls ≠ "java/lang/invoke/VarHandle" ∧ (parseMethodDescriptor yX9_layTried.desc).map (fun d => d.parameters.length) = some 0 := by decide +kernel
theorem kmX9_145 : Cond.methodLink RX9 145 yX9_copyRow ∈ allW := tm4 (List.mem_of_getElem? (i := 74) (by decide +kernel)) (by decide +kernel)
theorem kiX9_copyRow : Cond.instanceMethod yX9_copyRow ∈ allW := tm4 (List.mem_of_getElem? (i := 76) (by decide +kernel)) (by decide +kernel)
theorem kcX9_copyRow : Cond.code yX9_copyRow cX9_copyRow 4 none ∈ allW := tm4 (List.mem_of_getElem? (i := 77) rfl) rfl
theorem kdX9_copyRow : yX9_copyRow.cls ≠ "java/lang/invoke/MethodHandle" ∧ yX9_copyRow.cls ≠ "java/lang/invoke/VarHandle" ∧ (parseMethodDescriptor yX9_copyRow.desc).map (fun d => d.parameters.length) = some 2 := by decide +kernel
theorem kmX9_149 : Cond.methodLink RX9 149 yX9_asItIs ∈ allW := tm4 (List.mem_of_getElem? (i := 78) (by decide +kernel)) (by decide +kernel)
theorem kiX9_asItIs : Cond.instanceMethod yX9_asItIs ∈ allW := tm4 (List.mem_of_getElem? (i := 80) (by decide +kernel)) (by decide +kernel)
theorem kcX9_asItIs : Cond.code yX9_asItIs cX9_asItIs 1 none ∈ allW := tm4 (List.mem_of_getElem? (i := 81) rfl) rfl
theorem kdX9_asItIs : yX9_asItIs.cls ≠ "java/lang/invoke/MethodHandle" ∧ yX9_asItIs.cls ≠ "java/lang/invoke/VarHandle" ∧ (parseMethodDescriptor yX9_asItIs.desc).map (fun d => d.parameters.length) = some 0 := by decide +kernel
theorem kmX9_166 : Cond.methodLink RX9 166 yX9_runs ∈ allW := tm4 (List.mem_of_getElem? (i := 82) (by decide +kernel)) (by decide +kernel)
theorem kiX9_runs : Cond.instanceMethod yX9_runs ∈ allW := tm4 (List.mem_of_getElem? (i := 84) (by decide +kernel)) (by decide +kernel)
theorem kcX9_runs : Cond.code yX9_runs cX9_runs 2 (some .int) ∈ allW := tm4 (List.mem_of_getElem? (i := 85) rfl) rfl
theorem kdX9_runs : yX9_runs.cls ≠ "java/lang/invoke/MethodHandle" ∧ yX9_runs.cls ≠ "java/lang/invoke/VarHandle" ∧ (parseMethodDescriptor yX9_runs.desc).map (fun d => d.parameters.length) = some 0 := by decide +kernel
theorem kmX9_142 : Cond.methodLink RX9 142 yX9_flip ∈ allW := tm4 (List.mem_of_getElem? (i := 86) (by decide +kernel)) (by decide +kernel)
theorem kiX9_flip : Cond.instanceMethod yX9_flip ∈ allW := tm4 (List.mem_of_getElem? (i := 88) (by decide +kernel)) (by decide +kernel)
theorem kcX9_flip : Cond.code yX9_flip cX9_flip 3 none ∈ allW := tm4 (List.mem_of_getElem? (i := 89) rfl) rfl
theorem kdX9_flip : yX9_flip.cls ≠ "java/lang/invoke/MethodHandle" ∧ yX9_flip.cls ≠ "java/lang/invoke/VarHandle" ∧ (parseMethodDescriptor yX9_flip.desc).map (fun d => d.parameters.length) = some 1 := by decide +kernel
theorem kmX9_134 : Cond.methodLink RX9 134 yX9_bound ∈ allW := tm4 (List.mem_of_getElem? (i := 90) (by decide +kernel)) (by decide +kernel)
theorem ktX9_bound : Cond.static yX9_bound ∈ allW := tm4 (List.mem_of_getElem? (i := 91) (by decide +kernel)) (by decide +kernel)
theorem kcX9_bound : Cond.code yX9_bound cX9_bound 1 (some .int) ∈ allW := tm4 (List.mem_of_getElem? (i := 92) rfl) rfl
theorem kdX9_bound : yX9_bound.cls ≠ "java/lang/invoke/MethodHandle" ∧ yX9_bound.cls ≠ "java/lang/invoke/VarHandle" ∧ (parseMethodDescriptor yX9_bound.desc).map (fun d => d.parameters.length) = some 1 := by decide +kernel
theorem kmX9_138 : Cond.methodLink RX9 138 yX9_lands ∈ allW := tm4 (List.mem_of_getElem? (i := 93) (by decide +kernel)) (by decide +kernel)
theorem kiX9_lands : Cond.instanceMethod yX9_lands ∈ allW := tm4 (List.mem_of_getElem? (i := 95) (by decide +kernel)) (by decide +kernel)
theorem kcX9_lands : Cond.code yX9_lands cX9_lands 5 none ∈ allW := tm4 (List.mem_of_getElem? (i := 96) rfl) rfl
theorem kdX9_lands : yX9_lands.cls ≠ "java/lang/invoke/MethodHandle" ∧ yX9_lands.cls ≠ "java/lang/invoke/VarHandle" ∧ (parseMethodDescriptor yX9_lands.desc).map (fun d => d.parameters.length) = some 1 := by decide +kernel
theorem kmX9_172 : Cond.methodLink RX9 172 yX9_leastOf ∈ allW := tm4 (List.mem_of_getElem? (i := 97) (by decide +kernel)) (by decide +kernel)
theorem kiX9_leastOf : Cond.instanceMethod yX9_leastOf ∈ allW := tm4 (List.mem_of_getElem? (i := 99) (by decide +kernel)) (by decide +kernel)
theorem kcX9_leastOf : Cond.code yX9_leastOf cX9_leastOf 3 (some .int) ∈ allW := tm4 (List.mem_of_getElem? (i := 100) rfl) rfl
theorem kdX9_leastOf : yX9_leastOf.cls ≠ "java/lang/invoke/MethodHandle" ∧ yX9_leastOf.cls ≠ "java/lang/invoke/VarHandle" ∧ (parseMethodDescriptor yX9_leastOf.desc).map (fun d => d.parameters.length) = some 1 := by decide +kernel
theorem kmX9_160 : Cond.methodLink RX9 160 yX9_fewest ∈ allW := tm4 (List.mem_of_getElem? (i := 101) (by decide +kernel)) (by decide +kernel)
theorem kiX9_fewest : Cond.instanceMethod yX9_fewest ∈ allW := tm4 (List.mem_of_getElem? (i := 103) (by decide +kernel)) (by decide +kernel)
theorem kcX9_fewest : Cond.code yX9_fewest cX9_fewest 3 (some .int) ∈ allW := tm4 (List.mem_of_getElem? (i := 104) rfl) rfl
theorem kdX9_fewest : yX9_fewest.cls ≠ "java/lang/invoke/MethodHandle" ∧ yX9_fewest.cls ≠ "java/lang/invoke/VarHandle" ∧ (parseMethodDescriptor yX9_fewest.desc).map (fun d => d.parameters.length) = some 0 := by decide +kernel
theorem kmX9_156 : Cond.methodLink RX9 156 yX9_leastFrom ∈ allW := tm4 (List.mem_of_getElem? (i := 105) (by decide +kernel)) (by decide +kernel)
theorem kiX9_leastFrom : Cond.instanceMethod yX9_leastFrom ∈ allW := tm4 (List.mem_of_getElem? (i := 107) (by decide +kernel)) (by decide +kernel)
theorem kcX9_leastFrom : Cond.code yX9_leastFrom cX9_leastFrom 7 (some .int) ∈ allW := tm4 (List.mem_of_getElem? (i := 108) rfl) rfl
theorem kdX9_leastFrom : yX9_leastFrom.cls ≠ "java/lang/invoke/MethodHandle" ∧ yX9_leastFrom.cls ≠ "java/lang/invoke/VarHandle" ∧ (parseMethodDescriptor yX9_leastFrom.desc).map (fun d => d.parameters.length) = some 2 := by decide +kernel
theorem kkX9_152 : Cond.constant RX9 152 (99999) ∈ allW := tm4 (List.mem_of_getElem? (i := 109) (by decide +kernel)) (by decide +kernel)
theorem kmL_39 : Cond.methodLink RL 39 yX9_flips ∈ allW := tm4 (List.mem_of_getElem? (i := 110) (by decide +kernel)) (by decide +kernel)
theorem kiX9_flips : Cond.instanceMethod yX9_flips ∈ allW := tm4 (List.mem_of_getElem? (i := 111) (by decide +kernel)) (by decide +kernel)
theorem ksX9_flips : Cond.selects RX9 yX9_flips yX9_flips ∈ allW := tm4 (List.mem_of_getElem? (i := 112) (by decide +kernel)) (by decide +kernel)
theorem kcX9_flips : Cond.code yX9_flips cX9_flips 1 (some .int) ∈ allW := tm4 (List.mem_of_getElem? (i := 113) rfl) rfl
theorem kdX9_flips : yX9_flips.cls ≠ "java/lang/invoke/MethodHandle" ∧ yX9_flips.cls ≠ "java/lang/invoke/VarHandle" ∧ (parseMethodDescriptor yX9_flips.desc).map (fun d => d.parameters.length) = some 0 := by decide +kernel
theorem kmX9_175 : Cond.methodLink RX9 175 yX9_keepPast ∈ allW := tm4 (List.mem_of_getElem? (i := 114) (by decide +kernel)) (by decide +kernel)
theorem kiX9_keepPast : Cond.instanceMethod yX9_keepPast ∈ allW := tm4 (List.mem_of_getElem? (i := 116) (by decide +kernel)) (by decide +kernel)
theorem kcX9_keepPast : Cond.code yX9_keepPast cX9_keepPast 2 none ∈ allW := tm4 (List.mem_of_getElem? (i := 117) rfl) rfl
theorem kdX9_keepPast : yX9_keepPast.cls ≠ "java/lang/invoke/MethodHandle" ∧ yX9_keepPast.cls ≠ "java/lang/invoke/VarHandle" ∧ (parseMethodDescriptor yX9_keepPast.desc).map (fun d => d.parameters.length) = some 0 := by decide +kernel
theorem kmL_43 : Cond.methodLink RL 43 yX9_pushes ∈ allW := tm4 (List.mem_of_getElem? (i := 118) (by decide +kernel)) (by decide +kernel)
theorem kiX9_pushes : Cond.instanceMethod yX9_pushes ∈ allW := tm4 (List.mem_of_getElem? (i := 119) (by decide +kernel)) (by decide +kernel)
theorem ksX9_pushes : Cond.selects RX9 yX9_pushes yX9_pushes ∈ allW := tm4 (List.mem_of_getElem? (i := 120) (by decide +kernel)) (by decide +kernel)
theorem kcX9_pushes : Cond.code yX9_pushes cX9_pushes 2 (some .int) ∈ allW := tm4 (List.mem_of_getElem? (i := 121) rfl) rfl
theorem kdX9_pushes : yX9_pushes.cls ≠ "java/lang/invoke/MethodHandle" ∧ yX9_pushes.cls ≠ "java/lang/invoke/VarHandle" ∧ (parseMethodDescriptor yX9_pushes.desc).map (fun d => d.parameters.length) = some 1 := by decide +kernel
theorem kmL_47 : Cond.methodLink RL 47 yX9_lifts ∈ allW := tm4 (List.mem_of_getElem? (i := 122) (by decide +kernel)) (by decide +kernel)
theorem kiX9_lifts : Cond.instanceMethod yX9_lifts ∈ allW := tm4 (List.mem_of_getElem? (i := 123) (by decide +kernel)) (by decide +kernel)
theorem ksX9_lifts : Cond.selects RX9 yX9_lifts yX9_lifts ∈ allW := tm4 (List.mem_of_getElem? (i := 124) (by decide +kernel)) (by decide +kernel)
theorem kcX9_lifts : Cond.code yX9_lifts cX9_lifts 3 (some .int) ∈ allW := tm4 (List.mem_of_getElem? (i := 125) rfl) rfl
theorem kdX9_lifts : yX9_lifts.cls ≠ "java/lang/invoke/MethodHandle" ∧ yX9_lifts.cls ≠ "java/lang/invoke/VarHandle" ∧ (parseMethodDescriptor yX9_lifts.desc).map (fun d => d.parameters.length) = some 1 := by decide +kernel
theorem kmL_51 : Cond.methodLink RL 51 yX9_lays ∈ allW := tm4 (List.mem_of_getElem? (i := 126) (by decide +kernel)) (by decide +kernel)
theorem kiX9_lays : Cond.instanceMethod yX9_lays ∈ allW := tm4 (List.mem_of_getElem? (i := 127) (by decide +kernel)) (by decide +kernel)
theorem ksX9_lays : Cond.selects RX9 yX9_lays yX9_lays ∈ allW := tm4 (List.mem_of_getElem? (i := 128) (by decide +kernel)) (by decide +kernel)
theorem kcX9_lays : Cond.code yX9_lays cX9_lays 4 (some .int) ∈ allW := tm4 (List.mem_of_getElem? (i := 129) rfl) rfl
theorem kdX9_lays : yX9_lays.cls ≠ "java/lang/invoke/MethodHandle" ∧ yX9_lays.cls ≠ "java/lang/invoke/VarHandle" ∧ (parseMethodDescriptor yX9_lays.desc).map (fun d => d.parameters.length) = some 2 := by decide +kernel
theorem kmL_55 : Cond.methodLink RL 55 yX9_undo ∈ allW := tm4 (List.mem_of_getElem? (i := 130) (by decide +kernel)) (by decide +kernel)
theorem kiX9_undo : Cond.instanceMethod yX9_undo ∈ allW := tm4 (List.mem_of_getElem? (i := 131) (by decide +kernel)) (by decide +kernel)
theorem ksX9_undo : Cond.selects RX9 yX9_undo yX9_undo ∈ allW := tm4 (List.mem_of_getElem? (i := 132) (by decide +kernel)) (by decide +kernel)
theorem kcX9_undo : Cond.code yX9_undo cX9_undo 1 (some .int) ∈ allW := tm4 (List.mem_of_getElem? (i := 133) rfl) rfl
theorem kdX9_undo : yX9_undo.cls ≠ "java/lang/invoke/MethodHandle" ∧ yX9_undo.cls ≠ "java/lang/invoke/VarHandle" ∧ (parseMethodDescriptor yX9_undo.desc).map (fun d => d.parameters.length) = some 0 := by decide +kernel
theorem kmL_59 : Cond.methodLink RL 59 yX9_push ∈ allW := tm4 (List.mem_of_getElem? (i := 134) (by decide +kernel)) (by decide +kernel)
theorem kiX9_push : Cond.instanceMethod yX9_push ∈ allW := tm4 (List.mem_of_getElem? (i := 135) (by decide +kernel)) (by decide +kernel)
theorem ksX9_push : Cond.selects RX9 yX9_push yX9_push ∈ allW := tm4 (List.mem_of_getElem? (i := 136) (by decide +kernel)) (by decide +kernel)
theorem kcX9_push : Cond.code yX9_push cX9_push 3 (some .int) ∈ allW := tm4 (List.mem_of_getElem? (i := 137) rfl) rfl
theorem kdX9_push : yX9_push.cls ≠ "java/lang/invoke/MethodHandle" ∧ yX9_push.cls ≠ "java/lang/invoke/VarHandle" ∧ (parseMethodDescriptor yX9_push.desc).map (fun d => d.parameters.length) = some 1 := by decide +kernel
theorem kmL_63 : Cond.methodLink RL 63 yX9_mat ∈ allW := tm4 (List.mem_of_getElem? (i := 138) (by decide +kernel)) (by decide +kernel)
theorem kiX9_mat : Cond.instanceMethod yX9_mat ∈ allW := tm4 (List.mem_of_getElem? (i := 139) (by decide +kernel)) (by decide +kernel)
theorem ksX9_mat : Cond.selects RX9 yX9_mat yX9_mat ∈ allW := tm4 (List.mem_of_getElem? (i := 140) (by decide +kernel)) (by decide +kernel)
theorem kcX9_mat : Cond.code yX9_mat cX9_mat 4 (some .int) ∈ allW := tm4 (List.mem_of_getElem? (i := 141) rfl) rfl
theorem kdX9_mat : yX9_mat.cls ≠ "java/lang/invoke/MethodHandle" ∧ yX9_mat.cls ≠ "java/lang/invoke/VarHandle" ∧ (parseMethodDescriptor yX9_mat.desc).map (fun d => d.parameters.length) = some 2 := by decide +kernel
theorem kmL_67 : Cond.methodLink RL 67 yX9_odds ∈ allW := tm4 (List.mem_of_getElem? (i := 142) (by decide +kernel)) (by decide +kernel)
theorem kiX9_odds : Cond.instanceMethod yX9_odds ∈ allW := tm4 (List.mem_of_getElem? (i := 143) (by decide +kernel)) (by decide +kernel)
theorem ksX9_odds : Cond.selects RX9 yX9_odds yX9_odds ∈ allW := tm4 (List.mem_of_getElem? (i := 144) (by decide +kernel)) (by decide +kernel)
theorem kcX9_odds : Cond.code yX9_odds cX9_odds 13 (some .int) ∈ allW := tm4 (List.mem_of_getElem? (i := 145) rfl) rfl
theorem kdX9_odds : yX9_odds.cls ≠ "java/lang/invoke/MethodHandle" ∧ yX9_odds.cls ≠ "java/lang/invoke/VarHandle" ∧ (parseMethodDescriptor yX9_odds.desc).map (fun d => d.parameters.length) = some 2 := by decide +kernel
theorem kmL_72 : Cond.methodLink RL 72 yX9_sees ∈ allW := tm4 (List.mem_of_getElem? (i := 146) (by decide +kernel)) (by decide +kernel)
theorem kiX9_sees : Cond.instanceMethod yX9_sees ∈ allW := tm4 (List.mem_of_getElem? (i := 147) (by decide +kernel)) (by decide +kernel)
theorem ksX9_sees : Cond.selects RX9 yX9_sees yX9_sees ∈ allW := tm4 (List.mem_of_getElem? (i := 148) (by decide +kernel)) (by decide +kernel)
theorem kcX9_sees : Cond.code yX9_sees cX9_sees 4 (some .int) ∈ allW := tm4 (List.mem_of_getElem? (i := 149) rfl) rfl
theorem kdX9_sees : yX9_sees.cls ≠ "java/lang/invoke/MethodHandle" ∧ yX9_sees.cls ≠ "java/lang/invoke/VarHandle" ∧ (parseMethodDescriptor yX9_sees.desc).map (fun d => d.parameters.length) = some 3 := by decide +kernel
theorem kmL_76 : Cond.methodLink RL 76 yX9_forget ∈ allW := tm4 (List.mem_of_getElem? (i := 150) (by decide +kernel)) (by decide +kernel)
theorem kiX9_forget : Cond.instanceMethod yX9_forget ∈ allW := tm4 (List.mem_of_getElem? (i := 151) (by decide +kernel)) (by decide +kernel)
theorem ksX9_forget : Cond.selects RX9 yX9_forget yX9_forget ∈ allW := tm4 (List.mem_of_getElem? (i := 152) (by decide +kernel)) (by decide +kernel)
theorem kcX9_forget : Cond.code yX9_forget cX9_forget 2 (some .int) ∈ allW := tm4 (List.mem_of_getElem? (i := 153) rfl) rfl
theorem kdX9_forget : yX9_forget.cls ≠ "java/lang/invoke/MethodHandle" ∧ yX9_forget.cls ≠ "java/lang/invoke/VarHandle" ∧ (parseMethodDescriptor yX9_forget.desc).map (fun d => d.parameters.length) = some 0 := by decide +kernel
theorem kmL_80 : Cond.methodLink RL 80 yX9_ways ∈ allW := tm4 (List.mem_of_getElem? (i := 154) (by decide +kernel)) (by decide +kernel)
theorem kiX9_ways : Cond.instanceMethod yX9_ways ∈ allW := tm4 (List.mem_of_getElem? (i := 155) (by decide +kernel)) (by decide +kernel)
theorem ksX9_ways : Cond.selects RX9 yX9_ways yX9_ways ∈ allW := tm4 (List.mem_of_getElem? (i := 156) (by decide +kernel)) (by decide +kernel)
theorem kcX9_ways : Cond.code yX9_ways cX9_ways 2 (some .int) ∈ allW := tm4 (List.mem_of_getElem? (i := 157) rfl) rfl
theorem kdX9_ways : yX9_ways.cls ≠ "java/lang/invoke/MethodHandle" ∧ yX9_ways.cls ≠ "java/lang/invoke/VarHandle" ∧ (parseMethodDescriptor yX9_ways.desc).map (fun d => d.parameters.length) = some 1 := by decide +kernel
theorem kmX9_188 : Cond.methodLink RX9 188 yX9_layWays ∈ allW := tm4 (List.mem_of_getElem? (i := 158) (by decide +kernel)) (by decide +kernel)
theorem kiX9_layWays : Cond.instanceMethod yX9_layWays ∈ allW := tm4 (List.mem_of_getElem? (i := 160) (by decide +kernel)) (by decide +kernel)
theorem kcX9_layWays : Cond.code yX9_layWays cX9_layWays 2 none ∈ allW := tm4 (List.mem_of_getElem? (i := 161) rfl) rfl
theorem kdX9_layWays : yX9_layWays.cls ≠ "java/lang/invoke/MethodHandle" ∧ yX9_layWays.cls ≠ "java/lang/invoke/VarHandle" ∧ (parseMethodDescriptor yX9_layWays.desc).map (fun d => d.parameters.length) = some 0 := by decide +kernel
theorem kmX9_185 : Cond.methodLink RX9 185 yX9_isWay ∈ allW := tm4 (List.mem_of_getElem? (i := 162) (by decide +kernel)) (by decide +kernel)
theorem kiX9_isWay : Cond.instanceMethod yX9_isWay ∈ allW := tm4 (List.mem_of_getElem? (i := 164) (by decide +kernel)) (by decide +kernel)
theorem kcX9_isWay : Cond.code yX9_isWay cX9_isWay 5 (some .boolean) ∈ allW := tm4 (List.mem_of_getElem? (i := 165) rfl) rfl
theorem kdX9_isWay : yX9_isWay.cls ≠ "java/lang/invoke/MethodHandle" ∧ yX9_isWay.cls ≠ "java/lang/invoke/VarHandle" ∧ (parseMethodDescriptor yX9_isWay.desc).map (fun d => d.parameters.length) = some 2 := by decide +kernel
theorem kmX9_178 : Cond.methodLink RX9 178 yX9_restsAt ∈ allW := tm4 (List.mem_of_getElem? (i := 166) (by decide +kernel)) (by decide +kernel)
theorem kiX9_restsAt : Cond.instanceMethod yX9_restsAt ∈ allW := tm4 (List.mem_of_getElem? (i := 168) (by decide +kernel)) (by decide +kernel)
theorem kcX9_restsAt : Cond.code yX9_restsAt cX9_restsAt 5 (some .int) ∈ allW := tm4 (List.mem_of_getElem? (i := 169) rfl) rfl
theorem kdX9_restsAt : yX9_restsAt.cls ≠ "java/lang/invoke/MethodHandle" ∧ yX9_restsAt.cls ≠ "java/lang/invoke/VarHandle" ∧ (parseMethodDescriptor yX9_restsAt.desc).map (fun d => d.parameters.length) = some 4 := by decide +kernel
theorem kmL_84 : Cond.methodLink RL 84 yX9_next ∈ allW := tm4 (List.mem_of_getElem? (i := 170) (by decide +kernel)) (by decide +kernel)
theorem kiX9_next : Cond.instanceMethod yX9_next ∈ allW := tm4 (List.mem_of_getElem? (i := 171) (by decide +kernel)) (by decide +kernel)
theorem ksX9_next : Cond.selects RX9 yX9_next yX9_next ∈ allW := tm4 (List.mem_of_getElem? (i := 172) (by decide +kernel)) (by decide +kernel)
theorem kcX9_next : Cond.code yX9_next cX9_next 8 (some .int) ∈ allW := tm4 (List.mem_of_getElem? (i := 173) rfl) rfl
theorem kdX9_next : yX9_next.cls ≠ "java/lang/invoke/MethodHandle" ∧ yX9_next.cls ≠ "java/lang/invoke/VarHandle" ∧ (parseMethodDescriptor yX9_next.desc).map (fun d => d.parameters.length) = some 1 := by decide +kernel
theorem kmL_88 : Cond.methodLink RL 88 yX9_rate ∈ allW := tm4 (List.mem_of_getElem? (i := 174) (by decide +kernel)) (by decide +kernel)
theorem kiX9_rate : Cond.instanceMethod yX9_rate ∈ allW := tm4 (List.mem_of_getElem? (i := 175) (by decide +kernel)) (by decide +kernel)
theorem ksX9_rate : Cond.selects RX9 yX9_rate yX9_rate ∈ allW := tm4 (List.mem_of_getElem? (i := 176) (by decide +kernel)) (by decide +kernel)
theorem kcX9_rate : Cond.code yX9_rate cX9_rate 3 (some .int) ∈ allW := tm4 (List.mem_of_getElem? (i := 177) rfl) rfl
theorem kdX9_rate : yX9_rate.cls ≠ "java/lang/invoke/MethodHandle" ∧ yX9_rate.cls ≠ "java/lang/invoke/VarHandle" ∧ (parseMethodDescriptor yX9_rate.desc).map (fun d => d.parameters.length) = some 2 := by decide +kernel
theorem kkX9_202 : Cond.constant RX9 202 (-1000000) ∈ allW := tm4 (List.mem_of_getElem? (i := 178) (by decide +kernel)) (by decide +kernel)
theorem kmX9_203 : Cond.methodLink RX9 203 yX9_brassRate ∈ allW := tm4 (List.mem_of_getElem? (i := 179) (by decide +kernel)) (by decide +kernel)
theorem kiX9_brassRate : Cond.instanceMethod yX9_brassRate ∈ allW := tm4 (List.mem_of_getElem? (i := 181) (by decide +kernel)) (by decide +kernel)
theorem kcX9_brassRate : Cond.code yX9_brassRate cX9_brassRate 2 (some .int) ∈ allW := tm4 (List.mem_of_getElem? (i := 182) rfl) rfl
theorem kdX9_brassRate : yX9_brassRate.cls ≠ "java/lang/invoke/MethodHandle" ∧ yX9_brassRate.cls ≠ "java/lang/invoke/VarHandle" ∧ (parseMethodDescriptor yX9_brassRate.desc).map (fun d => d.parameters.length) = some 1 := by decide +kernel
theorem kkX9_195 : Cond.constantLong RX9 195 (10) ∈ allW := tm4 (List.mem_of_getElem? (i := 183) (by decide +kernel)) (by decide +kernel)
theorem kmX9_197 : Cond.methodLink RX9 197 yX9_coilRate ∈ allW := tm4 (List.mem_of_getElem? (i := 184) (by decide +kernel)) (by decide +kernel)
theorem kiX9_coilRate : Cond.instanceMethod yX9_coilRate ∈ allW := tm4 (List.mem_of_getElem? (i := 186) (by decide +kernel)) (by decide +kernel)
theorem kcX9_coilRate : Cond.code yX9_coilRate cX9_coilRate 2 (some .int) ∈ allW := tm4 (List.mem_of_getElem? (i := 187) rfl) rfl
theorem kdX9_coilRate : yX9_coilRate.cls ≠ "java/lang/invoke/MethodHandle" ∧ yX9_coilRate.cls ≠ "java/lang/invoke/VarHandle" ∧ (parseMethodDescriptor yX9_coilRate.desc).map (fun d => d.parameters.length) = some 1 := by decide +kernel
theorem kmX9_206 : Cond.methodLink RX9 206 yX9_paperRate ∈ allW := tm4 (List.mem_of_getElem? (i := 188) (by decide +kernel)) (by decide +kernel)
theorem kiX9_paperRate : Cond.instanceMethod yX9_paperRate ∈ allW := tm4 (List.mem_of_getElem? (i := 190) (by decide +kernel)) (by decide +kernel)
theorem kcX9_paperRate : Cond.code yX9_paperRate cX9_paperRate 2 (some .int) ∈ allW := tm4 (List.mem_of_getElem? (i := 191) rfl) rfl
theorem kdX9_paperRate : yX9_paperRate.cls ≠ "java/lang/invoke/MethodHandle" ∧ yX9_paperRate.cls ≠ "java/lang/invoke/VarHandle" ∧ (parseMethodDescriptor yX9_paperRate.desc).map (fun d => d.parameters.length) = some 1 := by decide +kernel
theorem kkX9_200 : Cond.constantLong RX9 200 (100) ∈ allW := tm4 (List.mem_of_getElem? (i := 192) (by decide +kernel)) (by decide +kernel)
theorem kkX9_209 : Cond.constantLong RX9 209 (1000) ∈ allW := tm4 (List.mem_of_getElem? (i := 193) (by decide +kernel)) (by decide +kernel)
theorem kkX9_211 : Cond.constantLong RX9 211 (10000) ∈ allW := tm4 (List.mem_of_getElem? (i := 194) (by decide +kernel)) (by decide +kernel)
theorem kkX9_213 : Cond.constantLong RX9 213 (100000) ∈ allW := tm4 (List.mem_of_getElem? (i := 195) (by decide +kernel)) (by decide +kernel)
theorem kmL_92 : Cond.methodLink RL 92 yX9_keep ∈ allW := tm4 (List.mem_of_getElem? (i := 196) (by decide +kernel)) (by decide +kernel)
theorem kiX9_keep : Cond.instanceMethod yX9_keep ∈ allW := tm4 (List.mem_of_getElem? (i := 197) (by decide +kernel)) (by decide +kernel)
theorem ksX9_keep : Cond.selects RX9 yX9_keep yX9_keep ∈ allW := tm4 (List.mem_of_getElem? (i := 198) (by decide +kernel)) (by decide +kernel)
theorem kcX9_keep : Cond.code yX9_keep cX9_keep 2 (some .int) ∈ allW := tm4 (List.mem_of_getElem? (i := 199) rfl) rfl
theorem kdX9_keep : yX9_keep.cls ≠ "java/lang/invoke/MethodHandle" ∧ yX9_keep.cls ≠ "java/lang/invoke/VarHandle" ∧ (parseMethodDescriptor yX9_keep.desc).map (fun d => d.parameters.length) = some 1 := by decide +kernel
theorem kmL_96 : Cond.methodLink RL 96 yX9_back ∈ allW := tm4 (List.mem_of_getElem? (i := 200) (by decide +kernel)) (by decide +kernel)
theorem kiX9_back : Cond.instanceMethod yX9_back ∈ allW := tm4 (List.mem_of_getElem? (i := 201) (by decide +kernel)) (by decide +kernel)
theorem ksX9_back : Cond.selects RX9 yX9_back yX9_back ∈ allW := tm4 (List.mem_of_getElem? (i := 202) (by decide +kernel)) (by decide +kernel)
theorem kcX9_back : Cond.code yX9_back cX9_back 2 (some .int) ∈ allW := tm4 (List.mem_of_getElem? (i := 203) rfl) rfl
theorem kdX9_back : yX9_back.cls ≠ "java/lang/invoke/MethodHandle" ∧ yX9_back.cls ≠ "java/lang/invoke/VarHandle" ∧ (parseMethodDescriptor yX9_back.desc).map (fun d => d.parameters.length) = some 1 := by decide +kernel
theorem kmL_100 : Cond.methodLink RL 100 yX9_count ∈ allW := tm4 (List.mem_of_getElem? (i := 204) (by decide +kernel)) (by decide +kernel)
theorem kiX9_count : Cond.instanceMethod yX9_count ∈ allW := tm4 (List.mem_of_getElem? (i := 205) (by decide +kernel)) (by decide +kernel)
theorem ksX9_count : Cond.selects RX9 yX9_count yX9_count ∈ allW := tm4 (List.mem_of_getElem? (i := 206) (by decide +kernel)) (by decide +kernel)
theorem kcX9_count : Cond.code yX9_count cX9_count 2 (some .int) ∈ allW := tm4 (List.mem_of_getElem? (i := 207) rfl) rfl
theorem kdX9_count : yX9_count.cls ≠ "java/lang/invoke/MethodHandle" ∧ yX9_count.cls ≠ "java/lang/invoke/VarHandle" ∧ (parseMethodDescriptor yX9_count.desc).map (fun d => d.parameters.length) = some 1 := by decide +kernel
theorem kmL_105 : Cond.methodLink RL 105 yX9_trace ∈ allW := tm4 (List.mem_of_getElem? (i := 208) (by decide +kernel)) (by decide +kernel)
theorem kiX9_trace : Cond.instanceMethod yX9_trace ∈ allW := tm4 (List.mem_of_getElem? (i := 209) (by decide +kernel)) (by decide +kernel)
theorem ksX9_trace : Cond.selects RX9 yX9_trace yX9_trace ∈ allW := tm4 (List.mem_of_getElem? (i := 210) (by decide +kernel)) (by decide +kernel)
theorem kcX9_trace : Cond.code yX9_trace cX9_trace 1 (some .long) ∈ allW := tm4 (List.mem_of_getElem? (i := 211) rfl) rfl
theorem kdX9_trace : yX9_trace.cls ≠ "java/lang/invoke/MethodHandle" ∧ yX9_trace.cls ≠ "java/lang/invoke/VarHandle" ∧ (parseMethodDescriptor yX9_trace.desc).map (fun d => d.parameters.length) = some 0 := by decide +kernel
theorem ksX6_findToken : Cond.selects RX6 yX6_findToken yX6_findToken ∈ allW := tm0 (List.mem_of_getElem? (i := 0) (by decide +kernel)) (by decide +kernel)
theorem ksX6_readItem : Cond.selects RX6 yX6_readItem yX6_readItem ∈ allW := tm0 (List.mem_of_getElem? (i := 1) (by decide +kernel)) (by decide +kernel)
theorem ksX6_mayBegin : Cond.selects RX6 yX6_mayBegin yX6_mayBegin ∈ allW := tm0 (List.mem_of_getElem? (i := 2) (by decide +kernel)) (by decide +kernel)
theorem ksX6_readStep : Cond.selects RX6 yX6_readStep yX6_readStep ∈ allW := tm0 (List.mem_of_getElem? (i := 3) (by decide +kernel)) (by decide +kernel)
theorem ksX6_number : Cond.selects RX6 yX6_number yX6_number ∈ allW := tm0 (List.mem_of_getElem? (i := 4) (by decide +kernel)) (by decide +kernel)
theorem ksX6_endItem : Cond.selects RX6 yX6_endItem yX6_endItem ∈ allW := tm0 (List.mem_of_getElem? (i := 5) (by decide +kernel)) (by decide +kernel)
theorem ksX8_runFrom : Cond.selects RX8 yX8_runFrom yX8_runFrom ∈ allW := tm0 (List.mem_of_getElem? (i := 6) (by decide +kernel)) (by decide +kernel)
theorem ksX7_land : Cond.selects RX7 yX7_land yX7_land ∈ allW := tm0 (List.mem_of_getElem? (i := 7) (by decide +kernel)) (by decide +kernel)
theorem ksX3_fewest : Cond.selects RX3 yX3_fewest yX3_fewest ∈ allW := tm0 (List.mem_of_getElem? (i := 8) (by decide +kernel)) (by decide +kernel)
theorem ksX3_search : Cond.selects RX3 yX3_search yX3_search ∈ allW := tm0 (List.mem_of_getElem? (i := 9) (by decide +kernel)) (by decide +kernel)
theorem ksX8_runWithMat : Cond.selects RX8 yX8_runWithMat yX8_runWithMat ∈ allW := tm0 (List.mem_of_getElem? (i := 10) (by decide +kernel)) (by decide +kernel)
theorem ksX0_listMats : Cond.selects RX0 yX0_listMats yX0_listMats ∈ allW := tm0 (List.mem_of_getElem? (i := 11) (by decide +kernel)) (by decide +kernel)
theorem ksX0_weightOf : Cond.selects RX0 yX0_weightOf yX0_weightOf ∈ allW := tm0 (List.mem_of_getElem? (i := 12) (by decide +kernel)) (by decide +kernel)
theorem ksX0_reachesFloor : Cond.selects RX0 yX0_reachesFloor yX0_reachesFloor ∈ allW := tm0 (List.mem_of_getElem? (i := 13) (by decide +kernel)) (by decide +kernel)
theorem ksX0_reduce : Cond.selects RX0 yX0_reduce yX0_reduce ∈ allW := tm0 (List.mem_of_getElem? (i := 14) (by decide +kernel)) (by decide +kernel)
theorem ksX1_explains : Cond.selects RX1 yX1_explains yX1_explains ∈ allW := tm0 (List.mem_of_getElem? (i := 15) (by decide +kernel)) (by decide +kernel)
theorem ksX1_mostAtOnePlace : Cond.selects RX1 yX1_mostAtOnePlace yX1_mostAtOnePlace ∈ allW := tm0 (List.mem_of_getElem? (i := 16) (by decide +kernel)) (by decide +kernel)
theorem ksX8_asCoil : Cond.selects RX8 yX8_asCoil yX8_asCoil ∈ allW := tm0 (List.mem_of_getElem? (i := 17) (by decide +kernel)) (by decide +kernel)
theorem ksX8_asBrass : Cond.selects RX8 yX8_asBrass yX8_asBrass ∈ allW := tm0 (List.mem_of_getElem? (i := 18) (by decide +kernel)) (by decide +kernel)
theorem ksX8_asPaper : Cond.selects RX8 yX8_asPaper yX8_asPaper ∈ allW := tm0 (List.mem_of_getElem? (i := 19) (by decide +kernel)) (by decide +kernel)
theorem ksX8_asSilver : Cond.selects RX8 yX8_asSilver yX8_asSilver ∈ allW := tm0 (List.mem_of_getElem? (i := 20) (by decide +kernel)) (by decide +kernel)
theorem ksX8_asTwine : Cond.selects RX8 yX8_asTwine yX8_asTwine ∈ allW := tm0 (List.mem_of_getElem? (i := 21) (by decide +kernel)) (by decide +kernel)
theorem ksX8_asLead : Cond.selects RX8 yX8_asLead yX8_asLead ∈ allW := tm0 (List.mem_of_getElem? (i := 22) (by decide +kernel)) (by decide +kernel)
theorem ksX9_readItems : Cond.selects RX9 yX9_readItems yX9_readItems ∈ allW := tm0 (List.mem_of_getElem? (i := 23) (by decide +kernel)) (by decide +kernel)
theorem ksX9_nextToken : Cond.selects RX9 yX9_nextToken yX9_nextToken ∈ allW := tm0 (List.mem_of_getElem? (i := 24) (by decide +kernel)) (by decide +kernel)
theorem ksX9_isFigure : Cond.selects RX9 yX9_isFigure yX9_isFigure ∈ allW := tm0 (List.mem_of_getElem? (i := 25) (by decide +kernel)) (by decide +kernel)
theorem ksX9_readsItem : Cond.selects RX9 yX9_readsItem yX9_readsItem ∈ allW := tm0 (List.mem_of_getElem? (i := 26) (by decide +kernel)) (by decide +kernel)
theorem ksX9_isSign : Cond.selects RX9 yX9_isSign yX9_isSign ∈ allW := tm0 (List.mem_of_getElem? (i := 27) (by decide +kernel)) (by decide +kernel)
theorem ksX9_readsStep : Cond.selects RX9 yX9_readsStep yX9_readsStep ∈ allW := tm0 (List.mem_of_getElem? (i := 28) (by decide +kernel)) (by decide +kernel)
theorem ksX9_readsNumber : Cond.selects RX9 yX9_readsNumber yX9_readsNumber ∈ allW := tm0 (List.mem_of_getElem? (i := 29) (by decide +kernel)) (by decide +kernel)
theorem ksX9_readsCoil : Cond.selects RX9 yX9_readsCoil yX9_readsCoil ∈ allW := tm0 (List.mem_of_getElem? (i := 30) (by decide +kernel)) (by decide +kernel)
theorem ksX9_isStep : Cond.selects RX9 yX9_isStep yX9_isStep ∈ allW := tm0 (List.mem_of_getElem? (i := 31) (by decide +kernel)) (by decide +kernel)
theorem ksX9_tellRun : Cond.selects RX9 yX9_tellRun yX9_tellRun ∈ allW := tm0 (List.mem_of_getElem? (i := 32) (by decide +kernel)) (by decide +kernel)
theorem ksX9_layTried : Cond.selects RX9 yX9_layTried yX9_layTried ∈ allW := tm0 (List.mem_of_getElem? (i := 33) (by decide +kernel)) (by decide +kernel)
theorem ksX9_copyRow : Cond.selects RX9 yX9_copyRow yX9_copyRow ∈ allW := tm0 (List.mem_of_getElem? (i := 34) (by decide +kernel)) (by decide +kernel)
theorem ksX9_asItIs : Cond.selects RX9 yX9_asItIs yX9_asItIs ∈ allW := tm0 (List.mem_of_getElem? (i := 35) (by decide +kernel)) (by decide +kernel)
theorem ksX9_runs : Cond.selects RX9 yX9_runs yX9_runs ∈ allW := tm0 (List.mem_of_getElem? (i := 36) (by decide +kernel)) (by decide +kernel)
theorem ksX9_flip : Cond.selects RX9 yX9_flip yX9_flip ∈ allW := tm0 (List.mem_of_getElem? (i := 37) (by decide +kernel)) (by decide +kernel)
theorem ksX9_lands : Cond.selects RX9 yX9_lands yX9_lands ∈ allW := tm0 (List.mem_of_getElem? (i := 38) (by decide +kernel)) (by decide +kernel)
theorem ksX9_leastOf : Cond.selects RX9 yX9_leastOf yX9_leastOf ∈ allW := tm0 (List.mem_of_getElem? (i := 39) (by decide +kernel)) (by decide +kernel)
theorem ksX9_fewest : Cond.selects RX9 yX9_fewest yX9_fewest ∈ allW := tm0 (List.mem_of_getElem? (i := 40) (by decide +kernel)) (by decide +kernel)
theorem ksX9_leastFrom : Cond.selects RX9 yX9_leastFrom yX9_leastFrom ∈ allW := tm0 (List.mem_of_getElem? (i := 41) (by decide +kernel)) (by decide +kernel)
theorem ksX9_keepPast : Cond.selects RX9 yX9_keepPast yX9_keepPast ∈ allW := tm0 (List.mem_of_getElem? (i := 42) (by decide +kernel)) (by decide +kernel)
theorem ksX9_layWays : Cond.selects RX9 yX9_layWays yX9_layWays ∈ allW := tm0 (List.mem_of_getElem? (i := 43) (by decide +kernel)) (by decide +kernel)
theorem ksX9_isWay : Cond.selects RX9 yX9_isWay yX9_isWay ∈ allW := tm0 (List.mem_of_getElem? (i := 44) (by decide +kernel)) (by decide +kernel)
theorem ksX9_restsAt : Cond.selects RX9 yX9_restsAt yX9_restsAt ∈ allW := tm0 (List.mem_of_getElem? (i := 45) (by decide +kernel)) (by decide +kernel)
theorem ksX9_brassRate : Cond.selects RX9 yX9_brassRate yX9_brassRate ∈ allW := tm0 (List.mem_of_getElem? (i := 46) (by decide +kernel)) (by decide +kernel)
theorem ksX9_coilRate : Cond.selects RX9 yX9_coilRate yX9_coilRate ∈ allW := tm0 (List.mem_of_getElem? (i := 47) (by decide +kernel)) (by decide +kernel)
theorem ksX9_paperRate : Cond.selects RX9 yX9_paperRate yX9_paperRate ∈ allW := tm0 (List.mem_of_getElem? (i := 48) (by decide +kernel)) (by decide +kernel)
theorem kwX0 : ∀ w ∈ u_ws RX0 TX0 5, w ∈ allW := by
  intro w hw
  obtain ⟨j, hj, rfl⟩ := List.mem_map.mp hw
  have hj := List.mem_range.mp hj
  match j, hj with
  | 0, _ => exact tm2 (List.mem_of_getElem? (i := 32) (by decide +kernel)) (by decide +kernel)
  | 1, _ => exact tm2 (List.mem_of_getElem? (i := 34) (by decide +kernel)) (by decide +kernel)
  | 2, _ => exact tm2 (List.mem_of_getElem? (i := 36) (by decide +kernel)) (by decide +kernel)
  | 3, _ => exact tm2 (List.mem_of_getElem? (i := 38) (by decide +kernel)) (by decide +kernel)
  | 4, _ => exact tm2 (List.mem_of_getElem? (i := 40) (by decide +kernel)) (by decide +kernel)
  | j + 5, h => exact absurd h (by omega)
theorem kwX1 : ∀ w ∈ u_ws RX1 TX1 9, w ∈ allW := by
  intro w hw
  obtain ⟨j, hj, rfl⟩ := List.mem_map.mp hw
  have hj := List.mem_range.mp hj
  match j, hj with
  | 0, _ => exact tm2 (List.mem_of_getElem? (i := 0) (by decide +kernel)) (by decide +kernel)
  | 1, _ => exact tm2 (List.mem_of_getElem? (i := 2) (by decide +kernel)) (by decide +kernel)
  | 2, _ => exact tm2 (List.mem_of_getElem? (i := 4) (by decide +kernel)) (by decide +kernel)
  | 3, _ => exact tm2 (List.mem_of_getElem? (i := 6) (by decide +kernel)) (by decide +kernel)
  | 4, _ => exact tm2 (List.mem_of_getElem? (i := 8) (by decide +kernel)) (by decide +kernel)
  | 5, _ => exact tm2 (List.mem_of_getElem? (i := 10) (by decide +kernel)) (by decide +kernel)
  | 6, _ => exact tm2 (List.mem_of_getElem? (i := 12) (by decide +kernel)) (by decide +kernel)
  | 7, _ => exact tm2 (List.mem_of_getElem? (i := 14) (by decide +kernel)) (by decide +kernel)
  | 8, _ => exact tm2 (List.mem_of_getElem? (i := 16) (by decide +kernel)) (by decide +kernel)
  | j + 9, h => exact absurd h (by omega)
theorem kwX2 : ∀ w ∈ u_ws RX2 TX2 3, w ∈ allW := by
  intro w hw
  obtain ⟨j, hj, rfl⟩ := List.mem_map.mp hw
  have hj := List.mem_range.mp hj
  match j, hj with
  | 0, _ => exact tm1 (List.mem_of_getElem? (i := 156) (by decide +kernel)) (by decide +kernel)
  | 1, _ => exact tm1 (List.mem_of_getElem? (i := 158) (by decide +kernel)) (by decide +kernel)
  | 2, _ => exact tm1 (List.mem_of_getElem? (i := 160) (by decide +kernel)) (by decide +kernel)
  | j + 3, h => exact absurd h (by omega)
theorem kwX3 : ∀ w ∈ u_ws RX3 TX3 2, w ∈ allW := by
  intro w hw
  obtain ⟨j, hj, rfl⟩ := List.mem_map.mp hw
  have hj := List.mem_range.mp hj
  match j, hj with
  | 0, _ => exact tm1 (List.mem_of_getElem? (i := 216) (by decide +kernel)) (by decide +kernel)
  | 1, _ => exact tm1 (List.mem_of_getElem? (i := 218) (by decide +kernel)) (by decide +kernel)
  | j + 2, h => exact absurd h (by omega)
theorem kwX4 : ∀ w ∈ u_ws RX4 TX4 4, w ∈ allW := by
  intro w hw
  obtain ⟨j, hj, rfl⟩ := List.mem_map.mp hw
  have hj := List.mem_range.mp hj
  match j, hj with
  | 0, _ => exact tm1 (List.mem_of_getElem? (i := 134) (by decide +kernel)) (by decide +kernel)
  | 1, _ => exact tm1 (List.mem_of_getElem? (i := 136) (by decide +kernel)) (by decide +kernel)
  | 2, _ => exact tm1 (List.mem_of_getElem? (i := 138) (by decide +kernel)) (by decide +kernel)
  | 3, _ => exact tm1 (List.mem_of_getElem? (i := 140) (by decide +kernel)) (by decide +kernel)
  | j + 4, h => exact absurd h (by omega)
theorem kwX5 : ∀ w ∈ u_ws RX5 TX5 7, w ∈ allW := by
  intro w hw
  obtain ⟨j, hj, rfl⟩ := List.mem_map.mp hw
  have hj := List.mem_range.mp hj
  match j, hj with
  | 0, _ => exact tm1 (List.mem_of_getElem? (i := 57) (by decide +kernel)) (by decide +kernel)
  | 1, _ => exact tm1 (List.mem_of_getElem? (i := 59) (by decide +kernel)) (by decide +kernel)
  | 2, _ => exact tm1 (List.mem_of_getElem? (i := 61) (by decide +kernel)) (by decide +kernel)
  | 3, _ => exact tm1 (List.mem_of_getElem? (i := 63) (by decide +kernel)) (by decide +kernel)
  | 4, _ => exact tm1 (List.mem_of_getElem? (i := 65) (by decide +kernel)) (by decide +kernel)
  | 5, _ => exact tm1 (List.mem_of_getElem? (i := 67) (by decide +kernel)) (by decide +kernel)
  | 6, _ => exact tm1 (List.mem_of_getElem? (i := 69) (by decide +kernel)) (by decide +kernel)
  | j + 7, h => exact absurd h (by omega)
theorem kwX6 : ∀ w ∈ u_ws RX6 TX6 9, w ∈ allW := by
  intro w hw
  obtain ⟨j, hj, rfl⟩ := List.mem_map.mp hw
  have hj := List.mem_range.mp hj
  match j, hj with
  | 0, _ => exact tm1 (List.mem_of_getElem? (i := 94) (by decide +kernel)) (by decide +kernel)
  | 1, _ => exact tm1 (List.mem_of_getElem? (i := 96) (by decide +kernel)) (by decide +kernel)
  | 2, _ => exact tm1 (List.mem_of_getElem? (i := 98) (by decide +kernel)) (by decide +kernel)
  | 3, _ => exact tm1 (List.mem_of_getElem? (i := 100) (by decide +kernel)) (by decide +kernel)
  | 4, _ => exact tm1 (List.mem_of_getElem? (i := 102) (by decide +kernel)) (by decide +kernel)
  | 5, _ => exact tm1 (List.mem_of_getElem? (i := 104) (by decide +kernel)) (by decide +kernel)
  | 6, _ => exact tm1 (List.mem_of_getElem? (i := 106) (by decide +kernel)) (by decide +kernel)
  | 7, _ => exact tm1 (List.mem_of_getElem? (i := 108) (by decide +kernel)) (by decide +kernel)
  | 8, _ => exact tm1 (List.mem_of_getElem? (i := 110) (by decide +kernel)) (by decide +kernel)
  | j + 9, h => exact absurd h (by omega)
theorem kwX7 : ∀ w ∈ u_ws RX7 TX7 8, w ∈ allW := by
  intro w hw
  obtain ⟨j, hj, rfl⟩ := List.mem_map.mp hw
  have hj := List.mem_range.mp hj
  match j, hj with
  | 0, _ => exact tm1 (List.mem_of_getElem? (i := 190) (by decide +kernel)) (by decide +kernel)
  | 1, _ => exact tm1 (List.mem_of_getElem? (i := 192) (by decide +kernel)) (by decide +kernel)
  | 2, _ => exact tm1 (List.mem_of_getElem? (i := 194) (by decide +kernel)) (by decide +kernel)
  | 3, _ => exact tm1 (List.mem_of_getElem? (i := 196) (by decide +kernel)) (by decide +kernel)
  | 4, _ => exact tm1 (List.mem_of_getElem? (i := 198) (by decide +kernel)) (by decide +kernel)
  | 5, _ => exact tm1 (List.mem_of_getElem? (i := 200) (by decide +kernel)) (by decide +kernel)
  | 6, _ => exact tm1 (List.mem_of_getElem? (i := 202) (by decide +kernel)) (by decide +kernel)
  | 7, _ => exact tm1 (List.mem_of_getElem? (i := 204) (by decide +kernel)) (by decide +kernel)
  | j + 8, h => exact absurd h (by omega)
theorem kwX8 : ∀ w ∈ u_ws RX8 TX8 11, w ∈ allW := by
  intro w hw
  obtain ⟨j, hj, rfl⟩ := List.mem_map.mp hw
  have hj := List.mem_range.mp hj
  match j, hj with
  | 0, _ => exact tm2 (List.mem_of_getElem? (i := 54) (by decide +kernel)) (by decide +kernel)
  | 1, _ => exact tm2 (List.mem_of_getElem? (i := 56) (by decide +kernel)) (by decide +kernel)
  | 2, _ => exact tm2 (List.mem_of_getElem? (i := 58) (by decide +kernel)) (by decide +kernel)
  | 3, _ => exact tm2 (List.mem_of_getElem? (i := 60) (by decide +kernel)) (by decide +kernel)
  | 4, _ => exact tm2 (List.mem_of_getElem? (i := 62) (by decide +kernel)) (by decide +kernel)
  | 5, _ => exact tm2 (List.mem_of_getElem? (i := 64) (by decide +kernel)) (by decide +kernel)
  | 6, _ => exact tm2 (List.mem_of_getElem? (i := 66) (by decide +kernel)) (by decide +kernel)
  | 7, _ => exact tm2 (List.mem_of_getElem? (i := 68) (by decide +kernel)) (by decide +kernel)
  | 8, _ => exact tm2 (List.mem_of_getElem? (i := 70) (by decide +kernel)) (by decide +kernel)
  | 9, _ => exact tm2 (List.mem_of_getElem? (i := 72) (by decide +kernel)) (by decide +kernel)
  | 10, _ => exact tm2 (List.mem_of_getElem? (i := 74) (by decide +kernel)) (by decide +kernel)
  | j + 11, h => exact absurd h (by omega)
theorem kwX9 : ∀ w ∈ u_ws RX9 TX9 32, w ∈ allW := by
  intro w hw
  obtain ⟨j, hj, rfl⟩ := List.mem_map.mp hw
  have hj := List.mem_range.mp hj
  match j, hj with
  | 0, _ => exact tm3 (List.mem_of_getElem? (i := 182) (by decide +kernel)) (by decide +kernel)
  | 1, _ => exact tm3 (List.mem_of_getElem? (i := 184) (by decide +kernel)) (by decide +kernel)
  | 2, _ => exact tm3 (List.mem_of_getElem? (i := 186) (by decide +kernel)) (by decide +kernel)
  | 3, _ => exact tm3 (List.mem_of_getElem? (i := 188) (by decide +kernel)) (by decide +kernel)
  | 4, _ => exact tm3 (List.mem_of_getElem? (i := 190) (by decide +kernel)) (by decide +kernel)
  | 5, _ => exact tm3 (List.mem_of_getElem? (i := 192) (by decide +kernel)) (by decide +kernel)
  | 6, _ => exact tm3 (List.mem_of_getElem? (i := 194) (by decide +kernel)) (by decide +kernel)
  | 7, _ => exact tm3 (List.mem_of_getElem? (i := 196) (by decide +kernel)) (by decide +kernel)
  | 8, _ => exact tm3 (List.mem_of_getElem? (i := 198) (by decide +kernel)) (by decide +kernel)
  | 9, _ => exact tm3 (List.mem_of_getElem? (i := 200) (by decide +kernel)) (by decide +kernel)
  | 10, _ => exact tm3 (List.mem_of_getElem? (i := 202) (by decide +kernel)) (by decide +kernel)
  | 11, _ => exact tm3 (List.mem_of_getElem? (i := 204) (by decide +kernel)) (by decide +kernel)
  | 12, _ => exact tm3 (List.mem_of_getElem? (i := 206) (by decide +kernel)) (by decide +kernel)
  | 13, _ => exact tm3 (List.mem_of_getElem? (i := 208) (by decide +kernel)) (by decide +kernel)
  | 14, _ => exact tm3 (List.mem_of_getElem? (i := 210) (by decide +kernel)) (by decide +kernel)
  | 15, _ => exact tm3 (List.mem_of_getElem? (i := 212) (by decide +kernel)) (by decide +kernel)
  | 16, _ => exact tm3 (List.mem_of_getElem? (i := 214) (by decide +kernel)) (by decide +kernel)
  | 17, _ => exact tm3 (List.mem_of_getElem? (i := 216) (by decide +kernel)) (by decide +kernel)
  | 18, _ => exact tm3 (List.mem_of_getElem? (i := 218) (by decide +kernel)) (by decide +kernel)
  | 19, _ => exact tm3 (List.mem_of_getElem? (i := 220) (by decide +kernel)) (by decide +kernel)
  | 20, _ => exact tm3 (List.mem_of_getElem? (i := 222) (by decide +kernel)) (by decide +kernel)
  | 21, _ => exact tm3 (List.mem_of_getElem? (i := 224) (by decide +kernel)) (by decide +kernel)
  | 22, _ => exact tm3 (List.mem_of_getElem? (i := 226) (by decide +kernel)) (by decide +kernel)
  | 23, _ => exact tm3 (List.mem_of_getElem? (i := 228) (by decide +kernel)) (by decide +kernel)
  | 24, _ => exact tm3 (List.mem_of_getElem? (i := 230) (by decide +kernel)) (by decide +kernel)
  | 25, _ => exact tm3 (List.mem_of_getElem? (i := 232) (by decide +kernel)) (by decide +kernel)
  | 26, _ => exact tm3 (List.mem_of_getElem? (i := 234) (by decide +kernel)) (by decide +kernel)
  | 27, _ => exact tm3 (List.mem_of_getElem? (i := 236) (by decide +kernel)) (by decide +kernel)
  | 28, _ => exact tm3 (List.mem_of_getElem? (i := 238) (by decide +kernel)) (by decide +kernel)
  | 29, _ => exact tm4 (List.mem_of_getElem? (i := 0) (by decide +kernel)) (by decide +kernel)
  | 30, _ => exact tm4 (List.mem_of_getElem? (i := 2) (by decide +kernel)) (by decide +kernel)
  | 31, _ => exact tm4 (List.mem_of_getElem? (i := 4) (by decide +kernel)) (by decide +kernel)
  | j + 32, h => exact absurd h (by omega)
theorem kz_0 : (Cond.methodLinkNest "CoilStairs" (18 : Nat) ({ cls := "CoilStairs$Reader", name := "<init>", desc := "()V" } : Jvm.MethodName) "CoilStairs") ∈ lw_tbl := List.mem_append_right _ (List.mem_append_left _ (List.mem_of_getElem? (i := 75) (by decide +kernel)))
theorem kz_1 : (Cond.methodLinkNest "CoilStairs" (25 : Nat) ({ cls := "CoilStairs$Moment", name := "<init>", desc := "()V" } : Jvm.MethodName) "CoilStairs") ∈ lw_tbl := List.mem_append_right _ (List.mem_append_left _ (List.mem_of_getElem? (i := 116) (by decide +kernel)))
theorem kz_2 : (Cond.arrayOver (Jvm.ClassFile.FieldType.object "CoilStairs$Moment")) ∈ lw_tbl := List.mem_append_right _ (List.mem_append_left _ (List.mem_of_getElem? (i := 150) (by decide +kernel)))
theorem kz_3 : (Cond.methodLinkNest "CoilStairs$History" (17 : Nat) ({ cls := "CoilStairs$Moment", name := "<init>", desc := "()V" } : Jvm.MethodName) "CoilStairs") ∈ lw_tbl := List.mem_append_right _ (List.mem_append_left _ (List.mem_of_getElem? (i := 151) (by decide +kernel)))
theorem kz_4 : (Cond.methodLinkNest "CoilStairs$Reader" (85 : Nat) ({ cls := "CoilStairs", name := "within", desc := "(III)Z" } : Jvm.MethodName) "CoilStairs") ∈ lw_tbl := List.mem_append_right _ (List.mem_append_right _ (List.mem_append_left _ (List.mem_of_getElem? (i := 121) (by decide +kernel))))
theorem kz_5 : (Cond.methodLinkNest "CoilStairs$Plan" (43 : Nat) ({ cls := "CoilStairs", name := "within", desc := "(III)Z" } : Jvm.MethodName) "CoilStairs") ∈ lw_tbl := List.mem_append_right _ (List.mem_append_right _ (List.mem_append_left _ (List.mem_of_getElem? (i := 153) (by decide +kernel))))
theorem kz_6 : (Cond.methodLinkNest "CoilStairs$Walk" (58 : Nat) ({ cls := "CoilStairs", name := "asVigour", desc := "(I)I" } : Jvm.MethodName) "CoilStairs") ∈ lw_tbl := List.mem_append_right _ (List.mem_append_right _ (List.mem_append_left _ (List.mem_of_getElem? (i := 180) (by decide +kernel))))
theorem kz_7 : (Cond.methodLinkNest "CoilStairs$LeastPushes" (57 : Nat) ({ cls := "CoilStairs", name := "asVigour", desc := "(I)I" } : Jvm.MethodName) "CoilStairs") ∈ lw_tbl := List.mem_append_right _ (List.mem_append_right _ (List.mem_append_left _ (List.mem_of_getElem? (i := 204) (by decide +kernel))))
theorem kz_8 : (Cond.methodLinkNest "CoilStairs$LeastPushes" (73 : Nat) ({ cls := "CoilStairs", name := "tenTimes", desc := "(II)I" } : Jvm.MethodName) "CoilStairs") ∈ lw_tbl := List.mem_append_right _ (List.mem_append_right _ (List.mem_append_left _ (List.mem_of_getElem? (i := 207) (by decide +kernel))))
