theorem inX0 : ∀ w ∈ u_ws RX0 TX0 1, w ∈ TB := tb_sub (by decide +kernel)
theorem inX1 : ∀ w ∈ u_ws RX1 TX1 3, w ∈ TB := tb_sub (by decide +kernel)
theorem inX2 : ∀ w ∈ u_ws RX2 TX2 8, w ∈ TB := tb_sub (by decide +kernel)
theorem inX3 : ∀ w ∈ u_ws RX3 TX3 9, w ∈ TB := tb_sub (by decide +kernel)
theorem inX4 : ∀ w ∈ u_ws RX4 TX4 7, w ∈ TB := tb_sub (by decide +kernel)
theorem inX5 : ∀ w ∈ u_ws RX5 TX5 7, w ∈ TB := tb_sub (by decide +kernel)
theorem inX6 : ∀ w ∈ u_ws RX6 TX6 5, w ∈ TB := tb_sub (by decide +kernel)
theorem inX7 : ∀ w ∈ u_ws RX7 TX7 4, w ∈ TB := tb_sub (by decide +kernel)
theorem inX8 : ∀ w ∈ u_ws RX8 TX8 2, w ∈ TB := tb_sub (by decide +kernel)
theorem inX9 : ∀ w ∈ u_ws RX9 TX9 14, w ∈ TB := tb_sub (by decide +kernel)
theorem inX10 : ∀ w ∈ u_ws RX10 TX10 35, w ∈ TB := tb_sub (by decide +kernel)
theorem mkX9_102 : Cond.constantLong RX9 102 (255) ∈ TB := tb_in 415 (by decide +kernel) rfl
theorem mkX9_154 : Cond.constant RX9 154 (10000000) ∈ TB := tb_in 589 (by decide +kernel) rfl
theorem mkJ6_265 : Cond.constant RJ6 265 (1431655765) ∈ TB := tb_in 831 (by decide +kernel) rfl
theorem mkJ6_266 : Cond.constant RJ6 266 (858993459) ∈ TB := tb_in 832 (by decide +kernel) rfl
theorem mkJ6_267 : Cond.constant RJ6 267 (252645135) ∈ TB := tb_in 833 (by decide +kernel) rfl
theorem mkX10_95 : Cond.constantLong RX10 95 (255) ∈ TB := tb_in 977 (by decide +kernel) rfl
theorem mkX10_109 : Cond.constantLong RX10 109 (-2) ∈ TB := tb_in 998 (by decide +kernel) rfl
theorem mkX10_115 : Cond.constantLong RX10 115 (27) ∈ TB := tb_in 999 (by decide +kernel) rfl
theorem mkX10_117 : Cond.constantLong RX10 117 (96) ∈ TB := tb_in 1000 (by decide +kernel) rfl
theorem mkX10_119 : Cond.constantLong RX10 119 (-4) ∈ TB := tb_in 1001 (by decide +kernel) rfl
theorem mkX10_121 : Cond.constantLong RX10 121 (-1) ∈ TB := tb_in 1002 (by decide +kernel) rfl
theorem mkX10_123 : Cond.constantLong RX10 123 (-3) ∈ TB := tb_in 1003 (by decide +kernel) rfl
theorem mkX10_148 : Cond.constantLong RX10 148 (8740238) ∈ TB := tb_in 1004 (by decide +kernel) rfl
theorem mkX10_150 : Cond.constantLong RX10 150 (129450) ∈ TB := tb_in 1005 (by decide +kernel) rfl
theorem mkX10_152 : Cond.constantLong RX10 152 (158523) ∈ TB := tb_in 1006 (by decide +kernel) rfl
theorem mkX10_154 : Cond.constantLong RX10 154 (6465065272) ∈ TB := tb_in 1007 (by decide +kernel) rfl
theorem mkX10_156 : Cond.constantLong RX10 156 (4351291) ∈ TB := tb_in 1008 (by decide +kernel) rfl
theorem mkX10_158 : Cond.constantLong RX10 158 (6559778) ∈ TB := tb_in 1009 (by decide +kernel) rfl
theorem mkX10_160 : Cond.constantLong RX10 160 (6476969) ∈ TB := tb_in 1010 (by decide +kernel) rfl
theorem mkX10_162 : Cond.constantLong RX10 162 (286880) ∈ TB := tb_in 1011 (by decide +kernel) rfl
theorem mkX10_164 : Cond.constantLong RX10 164 (174869447) ∈ TB := tb_in 1012 (by decide +kernel) rfl
theorem mkX10_166 : Cond.constantLong RX10 166 (405230) ∈ TB := tb_in 1013 (by decide +kernel) rfl
theorem mkX10_168 : Cond.constantLong RX10 168 (453836) ∈ TB := tb_in 1014 (by decide +kernel) rfl
theorem mkX10_170 : Cond.constantLong RX10 170 (279875) ∈ TB := tb_in 1015 (by decide +kernel) rfl
theorem mkX10_172 : Cond.constantLong RX10 172 (10334396) ∈ TB := tb_in 1016 (by decide +kernel) rfl
theorem mkX10_174 : Cond.constantLong RX10 174 (131360) ∈ TB := tb_in 1017 (by decide +kernel) rfl
theorem mkX10_206 : Cond.constant RX10 206 (10000000) ∈ TB := tb_in 1058 (by decide +kernel) rfl
theorem mkL_13 : Cond.constantLong RL 13 (4294967295) ∈ TB := tb_in 1233 (by decide +kernel) rfl
theorem mi_L : Cond.initialized RL ∈ TB := tb_in 59 (by decide +kernel) rfl
theorem mi_X9 : Cond.initialized RX9 ∈ TB := tb_in 60 (by decide +kernel) rfl
theorem mi_X8 : Cond.initialized RX8 ∈ TB := tb_in 61 (by decide +kernel) rfl
theorem mi_X3 : Cond.initialized RX3 ∈ TB := tb_in 62 (by decide +kernel) rfl
theorem mi_X2 : Cond.initialized RX2 ∈ TB := tb_in 63 (by decide +kernel) rfl
theorem mi_X4 : Cond.initialized RX4 ∈ TB := tb_in 64 (by decide +kernel) rfl
theorem mi_X1 : Cond.initialized RX1 ∈ TB := tb_in 65 (by decide +kernel) rfl
theorem mi_X0 : Cond.initialized RX0 ∈ TB := tb_in 66 (by decide +kernel) rfl
theorem mi_X5 : Cond.initialized RX5 ∈ TB := tb_in 67 (by decide +kernel) rfl
theorem mi_X7 : Cond.initialized RX7 ∈ TB := tb_in 68 (by decide +kernel) rfl
theorem mi_X6 : Cond.initialized RX6 ∈ TB := tb_in 69 (by decide +kernel) rfl
theorem mi_X10 : Cond.initialized RX10 ∈ TB := tb_in 70 (by decide +kernel) rfl
theorem mi_J10 : Cond.initialized RJ10 ∈ TB := tb_in 71 (by decide +kernel) rfl
theorem mi_J9 : Cond.initialized RJ9 ∈ TB := tb_in 72 (by decide +kernel) rfl
theorem mi_J0 : Cond.initialized RJ0 ∈ TB := tb_in 73 (by decide +kernel) rfl
theorem mi_J1 : Cond.initialized RJ1 ∈ TB := tb_in 74 (by decide +kernel) rfl
theorem mi_J3 : Cond.initialized RJ3 ∈ TB := tb_in 75 (by decide +kernel) rfl
theorem mi_J2 : Cond.initialized RJ2 ∈ TB := tb_in 76 (by decide +kernel) rfl
theorem mi_J6 : Cond.initialized RJ6 ∈ TB := tb_in 77 (by decide +kernel) rfl
theorem mc_X3_begin : Cond.code yX3_begin cX3_begin 3 (none) ∈ TB := tb_in 367 (by decide +kernel) rfl
theorem mn_X3_begin : Cond.instanceMethod yX3_begin ∈ TB := tb_in 365 (by decide +kernel) rfl
theorem ms_X3_begin : Cond.selects RX3 yX3_begin yX3_begin ∈ TB := tb_in 366 (by decide +kernel) rfl
theorem pd_X3_begin : yX3_begin.cls = RX3 ∧ yX3_begin.cls ≠ "java/lang/invoke/MethodHandle" ∧ yX3_begin.cls ≠ "java/lang/invoke/VarHandle" ∧ (parseMethodDescriptor yX3_begin.desc).map (fun d => d.parameters.length) = some 1 := by decide +kernel
theorem mc_X9_write : Cond.code yX9_write cX9_write 5 (some .int) ∈ TB := tb_in 414 (by decide +kernel) rfl
theorem mn_X9_write : Cond.instanceMethod yX9_write ∈ TB := tb_in 412 (by decide +kernel) rfl
theorem ms_X9_write : Cond.selects RX9 yX9_write yX9_write ∈ TB := tb_in 413 (by decide +kernel) rfl
theorem pd_X9_write : yX9_write.cls = RX9 ∧ yX9_write.cls ≠ "java/lang/invoke/MethodHandle" ∧ yX9_write.cls ≠ "java/lang/invoke/VarHandle" ∧ (parseMethodDescriptor yX9_write.desc).map (fun d => d.parameters.length) = some 2 := by decide +kernel
theorem mc_X8_append : Cond.code yX8_append cX8_append 2 (none) ∈ TB := tb_in 419 (by decide +kernel) rfl
theorem mn_X8_append : Cond.instanceMethod yX8_append ∈ TB := tb_in 417 (by decide +kernel) rfl
theorem ms_X8_append : Cond.selects RX8 yX8_append yX8_append ∈ TB := tb_in 418 (by decide +kernel) rfl
theorem pd_X8_append : yX8_append.cls = RX8 ∧ yX8_append.cls ≠ "java/lang/invoke/MethodHandle" ∧ yX8_append.cls ≠ "java/lang/invoke/VarHandle" ∧ (parseMethodDescriptor yX8_append.desc).map (fun d => d.parameters.length) = some 1 := by decide +kernel
theorem mc_X9_erase : Cond.code yX9_erase cX9_erase 2 (some .int) ∈ TB := tb_in 423 (by decide +kernel) rfl
theorem mn_X9_erase : Cond.instanceMethod yX9_erase ∈ TB := tb_in 421 (by decide +kernel) rfl
theorem ms_X9_erase : Cond.selects RX9 yX9_erase yX9_erase ∈ TB := tb_in 422 (by decide +kernel) rfl
theorem pd_X9_erase : yX9_erase.cls = RX9 ∧ yX9_erase.cls ≠ "java/lang/invoke/MethodHandle" ∧ yX9_erase.cls ≠ "java/lang/invoke/VarHandle" ∧ (parseMethodDescriptor yX9_erase.desc).map (fun d => d.parameters.length) = some 0 := by decide +kernel
theorem mc_X9_fault : Cond.code yX9_fault cX9_fault 1 (some .int) ∈ TB := tb_in 427 (by decide +kernel) rfl
theorem mn_X9_fault : Cond.instanceMethod yX9_fault ∈ TB := tb_in 425 (by decide +kernel) rfl
theorem ms_X9_fault : Cond.selects RX9 yX9_fault yX9_fault ∈ TB := tb_in 426 (by decide +kernel) rfl
theorem pd_X9_fault : yX9_fault.cls = RX9 ∧ yX9_fault.cls ≠ "java/lang/invoke/MethodHandle" ∧ yX9_fault.cls ≠ "java/lang/invoke/VarHandle" ∧ (parseMethodDescriptor yX9_fault.desc).map (fun d => d.parameters.length) = some 0 := by decide +kernel
theorem mc_X4_readFrom : Cond.code yX4_readFrom cX4_readFrom 2 (some .int) ∈ TB := tb_in 431 (by decide +kernel) rfl
theorem mn_X4_readFrom : Cond.instanceMethod yX4_readFrom ∈ TB := tb_in 429 (by decide +kernel) rfl
theorem ms_X4_readFrom : Cond.selects RX4 yX4_readFrom yX4_readFrom ∈ TB := tb_in 430 (by decide +kernel) rfl
theorem pd_X4_readFrom : yX4_readFrom.cls = RX4 ∧ yX4_readFrom.cls ≠ "java/lang/invoke/MethodHandle" ∧ yX4_readFrom.cls ≠ "java/lang/invoke/VarHandle" ∧ (parseMethodDescriptor yX4_readFrom.desc).map (fun d => d.parameters.length) = some 1 := by decide +kernel
theorem mc_X3_become : Cond.code yX3_become cX3_become 2 (none) ∈ TB := tb_in 435 (by decide +kernel) rfl
theorem mn_X3_become : Cond.instanceMethod yX3_become ∈ TB := tb_in 433 (by decide +kernel) rfl
theorem ms_X3_become : Cond.selects RX3 yX3_become yX3_become ∈ TB := tb_in 434 (by decide +kernel) rfl
theorem pd_X3_become : yX3_become.cls = RX3 ∧ yX3_become.cls ≠ "java/lang/invoke/MethodHandle" ∧ yX3_become.cls ≠ "java/lang/invoke/VarHandle" ∧ (parseMethodDescriptor yX3_become.desc).map (fun d => d.parameters.length) = some 1 := by decide +kernel
theorem mc_X2_become : Cond.code yX2_become cX2_become 2 (none) ∈ TB := tb_in 442 (by decide +kernel) rfl
theorem mn_X2_become : Cond.instanceMethod yX2_become ∈ TB := tb_in 440 (by decide +kernel) rfl
theorem ms_X2_become : Cond.selects RX2 yX2_become yX2_become ∈ TB := tb_in 441 (by decide +kernel) rfl
theorem pd_X2_become : yX2_become.cls = RX2 ∧ yX2_become.cls ≠ "java/lang/invoke/MethodHandle" ∧ yX2_become.cls ≠ "java/lang/invoke/VarHandle" ∧ (parseMethodDescriptor yX2_become.desc).map (fun d => d.parameters.length) = some 1 := by decide +kernel
theorem mc_X4_takeToken : Cond.code yX4_takeToken cX4_takeToken 1 (none) ∈ TB := tb_in 447 (by decide +kernel) rfl
theorem mn_X4_takeToken : Cond.instanceMethod yX4_takeToken ∈ TB := tb_in 446 (by decide +kernel) rfl
theorem ms_X4_takeToken : Cond.selects RX4 yX4_takeToken yX4_takeToken ∈ TB := tb_in 0 (by decide +kernel) rfl
theorem pd_X4_takeToken : yX4_takeToken.cls = RX4 ∧ yX4_takeToken.cls ≠ "java/lang/invoke/MethodHandle" ∧ yX4_takeToken.cls ≠ "java/lang/invoke/VarHandle" ∧ (parseMethodDescriptor yX4_takeToken.desc).map (fun d => d.parameters.length) = some 0 := by decide +kernel
theorem mc_X8_signAt : Cond.code yX8_signAt cX8_signAt 2 (some .int) ∈ TB := tb_in 451 (by decide +kernel) rfl
theorem mn_X8_signAt : Cond.instanceMethod yX8_signAt ∈ TB := tb_in 449 (by decide +kernel) rfl
theorem ms_X8_signAt : Cond.selects RX8 yX8_signAt yX8_signAt ∈ TB := tb_in 450 (by decide +kernel) rfl
theorem pd_X8_signAt : yX8_signAt.cls = RX8 ∧ yX8_signAt.cls ≠ "java/lang/invoke/MethodHandle" ∧ yX8_signAt.cls ≠ "java/lang/invoke/VarHandle" ∧ (parseMethodDescriptor yX8_signAt.desc).map (fun d => d.parameters.length) = some 1 := by decide +kernel
theorem mc_X4_formOf : Cond.code yX4_formOf cX4_formOf 1 (some .int) ∈ TB := tb_in 454 (by decide +kernel) rfl
theorem mt_X4_formOf : Cond.static yX4_formOf ∈ TB := tb_in 453 (by decide +kernel) rfl
theorem pd_X4_formOf : yX4_formOf.cls ≠ "java/lang/invoke/MethodHandle" ∧ yX4_formOf.cls ≠ "java/lang/invoke/VarHandle" ∧ (parseMethodDescriptor yX4_formOf.desc).map (fun d => d.parameters.length) = some 1 := by decide +kernel
theorem mc_Lib_Math_min_name : Cond.code Lib.Math.min.name cJ9_min_7cf53 2 (some .int) ∈ TB := tb_in 457 (by decide +kernel) rfl
theorem mt_Lib_Math_min_name : Cond.static Lib.Math.min.name ∈ TB := tb_in 456 (by decide +kernel) rfl
theorem pd_Lib_Math_min_name : Lib.Math.min.name.cls ≠ "java/lang/invoke/MethodHandle" ∧ Lib.Math.min.name.cls ≠ "java/lang/invoke/VarHandle" ∧ (parseMethodDescriptor Lib.Math.min.name.desc).map (fun d => d.parameters.length) = some 2 := by decide +kernel
theorem mc_X4_readLine : Cond.code yX4_readLine cX4_readLine 2 (some .boolean) ∈ TB := tb_in 461 (by decide +kernel) rfl
theorem mn_X4_readLine : Cond.instanceMethod yX4_readLine ∈ TB := tb_in 460 (by decide +kernel) rfl
theorem ms_X4_readLine : Cond.selects RX4 yX4_readLine yX4_readLine ∈ TB := tb_in 1 (by decide +kernel) rfl
theorem pd_X4_readLine : yX4_readLine.cls = RX4 ∧ yX4_readLine.cls ≠ "java/lang/invoke/MethodHandle" ∧ yX4_readLine.cls ≠ "java/lang/invoke/VarHandle" ∧ (parseMethodDescriptor yX4_readLine.desc).map (fun d => d.parameters.length) = some 0 := by decide +kernel
theorem mc_X4_wordInHand : Cond.code yX4_wordInHand cX4_wordInHand 2 (some .int) ∈ TB := tb_in 465 (by decide +kernel) rfl
theorem mn_X4_wordInHand : Cond.instanceMethod yX4_wordInHand ∈ TB := tb_in 464 (by decide +kernel) rfl
theorem ms_X4_wordInHand : Cond.selects RX4 yX4_wordInHand yX4_wordInHand ∈ TB := tb_in 2 (by decide +kernel) rfl
theorem pd_X4_wordInHand : yX4_wordInHand.cls = RX4 ∧ yX4_wordInHand.cls ≠ "java/lang/invoke/MethodHandle" ∧ yX4_wordInHand.cls ≠ "java/lang/invoke/VarHandle" ∧ (parseMethodDescriptor yX4_wordInHand.desc).map (fun d => d.parameters.length) = some 0 := by decide +kernel
theorem mc_X4_spelling : Cond.code yX4_spelling cX4_spelling 1 (some (.object "java/lang/String")) ∈ TB := tb_in 468 (by decide +kernel) rfl
theorem mt_X4_spelling : Cond.static yX4_spelling ∈ TB := tb_in 467 (by decide +kernel) rfl
theorem pd_X4_spelling : yX4_spelling.cls ≠ "java/lang/invoke/MethodHandle" ∧ yX4_spelling.cls ≠ "java/lang/invoke/VarHandle" ∧ (parseMethodDescriptor yX4_spelling.desc).map (fun d => d.parameters.length) = some 1 := by decide +kernel
theorem mc_X4_isInHand : Cond.code yX4_isInHand cX4_isInHand 3 (some .boolean) ∈ TB := tb_in 486 (by decide +kernel) rfl
theorem mn_X4_isInHand : Cond.instanceMethod yX4_isInHand ∈ TB := tb_in 485 (by decide +kernel) rfl
theorem ms_X4_isInHand : Cond.selects RX4 yX4_isInHand yX4_isInHand ∈ TB := tb_in 3 (by decide +kernel) rfl
theorem pd_X4_isInHand : yX4_isInHand.cls = RX4 ∧ yX4_isInHand.cls ≠ "java/lang/invoke/MethodHandle" ∧ yX4_isInHand.cls ≠ "java/lang/invoke/VarHandle" ∧ (parseMethodDescriptor yX4_isInHand.desc).map (fun d => d.parameters.length) = some 1 := by decide +kernel
theorem mc_J0_length_8abf5 : Cond.code yJ0_length_8abf5 cJ0_length_8abf5 1 (some .int) ∈ TB := tb_in 490 (by decide +kernel) rfl
theorem mn_J0_length_8abf5 : Cond.instanceMethod yJ0_length_8abf5 ∈ TB := tb_in 488 (by decide +kernel) rfl
theorem ms_J0_length_8abf5 : Cond.selects RJ0 yJ0_length_8abf5 yJ0_length_8abf5 ∈ TB := tb_in 489 (by decide +kernel) rfl
theorem pd_J0_length_8abf5 : yJ0_length_8abf5.cls = RJ0 ∧ yJ0_length_8abf5.cls ≠ "java/lang/invoke/MethodHandle" ∧ yJ0_length_8abf5.cls ≠ "java/lang/invoke/VarHandle" ∧ (parseMethodDescriptor yJ0_length_8abf5.desc).map (fun d => d.parameters.length) = some 0 := by decide +kernel
theorem mc_J0_coder_7d493 : Cond.code yJ0_coder_7d493 cJ0_coder_7d493 1 (some .byte) ∈ TB := tb_in 494 (by decide +kernel) rfl
theorem mn_J0_coder_7d493 : Cond.instanceMethod yJ0_coder_7d493 ∈ TB := tb_in 492 (by decide +kernel) rfl
theorem ms_J0_coder_7d493 : Cond.selects RJ0 yJ0_coder_7d493 yJ0_coder_7d493 ∈ TB := tb_in 493 (by decide +kernel) rfl
theorem pd_J0_coder_7d493 : yJ0_coder_7d493.cls = RJ0 ∧ yJ0_coder_7d493.cls ≠ "java/lang/invoke/MethodHandle" ∧ yJ0_coder_7d493.cls ≠ "java/lang/invoke/VarHandle" ∧ (parseMethodDescriptor yJ0_coder_7d493.desc).map (fun d => d.parameters.length) = some 0 := by decide +kernel
theorem mc_J0_charAt_5068e : Cond.code yJ0_charAt_5068e cJ0_charAt_5068e 2 (some .char) ∈ TB := tb_in 500 (by decide +kernel) rfl
theorem mn_J0_charAt_5068e : Cond.instanceMethod yJ0_charAt_5068e ∈ TB := tb_in 498 (by decide +kernel) rfl
theorem ms_J0_charAt_5068e : Cond.selects RJ0 yJ0_charAt_5068e yJ0_charAt_5068e ∈ TB := tb_in 499 (by decide +kernel) rfl
theorem pd_J0_charAt_5068e : yJ0_charAt_5068e.cls = RJ0 ∧ yJ0_charAt_5068e.cls ≠ "java/lang/invoke/MethodHandle" ∧ yJ0_charAt_5068e.cls ≠ "java/lang/invoke/VarHandle" ∧ (parseMethodDescriptor yJ0_charAt_5068e.desc).map (fun d => d.parameters.length) = some 1 := by decide +kernel
theorem mc_J0_isLatin1_aae02 : Cond.code yJ0_isLatin1_aae02 cJ0_isLatin1_aae02 1 (some .boolean) ∈ TB := tb_in 504 (by decide +kernel) rfl
theorem mn_J0_isLatin1_aae02 : Cond.instanceMethod yJ0_isLatin1_aae02 ∈ TB := tb_in 502 (by decide +kernel) rfl
theorem ms_J0_isLatin1_aae02 : Cond.selects RJ0 yJ0_isLatin1_aae02 yJ0_isLatin1_aae02 ∈ TB := tb_in 503 (by decide +kernel) rfl
theorem pd_J0_isLatin1_aae02 : yJ0_isLatin1_aae02.cls = RJ0 ∧ yJ0_isLatin1_aae02.cls ≠ "java/lang/invoke/MethodHandle" ∧ yJ0_isLatin1_aae02.cls ≠ "java/lang/invoke/VarHandle" ∧ (parseMethodDescriptor yJ0_isLatin1_aae02.desc).map (fun d => d.parameters.length) = some 0 := by decide +kernel
theorem mc_J1_charAt_3b067 : Cond.code yJ1_charAt_3b067 cJ1_charAt_3b067 2 (some .char) ∈ TB := tb_in 507 (by decide +kernel) rfl
theorem mt_J1_charAt_3b067 : Cond.static yJ1_charAt_3b067 ∈ TB := tb_in 506 (by decide +kernel) rfl
theorem pd_J1_charAt_3b067 : yJ1_charAt_3b067.cls ≠ "java/lang/invoke/MethodHandle" ∧ yJ1_charAt_3b067.cls ≠ "java/lang/invoke/VarHandle" ∧ (parseMethodDescriptor yJ1_charAt_3b067.desc).map (fun d => d.parameters.length) = some 2 := by decide +kernel
theorem mc_J0_checkIndex_df160 : Cond.code yJ0_checkIndex_df160 cJ0_checkIndex_df160 2 (none) ∈ TB := tb_in 510 (by decide +kernel) rfl
theorem mt_J0_checkIndex_df160 : Cond.static yJ0_checkIndex_df160 ∈ TB := tb_in 509 (by decide +kernel) rfl
theorem pd_J0_checkIndex_df160 : yJ0_checkIndex_df160.cls ≠ "java/lang/invoke/MethodHandle" ∧ yJ0_checkIndex_df160.cls ≠ "java/lang/invoke/VarHandle" ∧ (parseMethodDescriptor yJ0_checkIndex_df160.desc).map (fun d => d.parameters.length) = some 2 := by decide +kernel
theorem mc_J3_checkIndex_8e157 : Cond.code yJ3_checkIndex_8e157 cJ3_checkIndex_8e157 3 (some .int) ∈ TB := tb_in 515 (by decide +kernel) rfl
theorem mt_J3_checkIndex_8e157 : Cond.static yJ3_checkIndex_8e157 ∈ TB := tb_in 514 (by decide +kernel) rfl
theorem pd_J3_checkIndex_8e157 : yJ3_checkIndex_8e157.cls ≠ "java/lang/invoke/MethodHandle" ∧ yJ3_checkIndex_8e157.cls ≠ "java/lang/invoke/VarHandle" ∧ (parseMethodDescriptor yJ3_checkIndex_8e157.desc).map (fun d => d.parameters.length) = some 3 := by decide +kernel
theorem mc_J2_charAt_3b067 : Cond.code yJ2_charAt_3b067 cJ2_charAt_3b067 2 (some .char) ∈ TB := tb_in 518 (by decide +kernel) rfl
theorem mt_J2_charAt_3b067 : Cond.static yJ2_charAt_3b067 ∈ TB := tb_in 517 (by decide +kernel) rfl
theorem pd_J2_charAt_3b067 : yJ2_charAt_3b067.cls ≠ "java/lang/invoke/MethodHandle" ∧ yJ2_charAt_3b067.cls ≠ "java/lang/invoke/VarHandle" ∧ (parseMethodDescriptor yJ2_charAt_3b067.desc).map (fun d => d.parameters.length) = some 2 := by decide +kernel
theorem mc_J2_checkIndex_2214a : Cond.code yJ2_checkIndex_2214a cJ2_checkIndex_2214a 2 (none) ∈ TB := tb_in 521 (by decide +kernel) rfl
theorem mt_J2_checkIndex_2214a : Cond.static yJ2_checkIndex_2214a ∈ TB := tb_in 520 (by decide +kernel) rfl
theorem pd_J2_checkIndex_2214a : yJ2_checkIndex_2214a.cls ≠ "java/lang/invoke/MethodHandle" ∧ yJ2_checkIndex_2214a.cls ≠ "java/lang/invoke/VarHandle" ∧ (parseMethodDescriptor yJ2_checkIndex_2214a.desc).map (fun d => d.parameters.length) = some 2 := by decide +kernel
theorem mc_J2_length_9d52b : Cond.code yJ2_length_9d52b cJ2_length_9d52b 1 (some .int) ∈ TB := tb_in 524 (by decide +kernel) rfl
theorem mt_J2_length_9d52b : Cond.static yJ2_length_9d52b ∈ TB := tb_in 523 (by decide +kernel) rfl
theorem pd_J2_length_9d52b : yJ2_length_9d52b.cls ≠ "java/lang/invoke/MethodHandle" ∧ yJ2_length_9d52b.cls ≠ "java/lang/invoke/VarHandle" ∧ (parseMethodDescriptor yJ2_length_9d52b.desc).map (fun d => d.parameters.length) = some 1 := by decide +kernel
theorem mc_J2_getChar_3b067 : Cond.code yJ2_getChar_3b067 cJ2_getChar_3b067 2 (some .char) ∈ TB := tb_in 528 (by decide +kernel) rfl
theorem mt_J2_getChar_3b067 : Cond.static yJ2_getChar_3b067 ∈ TB := tb_in 527 (by decide +kernel) rfl
theorem pd_J2_getChar_3b067 : yJ2_getChar_3b067.cls ≠ "java/lang/invoke/MethodHandle" ∧ yJ2_getChar_3b067.cls ≠ "java/lang/invoke/VarHandle" ∧ (parseMethodDescriptor yJ2_getChar_3b067.desc).map (fun d => d.parameters.length) = some 2 := by decide +kernel
theorem mc_X4_readLeague : Cond.code yX4_readLeague cX4_readLeague 1 (some .boolean) ∈ TB := tb_in 538 (by decide +kernel) rfl
theorem mn_X4_readLeague : Cond.instanceMethod yX4_readLeague ∈ TB := tb_in 537 (by decide +kernel) rfl
theorem ms_X4_readLeague : Cond.selects RX4 yX4_readLeague yX4_readLeague ∈ TB := tb_in 4 (by decide +kernel) rfl
theorem pd_X4_readLeague : yX4_readLeague.cls = RX4 ∧ yX4_readLeague.cls ≠ "java/lang/invoke/MethodHandle" ∧ yX4_readLeague.cls ≠ "java/lang/invoke/VarHandle" ∧ (parseMethodDescriptor yX4_readLeague.desc).map (fun d => d.parameters.length) = some 0 := by decide +kernel
theorem mc_X4_readNumber : Cond.code yX4_readNumber cX4_readNumber 6 (some .boolean) ∈ TB := tb_in 542 (by decide +kernel) rfl
theorem mn_X4_readNumber : Cond.instanceMethod yX4_readNumber ∈ TB := tb_in 541 (by decide +kernel) rfl
theorem ms_X4_readNumber : Cond.selects RX4 yX4_readNumber yX4_readNumber ∈ TB := tb_in 5 (by decide +kernel) rfl
theorem pd_X4_readNumber : yX4_readNumber.cls = RX4 ∧ yX4_readNumber.cls ≠ "java/lang/invoke/MethodHandle" ∧ yX4_readNumber.cls ≠ "java/lang/invoke/VarHandle" ∧ (parseMethodDescriptor yX4_readNumber.desc).map (fun d => d.parameters.length) = some 3 := by decide +kernel
theorem mc_X4_readTown : Cond.code yX4_readTown cX4_readTown 1 (some .boolean) ∈ TB := tb_in 547 (by decide +kernel) rfl
theorem mn_X4_readTown : Cond.instanceMethod yX4_readTown ∈ TB := tb_in 546 (by decide +kernel) rfl
theorem ms_X4_readTown : Cond.selects RX4 yX4_readTown yX4_readTown ∈ TB := tb_in 6 (by decide +kernel) rfl
theorem pd_X4_readTown : yX4_readTown.cls = RX4 ∧ yX4_readTown.cls ≠ "java/lang/invoke/MethodHandle" ∧ yX4_readTown.cls ≠ "java/lang/invoke/VarHandle" ∧ (parseMethodDescriptor yX4_readTown.desc).map (fun d => d.parameters.length) = some 0 := by decide +kernel
theorem mc_X4_readWant : Cond.code yX4_readWant cX4_readWant 1 (some .boolean) ∈ TB := tb_in 551 (by decide +kernel) rfl
theorem mn_X4_readWant : Cond.instanceMethod yX4_readWant ∈ TB := tb_in 550 (by decide +kernel) rfl
theorem ms_X4_readWant : Cond.selects RX4 yX4_readWant yX4_readWant ∈ TB := tb_in 7 (by decide +kernel) rfl
theorem pd_X4_readWant : yX4_readWant.cls = RX4 ∧ yX4_readWant.cls ≠ "java/lang/invoke/MethodHandle" ∧ yX4_readWant.cls ≠ "java/lang/invoke/VarHandle" ∧ (parseMethodDescriptor yX4_readWant.desc).map (fun d => d.parameters.length) = some 0 := by decide +kernel
theorem mc_X4_readNext : Cond.code yX4_readNext cX4_readNext 2 (some .boolean) ∈ TB := tb_in 555 (by decide +kernel) rfl
theorem mn_X4_readNext : Cond.instanceMethod yX4_readNext ∈ TB := tb_in 554 (by decide +kernel) rfl
theorem ms_X4_readNext : Cond.selects RX4 yX4_readNext yX4_readNext ∈ TB := tb_in 8 (by decide +kernel) rfl
theorem pd_X4_readNext : yX4_readNext.cls = RX4 ∧ yX4_readNext.cls ≠ "java/lang/invoke/MethodHandle" ∧ yX4_readNext.cls ≠ "java/lang/invoke/VarHandle" ∧ (parseMethodDescriptor yX4_readNext.desc).map (fun d => d.parameters.length) = some 0 := by decide +kernel
theorem mc_X4_readSlack : Cond.code yX4_readSlack cX4_readSlack 1 (some .boolean) ∈ TB := tb_in 559 (by decide +kernel) rfl
theorem mn_X4_readSlack : Cond.instanceMethod yX4_readSlack ∈ TB := tb_in 558 (by decide +kernel) rfl
theorem ms_X4_readSlack : Cond.selects RX4 yX4_readSlack yX4_readSlack ∈ TB := tb_in 9 (by decide +kernel) rfl
theorem pd_X4_readSlack : yX4_readSlack.cls = RX4 ∧ yX4_readSlack.cls ≠ "java/lang/invoke/MethodHandle" ∧ yX4_readSlack.cls ≠ "java/lang/invoke/VarHandle" ∧ (parseMethodDescriptor yX4_readSlack.desc).map (fun d => d.parameters.length) = some 0 := by decide +kernel
theorem mc_X4_readBoy : Cond.code yX4_readBoy cX4_readBoy 2 (some .boolean) ∈ TB := tb_in 563 (by decide +kernel) rfl
theorem mn_X4_readBoy : Cond.instanceMethod yX4_readBoy ∈ TB := tb_in 562 (by decide +kernel) rfl
theorem ms_X4_readBoy : Cond.selects RX4 yX4_readBoy yX4_readBoy ∈ TB := tb_in 10 (by decide +kernel) rfl
theorem pd_X4_readBoy : yX4_readBoy.cls = RX4 ∧ yX4_readBoy.cls ≠ "java/lang/invoke/MethodHandle" ∧ yX4_readBoy.cls ≠ "java/lang/invoke/VarHandle" ∧ (parseMethodDescriptor yX4_readBoy.desc).map (fun d => d.parameters.length) = some 1 := by decide +kernel
theorem mc_X3_addBoy : Cond.code yX3_addBoy cX3_addBoy 4 (none) ∈ TB := tb_in 567 (by decide +kernel) rfl
theorem mn_X3_addBoy : Cond.instanceMethod yX3_addBoy ∈ TB := tb_in 565 (by decide +kernel) rfl
theorem ms_X3_addBoy : Cond.selects RX3 yX3_addBoy yX3_addBoy ∈ TB := tb_in 566 (by decide +kernel) rfl
theorem pd_X3_addBoy : yX3_addBoy.cls = RX3 ∧ yX3_addBoy.cls ≠ "java/lang/invoke/MethodHandle" ∧ yX3_addBoy.cls ≠ "java/lang/invoke/VarHandle" ∧ (parseMethodDescriptor yX3_addBoy.desc).map (fun d => d.parameters.length) = some 2 := by decide +kernel
theorem mc_X9_league : Cond.code yX9_league cX9_league 1 (some .int) ∈ TB := tb_in 571 (by decide +kernel) rfl
theorem mn_X9_league : Cond.instanceMethod yX9_league ∈ TB := tb_in 569 (by decide +kernel) rfl
theorem ms_X9_league : Cond.selects RX9 yX9_league yX9_league ∈ TB := tb_in 570 (by decide +kernel) rfl
theorem pd_X9_league : yX9_league.cls = RX9 ∧ yX9_league.cls ≠ "java/lang/invoke/MethodHandle" ∧ yX9_league.cls ≠ "java/lang/invoke/VarHandle" ∧ (parseMethodDescriptor yX9_league.desc).map (fun d => d.parameters.length) = some 0 := by decide +kernel
theorem mc_X9_beginAsTold : Cond.code yX9_beginAsTold cX9_beginAsTold 2 (none) ∈ TB := tb_in 576 (by decide +kernel) rfl
theorem mn_X9_beginAsTold : Cond.instanceMethod yX9_beginAsTold ∈ TB := tb_in 575 (by decide +kernel) rfl
theorem ms_X9_beginAsTold : Cond.selects RX9 yX9_beginAsTold yX9_beginAsTold ∈ TB := tb_in 11 (by decide +kernel) rfl
theorem pd_X9_beginAsTold : yX9_beginAsTold.cls = RX9 ∧ yX9_beginAsTold.cls ≠ "java/lang/invoke/MethodHandle" ∧ yX9_beginAsTold.cls ≠ "java/lang/invoke/VarHandle" ∧ (parseMethodDescriptor yX9_beginAsTold.desc).map (fun d => d.parameters.length) = some 0 := by decide +kernel
theorem mc_X9_town : Cond.code yX9_town cX9_town 3 (some .int) ∈ TB := tb_in 581 (by decide +kernel) rfl
theorem mn_X9_town : Cond.instanceMethod yX9_town ∈ TB := tb_in 579 (by decide +kernel) rfl
theorem ms_X9_town : Cond.selects RX9 yX9_town yX9_town ∈ TB := tb_in 580 (by decide +kernel) rfl
theorem pd_X9_town : yX9_town.cls = RX9 ∧ yX9_town.cls ≠ "java/lang/invoke/MethodHandle" ∧ yX9_town.cls ≠ "java/lang/invoke/VarHandle" ∧ (parseMethodDescriptor yX9_town.desc).map (fun d => d.parameters.length) = some 2 := by decide +kernel
theorem mc_X9_isNoTown : Cond.code yX9_isNoTown cX9_isNoTown 2 (some .boolean) ∈ TB := tb_in 585 (by decide +kernel) rfl
theorem mn_X9_isNoTown : Cond.instanceMethod yX9_isNoTown ∈ TB := tb_in 584 (by decide +kernel) rfl
theorem ms_X9_isNoTown : Cond.selects RX9 yX9_isNoTown yX9_isNoTown ∈ TB := tb_in 12 (by decide +kernel) rfl
theorem pd_X9_isNoTown : yX9_isNoTown.cls = RX9 ∧ yX9_isNoTown.cls ≠ "java/lang/invoke/MethodHandle" ∧ yX9_isNoTown.cls ≠ "java/lang/invoke/VarHandle" ∧ (parseMethodDescriptor yX9_isNoTown.desc).map (fun d => d.parameters.length) = some 1 := by decide +kernel
theorem mc_X9_isNotIn : Cond.code yX9_isNotIn cX9_isNotIn 3 (some .boolean) ∈ TB := tb_in 588 (by decide +kernel) rfl
theorem mt_X9_isNotIn : Cond.static yX9_isNotIn ∈ TB := tb_in 587 (by decide +kernel) rfl
theorem pd_X9_isNotIn : yX9_isNotIn.cls ≠ "java/lang/invoke/MethodHandle" ∧ yX9_isNotIn.cls ≠ "java/lang/invoke/VarHandle" ∧ (parseMethodDescriptor yX9_isNotIn.desc).map (fun d => d.parameters.length) = some 3 := by decide +kernel
theorem mc_X2_boysIn : Cond.code yX2_boysIn cX2_boysIn 4 (some .int) ∈ TB := tb_in 593 (by decide +kernel) rfl
theorem mn_X2_boysIn : Cond.instanceMethod yX2_boysIn ∈ TB := tb_in 591 (by decide +kernel) rfl
theorem ms_X2_boysIn : Cond.selects RX2 yX2_boysIn yX2_boysIn ∈ TB := tb_in 592 (by decide +kernel) rfl
theorem pd_X2_boysIn : yX2_boysIn.cls = RX2 ∧ yX2_boysIn.cls ≠ "java/lang/invoke/MethodHandle" ∧ yX2_boysIn.cls ≠ "java/lang/invoke/VarHandle" ∧ (parseMethodDescriptor yX2_boysIn.desc).map (fun d => d.parameters.length) = some 1 := by decide +kernel
theorem mc_X9_boy : Cond.code yX9_boy cX9_boy 3 (some .int) ∈ TB := tb_in 597 (by decide +kernel) rfl
theorem mn_X9_boy : Cond.instanceMethod yX9_boy ∈ TB := tb_in 595 (by decide +kernel) rfl
theorem ms_X9_boy : Cond.selects RX9 yX9_boy yX9_boy ∈ TB := tb_in 596 (by decide +kernel) rfl
theorem pd_X9_boy : yX9_boy.cls = RX9 ∧ yX9_boy.cls ≠ "java/lang/invoke/MethodHandle" ∧ yX9_boy.cls ≠ "java/lang/invoke/VarHandle" ∧ (parseMethodDescriptor yX9_boy.desc).map (fun d => d.parameters.length) = some 2 := by decide +kernel
theorem mc_X9_isNoBoy : Cond.code yX9_isNoBoy cX9_isNoBoy 2 (some .boolean) ∈ TB := tb_in 601 (by decide +kernel) rfl
theorem mn_X9_isNoBoy : Cond.instanceMethod yX9_isNoBoy ∈ TB := tb_in 600 (by decide +kernel) rfl
theorem ms_X9_isNoBoy : Cond.selects RX9 yX9_isNoBoy yX9_isNoBoy ∈ TB := tb_in 13 (by decide +kernel) rfl
theorem pd_X9_isNoBoy : yX9_isNoBoy.cls = RX9 ∧ yX9_isNoBoy.cls ≠ "java/lang/invoke/MethodHandle" ∧ yX9_isNoBoy.cls ≠ "java/lang/invoke/VarHandle" ∧ (parseMethodDescriptor yX9_isNoBoy.desc).map (fun d => d.parameters.length) = some 1 := by decide +kernel
theorem mc_X2_worth : Cond.code yX2_worth cX2_worth 3 (some .int) ∈ TB := tb_in 605 (by decide +kernel) rfl
theorem mn_X2_worth : Cond.instanceMethod yX2_worth ∈ TB := tb_in 603 (by decide +kernel) rfl
theorem ms_X2_worth : Cond.selects RX2 yX2_worth yX2_worth ∈ TB := tb_in 604 (by decide +kernel) rfl
theorem pd_X2_worth : yX2_worth.cls = RX2 ∧ yX2_worth.cls ≠ "java/lang/invoke/MethodHandle" ∧ yX2_worth.cls ≠ "java/lang/invoke/VarHandle" ∧ (parseMethodDescriptor yX2_worth.desc).map (fun d => d.parameters.length) = some 2 := by decide +kernel
theorem mc_X2_pounds : Cond.code yX2_pounds cX2_pounds 2 (some .int) ∈ TB := tb_in 609 (by decide +kernel) rfl
theorem mn_X2_pounds : Cond.instanceMethod yX2_pounds ∈ TB := tb_in 607 (by decide +kernel) rfl
theorem ms_X2_pounds : Cond.selects RX2 yX2_pounds yX2_pounds ∈ TB := tb_in 608 (by decide +kernel) rfl
theorem pd_X2_pounds : yX2_pounds.cls = RX2 ∧ yX2_pounds.cls ≠ "java/lang/invoke/MethodHandle" ∧ yX2_pounds.cls ≠ "java/lang/invoke/VarHandle" ∧ (parseMethodDescriptor yX2_pounds.desc).map (fun d => d.parameters.length) = some 1 := by decide +kernel
theorem mc_X9_poundsOf : Cond.code yX9_poundsOf cX9_poundsOf 2 (some .int) ∈ TB := tb_in 612 (by decide +kernel) rfl
theorem mt_X9_poundsOf : Cond.static yX9_poundsOf ∈ TB := tb_in 611 (by decide +kernel) rfl
theorem pd_X9_poundsOf : yX9_poundsOf.cls ≠ "java/lang/invoke/MethodHandle" ∧ yX9_poundsOf.cls ≠ "java/lang/invoke/VarHandle" ∧ (parseMethodDescriptor yX9_poundsOf.desc).map (fun d => d.parameters.length) = some 2 := by decide +kernel
theorem mc_X9_as : Cond.code yX9_as cX9_as 3 (some .int) ∈ TB := tb_in 616 (by decide +kernel) rfl
theorem mn_X9_as : Cond.instanceMethod yX9_as ∈ TB := tb_in 614 (by decide +kernel) rfl
theorem ms_X9_as : Cond.selects RX9 yX9_as yX9_as ∈ TB := tb_in 615 (by decide +kernel) rfl
theorem pd_X9_as : yX9_as.cls = RX9 ∧ yX9_as.cls ≠ "java/lang/invoke/MethodHandle" ∧ yX9_as.cls ≠ "java/lang/invoke/VarHandle" ∧ (parseMethodDescriptor yX9_as.desc).map (fun d => d.parameters.length) = some 2 := by decide +kernel
theorem mc_X2_isOf : Cond.code yX2_isOf cX2_isOf 5 (some .boolean) ∈ TB := tb_in 622 (by decide +kernel) rfl
theorem mn_X2_isOf : Cond.instanceMethod yX2_isOf ∈ TB := tb_in 620 (by decide +kernel) rfl
theorem ms_X2_isOf : Cond.selects RX2 yX2_isOf yX2_isOf ∈ TB := tb_in 621 (by decide +kernel) rfl
theorem pd_X2_isOf : yX2_isOf.cls = RX2 ∧ yX2_isOf.cls ≠ "java/lang/invoke/MethodHandle" ∧ yX2_isOf.cls ≠ "java/lang/invoke/VarHandle" ∧ (parseMethodDescriptor yX2_isOf.desc).map (fun d => d.parameters.length) = some 2 := by decide +kernel
theorem mc_X9_give : Cond.code yX9_give cX9_give 3 (some .int) ∈ TB := tb_in 628 (by decide +kernel) rfl
theorem mn_X9_give : Cond.instanceMethod yX9_give ∈ TB := tb_in 626 (by decide +kernel) rfl
theorem ms_X9_give : Cond.selects RX9 yX9_give yX9_give ∈ TB := tb_in 627 (by decide +kernel) rfl
theorem pd_X9_give : yX9_give.cls = RX9 ∧ yX9_give.cls ≠ "java/lang/invoke/MethodHandle" ∧ yX9_give.cls ≠ "java/lang/invoke/VarHandle" ∧ (parseMethodDescriptor yX9_give.desc).map (fun d => d.parameters.length) = some 2 := by decide +kernel
theorem mc_X1_has : Cond.code yX1_has cX1_has 3 (some .boolean) ∈ TB := tb_in 632 (by decide +kernel) rfl
theorem mn_X1_has : Cond.instanceMethod yX1_has ∈ TB := tb_in 630 (by decide +kernel) rfl
theorem ms_X1_has : Cond.selects RX1 yX1_has yX1_has ∈ TB := tb_in 631 (by decide +kernel) rfl
theorem pd_X1_has : yX1_has.cls = RX1 ∧ yX1_has.cls ≠ "java/lang/invoke/MethodHandle" ∧ yX1_has.cls ≠ "java/lang/invoke/VarHandle" ∧ (parseMethodDescriptor yX1_has.desc).map (fun d => d.parameters.length) = some 1 := by decide +kernel
theorem mc_X1_add : Cond.code yX1_add cX1_add 3 (none) ∈ TB := tb_in 636 (by decide +kernel) rfl
theorem mn_X1_add : Cond.instanceMethod yX1_add ∈ TB := tb_in 634 (by decide +kernel) rfl
theorem ms_X1_add : Cond.selects RX1 yX1_add yX1_add ∈ TB := tb_in 635 (by decide +kernel) rfl
theorem pd_X1_add : yX1_add.cls = RX1 ∧ yX1_add.cls ≠ "java/lang/invoke/MethodHandle" ∧ yX1_add.cls ≠ "java/lang/invoke/VarHandle" ∧ (parseMethodDescriptor yX1_add.desc).map (fun d => d.parameters.length) = some 2 := by decide +kernel
theorem mc_X9_drop : Cond.code yX9_drop cX9_drop 2 (some .int) ∈ TB := tb_in 640 (by decide +kernel) rfl
theorem mn_X9_drop : Cond.instanceMethod yX9_drop ∈ TB := tb_in 638 (by decide +kernel) rfl
theorem ms_X9_drop : Cond.selects RX9 yX9_drop yX9_drop ∈ TB := tb_in 639 (by decide +kernel) rfl
theorem pd_X9_drop : yX9_drop.cls = RX9 ∧ yX9_drop.cls ≠ "java/lang/invoke/MethodHandle" ∧ yX9_drop.cls ≠ "java/lang/invoke/VarHandle" ∧ (parseMethodDescriptor yX9_drop.desc).map (fun d => d.parameters.length) = some 0 := by decide +kernel
theorem mc_X9_balance : Cond.code yX9_balance cX9_balance 2 (some .int) ∈ TB := tb_in 644 (by decide +kernel) rfl
theorem mn_X9_balance : Cond.instanceMethod yX9_balance ∈ TB := tb_in 642 (by decide +kernel) rfl
theorem ms_X9_balance : Cond.selects RX9 yX9_balance yX9_balance ∈ TB := tb_in 643 (by decide +kernel) rfl
theorem pd_X9_balance : yX9_balance.cls = RX9 ∧ yX9_balance.cls ≠ "java/lang/invoke/MethodHandle" ∧ yX9_balance.cls ≠ "java/lang/invoke/VarHandle" ∧ (parseMethodDescriptor yX9_balance.desc).map (fun d => d.parameters.length) = some 1 := by decide +kernel
theorem mc_X1_balanceOf : Cond.code yX1_balanceOf cX1_balanceOf 6 (some .int) ∈ TB := tb_in 648 (by decide +kernel) rfl
theorem mn_X1_balanceOf : Cond.instanceMethod yX1_balanceOf ∈ TB := tb_in 646 (by decide +kernel) rfl
theorem ms_X1_balanceOf : Cond.selects RX1 yX1_balanceOf yX1_balanceOf ∈ TB := tb_in 647 (by decide +kernel) rfl
theorem pd_X1_balanceOf : yX1_balanceOf.cls = RX1 ∧ yX1_balanceOf.cls ≠ "java/lang/invoke/MethodHandle" ∧ yX1_balanceOf.cls ≠ "java/lang/invoke/VarHandle" ∧ (parseMethodDescriptor yX1_balanceOf.desc).map (fun d => d.parameters.length) = some 3 := by decide +kernel
theorem mc_X1_comesTo : Cond.code yX1_comesTo cX1_comesTo 4 (some .int) ∈ TB := tb_in 652 (by decide +kernel) rfl
theorem mn_X1_comesTo : Cond.instanceMethod yX1_comesTo ∈ TB := tb_in 651 (by decide +kernel) rfl
theorem ms_X1_comesTo : Cond.selects RX1 yX1_comesTo yX1_comesTo ∈ TB := tb_in 14 (by decide +kernel) rfl
theorem pd_X1_comesTo : yX1_comesTo.cls = RX1 ∧ yX1_comesTo.cls ≠ "java/lang/invoke/MethodHandle" ∧ yX1_comesTo.cls ≠ "java/lang/invoke/VarHandle" ∧ (parseMethodDescriptor yX1_comesTo.desc).map (fun d => d.parameters.length) = some 3 := by decide +kernel
theorem mc_X9_judge : Cond.code yX9_judge cX9_judge 2 (some .int) ∈ TB := tb_in 657 (by decide +kernel) rfl
theorem mn_X9_judge : Cond.instanceMethod yX9_judge ∈ TB := tb_in 655 (by decide +kernel) rfl
theorem ms_X9_judge : Cond.selects RX9 yX9_judge yX9_judge ∈ TB := tb_in 656 (by decide +kernel) rfl
theorem pd_X9_judge : yX9_judge.cls = RX9 ∧ yX9_judge.cls ≠ "java/lang/invoke/MethodHandle" ∧ yX9_judge.cls ≠ "java/lang/invoke/VarHandle" ∧ (parseMethodDescriptor yX9_judge.desc).map (fun d => d.parameters.length) = some 0 := by decide +kernel
theorem mc_X1_closesAt : Cond.code yX1_closesAt cX1_closesAt 6 (some .boolean) ∈ TB := tb_in 661 (by decide +kernel) rfl
theorem mn_X1_closesAt : Cond.instanceMethod yX1_closesAt ∈ TB := tb_in 659 (by decide +kernel) rfl
theorem ms_X1_closesAt : Cond.selects RX1 yX1_closesAt yX1_closesAt ∈ TB := tb_in 660 (by decide +kernel) rfl
theorem pd_X1_closesAt : yX1_closesAt.cls = RX1 ∧ yX1_closesAt.cls ≠ "java/lang/invoke/MethodHandle" ∧ yX1_closesAt.cls ≠ "java/lang/invoke/VarHandle" ∧ (parseMethodDescriptor yX1_closesAt.desc).map (fun d => d.parameters.length) = some 3 := by decide +kernel
theorem mc_Lib_Math_abs_name : Cond.code Lib.Math.abs.name cJ9_abs_0f7a4 1 (some .int) ∈ TB := tb_in 665 (by decide +kernel) rfl
theorem mt_Lib_Math_abs_name : Cond.static Lib.Math.abs.name ∈ TB := tb_in 664 (by decide +kernel) rfl
theorem pd_Lib_Math_abs_name : Lib.Math.abs.name.cls ≠ "java/lang/invoke/MethodHandle" ∧ Lib.Math.abs.name.cls ≠ "java/lang/invoke/VarHandle" ∧ (parseMethodDescriptor Lib.Math.abs.name.desc).map (fun d => d.parameters.length) = some 1 := by decide +kernel
theorem mc_X9_deal : Cond.code yX9_deal cX9_deal 1 (some .int) ∈ TB := tb_in 669 (by decide +kernel) rfl
theorem mn_X9_deal : Cond.instanceMethod yX9_deal ∈ TB := tb_in 667 (by decide +kernel) rfl
theorem ms_X9_deal : Cond.selects RX9 yX9_deal yX9_deal ∈ TB := tb_in 668 (by decide +kernel) rfl
theorem pd_X9_deal : yX9_deal.cls = RX9 ∧ yX9_deal.cls ≠ "java/lang/invoke/MethodHandle" ∧ yX9_deal.cls ≠ "java/lang/invoke/VarHandle" ∧ (parseMethodDescriptor yX9_deal.desc).map (fun d => d.parameters.length) = some 0 := by decide +kernel
theorem mc_X1_doIn : Cond.code yX1_doIn cX1_doIn 4 (none) ∈ TB := tb_in 674 (by decide +kernel) rfl
theorem mn_X1_doIn : Cond.instanceMethod yX1_doIn ∈ TB := tb_in 672 (by decide +kernel) rfl
theorem ms_X1_doIn : Cond.selects RX1 yX1_doIn yX1_doIn ∈ TB := tb_in 673 (by decide +kernel) rfl
theorem pd_X1_doIn : yX1_doIn.cls = RX1 ∧ yX1_doIn.cls ≠ "java/lang/invoke/MethodHandle" ∧ yX1_doIn.cls ≠ "java/lang/invoke/VarHandle" ∧ (parseMethodDescriptor yX1_doIn.desc).map (fun d => d.parameters.length) = some 2 := by decide +kernel
theorem mc_X9_ring : Cond.code yX9_ring cX9_ring 5 (some .int) ∈ TB := tb_in 679 (by decide +kernel) rfl
theorem mn_X9_ring : Cond.instanceMethod yX9_ring ∈ TB := tb_in 677 (by decide +kernel) rfl
theorem ms_X9_ring : Cond.selects RX9 yX9_ring yX9_ring ∈ TB := tb_in 678 (by decide +kernel) rfl
theorem pd_X9_ring : yX9_ring.cls = RX9 ∧ yX9_ring.cls ≠ "java/lang/invoke/MethodHandle" ∧ yX9_ring.cls ≠ "java/lang/invoke/VarHandle" ∧ (parseMethodDescriptor yX9_ring.desc).map (fun d => d.parameters.length) = some 1 := by decide +kernel
theorem mc_X5_seek : Cond.code yX5_seek cX5_seek 2 (none) ∈ TB := tb_in 683 (by decide +kernel) rfl
theorem mn_X5_seek : Cond.instanceMethod yX5_seek ∈ TB := tb_in 681 (by decide +kernel) rfl
theorem ms_X5_seek : Cond.selects RX5 yX5_seek yX5_seek ∈ TB := tb_in 682 (by decide +kernel) rfl
theorem pd_X5_seek : yX5_seek.cls = RX5 ∧ yX5_seek.cls ≠ "java/lang/invoke/MethodHandle" ∧ yX5_seek.cls ≠ "java/lang/invoke/VarHandle" ∧ (parseMethodDescriptor yX5_seek.desc).map (fun d => d.parameters.length) = some 0 := by decide +kernel
theorem mc_X5_extend : Cond.code yX5_extend cX5_extend 7 (none) ∈ TB := tb_in 688 (by decide +kernel) rfl
theorem mn_X5_extend : Cond.instanceMethod yX5_extend ∈ TB := tb_in 687 (by decide +kernel) rfl
theorem ms_X5_extend : Cond.selects RX5 yX5_extend yX5_extend ∈ TB := tb_in 15 (by decide +kernel) rfl
theorem pd_X5_extend : yX5_extend.cls = RX5 ∧ yX5_extend.cls ≠ "java/lang/invoke/MethodHandle" ∧ yX5_extend.cls ≠ "java/lang/invoke/VarHandle" ∧ (parseMethodDescriptor yX5_extend.desc).map (fun d => d.parameters.length) = some 3 := by decide +kernel
theorem mc_X5_isWanted : Cond.code yX5_isWanted cX5_isWanted 3 (some .boolean) ∈ TB := tb_in 692 (by decide +kernel) rfl
theorem mn_X5_isWanted : Cond.instanceMethod yX5_isWanted ∈ TB := tb_in 691 (by decide +kernel) rfl
theorem ms_X5_isWanted : Cond.selects RX5 yX5_isWanted yX5_isWanted ∈ TB := tb_in 16 (by decide +kernel) rfl
theorem pd_X5_isWanted : yX5_isWanted.cls = RX5 ∧ yX5_isWanted.cls ≠ "java/lang/invoke/MethodHandle" ∧ yX5_isWanted.cls ≠ "java/lang/invoke/VarHandle" ∧ (parseMethodDescriptor yX5_isWanted.desc).map (fun d => d.parameters.length) = some 2 := by decide +kernel
theorem mc_X5_owedFor : Cond.code yX5_owedFor cX5_owedFor 3 (some .int) ∈ TB := tb_in 696 (by decide +kernel) rfl
theorem mn_X5_owedFor : Cond.instanceMethod yX5_owedFor ∈ TB := tb_in 695 (by decide +kernel) rfl
theorem ms_X5_owedFor : Cond.selects RX5 yX5_owedFor yX5_owedFor ∈ TB := tb_in 17 (by decide +kernel) rfl
theorem pd_X5_owedFor : yX5_owedFor.cls = RX5 ∧ yX5_owedFor.cls ≠ "java/lang/invoke/MethodHandle" ∧ yX5_owedFor.cls ≠ "java/lang/invoke/VarHandle" ∧ (parseMethodDescriptor yX5_owedFor.desc).map (fun d => d.parameters.length) = some 2 := by decide +kernel
theorem mc_Lib_Math_max_name : Cond.code Lib.Math.max.name cJ9_max_7cf53 2 (some .int) ∈ TB := tb_in 699 (by decide +kernel) rfl
theorem mt_Lib_Math_max_name : Cond.static Lib.Math.max.name ∈ TB := tb_in 698 (by decide +kernel) rfl
theorem pd_Lib_Math_max_name : Lib.Math.max.name.cls ≠ "java/lang/invoke/MethodHandle" ∧ Lib.Math.max.name.cls ≠ "java/lang/invoke/VarHandle" ∧ (parseMethodDescriptor Lib.Math.max.name.desc).map (fun d => d.parameters.length) = some 2 := by decide +kernel
theorem mc_X5_takeIfBetter : Cond.code yX5_takeIfBetter cX5_takeIfBetter 3 (none) ∈ TB := tb_in 703 (by decide +kernel) rfl
theorem mn_X5_takeIfBetter : Cond.instanceMethod yX5_takeIfBetter ∈ TB := tb_in 702 (by decide +kernel) rfl
theorem ms_X5_takeIfBetter : Cond.selects RX5 yX5_takeIfBetter yX5_takeIfBetter ∈ TB := tb_in 18 (by decide +kernel) rfl
theorem pd_X5_takeIfBetter : yX5_takeIfBetter.cls = RX5 ∧ yX5_takeIfBetter.cls ≠ "java/lang/invoke/MethodHandle" ∧ yX5_takeIfBetter.cls ≠ "java/lang/invoke/VarHandle" ∧ (parseMethodDescriptor yX5_takeIfBetter.desc).map (fun d => d.parameters.length) = some 2 := by decide +kernel
theorem mc_X9_go : Cond.code yX9_go cX9_go 2 (some .int) ∈ TB := tb_in 708 (by decide +kernel) rfl
theorem mn_X9_go : Cond.instanceMethod yX9_go ∈ TB := tb_in 706 (by decide +kernel) rfl
theorem ms_X9_go : Cond.selects RX9 yX9_go yX9_go ∈ TB := tb_in 707 (by decide +kernel) rfl
theorem pd_X9_go : yX9_go.cls = RX9 ∧ yX9_go.cls ≠ "java/lang/invoke/MethodHandle" ∧ yX9_go.cls ≠ "java/lang/invoke/VarHandle" ∧ (parseMethodDescriptor yX9_go.desc).map (fun d => d.parameters.length) = some 1 := by decide +kernel
theorem mc_X0_pass : Cond.code yX0_pass cX0_pass 8 (none) ∈ TB := tb_in 712 (by decide +kernel) rfl
theorem mn_X0_pass : Cond.instanceMethod yX0_pass ∈ TB := tb_in 710 (by decide +kernel) rfl
theorem ms_X0_pass : Cond.selects RX0 yX0_pass yX0_pass ∈ TB := tb_in 711 (by decide +kernel) rfl
theorem pd_X0_pass : yX0_pass.cls = RX0 ∧ yX0_pass.cls ≠ "java/lang/invoke/MethodHandle" ∧ yX0_pass.cls ≠ "java/lang/invoke/VarHandle" ∧ (parseMethodDescriptor yX0_pass.desc).map (fun d => d.parameters.length) = some 4 := by decide +kernel
theorem mc_X9_fedWeight : Cond.code yX9_fedWeight cX9_fedWeight 2 (some .int) ∈ TB := tb_in 715 (by decide +kernel) rfl
theorem mt_X9_fedWeight : Cond.static yX9_fedWeight ∈ TB := tb_in 714 (by decide +kernel) rfl
theorem pd_X9_fedWeight : yX9_fedWeight.cls ≠ "java/lang/invoke/MethodHandle" ∧ yX9_fedWeight.cls ≠ "java/lang/invoke/VarHandle" ∧ (parseMethodDescriptor yX9_fedWeight.desc).map (fun d => d.parameters.length) = some 2 := by decide +kernel
theorem mc_X0_train : Cond.code yX0_train cX0_train 4 (none) ∈ TB := tb_in 720 (by decide +kernel) rfl
theorem mt_X0_train : Cond.static yX0_train ∈ TB := tb_in 719 (by decide +kernel) rfl
theorem pd_X0_train : yX0_train.cls ≠ "java/lang/invoke/MethodHandle" ∧ yX0_train.cls ≠ "java/lang/invoke/VarHandle" ∧ (parseMethodDescriptor yX0_train.desc).map (fun d => d.parameters.length) = some 3 := by decide +kernel
theorem mc_X0_keepLent : Cond.code yX0_keepLent cX0_keepLent 8 (none) ∈ TB := tb_in 728 (by decide +kernel) rfl
theorem mn_X0_keepLent : Cond.instanceMethod yX0_keepLent ∈ TB := tb_in 727 (by decide +kernel) rfl
theorem ms_X0_keepLent : Cond.selects RX0 yX0_keepLent yX0_keepLent ∈ TB := tb_in 19 (by decide +kernel) rfl
theorem pd_X0_keepLent : yX0_keepLent.cls = RX0 ∧ yX0_keepLent.cls ≠ "java/lang/invoke/MethodHandle" ∧ yX0_keepLent.cls ≠ "java/lang/invoke/VarHandle" ∧ (parseMethodDescriptor yX0_keepLent.desc).map (fun d => d.parameters.length) = some 3 := by decide +kernel
theorem mc_X0_chooseSent : Cond.code yX0_chooseSent cX0_chooseSent 5 (none) ∈ TB := tb_in 732 (by decide +kernel) rfl
theorem mn_X0_chooseSent : Cond.instanceMethod yX0_chooseSent ∈ TB := tb_in 731 (by decide +kernel) rfl
theorem ms_X0_chooseSent : Cond.selects RX0 yX0_chooseSent yX0_chooseSent ∈ TB := tb_in 20 (by decide +kernel) rfl
theorem pd_X0_chooseSent : yX0_chooseSent.cls = RX0 ∧ yX0_chooseSent.cls ≠ "java/lang/invoke/MethodHandle" ∧ yX0_chooseSent.cls ≠ "java/lang/invoke/VarHandle" ∧ (parseMethodDescriptor yX0_chooseSent.desc).map (fun d => d.parameters.length) = some 2 := by decide +kernel
theorem mc_X0_goesRather : Cond.code yX0_goesRather cX0_goesRather 4 (some .boolean) ∈ TB := tb_in 735 (by decide +kernel) rfl
theorem mt_X0_goesRather : Cond.static yX0_goesRather ∈ TB := tb_in 734 (by decide +kernel) rfl
theorem pd_X0_goesRather : yX0_goesRather.cls ≠ "java/lang/invoke/MethodHandle" ∧ yX0_goesRather.cls ≠ "java/lang/invoke/VarHandle" ∧ (parseMethodDescriptor yX0_goesRather.desc).map (fun d => d.parameters.length) = some 4 := by decide +kernel
theorem mc_X9_keep : Cond.code yX9_keep cX9_keep 2 (some .int) ∈ TB := tb_in 740 (by decide +kernel) rfl
theorem mn_X9_keep : Cond.instanceMethod yX9_keep ∈ TB := tb_in 738 (by decide +kernel) rfl
theorem ms_X9_keep : Cond.selects RX9 yX9_keep yX9_keep ∈ TB := tb_in 739 (by decide +kernel) rfl
theorem pd_X9_keep : yX9_keep.cls = RX9 ∧ yX9_keep.cls ≠ "java/lang/invoke/MethodHandle" ∧ yX9_keep.cls ≠ "java/lang/invoke/VarHandle" ∧ (parseMethodDescriptor yX9_keep.desc).map (fun d => d.parameters.length) = some 1 := by decide +kernel
theorem mc_X9_back : Cond.code yX9_back cX9_back 2 (some .int) ∈ TB := tb_in 744 (by decide +kernel) rfl
theorem mn_X9_back : Cond.instanceMethod yX9_back ∈ TB := tb_in 742 (by decide +kernel) rfl
theorem ms_X9_back : Cond.selects RX9 yX9_back yX9_back ∈ TB := tb_in 743 (by decide +kernel) rfl
theorem pd_X9_back : yX9_back.cls = RX9 ∧ yX9_back.cls ≠ "java/lang/invoke/MethodHandle" ∧ yX9_back.cls ≠ "java/lang/invoke/VarHandle" ∧ (parseMethodDescriptor yX9_back.desc).map (fun d => d.parameters.length) = some 1 := by decide +kernel
theorem mc_X9_later : Cond.code yX9_later cX9_later 4 (some .int) ∈ TB := tb_in 748 (by decide +kernel) rfl
theorem mn_X9_later : Cond.instanceMethod yX9_later ∈ TB := tb_in 746 (by decide +kernel) rfl
theorem ms_X9_later : Cond.selects RX9 yX9_later yX9_later ∈ TB := tb_in 747 (by decide +kernel) rfl
theorem pd_X9_later : yX9_later.cls = RX9 ∧ yX9_later.cls ≠ "java/lang/invoke/MethodHandle" ∧ yX9_later.cls ≠ "java/lang/invoke/VarHandle" ∧ (parseMethodDescriptor yX9_later.desc).map (fun d => d.parameters.length) = some 3 := by decide +kernel
theorem mc_X9_foretell : Cond.code yX9_foretell cX9_foretell 2 (none) ∈ TB := tb_in 752 (by decide +kernel) rfl
theorem mn_X9_foretell : Cond.instanceMethod yX9_foretell ∈ TB := tb_in 751 (by decide +kernel) rfl
theorem ms_X9_foretell : Cond.selects RX9 yX9_foretell yX9_foretell ∈ TB := tb_in 21 (by decide +kernel) rfl
theorem pd_X9_foretell : yX9_foretell.cls = RX9 ∧ yX9_foretell.cls ≠ "java/lang/invoke/MethodHandle" ∧ yX9_foretell.cls ≠ "java/lang/invoke/VarHandle" ∧ (parseMethodDescriptor yX9_foretell.desc).map (fun d => d.parameters.length) = some 1 := by decide +kernel
theorem mc_X9_without : Cond.code yX9_without cX9_without 4 (some .int) ∈ TB := tb_in 756 (by decide +kernel) rfl
theorem mn_X9_without : Cond.instanceMethod yX9_without ∈ TB := tb_in 754 (by decide +kernel) rfl
theorem ms_X9_without : Cond.selects RX9 yX9_without yX9_without ∈ TB := tb_in 755 (by decide +kernel) rfl
theorem pd_X9_without : yX9_without.cls = RX9 ∧ yX9_without.cls ≠ "java/lang/invoke/MethodHandle" ∧ yX9_without.cls ≠ "java/lang/invoke/VarHandle" ∧ (parseMethodDescriptor yX9_without.desc).map (fun d => d.parameters.length) = some 1 := by decide +kernel
theorem mc_X9_owed : Cond.code yX9_owed cX9_owed 3 (some .int) ∈ TB := tb_in 760 (by decide +kernel) rfl
theorem mn_X9_owed : Cond.instanceMethod yX9_owed ∈ TB := tb_in 758 (by decide +kernel) rfl
theorem ms_X9_owed : Cond.selects RX9 yX9_owed yX9_owed ∈ TB := tb_in 759 (by decide +kernel) rfl
theorem pd_X9_owed : yX9_owed.cls = RX9 ∧ yX9_owed.cls ≠ "java/lang/invoke/MethodHandle" ∧ yX9_owed.cls ≠ "java/lang/invoke/VarHandle" ∧ (parseMethodDescriptor yX9_owed.desc).map (fun d => d.parameters.length) = some 2 := by decide +kernel
theorem mc_X9_pays : Cond.code yX9_pays cX9_pays 9 (some .int) ∈ TB := tb_in 764 (by decide +kernel) rfl
theorem mn_X9_pays : Cond.instanceMethod yX9_pays ∈ TB := tb_in 762 (by decide +kernel) rfl
theorem ms_X9_pays : Cond.selects RX9 yX9_pays yX9_pays ∈ TB := tb_in 763 (by decide +kernel) rfl
theorem pd_X9_pays : yX9_pays.cls = RX9 ∧ yX9_pays.cls ≠ "java/lang/invoke/MethodHandle" ∧ yX9_pays.cls ≠ "java/lang/invoke/VarHandle" ∧ (parseMethodDescriptor yX9_pays.desc).map (fun d => d.parameters.length) = some 4 := by decide +kernel
theorem mc_X9_gainOfFood : Cond.code yX9_gainOfFood cX9_gainOfFood 10 (some .int) ∈ TB := tb_in 768 (by decide +kernel) rfl
theorem mn_X9_gainOfFood : Cond.instanceMethod yX9_gainOfFood ∈ TB := tb_in 767 (by decide +kernel) rfl
theorem ms_X9_gainOfFood : Cond.selects RX9 yX9_gainOfFood yX9_gainOfFood ∈ TB := tb_in 22 (by decide +kernel) rfl
theorem pd_X9_gainOfFood : yX9_gainOfFood.cls = RX9 ∧ yX9_gainOfFood.cls ≠ "java/lang/invoke/MethodHandle" ∧ yX9_gainOfFood.cls ≠ "java/lang/invoke/VarHandle" ∧ (parseMethodDescriptor yX9_gainOfFood.desc).map (fun d => d.parameters.length) = some 4 := by decide +kernel
theorem mc_X9_gainers : Cond.code yX9_gainers cX9_gainers 6 (some .int) ∈ TB := tb_in 774 (by decide +kernel) rfl
theorem mn_X9_gainers : Cond.instanceMethod yX9_gainers ∈ TB := tb_in 772 (by decide +kernel) rfl
theorem ms_X9_gainers : Cond.selects RX9 yX9_gainers yX9_gainers ∈ TB := tb_in 773 (by decide +kernel) rfl
theorem pd_X9_gainers : yX9_gainers.cls = RX9 ∧ yX9_gainers.cls ≠ "java/lang/invoke/MethodHandle" ∧ yX9_gainers.cls ≠ "java/lang/invoke/VarHandle" ∧ (parseMethodDescriptor yX9_gainers.desc).map (fun d => d.parameters.length) = some 3 := by decide +kernel
theorem mc_X9_foretellElse : Cond.code yX9_foretellElse cX9_foretellElse 5 (none) ∈ TB := tb_in 778 (by decide +kernel) rfl
theorem mn_X9_foretellElse : Cond.instanceMethod yX9_foretellElse ∈ TB := tb_in 777 (by decide +kernel) rfl
theorem ms_X9_foretellElse : Cond.selects RX9 yX9_foretellElse yX9_foretellElse ∈ TB := tb_in 23 (by decide +kernel) rfl
theorem pd_X9_foretellElse : yX9_foretellElse.cls = RX9 ∧ yX9_foretellElse.cls ≠ "java/lang/invoke/MethodHandle" ∧ yX9_foretellElse.cls ≠ "java/lang/invoke/VarHandle" ∧ (parseMethodDescriptor yX9_foretellElse.desc).map (fun d => d.parameters.length) = some 3 := by decide +kernel
theorem mc_X9_weigh : Cond.code yX9_weigh cX9_weigh 4 (some .int) ∈ TB := tb_in 782 (by decide +kernel) rfl
theorem mn_X9_weigh : Cond.instanceMethod yX9_weigh ∈ TB := tb_in 780 (by decide +kernel) rfl
theorem ms_X9_weigh : Cond.selects RX9 yX9_weigh yX9_weigh ∈ TB := tb_in 781 (by decide +kernel) rfl
theorem pd_X9_weigh : yX9_weigh.cls = RX9 ∧ yX9_weigh.cls ≠ "java/lang/invoke/MethodHandle" ∧ yX9_weigh.cls ≠ "java/lang/invoke/VarHandle" ∧ (parseMethodDescriptor yX9_weigh.desc).map (fun d => d.parameters.length) = some 3 := by decide +kernel
theorem mc_X7_add : Cond.code yX7_add cX7_add 4 (none) ∈ TB := tb_in 786 (by decide +kernel) rfl
theorem mn_X7_add : Cond.instanceMethod yX7_add ∈ TB := tb_in 784 (by decide +kernel) rfl
theorem ms_X7_add : Cond.selects RX7 yX7_add yX7_add ∈ TB := tb_in 785 (by decide +kernel) rfl
theorem pd_X7_add : yX7_add.cls = RX7 ∧ yX7_add.cls ≠ "java/lang/invoke/MethodHandle" ∧ yX7_add.cls ≠ "java/lang/invoke/VarHandle" ∧ (parseMethodDescriptor yX7_add.desc).map (fun d => d.parameters.length) = some 3 := by decide +kernel
theorem mc_X9_forget : Cond.code yX9_forget cX9_forget 2 (some .int) ∈ TB := tb_in 790 (by decide +kernel) rfl
theorem mn_X9_forget : Cond.instanceMethod yX9_forget ∈ TB := tb_in 788 (by decide +kernel) rfl
theorem ms_X9_forget : Cond.selects RX9 yX9_forget yX9_forget ∈ TB := tb_in 789 (by decide +kernel) rfl
theorem pd_X9_forget : yX9_forget.cls = RX9 ∧ yX9_forget.cls ≠ "java/lang/invoke/MethodHandle" ∧ yX9_forget.cls ≠ "java/lang/invoke/VarHandle" ∧ (parseMethodDescriptor yX9_forget.desc).map (fun d => d.parameters.length) = some 0 := by decide +kernel
theorem mc_X9_scales : Cond.code yX9_scales cX9_scales 4 (some .int) ∈ TB := tb_in 794 (by decide +kernel) rfl
theorem mn_X9_scales : Cond.instanceMethod yX9_scales ∈ TB := tb_in 792 (by decide +kernel) rfl
theorem ms_X9_scales : Cond.selects RX9 yX9_scales yX9_scales ∈ TB := tb_in 793 (by decide +kernel) rfl
theorem pd_X9_scales : yX9_scales.cls = RX9 ∧ yX9_scales.cls ≠ "java/lang/invoke/MethodHandle" ∧ yX9_scales.cls ≠ "java/lang/invoke/VarHandle" ∧ (parseMethodDescriptor yX9_scales.desc).map (fun d => d.parameters.length) = some 1 := by decide +kernel
theorem mc_X7_canBeWith : Cond.code yX7_canBeWith cX7_canBeWith 6 (some .boolean) ∈ TB := tb_in 798 (by decide +kernel) rfl
theorem mn_X7_canBeWith : Cond.instanceMethod yX7_canBeWith ∈ TB := tb_in 796 (by decide +kernel) rfl
theorem ms_X7_canBeWith : Cond.selects RX7 yX7_canBeWith yX7_canBeWith ∈ TB := tb_in 797 (by decide +kernel) rfl
theorem pd_X7_canBeWith : yX7_canBeWith.cls = RX7 ∧ yX7_canBeWith.cls ≠ "java/lang/invoke/MethodHandle" ∧ yX7_canBeWith.cls ≠ "java/lang/invoke/VarHandle" ∧ (parseMethodDescriptor yX7_canBeWith.desc).map (fun d => d.parameters.length) = some 1 := by decide +kernel
theorem mc_X9_road : Cond.code yX9_road cX9_road 3 (some .int) ∈ TB := tb_in 802 (by decide +kernel) rfl
theorem mn_X9_road : Cond.instanceMethod yX9_road ∈ TB := tb_in 800 (by decide +kernel) rfl
theorem ms_X9_road : Cond.selects RX9 yX9_road yX9_road ∈ TB := tb_in 801 (by decide +kernel) rfl
