theorem pd_X9_road : yX9_road.cls = RX9 ∧ yX9_road.cls ≠ "java/lang/invoke/MethodHandle" ∧ yX9_road.cls ≠ "java/lang/invoke/VarHandle" ∧ (parseMethodDescriptor yX9_road.desc).map (fun d => d.parameters.length) = some 2 := by decide +kernel
theorem mc_X6_add : Cond.code yX6_add cX6_add 3 (none) ∈ TB := tb_in 806 (by decide +kernel) rfl
theorem mn_X6_add : Cond.instanceMethod yX6_add ∈ TB := tb_in 804 (by decide +kernel) rfl
theorem ms_X6_add : Cond.selects RX6 yX6_add yX6_add ∈ TB := tb_in 805 (by decide +kernel) rfl
theorem pd_X6_add : yX6_add.cls = RX6 ∧ yX6_add.cls ≠ "java/lang/invoke/MethodHandle" ∧ yX6_add.cls ≠ "java/lang/invoke/VarHandle" ∧ (parseMethodDescriptor yX6_add.desc).map (fun d => d.parameters.length) = some 2 := by decide +kernel
theorem mc_X9_arrive : Cond.code yX9_arrive cX9_arrive 2 (some .int) ∈ TB := tb_in 810 (by decide +kernel) rfl
theorem mn_X9_arrive : Cond.instanceMethod yX9_arrive ∈ TB := tb_in 808 (by decide +kernel) rfl
theorem ms_X9_arrive : Cond.selects RX9 yX9_arrive yX9_arrive ∈ TB := tb_in 809 (by decide +kernel) rfl
theorem pd_X9_arrive : yX9_arrive.cls = RX9 ∧ yX9_arrive.cls ≠ "java/lang/invoke/MethodHandle" ∧ yX9_arrive.cls ≠ "java/lang/invoke/VarHandle" ∧ (parseMethodDescriptor yX9_arrive.desc).map (fun d => d.parameters.length) = some 0 := by decide +kernel
theorem mc_X9_who : Cond.code yX9_who cX9_who 2 (some .int) ∈ TB := tb_in 814 (by decide +kernel) rfl
theorem mn_X9_who : Cond.instanceMethod yX9_who ∈ TB := tb_in 812 (by decide +kernel) rfl
theorem ms_X9_who : Cond.selects RX9 yX9_who yX9_who ∈ TB := tb_in 813 (by decide +kernel) rfl
theorem pd_X9_who : yX9_who.cls = RX9 ∧ yX9_who.cls ≠ "java/lang/invoke/MethodHandle" ∧ yX9_who.cls ≠ "java/lang/invoke/VarHandle" ∧ (parseMethodDescriptor yX9_who.desc).map (fun d => d.parameters.length) = some 1 := by decide +kernel
theorem mc_X6_countRows : Cond.code yX6_countRows cX6_countRows 4 (some .int) ∈ TB := tb_in 818 (by decide +kernel) rfl
theorem mn_X6_countRows : Cond.instanceMethod yX6_countRows ∈ TB := tb_in 816 (by decide +kernel) rfl
theorem ms_X6_countRows : Cond.selects RX6 yX6_countRows yX6_countRows ∈ TB := tb_in 817 (by decide +kernel) rfl
theorem pd_X6_countRows : yX6_countRows.cls = RX6 ∧ yX6_countRows.cls ≠ "java/lang/invoke/MethodHandle" ∧ yX6_countRows.cls ≠ "java/lang/invoke/VarHandle" ∧ (parseMethodDescriptor yX6_countRows.desc).map (fun d => d.parameters.length) = some 1 := by decide +kernel
theorem mc_X6_fillRows : Cond.code yX6_fillRows cX6_fillRows 4 (none) ∈ TB := tb_in 822 (by decide +kernel) rfl
theorem mn_X6_fillRows : Cond.instanceMethod yX6_fillRows ∈ TB := tb_in 821 (by decide +kernel) rfl
theorem ms_X6_fillRows : Cond.selects RX6 yX6_fillRows yX6_fillRows ∈ TB := tb_in 24 (by decide +kernel) rfl
theorem pd_X6_fillRows : yX6_fillRows.cls = RX6 ∧ yX6_fillRows.cls ≠ "java/lang/invoke/MethodHandle" ∧ yX6_fillRows.cls ≠ "java/lang/invoke/VarHandle" ∧ (parseMethodDescriptor yX6_fillRows.desc).map (fun d => d.parameters.length) = some 2 := by decide +kernel
theorem mc_X6_fittingBoys : Cond.code yX6_fittingBoys cX6_fittingBoys 5 (some .int) ∈ TB := tb_in 826 (by decide +kernel) rfl
theorem mn_X6_fittingBoys : Cond.instanceMethod yX6_fittingBoys ∈ TB := tb_in 825 (by decide +kernel) rfl
theorem ms_X6_fittingBoys : Cond.selects RX6 yX6_fittingBoys yX6_fittingBoys ∈ TB := tb_in 25 (by decide +kernel) rfl
theorem pd_X6_fittingBoys : yX6_fittingBoys.cls = RX6 ∧ yX6_fittingBoys.cls ≠ "java/lang/invoke/MethodHandle" ∧ yX6_fittingBoys.cls ≠ "java/lang/invoke/VarHandle" ∧ (parseMethodDescriptor yX6_fittingBoys.desc).map (fun d => d.parameters.length) = some 2 := by decide +kernel
theorem mc_J6_bitCount_0f7a4 : Cond.code yJ6_bitCount_0f7a4 cJ6_bitCount_0f7a4 1 (some .int) ∈ TB := tb_in 830 (by decide +kernel) rfl
theorem mt_J6_bitCount_0f7a4 : Cond.static yJ6_bitCount_0f7a4 ∈ TB := tb_in 829 (by decide +kernel) rfl
theorem pd_J6_bitCount_0f7a4 : yJ6_bitCount_0f7a4.cls ≠ "java/lang/invoke/MethodHandle" ∧ yJ6_bitCount_0f7a4.cls ≠ "java/lang/invoke/VarHandle" ∧ (parseMethodDescriptor yJ6_bitCount_0f7a4.desc).map (fun d => d.parameters.length) = some 1 := by decide +kernel
theorem mc_X6_rowsOf : Cond.code yX6_rowsOf cX6_rowsOf 6 (some .int) ∈ TB := tb_in 837 (by decide +kernel) rfl
theorem mn_X6_rowsOf : Cond.instanceMethod yX6_rowsOf ∈ TB := tb_in 836 (by decide +kernel) rfl
theorem ms_X6_rowsOf : Cond.selects RX6 yX6_rowsOf yX6_rowsOf ∈ TB := tb_in 26 (by decide +kernel) rfl
theorem pd_X6_rowsOf : yX6_rowsOf.cls = RX6 ∧ yX6_rowsOf.cls ≠ "java/lang/invoke/MethodHandle" ∧ yX6_rowsOf.cls ≠ "java/lang/invoke/VarHandle" ∧ (parseMethodDescriptor yX6_rowsOf.desc).map (fun d => d.parameters.length) = some 2 := by decide +kernel
theorem mc_X6_whoCanBe : Cond.code yX6_whoCanBe cX6_whoCanBe 5 (some .int) ∈ TB := tb_in 841 (by decide +kernel) rfl
theorem mn_X6_whoCanBe : Cond.instanceMethod yX6_whoCanBe ∈ TB := tb_in 839 (by decide +kernel) rfl
theorem ms_X6_whoCanBe : Cond.selects RX6 yX6_whoCanBe yX6_whoCanBe ∈ TB := tb_in 840 (by decide +kernel) rfl
theorem pd_X6_whoCanBe : yX6_whoCanBe.cls = RX6 ∧ yX6_whoCanBe.cls ≠ "java/lang/invoke/MethodHandle" ∧ yX6_whoCanBe.cls ≠ "java/lang/invoke/VarHandle" ∧ (parseMethodDescriptor yX6_whoCanBe.desc).map (fun d => d.parameters.length) = some 2 := by decide +kernel
theorem mc_X9_count : Cond.code yX9_count cX9_count 2 (some .int) ∈ TB := tb_in 845 (by decide +kernel) rfl
theorem mn_X9_count : Cond.instanceMethod yX9_count ∈ TB := tb_in 843 (by decide +kernel) rfl
theorem ms_X9_count : Cond.selects RX9 yX9_count yX9_count ∈ TB := tb_in 844 (by decide +kernel) rfl
theorem pd_X9_count : yX9_count.cls = RX9 ∧ yX9_count.cls ≠ "java/lang/invoke/MethodHandle" ∧ yX9_count.cls ≠ "java/lang/invoke/VarHandle" ∧ (parseMethodDescriptor yX9_count.desc).map (fun d => d.parameters.length) = some 1 := by decide +kernel
theorem mc_X10_plain : Cond.code yX10_plain cX10_plain 3 (none) ∈ TB := tb_in 855 (by decide +kernel) rfl
theorem mn_X10_plain : Cond.instanceMethod yX10_plain ∈ TB := tb_in 854 (by decide +kernel) rfl
theorem ms_X10_plain : Cond.selects RX10 yX10_plain yX10_plain ∈ TB := tb_in 27 (by decide +kernel) rfl
theorem pd_X10_plain : yX10_plain.cls = RX10 ∧ yX10_plain.cls ≠ "java/lang/invoke/MethodHandle" ∧ yX10_plain.cls ≠ "java/lang/invoke/VarHandle" ∧ (parseMethodDescriptor yX10_plain.desc).map (fun d => d.parameters.length) = some 1 := by decide +kernel
theorem mc_X10_begin : Cond.code yX10_begin cX10_begin 3 (none) ∈ TB := tb_in 859 (by decide +kernel) rfl
theorem mn_X10_begin : Cond.instanceMethod yX10_begin ∈ TB := tb_in 858 (by decide +kernel) rfl
theorem ms_X10_begin : Cond.selects RX10 yX10_begin yX10_begin ∈ TB := tb_in 28 (by decide +kernel) rfl
theorem pd_X10_begin : yX10_begin.cls = RX10 ∧ yX10_begin.cls ≠ "java/lang/invoke/MethodHandle" ∧ yX10_begin.cls ≠ "java/lang/invoke/VarHandle" ∧ (parseMethodDescriptor yX10_begin.desc).map (fun d => d.parameters.length) = some 0 := by decide +kernel
theorem mc_X10_goNowhere : Cond.code yX10_goNowhere cX10_goNowhere 2 (none) ∈ TB := tb_in 863 (by decide +kernel) rfl
theorem mn_X10_goNowhere : Cond.instanceMethod yX10_goNowhere ∈ TB := tb_in 862 (by decide +kernel) rfl
theorem ms_X10_goNowhere : Cond.selects RX10 yX10_goNowhere yX10_goNowhere ∈ TB := tb_in 29 (by decide +kernel) rfl
theorem pd_X10_goNowhere : yX10_goNowhere.cls = RX10 ∧ yX10_goNowhere.cls ≠ "java/lang/invoke/MethodHandle" ∧ yX10_goNowhere.cls ≠ "java/lang/invoke/VarHandle" ∧ (parseMethodDescriptor yX10_goNowhere.desc).map (fun d => d.parameters.length) = some 0 := by decide +kernel
theorem mc_X10_write : Cond.code yX10_write cX10_write 5 (some .int) ∈ TB := tb_in 973 (by decide +kernel) rfl
theorem mn_X10_write : Cond.instanceMethod yX10_write ∈ TB := tb_in 971 (by decide +kernel) rfl
theorem ms_X10_write : Cond.selects RX10 yX10_write yX10_write ∈ TB := tb_in 972 (by decide +kernel) rfl
theorem pd_X10_write : yX10_write.cls = RX10 ∧ yX10_write.cls ≠ "java/lang/invoke/MethodHandle" ∧ yX10_write.cls ≠ "java/lang/invoke/VarHandle" ∧ (parseMethodDescriptor yX10_write.desc).map (fun d => d.parameters.length) = some 2 := by decide +kernel
theorem mc_X10_in : Cond.code yX10_in cX10_in 3 (some .boolean) ∈ TB := tb_in 976 (by decide +kernel) rfl
theorem mt_X10_in : Cond.static yX10_in ∈ TB := tb_in 975 (by decide +kernel) rfl
theorem pd_X10_in : yX10_in.cls ≠ "java/lang/invoke/MethodHandle" ∧ yX10_in.cls ≠ "java/lang/invoke/VarHandle" ∧ (parseMethodDescriptor yX10_in.desc).map (fun d => d.parameters.length) = some 3 := by decide +kernel
theorem mc_X10_erase : Cond.code yX10_erase cX10_erase 2 (some .int) ∈ TB := tb_in 981 (by decide +kernel) rfl
theorem mn_X10_erase : Cond.instanceMethod yX10_erase ∈ TB := tb_in 979 (by decide +kernel) rfl
theorem ms_X10_erase : Cond.selects RX10 yX10_erase yX10_erase ∈ TB := tb_in 980 (by decide +kernel) rfl
theorem pd_X10_erase : yX10_erase.cls = RX10 ∧ yX10_erase.cls ≠ "java/lang/invoke/MethodHandle" ∧ yX10_erase.cls ≠ "java/lang/invoke/VarHandle" ∧ (parseMethodDescriptor yX10_erase.desc).map (fun d => d.parameters.length) = some 0 := by decide +kernel
theorem mc_X10_fault : Cond.code yX10_fault cX10_fault 1 (some .int) ∈ TB := tb_in 985 (by decide +kernel) rfl
theorem mn_X10_fault : Cond.instanceMethod yX10_fault ∈ TB := tb_in 983 (by decide +kernel) rfl
theorem ms_X10_fault : Cond.selects RX10 yX10_fault yX10_fault ∈ TB := tb_in 984 (by decide +kernel) rfl
theorem pd_X10_fault : yX10_fault.cls = RX10 ∧ yX10_fault.cls ≠ "java/lang/invoke/MethodHandle" ∧ yX10_fault.cls ≠ "java/lang/invoke/VarHandle" ∧ (parseMethodDescriptor yX10_fault.desc).map (fun d => d.parameters.length) = some 0 := by decide +kernel
theorem mc_X10_isRead : Cond.code yX10_isRead cX10_isRead 2 (some .boolean) ∈ TB := tb_in 989 (by decide +kernel) rfl
theorem mn_X10_isRead : Cond.instanceMethod yX10_isRead ∈ TB := tb_in 988 (by decide +kernel) rfl
theorem ms_X10_isRead : Cond.selects RX10 yX10_isRead yX10_isRead ∈ TB := tb_in 30 (by decide +kernel) rfl
theorem pd_X10_isRead : yX10_isRead.cls = RX10 ∧ yX10_isRead.cls ≠ "java/lang/invoke/MethodHandle" ∧ yX10_isRead.cls ≠ "java/lang/invoke/VarHandle" ∧ (parseMethodDescriptor yX10_isRead.desc).map (fun d => d.parameters.length) = some 0 := by decide +kernel
theorem mc_X10_isLine : Cond.code yX10_isLine cX10_isLine 4 (some .boolean) ∈ TB := tb_in 993 (by decide +kernel) rfl
theorem mn_X10_isLine : Cond.instanceMethod yX10_isLine ∈ TB := tb_in 992 (by decide +kernel) rfl
theorem ms_X10_isLine : Cond.selects RX10 yX10_isLine yX10_isLine ∈ TB := tb_in 31 (by decide +kernel) rfl
theorem pd_X10_isLine : yX10_isLine.cls = RX10 ∧ yX10_isLine.cls ≠ "java/lang/invoke/MethodHandle" ∧ yX10_isLine.cls ≠ "java/lang/invoke/VarHandle" ∧ (parseMethodDescriptor yX10_isLine.desc).map (fun d => d.parameters.length) = some 1 := by decide +kernel
theorem mc_X10_nextToken : Cond.code yX10_nextToken cX10_nextToken 1 (none) ∈ TB := tb_in 997 (by decide +kernel) rfl
theorem mn_X10_nextToken : Cond.instanceMethod yX10_nextToken ∈ TB := tb_in 996 (by decide +kernel) rfl
theorem ms_X10_nextToken : Cond.selects RX10 yX10_nextToken yX10_nextToken ∈ TB := tb_in 32 (by decide +kernel) rfl
theorem pd_X10_nextToken : yX10_nextToken.cls = RX10 ∧ yX10_nextToken.cls ≠ "java/lang/invoke/MethodHandle" ∧ yX10_nextToken.cls ≠ "java/lang/invoke/VarHandle" ∧ (parseMethodDescriptor yX10_nextToken.desc).map (fun d => d.parameters.length) = some 0 := by decide +kernel
theorem mc_X10_isBoyLine : Cond.code yX10_isBoyLine cX10_isBoyLine 2 (some .boolean) ∈ TB := tb_in 1021 (by decide +kernel) rfl
theorem mn_X10_isBoyLine : Cond.instanceMethod yX10_isBoyLine ∈ TB := tb_in 1020 (by decide +kernel) rfl
theorem ms_X10_isBoyLine : Cond.selects RX10 yX10_isBoyLine yX10_isBoyLine ∈ TB := tb_in 33 (by decide +kernel) rfl
theorem pd_X10_isBoyLine : yX10_isBoyLine.cls = RX10 ∧ yX10_isBoyLine.cls ≠ "java/lang/invoke/MethodHandle" ∧ yX10_isBoyLine.cls ≠ "java/lang/invoke/VarHandle" ∧ (parseMethodDescriptor yX10_isBoyLine.desc).map (fun d => d.parameters.length) = some 1 := by decide +kernel
theorem mc_X10_fails : Cond.code yX10_fails cX10_fails 1 (some .boolean) ∈ TB := tb_in 1025 (by decide +kernel) rfl
theorem mn_X10_fails : Cond.instanceMethod yX10_fails ∈ TB := tb_in 1024 (by decide +kernel) rfl
theorem ms_X10_fails : Cond.selects RX10 yX10_fails yX10_fails ∈ TB := tb_in 34 (by decide +kernel) rfl
theorem pd_X10_fails : yX10_fails.cls = RX10 ∧ yX10_fails.cls ≠ "java/lang/invoke/MethodHandle" ∧ yX10_fails.cls ≠ "java/lang/invoke/VarHandle" ∧ (parseMethodDescriptor yX10_fails.desc).map (fun d => d.parameters.length) = some 0 := by decide +kernel
theorem mc_X10_isPlace : Cond.code yX10_isPlace cX10_isPlace 2 (some .boolean) ∈ TB := tb_in 1029 (by decide +kernel) rfl
theorem mn_X10_isPlace : Cond.instanceMethod yX10_isPlace ∈ TB := tb_in 1028 (by decide +kernel) rfl
theorem ms_X10_isPlace : Cond.selects RX10 yX10_isPlace yX10_isPlace ∈ TB := tb_in 35 (by decide +kernel) rfl
theorem pd_X10_isPlace : yX10_isPlace.cls = RX10 ∧ yX10_isPlace.cls ≠ "java/lang/invoke/MethodHandle" ∧ yX10_isPlace.cls ≠ "java/lang/invoke/VarHandle" ∧ (parseMethodDescriptor yX10_isPlace.desc).map (fun d => d.parameters.length) = some 1 := by decide +kernel
theorem mc_X10_isNumber : Cond.code yX10_isNumber cX10_isNumber 4 (some .boolean) ∈ TB := tb_in 1033 (by decide +kernel) rfl
theorem mn_X10_isNumber : Cond.instanceMethod yX10_isNumber ∈ TB := tb_in 1032 (by decide +kernel) rfl
theorem ms_X10_isNumber : Cond.selects RX10 yX10_isNumber yX10_isNumber ∈ TB := tb_in 36 (by decide +kernel) rfl
theorem pd_X10_isNumber : yX10_isNumber.cls = RX10 ∧ yX10_isNumber.cls ≠ "java/lang/invoke/MethodHandle" ∧ yX10_isNumber.cls ≠ "java/lang/invoke/VarHandle" ∧ (parseMethodDescriptor yX10_isNumber.desc).map (fun d => d.parameters.length) = some 3 := by decide +kernel
theorem mc_X10_isLeague : Cond.code yX10_isLeague cX10_isLeague 2 (some .boolean) ∈ TB := tb_in 1037 (by decide +kernel) rfl
theorem mn_X10_isLeague : Cond.instanceMethod yX10_isLeague ∈ TB := tb_in 1036 (by decide +kernel) rfl
theorem ms_X10_isLeague : Cond.selects RX10 yX10_isLeague yX10_isLeague ∈ TB := tb_in 37 (by decide +kernel) rfl
theorem pd_X10_isLeague : yX10_isLeague.cls = RX10 ∧ yX10_isLeague.cls ≠ "java/lang/invoke/MethodHandle" ∧ yX10_isLeague.cls ≠ "java/lang/invoke/VarHandle" ∧ (parseMethodDescriptor yX10_isLeague.desc).map (fun d => d.parameters.length) = some 1 := by decide +kernel
theorem mc_X10_isNext : Cond.code yX10_isNext cX10_isNext 2 (some .boolean) ∈ TB := tb_in 1041 (by decide +kernel) rfl
theorem mn_X10_isNext : Cond.instanceMethod yX10_isNext ∈ TB := tb_in 1040 (by decide +kernel) rfl
theorem ms_X10_isNext : Cond.selects RX10 yX10_isNext yX10_isNext ∈ TB := tb_in 38 (by decide +kernel) rfl
theorem pd_X10_isNext : yX10_isNext.cls = RX10 ∧ yX10_isNext.cls ≠ "java/lang/invoke/MethodHandle" ∧ yX10_isNext.cls ≠ "java/lang/invoke/VarHandle" ∧ (parseMethodDescriptor yX10_isNext.desc).map (fun d => d.parameters.length) = some 1 := by decide +kernel
theorem mc_X10_league : Cond.code yX10_league cX10_league 2 (some .int) ∈ TB := tb_in 1045 (by decide +kernel) rfl
theorem mn_X10_league : Cond.instanceMethod yX10_league ∈ TB := tb_in 1043 (by decide +kernel) rfl
theorem ms_X10_league : Cond.selects RX10 yX10_league yX10_league ∈ TB := tb_in 1044 (by decide +kernel) rfl
theorem pd_X10_league : yX10_league.cls = RX10 ∧ yX10_league.cls ≠ "java/lang/invoke/MethodHandle" ∧ yX10_league.cls ≠ "java/lang/invoke/VarHandle" ∧ (parseMethodDescriptor yX10_league.desc).map (fun d => d.parameters.length) = some 0 := by decide +kernel
theorem mc_X10_doLine : Cond.code yX10_doLine cX10_doLine 4 (none) ∈ TB := tb_in 1049 (by decide +kernel) rfl
theorem mn_X10_doLine : Cond.instanceMethod yX10_doLine ∈ TB := tb_in 1048 (by decide +kernel) rfl
theorem ms_X10_doLine : Cond.selects RX10 yX10_doLine yX10_doLine ∈ TB := tb_in 39 (by decide +kernel) rfl
theorem pd_X10_doLine : yX10_doLine.cls = RX10 ∧ yX10_doLine.cls ≠ "java/lang/invoke/MethodHandle" ∧ yX10_doLine.cls ≠ "java/lang/invoke/VarHandle" ∧ (parseMethodDescriptor yX10_doLine.desc).map (fun d => d.parameters.length) = some 1 := by decide +kernel
theorem mc_X10_town : Cond.code yX10_town cX10_town 5 (some .int) ∈ TB := tb_in 1053 (by decide +kernel) rfl
theorem mn_X10_town : Cond.instanceMethod yX10_town ∈ TB := tb_in 1051 (by decide +kernel) rfl
theorem ms_X10_town : Cond.selects RX10 yX10_town yX10_town ∈ TB := tb_in 1052 (by decide +kernel) rfl
theorem pd_X10_town : yX10_town.cls = RX10 ∧ yX10_town.cls ≠ "java/lang/invoke/MethodHandle" ∧ yX10_town.cls ≠ "java/lang/invoke/VarHandle" ∧ (parseMethodDescriptor yX10_town.desc).map (fun d => d.parameters.length) = some 2 := by decide +kernel
theorem mc_X10_isTown : Cond.code yX10_isTown cX10_isTown 2 (some .boolean) ∈ TB := tb_in 1057 (by decide +kernel) rfl
theorem mn_X10_isTown : Cond.instanceMethod yX10_isTown ∈ TB := tb_in 1056 (by decide +kernel) rfl
theorem ms_X10_isTown : Cond.selects RX10 yX10_isTown yX10_isTown ∈ TB := tb_in 40 (by decide +kernel) rfl
theorem pd_X10_isTown : yX10_isTown.cls = RX10 ∧ yX10_isTown.cls ≠ "java/lang/invoke/MethodHandle" ∧ yX10_isTown.cls ≠ "java/lang/invoke/VarHandle" ∧ (parseMethodDescriptor yX10_isTown.desc).map (fun d => d.parameters.length) = some 1 := by decide +kernel
theorem mc_X10_boy : Cond.code yX10_boy cX10_boy 3 (some .int) ∈ TB := tb_in 1062 (by decide +kernel) rfl
theorem mn_X10_boy : Cond.instanceMethod yX10_boy ∈ TB := tb_in 1060 (by decide +kernel) rfl
theorem ms_X10_boy : Cond.selects RX10 yX10_boy yX10_boy ∈ TB := tb_in 1061 (by decide +kernel) rfl
theorem pd_X10_boy : yX10_boy.cls = RX10 ∧ yX10_boy.cls ≠ "java/lang/invoke/MethodHandle" ∧ yX10_boy.cls ≠ "java/lang/invoke/VarHandle" ∧ (parseMethodDescriptor yX10_boy.desc).map (fun d => d.parameters.length) = some 2 := by decide +kernel
theorem mc_X10_isBoy : Cond.code yX10_isBoy cX10_isBoy 2 (some .boolean) ∈ TB := tb_in 1066 (by decide +kernel) rfl
theorem mn_X10_isBoy : Cond.instanceMethod yX10_isBoy ∈ TB := tb_in 1065 (by decide +kernel) rfl
theorem ms_X10_isBoy : Cond.selects RX10 yX10_isBoy yX10_isBoy ∈ TB := tb_in 41 (by decide +kernel) rfl
theorem pd_X10_isBoy : yX10_isBoy.cls = RX10 ∧ yX10_isBoy.cls ≠ "java/lang/invoke/MethodHandle" ∧ yX10_isBoy.cls ≠ "java/lang/invoke/VarHandle" ∧ (parseMethodDescriptor yX10_isBoy.desc).map (fun d => d.parameters.length) = some 1 := by decide +kernel
theorem mc_X10_worthOf : Cond.code yX10_worthOf cX10_worthOf 2 (some .int) ∈ TB := tb_in 1070 (by decide +kernel) rfl
theorem mn_X10_worthOf : Cond.instanceMethod yX10_worthOf ∈ TB := tb_in 1069 (by decide +kernel) rfl
theorem ms_X10_worthOf : Cond.selects RX10 yX10_worthOf yX10_worthOf ∈ TB := tb_in 42 (by decide +kernel) rfl
theorem pd_X10_worthOf : yX10_worthOf.cls = RX10 ∧ yX10_worthOf.cls ≠ "java/lang/invoke/MethodHandle" ∧ yX10_worthOf.cls ≠ "java/lang/invoke/VarHandle" ∧ (parseMethodDescriptor yX10_worthOf.desc).map (fun d => d.parameters.length) = some 1 := by decide +kernel
theorem mc_X10_poundsOf : Cond.code yX10_poundsOf cX10_poundsOf 3 (some .int) ∈ TB := tb_in 1074 (by decide +kernel) rfl
theorem mn_X10_poundsOf : Cond.instanceMethod yX10_poundsOf ∈ TB := tb_in 1073 (by decide +kernel) rfl
theorem ms_X10_poundsOf : Cond.selects RX10 yX10_poundsOf yX10_poundsOf ∈ TB := tb_in 43 (by decide +kernel) rfl
theorem pd_X10_poundsOf : yX10_poundsOf.cls = RX10 ∧ yX10_poundsOf.cls ≠ "java/lang/invoke/MethodHandle" ∧ yX10_poundsOf.cls ≠ "java/lang/invoke/VarHandle" ∧ (parseMethodDescriptor yX10_poundsOf.desc).map (fun d => d.parameters.length) = some 2 := by decide +kernel
theorem mc_X10_as : Cond.code yX10_as cX10_as 4 (some .int) ∈ TB := tb_in 1078 (by decide +kernel) rfl
theorem mn_X10_as : Cond.instanceMethod yX10_as ∈ TB := tb_in 1076 (by decide +kernel) rfl
theorem ms_X10_as : Cond.selects RX10 yX10_as yX10_as ∈ TB := tb_in 1077 (by decide +kernel) rfl
theorem pd_X10_as : yX10_as.cls = RX10 ∧ yX10_as.cls ≠ "java/lang/invoke/MethodHandle" ∧ yX10_as.cls ≠ "java/lang/invoke/VarHandle" ∧ (parseMethodDescriptor yX10_as.desc).map (fun d => d.parameters.length) = some 2 := by decide +kernel
theorem mc_X10_give : Cond.code yX10_give cX10_give 3 (some .int) ∈ TB := tb_in 1082 (by decide +kernel) rfl
theorem mn_X10_give : Cond.instanceMethod yX10_give ∈ TB := tb_in 1080 (by decide +kernel) rfl
theorem ms_X10_give : Cond.selects RX10 yX10_give yX10_give ∈ TB := tb_in 1081 (by decide +kernel) rfl
theorem pd_X10_give : yX10_give.cls = RX10 ∧ yX10_give.cls ≠ "java/lang/invoke/MethodHandle" ∧ yX10_give.cls ≠ "java/lang/invoke/VarHandle" ∧ (parseMethodDescriptor yX10_give.desc).map (fun d => d.parameters.length) = some 2 := by decide +kernel
theorem mc_X10_drop : Cond.code yX10_drop cX10_drop 2 (some .int) ∈ TB := tb_in 1086 (by decide +kernel) rfl
theorem mn_X10_drop : Cond.instanceMethod yX10_drop ∈ TB := tb_in 1084 (by decide +kernel) rfl
theorem ms_X10_drop : Cond.selects RX10 yX10_drop yX10_drop ∈ TB := tb_in 1085 (by decide +kernel) rfl
theorem pd_X10_drop : yX10_drop.cls = RX10 ∧ yX10_drop.cls ≠ "java/lang/invoke/MethodHandle" ∧ yX10_drop.cls ≠ "java/lang/invoke/VarHandle" ∧ (parseMethodDescriptor yX10_drop.desc).map (fun d => d.parameters.length) = some 0 := by decide +kernel
theorem mc_X10_balance : Cond.code yX10_balance cX10_balance 2 (some .int) ∈ TB := tb_in 1090 (by decide +kernel) rfl
theorem mn_X10_balance : Cond.instanceMethod yX10_balance ∈ TB := tb_in 1088 (by decide +kernel) rfl
theorem ms_X10_balance : Cond.selects RX10 yX10_balance yX10_balance ∈ TB := tb_in 1089 (by decide +kernel) rfl
theorem pd_X10_balance : yX10_balance.cls = RX10 ∧ yX10_balance.cls ≠ "java/lang/invoke/MethodHandle" ∧ yX10_balance.cls ≠ "java/lang/invoke/VarHandle" ∧ (parseMethodDescriptor yX10_balance.desc).map (fun d => d.parameters.length) = some 1 := by decide +kernel
theorem mc_X10_balanceOf : Cond.code yX10_balanceOf cX10_balanceOf 4 (some .int) ∈ TB := tb_in 1094 (by decide +kernel) rfl
theorem mn_X10_balanceOf : Cond.instanceMethod yX10_balanceOf ∈ TB := tb_in 1093 (by decide +kernel) rfl
theorem ms_X10_balanceOf : Cond.selects RX10 yX10_balanceOf yX10_balanceOf ∈ TB := tb_in 44 (by decide +kernel) rfl
theorem pd_X10_balanceOf : yX10_balanceOf.cls = RX10 ∧ yX10_balanceOf.cls ≠ "java/lang/invoke/MethodHandle" ∧ yX10_balanceOf.cls ≠ "java/lang/invoke/VarHandle" ∧ (parseMethodDescriptor yX10_balanceOf.desc).map (fun d => d.parameters.length) = some 1 := by decide +kernel
theorem mc_X10_judge : Cond.code yX10_judge cX10_judge 4 (some .int) ∈ TB := tb_in 1098 (by decide +kernel) rfl
theorem mn_X10_judge : Cond.instanceMethod yX10_judge ∈ TB := tb_in 1096 (by decide +kernel) rfl
theorem ms_X10_judge : Cond.selects RX10 yX10_judge yX10_judge ∈ TB := tb_in 1097 (by decide +kernel) rfl
theorem pd_X10_judge : yX10_judge.cls = RX10 ∧ yX10_judge.cls ≠ "java/lang/invoke/MethodHandle" ∧ yX10_judge.cls ≠ "java/lang/invoke/VarHandle" ∧ (parseMethodDescriptor yX10_judge.desc).map (fun d => d.parameters.length) = some 0 := by decide +kernel
theorem mc_X10_deal : Cond.code yX10_deal cX10_deal 2 (some .int) ∈ TB := tb_in 1102 (by decide +kernel) rfl
theorem mn_X10_deal : Cond.instanceMethod yX10_deal ∈ TB := tb_in 1100 (by decide +kernel) rfl
theorem ms_X10_deal : Cond.selects RX10 yX10_deal yX10_deal ∈ TB := tb_in 1101 (by decide +kernel) rfl
theorem pd_X10_deal : yX10_deal.cls = RX10 ∧ yX10_deal.cls ≠ "java/lang/invoke/MethodHandle" ∧ yX10_deal.cls ≠ "java/lang/invoke/VarHandle" ∧ (parseMethodDescriptor yX10_deal.desc).map (fun d => d.parameters.length) = some 0 := by decide +kernel
theorem mc_X10_goAll : Cond.code yX10_goAll cX10_goAll 2 (none) ∈ TB := tb_in 1107 (by decide +kernel) rfl
theorem mn_X10_goAll : Cond.instanceMethod yX10_goAll ∈ TB := tb_in 1106 (by decide +kernel) rfl
theorem ms_X10_goAll : Cond.selects RX10 yX10_goAll yX10_goAll ∈ TB := tb_in 45 (by decide +kernel) rfl
theorem pd_X10_goAll : yX10_goAll.cls = RX10 ∧ yX10_goAll.cls ≠ "java/lang/invoke/MethodHandle" ∧ yX10_goAll.cls ≠ "java/lang/invoke/VarHandle" ∧ (parseMethodDescriptor yX10_goAll.desc).map (fun d => d.parameters.length) = some 0 := by decide +kernel
theorem mc_X10_ring : Cond.code yX10_ring cX10_ring 3 (some .int) ∈ TB := tb_in 1111 (by decide +kernel) rfl
theorem mn_X10_ring : Cond.instanceMethod yX10_ring ∈ TB := tb_in 1109 (by decide +kernel) rfl
theorem ms_X10_ring : Cond.selects RX10 yX10_ring yX10_ring ∈ TB := tb_in 1110 (by decide +kernel) rfl
theorem pd_X10_ring : yX10_ring.cls = RX10 ∧ yX10_ring.cls ≠ "java/lang/invoke/MethodHandle" ∧ yX10_ring.cls ≠ "java/lang/invoke/VarHandle" ∧ (parseMethodDescriptor yX10_ring.desc).map (fun d => d.parameters.length) = some 1 := by decide +kernel
theorem mc_X10_findRing : Cond.code yX10_findRing cX10_findRing 7 (some .int) ∈ TB := tb_in 1115 (by decide +kernel) rfl
theorem mn_X10_findRing : Cond.instanceMethod yX10_findRing ∈ TB := tb_in 1114 (by decide +kernel) rfl
theorem ms_X10_findRing : Cond.selects RX10 yX10_findRing yX10_findRing ∈ TB := tb_in 46 (by decide +kernel) rfl
theorem pd_X10_findRing : yX10_findRing.cls = RX10 ∧ yX10_findRing.cls ≠ "java/lang/invoke/MethodHandle" ∧ yX10_findRing.cls ≠ "java/lang/invoke/VarHandle" ∧ (parseMethodDescriptor yX10_findRing.desc).map (fun d => d.parameters.length) = some 0 := by decide +kernel
theorem mc_X10_isOnce : Cond.code yX10_isOnce cX10_isOnce 4 (some .boolean) ∈ TB := tb_in 1119 (by decide +kernel) rfl
theorem mn_X10_isOnce : Cond.instanceMethod yX10_isOnce ∈ TB := tb_in 1118 (by decide +kernel) rfl
theorem ms_X10_isOnce : Cond.selects RX10 yX10_isOnce yX10_isOnce ∈ TB := tb_in 47 (by decide +kernel) rfl
theorem pd_X10_isOnce : yX10_isOnce.cls = RX10 ∧ yX10_isOnce.cls ≠ "java/lang/invoke/MethodHandle" ∧ yX10_isOnce.cls ≠ "java/lang/invoke/VarHandle" ∧ (parseMethodDescriptor yX10_isOnce.desc).map (fun d => d.parameters.length) = some 1 := by decide +kernel
theorem mc_X10_fitsBehind : Cond.code yX10_fitsBehind cX10_fitsBehind 3 (some .boolean) ∈ TB := tb_in 1123 (by decide +kernel) rfl
theorem mn_X10_fitsBehind : Cond.instanceMethod yX10_fitsBehind ∈ TB := tb_in 1122 (by decide +kernel) rfl
theorem ms_X10_fitsBehind : Cond.selects RX10 yX10_fitsBehind yX10_fitsBehind ∈ TB := tb_in 48 (by decide +kernel) rfl
theorem pd_X10_fitsBehind : yX10_fitsBehind.cls = RX10 ∧ yX10_fitsBehind.cls ≠ "java/lang/invoke/MethodHandle" ∧ yX10_fitsBehind.cls ≠ "java/lang/invoke/VarHandle" ∧ (parseMethodDescriptor yX10_fitsBehind.desc).map (fun d => d.parameters.length) = some 2 := by decide +kernel
theorem mc_X10_cheeseOf : Cond.code yX10_cheeseOf cX10_cheeseOf 5 (some .int) ∈ TB := tb_in 1127 (by decide +kernel) rfl
theorem mn_X10_cheeseOf : Cond.instanceMethod yX10_cheeseOf ∈ TB := tb_in 1126 (by decide +kernel) rfl
theorem ms_X10_cheeseOf : Cond.selects RX10 yX10_cheeseOf yX10_cheeseOf ∈ TB := tb_in 49 (by decide +kernel) rfl
theorem pd_X10_cheeseOf : yX10_cheeseOf.cls = RX10 ∧ yX10_cheeseOf.cls ≠ "java/lang/invoke/MethodHandle" ∧ yX10_cheeseOf.cls ≠ "java/lang/invoke/VarHandle" ∧ (parseMethodDescriptor yX10_cheeseOf.desc).map (fun d => d.parameters.length) = some 1 := by decide +kernel
theorem mc_X10_go : Cond.code yX10_go cX10_go 3 (some .int) ∈ TB := tb_in 1131 (by decide +kernel) rfl
theorem mn_X10_go : Cond.instanceMethod yX10_go ∈ TB := tb_in 1129 (by decide +kernel) rfl
theorem ms_X10_go : Cond.selects RX10 yX10_go yX10_go ∈ TB := tb_in 1130 (by decide +kernel) rfl
theorem pd_X10_go : yX10_go.cls = RX10 ∧ yX10_go.cls ≠ "java/lang/invoke/MethodHandle" ∧ yX10_go.cls ≠ "java/lang/invoke/VarHandle" ∧ (parseMethodDescriptor yX10_go.desc).map (fun d => d.parameters.length) = some 1 := by decide +kernel
theorem mc_X10_goYear : Cond.code yX10_goYear cX10_goYear 3 (none) ∈ TB := tb_in 1135 (by decide +kernel) rfl
theorem mn_X10_goYear : Cond.instanceMethod yX10_goYear ∈ TB := tb_in 1134 (by decide +kernel) rfl
theorem ms_X10_goYear : Cond.selects RX10 yX10_goYear yX10_goYear ∈ TB := tb_in 50 (by decide +kernel) rfl
theorem pd_X10_goYear : yX10_goYear.cls = RX10 ∧ yX10_goYear.cls ≠ "java/lang/invoke/MethodHandle" ∧ yX10_goYear.cls ≠ "java/lang/invoke/VarHandle" ∧ (parseMethodDescriptor yX10_goYear.desc).map (fun d => d.parameters.length) = some 0 := by decide +kernel
theorem mc_X10_growUp : Cond.code yX10_growUp cX10_growUp 4 (none) ∈ TB := tb_in 1139 (by decide +kernel) rfl
theorem mn_X10_growUp : Cond.instanceMethod yX10_growUp ∈ TB := tb_in 1138 (by decide +kernel) rfl
theorem ms_X10_growUp : Cond.selects RX10 yX10_growUp yX10_growUp ∈ TB := tb_in 51 (by decide +kernel) rfl
theorem pd_X10_growUp : yX10_growUp.cls = RX10 ∧ yX10_growUp.cls ≠ "java/lang/invoke/MethodHandle" ∧ yX10_growUp.cls ≠ "java/lang/invoke/VarHandle" ∧ (parseMethodDescriptor yX10_growUp.desc).map (fun d => d.parameters.length) = some 1 := by decide +kernel
theorem mc_X10_weightThen : Cond.code yX10_weightThen cX10_weightThen 3 (some .int) ∈ TB := tb_in 1142 (by decide +kernel) rfl
theorem mt_X10_weightThen : Cond.static yX10_weightThen ∈ TB := tb_in 1141 (by decide +kernel) rfl
theorem pd_X10_weightThen : yX10_weightThen.cls ≠ "java/lang/invoke/MethodHandle" ∧ yX10_weightThen.cls ≠ "java/lang/invoke/VarHandle" ∧ (parseMethodDescriptor yX10_weightThen.desc).map (fun d => d.parameters.length) = some 2 := by decide +kernel
theorem mc_X10_sent : Cond.code yX10_sent cX10_sent 5 (some .int) ∈ TB := tb_in 1146 (by decide +kernel) rfl
theorem mn_X10_sent : Cond.instanceMethod yX10_sent ∈ TB := tb_in 1145 (by decide +kernel) rfl
theorem ms_X10_sent : Cond.selects RX10 yX10_sent yX10_sent ∈ TB := tb_in 52 (by decide +kernel) rfl
theorem pd_X10_sent : yX10_sent.cls = RX10 ∧ yX10_sent.cls ≠ "java/lang/invoke/MethodHandle" ∧ yX10_sent.cls ≠ "java/lang/invoke/VarHandle" ∧ (parseMethodDescriptor yX10_sent.desc).map (fun d => d.parameters.length) = some 1 := by decide +kernel
theorem mc_X10_keep : Cond.code yX10_keep cX10_keep 2 (some .int) ∈ TB := tb_in 1150 (by decide +kernel) rfl
theorem mn_X10_keep : Cond.instanceMethod yX10_keep ∈ TB := tb_in 1148 (by decide +kernel) rfl
theorem ms_X10_keep : Cond.selects RX10 yX10_keep yX10_keep ∈ TB := tb_in 1149 (by decide +kernel) rfl
theorem pd_X10_keep : yX10_keep.cls = RX10 ∧ yX10_keep.cls ≠ "java/lang/invoke/MethodHandle" ∧ yX10_keep.cls ≠ "java/lang/invoke/VarHandle" ∧ (parseMethodDescriptor yX10_keep.desc).map (fun d => d.parameters.length) = some 1 := by decide +kernel
theorem mc_X10_copy : Cond.code yX10_copy cX10_copy 5 (none) ∈ TB := tb_in 1153 (by decide +kernel) rfl
theorem mt_X10_copy : Cond.static yX10_copy ∈ TB := tb_in 1152 (by decide +kernel) rfl
theorem pd_X10_copy : yX10_copy.cls ≠ "java/lang/invoke/MethodHandle" ∧ yX10_copy.cls ≠ "java/lang/invoke/VarHandle" ∧ (parseMethodDescriptor yX10_copy.desc).map (fun d => d.parameters.length) = some 4 := by decide +kernel
theorem mc_X10_back : Cond.code yX10_back cX10_back 2 (some .int) ∈ TB := tb_in 1157 (by decide +kernel) rfl
theorem mn_X10_back : Cond.instanceMethod yX10_back ∈ TB := tb_in 1155 (by decide +kernel) rfl
theorem ms_X10_back : Cond.selects RX10 yX10_back yX10_back ∈ TB := tb_in 1156 (by decide +kernel) rfl
theorem pd_X10_back : yX10_back.cls = RX10 ∧ yX10_back.cls ≠ "java/lang/invoke/MethodHandle" ∧ yX10_back.cls ≠ "java/lang/invoke/VarHandle" ∧ (parseMethodDescriptor yX10_back.desc).map (fun d => d.parameters.length) = some 1 := by decide +kernel
theorem mc_X10_later : Cond.code yX10_later cX10_later 5 (some .int) ∈ TB := tb_in 1161 (by decide +kernel) rfl
theorem mn_X10_later : Cond.instanceMethod yX10_later ∈ TB := tb_in 1159 (by decide +kernel) rfl
theorem ms_X10_later : Cond.selects RX10 yX10_later yX10_later ∈ TB := tb_in 1160 (by decide +kernel) rfl
theorem pd_X10_later : yX10_later.cls = RX10 ∧ yX10_later.cls ≠ "java/lang/invoke/MethodHandle" ∧ yX10_later.cls ≠ "java/lang/invoke/VarHandle" ∧ (parseMethodDescriptor yX10_later.desc).map (fun d => d.parameters.length) = some 3 := by decide +kernel
theorem mc_X10_isTime : Cond.code yX10_isTime cX10_isTime 1 (some .boolean) ∈ TB := tb_in 1164 (by decide +kernel) rfl
theorem mt_X10_isTime : Cond.static yX10_isTime ∈ TB := tb_in 1163 (by decide +kernel) rfl
theorem pd_X10_isTime : yX10_isTime.cls ≠ "java/lang/invoke/MethodHandle" ∧ yX10_isTime.cls ≠ "java/lang/invoke/VarHandle" ∧ (parseMethodDescriptor yX10_isTime.desc).map (fun d => d.parameters.length) = some 1 := by decide +kernel
theorem mc_X10_goAside : Cond.code yX10_goAside cX10_goAside 3 (none) ∈ TB := tb_in 1168 (by decide +kernel) rfl
theorem mn_X10_goAside : Cond.instanceMethod yX10_goAside ∈ TB := tb_in 1167 (by decide +kernel) rfl
theorem ms_X10_goAside : Cond.selects RX10 yX10_goAside yX10_goAside ∈ TB := tb_in 53 (by decide +kernel) rfl
theorem pd_X10_goAside : yX10_goAside.cls = RX10 ∧ yX10_goAside.cls ≠ "java/lang/invoke/MethodHandle" ∧ yX10_goAside.cls ≠ "java/lang/invoke/VarHandle" ∧ (parseMethodDescriptor yX10_goAside.desc).map (fun d => d.parameters.length) = some 1 := by decide +kernel
theorem mc_X10_putBack : Cond.code yX10_putBack cX10_putBack 2 (none) ∈ TB := tb_in 1172 (by decide +kernel) rfl
theorem mn_X10_putBack : Cond.instanceMethod yX10_putBack ∈ TB := tb_in 1171 (by decide +kernel) rfl
theorem ms_X10_putBack : Cond.selects RX10 yX10_putBack yX10_putBack ∈ TB := tb_in 54 (by decide +kernel) rfl
theorem pd_X10_putBack : yX10_putBack.cls = RX10 ∧ yX10_putBack.cls ≠ "java/lang/invoke/MethodHandle" ∧ yX10_putBack.cls ≠ "java/lang/invoke/VarHandle" ∧ (parseMethodDescriptor yX10_putBack.desc).map (fun d => d.parameters.length) = some 0 := by decide +kernel
theorem mc_X10_without : Cond.code yX10_without cX10_without 4 (some .int) ∈ TB := tb_in 1176 (by decide +kernel) rfl
theorem mn_X10_without : Cond.instanceMethod yX10_without ∈ TB := tb_in 1174 (by decide +kernel) rfl
theorem ms_X10_without : Cond.selects RX10 yX10_without yX10_without ∈ TB := tb_in 1175 (by decide +kernel) rfl
theorem pd_X10_without : yX10_without.cls = RX10 ∧ yX10_without.cls ≠ "java/lang/invoke/MethodHandle" ∧ yX10_without.cls ≠ "java/lang/invoke/VarHandle" ∧ (parseMethodDescriptor yX10_without.desc).map (fun d => d.parameters.length) = some 1 := by decide +kernel
theorem mc_X10_owed : Cond.code yX10_owed cX10_owed 4 (some .int) ∈ TB := tb_in 1180 (by decide +kernel) rfl
theorem mn_X10_owed : Cond.instanceMethod yX10_owed ∈ TB := tb_in 1178 (by decide +kernel) rfl
theorem ms_X10_owed : Cond.selects RX10 yX10_owed yX10_owed ∈ TB := tb_in 1179 (by decide +kernel) rfl
theorem pd_X10_owed : yX10_owed.cls = RX10 ∧ yX10_owed.cls ≠ "java/lang/invoke/MethodHandle" ∧ yX10_owed.cls ≠ "java/lang/invoke/VarHandle" ∧ (parseMethodDescriptor yX10_owed.desc).map (fun d => d.parameters.length) = some 2 := by decide +kernel
theorem mc_X10_pays : Cond.code yX10_pays cX10_pays 7 (some .int) ∈ TB := tb_in 1184 (by decide +kernel) rfl
theorem mn_X10_pays : Cond.instanceMethod yX10_pays ∈ TB := tb_in 1182 (by decide +kernel) rfl
theorem ms_X10_pays : Cond.selects RX10 yX10_pays yX10_pays ∈ TB := tb_in 1183 (by decide +kernel) rfl
theorem pd_X10_pays : yX10_pays.cls = RX10 ∧ yX10_pays.cls ≠ "java/lang/invoke/MethodHandle" ∧ yX10_pays.cls ≠ "java/lang/invoke/VarHandle" ∧ (parseMethodDescriptor yX10_pays.desc).map (fun d => d.parameters.length) = some 4 := by decide +kernel
theorem mc_X10_paidBy : Cond.code yX10_paidBy cX10_paidBy 9 (some .int) ∈ TB := tb_in 1188 (by decide +kernel) rfl
theorem mn_X10_paidBy : Cond.instanceMethod yX10_paidBy ∈ TB := tb_in 1187 (by decide +kernel) rfl
theorem ms_X10_paidBy : Cond.selects RX10 yX10_paidBy yX10_paidBy ∈ TB := tb_in 55 (by decide +kernel) rfl
theorem pd_X10_paidBy : yX10_paidBy.cls = RX10 ∧ yX10_paidBy.cls ≠ "java/lang/invoke/MethodHandle" ∧ yX10_paidBy.cls ≠ "java/lang/invoke/VarHandle" ∧ (parseMethodDescriptor yX10_paidBy.desc).map (fun d => d.parameters.length) = some 4 := by decide +kernel
theorem mc_X10_gainers : Cond.code yX10_gainers cX10_gainers 7 (some .int) ∈ TB := tb_in 1192 (by decide +kernel) rfl
theorem mn_X10_gainers : Cond.instanceMethod yX10_gainers ∈ TB := tb_in 1190 (by decide +kernel) rfl
theorem ms_X10_gainers : Cond.selects RX10 yX10_gainers yX10_gainers ∈ TB := tb_in 1191 (by decide +kernel) rfl
theorem pd_X10_gainers : yX10_gainers.cls = RX10 ∧ yX10_gainers.cls ≠ "java/lang/invoke/MethodHandle" ∧ yX10_gainers.cls ≠ "java/lang/invoke/VarHandle" ∧ (parseMethodDescriptor yX10_gainers.desc).map (fun d => d.parameters.length) = some 3 := by decide +kernel
theorem mc_X10_weigh : Cond.code yX10_weigh cX10_weigh 4 (some .int) ∈ TB := tb_in 1196 (by decide +kernel) rfl
theorem mn_X10_weigh : Cond.instanceMethod yX10_weigh ∈ TB := tb_in 1194 (by decide +kernel) rfl
theorem ms_X10_weigh : Cond.selects RX10 yX10_weigh yX10_weigh ∈ TB := tb_in 1195 (by decide +kernel) rfl
theorem pd_X10_weigh : yX10_weigh.cls = RX10 ∧ yX10_weigh.cls ≠ "java/lang/invoke/MethodHandle" ∧ yX10_weigh.cls ≠ "java/lang/invoke/VarHandle" ∧ (parseMethodDescriptor yX10_weigh.desc).map (fun d => d.parameters.length) = some 3 := by decide +kernel
theorem mc_X10_forget : Cond.code yX10_forget cX10_forget 2 (some .int) ∈ TB := tb_in 1200 (by decide +kernel) rfl
theorem mn_X10_forget : Cond.instanceMethod yX10_forget ∈ TB := tb_in 1198 (by decide +kernel) rfl
theorem ms_X10_forget : Cond.selects RX10 yX10_forget yX10_forget ∈ TB := tb_in 1199 (by decide +kernel) rfl
theorem pd_X10_forget : yX10_forget.cls = RX10 ∧ yX10_forget.cls ≠ "java/lang/invoke/MethodHandle" ∧ yX10_forget.cls ≠ "java/lang/invoke/VarHandle" ∧ (parseMethodDescriptor yX10_forget.desc).map (fun d => d.parameters.length) = some 0 := by decide +kernel
theorem mc_X10_scales : Cond.code yX10_scales cX10_scales 6 (some .int) ∈ TB := tb_in 1204 (by decide +kernel) rfl
theorem mn_X10_scales : Cond.instanceMethod yX10_scales ∈ TB := tb_in 1202 (by decide +kernel) rfl
theorem ms_X10_scales : Cond.selects RX10 yX10_scales yX10_scales ∈ TB := tb_in 1203 (by decide +kernel) rfl
theorem pd_X10_scales : yX10_scales.cls = RX10 ∧ yX10_scales.cls ≠ "java/lang/invoke/MethodHandle" ∧ yX10_scales.cls ≠ "java/lang/invoke/VarHandle" ∧ (parseMethodDescriptor yX10_scales.desc).map (fun d => d.parameters.length) = some 1 := by decide +kernel
theorem mc_X10_canShow : Cond.code yX10_canShow cX10_canShow 8 (some .boolean) ∈ TB := tb_in 1208 (by decide +kernel) rfl
theorem mn_X10_canShow : Cond.instanceMethod yX10_canShow ∈ TB := tb_in 1207 (by decide +kernel) rfl
theorem ms_X10_canShow : Cond.selects RX10 yX10_canShow yX10_canShow ∈ TB := tb_in 56 (by decide +kernel) rfl
theorem pd_X10_canShow : yX10_canShow.cls = RX10 ∧ yX10_canShow.cls ≠ "java/lang/invoke/MethodHandle" ∧ yX10_canShow.cls ≠ "java/lang/invoke/VarHandle" ∧ (parseMethodDescriptor yX10_canShow.desc).map (fun d => d.parameters.length) = some 2 := by decide +kernel
theorem mc_X10_road : Cond.code yX10_road cX10_road 3 (some .int) ∈ TB := tb_in 1212 (by decide +kernel) rfl
theorem mn_X10_road : Cond.instanceMethod yX10_road ∈ TB := tb_in 1210 (by decide +kernel) rfl
theorem ms_X10_road : Cond.selects RX10 yX10_road yX10_road ∈ TB := tb_in 1211 (by decide +kernel) rfl
theorem pd_X10_road : yX10_road.cls = RX10 ∧ yX10_road.cls ≠ "java/lang/invoke/MethodHandle" ∧ yX10_road.cls ≠ "java/lang/invoke/VarHandle" ∧ (parseMethodDescriptor yX10_road.desc).map (fun d => d.parameters.length) = some 2 := by decide +kernel
theorem mc_X10_arrive : Cond.code yX10_arrive cX10_arrive 2 (some .int) ∈ TB := tb_in 1216 (by decide +kernel) rfl
theorem mn_X10_arrive : Cond.instanceMethod yX10_arrive ∈ TB := tb_in 1214 (by decide +kernel) rfl
theorem ms_X10_arrive : Cond.selects RX10 yX10_arrive yX10_arrive ∈ TB := tb_in 1215 (by decide +kernel) rfl
theorem pd_X10_arrive : yX10_arrive.cls = RX10 ∧ yX10_arrive.cls ≠ "java/lang/invoke/MethodHandle" ∧ yX10_arrive.cls ≠ "java/lang/invoke/VarHandle" ∧ (parseMethodDescriptor yX10_arrive.desc).map (fun d => d.parameters.length) = some 0 := by decide +kernel
theorem mc_X10_who : Cond.code yX10_who cX10_who 5 (some .int) ∈ TB := tb_in 1220 (by decide +kernel) rfl
theorem mn_X10_who : Cond.instanceMethod yX10_who ∈ TB := tb_in 1218 (by decide +kernel) rfl
theorem ms_X10_who : Cond.selects RX10 yX10_who yX10_who ∈ TB := tb_in 1219 (by decide +kernel) rfl
theorem pd_X10_who : yX10_who.cls = RX10 ∧ yX10_who.cls ≠ "java/lang/invoke/MethodHandle" ∧ yX10_who.cls ≠ "java/lang/invoke/VarHandle" ∧ (parseMethodDescriptor yX10_who.desc).map (fun d => d.parameters.length) = some 1 := by decide +kernel
theorem mc_X10_isFree : Cond.code yX10_isFree cX10_isFree 4 (some .boolean) ∈ TB := tb_in 1224 (by decide +kernel) rfl
theorem mn_X10_isFree : Cond.instanceMethod yX10_isFree ∈ TB := tb_in 1223 (by decide +kernel) rfl
theorem ms_X10_isFree : Cond.selects RX10 yX10_isFree yX10_isFree ∈ TB := tb_in 57 (by decide +kernel) rfl
theorem pd_X10_isFree : yX10_isFree.cls = RX10 ∧ yX10_isFree.cls ≠ "java/lang/invoke/MethodHandle" ∧ yX10_isFree.cls ≠ "java/lang/invoke/VarHandle" ∧ (parseMethodDescriptor yX10_isFree.desc).map (fun d => d.parameters.length) = some 1 := by decide +kernel
theorem mc_X10_canBe : Cond.code yX10_canBe cX10_canBe 3 (some .boolean) ∈ TB := tb_in 1228 (by decide +kernel) rfl
theorem mn_X10_canBe : Cond.instanceMethod yX10_canBe ∈ TB := tb_in 1227 (by decide +kernel) rfl
theorem ms_X10_canBe : Cond.selects RX10 yX10_canBe yX10_canBe ∈ TB := tb_in 58 (by decide +kernel) rfl
theorem pd_X10_canBe : yX10_canBe.cls = RX10 ∧ yX10_canBe.cls ≠ "java/lang/invoke/MethodHandle" ∧ yX10_canBe.cls ≠ "java/lang/invoke/VarHandle" ∧ (parseMethodDescriptor yX10_canBe.desc).map (fun d => d.parameters.length) = some 2 := by decide +kernel
theorem mc_X10_count : Cond.code yX10_count cX10_count 2 (some .int) ∈ TB := tb_in 1232 (by decide +kernel) rfl
theorem mn_X10_count : Cond.instanceMethod yX10_count ∈ TB := tb_in 1230 (by decide +kernel) rfl
theorem ms_X10_count : Cond.selects RX10 yX10_count yX10_count ∈ TB := tb_in 1231 (by decide +kernel) rfl
theorem pd_X10_count : yX10_count.cls = RX10 ∧ yX10_count.cls ≠ "java/lang/invoke/MethodHandle" ∧ yX10_count.cls ≠ "java/lang/invoke/VarHandle" ∧ (parseMethodDescriptor yX10_count.desc).map (fun d => d.parameters.length) = some 1 := by decide +kernel
theorem mc_mmax : Cond.code Lib.Math.max.name Lib.Math.max.code 2 (some .int) ∈ TB := tb_in 699 (by decide +kernel) rfl
theorem mt_mmax : Cond.static Lib.Math.max.name ∈ TB := tb_in 698 (by decide +kernel) rfl
theorem mc_mmin : Cond.code Lib.Math.min.name Lib.Math.min.code 2 (some .int) ∈ TB := tb_in 457 (by decide +kernel) rfl
theorem mt_mmin : Cond.static Lib.Math.min.name ∈ TB := tb_in 456 (by decide +kernel) rfl
theorem mc_mabs : Cond.code Lib.Math.abs.name Lib.Math.abs.code 1 (some .int) ∈ TB := tb_in 665 (by decide +kernel) rfl
theorem mt_mabs : Cond.static Lib.Math.abs.name ∈ TB := tb_in 664 (by decide +kernel) rfl
theorem mt_copy : Cond.static arraycopyName ∈ TB := tb_in 437 (by decide +kernel) rfl
theorem mv_copy : Cond.native arraycopyName ∈ TB := tb_in 438 (by decide +kernel) rfl
theorem mf_X8_15 : Cond.fieldLink RX8 15 "PoundBoys$Text" "length" "I" ∈ TB := tb_in 92 (by decide +kernel) rfl
theorem gf_X8_15 {E : EN} {M : MF} {ws : va_W} {pc : Nat} {lv : List (Nat × Value)} {st : List Value} {q a : Nat} {fs : List Value} {v : Value} (hown : M.1.1 = RX8) (q0 : Nat) (he : ws[q0]? = some (a, .inr (8, fs))) (hv : fs[0]? = some v) (hdg : decode M.1.2.1 pc = .ok (.getfield 15, 3)) (hq : pc + 3 = q) (kk : G E M ws q lv (v :: st)) : G E M ws pc lv (.ref a :: st) := g_get hown inX8 rfl 0 (by decide) mf_X8_15 q0 he hv hdg hq kk
theorem pf_X8_15 {E : EN} {M : MF} {ws : va_W} {pc : Nat} {lv : List (Nat × Value)} {st : List Value} {q a : Nat} {fs : List Value} {x : Int32} {ws' : va_W} (hown : M.1.1 = RX8) (q0 : Nat) (he : ws[q0]? = some (a, .inr (8, fs))) (hl0 : 0 < fs.length) (hws : ws.set q0 (a, .inr (8, fs.set 0 (.int x))) = ws') (hdg : decode M.1.2.1 pc = .ok (.putfield 15, 3)) (hq : pc + 3 = q) (kk : G E M ws' q lv st) : G E M ws pc lv (.int x :: .ref a :: st) := g_put (ty := .int) hown inX8 tyX8 tyX8_ok nmX8 rfl 0 (by decide) mf_X8_15 rfl (by decide +kernel) rfl rfl q0 he hl0 hws hdg hq kk
theorem mf_X9_98 : Cond.fieldLink RX9 98 "PoundBoys$Text" "length" "I" ∈ TB := tb_in 93 (by decide +kernel) rfl
theorem gf_X9_98 {E : EN} {M : MF} {ws : va_W} {pc : Nat} {lv : List (Nat × Value)} {st : List Value} {q a : Nat} {fs : List Value} {v : Value} (hown : M.1.1 = RX9) (q0 : Nat) (he : ws[q0]? = some (a, .inr (8, fs))) (hv : fs[0]? = some v) (hdg : decode M.1.2.1 pc = .ok (.getfield 98, 3)) (hq : pc + 3 = q) (kk : G E M ws q lv (v :: st)) : G E M ws pc lv (.ref a :: st) := g_get hown inX8 rfl 0 (by decide) mf_X9_98 q0 he hv hdg hq kk
theorem pf_X9_98 {E : EN} {M : MF} {ws : va_W} {pc : Nat} {lv : List (Nat × Value)} {st : List Value} {q a : Nat} {fs : List Value} {x : Int32} {ws' : va_W} (hown : M.1.1 = RX9) (q0 : Nat) (he : ws[q0]? = some (a, .inr (8, fs))) (hl0 : 0 < fs.length) (hws : ws.set q0 (a, .inr (8, fs.set 0 (.int x))) = ws') (hdg : decode M.1.2.1 pc = .ok (.putfield 98, 3)) (hq : pc + 3 = q) (kk : G E M ws' q lv st) : G E M ws pc lv (.int x :: .ref a :: st) := g_put (ty := .int) hown inX8 tyX8 tyX8_ok nmX8 rfl 0 (by decide) mf_X9_98 rfl (by decide +kernel) rfl rfl q0 he hl0 hws hdg hq kk
theorem mf_X4_56 : Cond.fieldLink RX4 56 "PoundBoys$Text" "length" "I" ∈ TB := tb_in 94 (by decide +kernel) rfl
theorem gf_X4_56 {E : EN} {M : MF} {ws : va_W} {pc : Nat} {lv : List (Nat × Value)} {st : List Value} {q a : Nat} {fs : List Value} {v : Value} (hown : M.1.1 = RX4) (q0 : Nat) (he : ws[q0]? = some (a, .inr (8, fs))) (hv : fs[0]? = some v) (hdg : decode M.1.2.1 pc = .ok (.getfield 56, 3)) (hq : pc + 3 = q) (kk : G E M ws q lv (v :: st)) : G E M ws pc lv (.ref a :: st) := g_get hown inX8 rfl 0 (by decide) mf_X4_56 q0 he hv hdg hq kk
theorem pf_X4_56 {E : EN} {M : MF} {ws : va_W} {pc : Nat} {lv : List (Nat × Value)} {st : List Value} {q a : Nat} {fs : List Value} {x : Int32} {ws' : va_W} (hown : M.1.1 = RX4) (q0 : Nat) (he : ws[q0]? = some (a, .inr (8, fs))) (hl0 : 0 < fs.length) (hws : ws.set q0 (a, .inr (8, fs.set 0 (.int x))) = ws') (hdg : decode M.1.2.1 pc = .ok (.putfield 56, 3)) (hq : pc + 3 = q) (kk : G E M ws' q lv st) : G E M ws pc lv (.int x :: .ref a :: st) := g_put (ty := .int) hown inX8 tyX8 tyX8_ok nmX8 rfl 0 (by decide) mf_X4_56 rfl (by decide +kernel) rfl rfl q0 he hl0 hws hdg hq kk
theorem mf_X8_9 : Cond.fieldLink RX8 9 "PoundBoys$Text" "bytes" "[B" ∈ TB := tb_in 95 (by decide +kernel) rfl
theorem gf_X8_9 {E : EN} {M : MF} {ws : va_W} {pc : Nat} {lv : List (Nat × Value)} {st : List Value} {q a : Nat} {fs : List Value} {v : Value} (hown : M.1.1 = RX8) (q0 : Nat) (he : ws[q0]? = some (a, .inr (8, fs))) (hv : fs[1]? = some v) (hdg : decode M.1.2.1 pc = .ok (.getfield 9, 3)) (hq : pc + 3 = q) (kk : G E M ws q lv (v :: st)) : G E M ws pc lv (.ref a :: st) := g_get hown inX8 rfl 1 (by decide) mf_X8_9 q0 he hv hdg hq kk
theorem mf_X2_30 : Cond.fieldLink RX2 30 "PoundBoys$Folk" "boys" "I" ∈ TB := tb_in 114 (by decide +kernel) rfl
theorem gf_X2_30 {E : EN} {M : MF} {ws : va_W} {pc : Nat} {lv : List (Nat × Value)} {st : List Value} {q a : Nat} {fs : List Value} {v : Value} (hown : M.1.1 = RX2) (q0 : Nat) (he : ws[q0]? = some (a, .inr (2, fs))) (hv : fs[0]? = some v) (hdg : decode M.1.2.1 pc = .ok (.getfield 30, 3)) (hq : pc + 3 = q) (kk : G E M ws q lv (v :: st)) : G E M ws pc lv (.ref a :: st) := g_get hown inX2 rfl 0 (by decide) mf_X2_30 q0 he hv hdg hq kk
theorem pf_X2_30 {E : EN} {M : MF} {ws : va_W} {pc : Nat} {lv : List (Nat × Value)} {st : List Value} {q a : Nat} {fs : List Value} {x : Int32} {ws' : va_W} (hown : M.1.1 = RX2) (q0 : Nat) (he : ws[q0]? = some (a, .inr (2, fs))) (hl0 : 0 < fs.length) (hws : ws.set q0 (a, .inr (2, fs.set 0 (.int x))) = ws') (hdg : decode M.1.2.1 pc = .ok (.putfield 30, 3)) (hq : pc + 3 = q) (kk : G E M ws' q lv st) : G E M ws pc lv (.int x :: .ref a :: st) := g_put (ty := .int) hown inX2 tyX2 tyX2_ok nmX2 rfl 0 (by decide) mf_X2_30 rfl (by decide +kernel) rfl rfl q0 he hl0 hws hdg hq kk
theorem mf_X0_15 : Cond.fieldLink RX0 15 "PoundBoys$Folk" "boys" "I" ∈ TB := tb_in 115 (by decide +kernel) rfl
theorem gf_X0_15 {E : EN} {M : MF} {ws : va_W} {pc : Nat} {lv : List (Nat × Value)} {st : List Value} {q a : Nat} {fs : List Value} {v : Value} (hown : M.1.1 = RX0) (q0 : Nat) (he : ws[q0]? = some (a, .inr (2, fs))) (hv : fs[0]? = some v) (hdg : decode M.1.2.1 pc = .ok (.getfield 15, 3)) (hq : pc + 3 = q) (kk : G E M ws q lv (v :: st)) : G E M ws pc lv (.ref a :: st) := g_get hown inX2 rfl 0 (by decide) mf_X0_15 q0 he hv hdg hq kk
theorem pf_X0_15 {E : EN} {M : MF} {ws : va_W} {pc : Nat} {lv : List (Nat × Value)} {st : List Value} {q a : Nat} {fs : List Value} {x : Int32} {ws' : va_W} (hown : M.1.1 = RX0) (q0 : Nat) (he : ws[q0]? = some (a, .inr (2, fs))) (hl0 : 0 < fs.length) (hws : ws.set q0 (a, .inr (2, fs.set 0 (.int x))) = ws') (hdg : decode M.1.2.1 pc = .ok (.putfield 15, 3)) (hq : pc + 3 = q) (kk : G E M ws' q lv st) : G E M ws pc lv (.int x :: .ref a :: st) := g_put (ty := .int) hown inX2 tyX2 tyX2_ok nmX2 rfl 0 (by decide) mf_X0_15 rfl (by decide +kernel) rfl rfl q0 he hl0 hws hdg hq kk
theorem mf_X5_36 : Cond.fieldLink RX5 36 "PoundBoys$Folk" "boys" "I" ∈ TB := tb_in 116 (by decide +kernel) rfl
theorem gf_X5_36 {E : EN} {M : MF} {ws : va_W} {pc : Nat} {lv : List (Nat × Value)} {st : List Value} {q a : Nat} {fs : List Value} {v : Value} (hown : M.1.1 = RX5) (q0 : Nat) (he : ws[q0]? = some (a, .inr (2, fs))) (hv : fs[0]? = some v) (hdg : decode M.1.2.1 pc = .ok (.getfield 36, 3)) (hq : pc + 3 = q) (kk : G E M ws q lv (v :: st)) : G E M ws pc lv (.ref a :: st) := g_get hown inX2 rfl 0 (by decide) mf_X5_36 q0 he hv hdg hq kk
theorem pf_X5_36 {E : EN} {M : MF} {ws : va_W} {pc : Nat} {lv : List (Nat × Value)} {st : List Value} {q a : Nat} {fs : List Value} {x : Int32} {ws' : va_W} (hown : M.1.1 = RX5) (q0 : Nat) (he : ws[q0]? = some (a, .inr (2, fs))) (hl0 : 0 < fs.length) (hws : ws.set q0 (a, .inr (2, fs.set 0 (.int x))) = ws') (hdg : decode M.1.2.1 pc = .ok (.putfield 36, 3)) (hq : pc + 3 = q) (kk : G E M ws' q lv st) : G E M ws pc lv (.int x :: .ref a :: st) := g_put (ty := .int) hown inX2 tyX2 tyX2_ok nmX2 rfl 0 (by decide) mf_X5_36 rfl (by decide +kernel) rfl rfl q0 he hl0 hws hdg hq kk
theorem mf_X3_44 : Cond.fieldLink RX3 44 "PoundBoys$Folk" "boys" "I" ∈ TB := tb_in 117 (by decide +kernel) rfl
theorem gf_X3_44 {E : EN} {M : MF} {ws : va_W} {pc : Nat} {lv : List (Nat × Value)} {st : List Value} {q a : Nat} {fs : List Value} {v : Value} (hown : M.1.1 = RX3) (q0 : Nat) (he : ws[q0]? = some (a, .inr (2, fs))) (hv : fs[0]? = some v) (hdg : decode M.1.2.1 pc = .ok (.getfield 44, 3)) (hq : pc + 3 = q) (kk : G E M ws q lv (v :: st)) : G E M ws pc lv (.ref a :: st) := g_get hown inX2 rfl 0 (by decide) mf_X3_44 q0 he hv hdg hq kk
theorem pf_X3_44 {E : EN} {M : MF} {ws : va_W} {pc : Nat} {lv : List (Nat × Value)} {st : List Value} {q a : Nat} {fs : List Value} {x : Int32} {ws' : va_W} (hown : M.1.1 = RX3) (q0 : Nat) (he : ws[q0]? = some (a, .inr (2, fs))) (hl0 : 0 < fs.length) (hws : ws.set q0 (a, .inr (2, fs.set 0 (.int x))) = ws') (hdg : decode M.1.2.1 pc = .ok (.putfield 44, 3)) (hq : pc + 3 = q) (kk : G E M ws' q lv st) : G E M ws pc lv (.int x :: .ref a :: st) := g_put (ty := .int) hown inX2 tyX2 tyX2_ok nmX2 rfl 0 (by decide) mf_X3_44 rfl (by decide +kernel) rfl rfl q0 he hl0 hws hdg hq kk
theorem mf_X6_32 : Cond.fieldLink RX6 32 "PoundBoys$Folk" "boys" "I" ∈ TB := tb_in 118 (by decide +kernel) rfl
theorem gf_X6_32 {E : EN} {M : MF} {ws : va_W} {pc : Nat} {lv : List (Nat × Value)} {st : List Value} {q a : Nat} {fs : List Value} {v : Value} (hown : M.1.1 = RX6) (q0 : Nat) (he : ws[q0]? = some (a, .inr (2, fs))) (hv : fs[0]? = some v) (hdg : decode M.1.2.1 pc = .ok (.getfield 32, 3)) (hq : pc + 3 = q) (kk : G E M ws q lv (v :: st)) : G E M ws pc lv (.ref a :: st) := g_get hown inX2 rfl 0 (by decide) mf_X6_32 q0 he hv hdg hq kk
theorem pf_X6_32 {E : EN} {M : MF} {ws : va_W} {pc : Nat} {lv : List (Nat × Value)} {st : List Value} {q a : Nat} {fs : List Value} {x : Int32} {ws' : va_W} (hown : M.1.1 = RX6) (q0 : Nat) (he : ws[q0]? = some (a, .inr (2, fs))) (hl0 : 0 < fs.length) (hws : ws.set q0 (a, .inr (2, fs.set 0 (.int x))) = ws') (hdg : decode M.1.2.1 pc = .ok (.putfield 32, 3)) (hq : pc + 3 = q) (kk : G E M ws' q lv st) : G E M ws pc lv (.int x :: .ref a :: st) := g_put (ty := .int) hown inX2 tyX2 tyX2_ok nmX2 rfl 0 (by decide) mf_X6_32 rfl (by decide +kernel) rfl rfl q0 he hl0 hws hdg hq kk
theorem mf_X4_91 : Cond.fieldLink RX4 91 "PoundBoys$Folk" "boys" "I" ∈ TB := tb_in 119 (by decide +kernel) rfl
theorem gf_X4_91 {E : EN} {M : MF} {ws : va_W} {pc : Nat} {lv : List (Nat × Value)} {st : List Value} {q a : Nat} {fs : List Value} {v : Value} (hown : M.1.1 = RX4) (q0 : Nat) (he : ws[q0]? = some (a, .inr (2, fs))) (hv : fs[0]? = some v) (hdg : decode M.1.2.1 pc = .ok (.getfield 91, 3)) (hq : pc + 3 = q) (kk : G E M ws q lv (v :: st)) : G E M ws pc lv (.ref a :: st) := g_get hown inX2 rfl 0 (by decide) mf_X4_91 q0 he hv hdg hq kk
theorem pf_X4_91 {E : EN} {M : MF} {ws : va_W} {pc : Nat} {lv : List (Nat × Value)} {st : List Value} {q a : Nat} {fs : List Value} {x : Int32} {ws' : va_W} (hown : M.1.1 = RX4) (q0 : Nat) (he : ws[q0]? = some (a, .inr (2, fs))) (hl0 : 0 < fs.length) (hws : ws.set q0 (a, .inr (2, fs.set 0 (.int x))) = ws') (hdg : decode M.1.2.1 pc = .ok (.putfield 91, 3)) (hq : pc + 3 = q) (kk : G E M ws' q lv st) : G E M ws pc lv (.int x :: .ref a :: st) := g_put (ty := .int) hown inX2 tyX2 tyX2_ok nmX2 rfl 0 (by decide) mf_X4_91 rfl (by decide +kernel) rfl rfl q0 he hl0 hws hdg hq kk
theorem mf_X9_252 : Cond.fieldLink RX9 252 "PoundBoys$Folk" "boys" "I" ∈ TB := tb_in 120 (by decide +kernel) rfl
theorem gf_X9_252 {E : EN} {M : MF} {ws : va_W} {pc : Nat} {lv : List (Nat × Value)} {st : List Value} {q a : Nat} {fs : List Value} {v : Value} (hown : M.1.1 = RX9) (q0 : Nat) (he : ws[q0]? = some (a, .inr (2, fs))) (hv : fs[0]? = some v) (hdg : decode M.1.2.1 pc = .ok (.getfield 252, 3)) (hq : pc + 3 = q) (kk : G E M ws q lv (v :: st)) : G E M ws pc lv (.ref a :: st) := g_get hown inX2 rfl 0 (by decide) mf_X9_252 q0 he hv hdg hq kk
theorem pf_X9_252 {E : EN} {M : MF} {ws : va_W} {pc : Nat} {lv : List (Nat × Value)} {st : List Value} {q a : Nat} {fs : List Value} {x : Int32} {ws' : va_W} (hown : M.1.1 = RX9) (q0 : Nat) (he : ws[q0]? = some (a, .inr (2, fs))) (hl0 : 0 < fs.length) (hws : ws.set q0 (a, .inr (2, fs.set 0 (.int x))) = ws') (hdg : decode M.1.2.1 pc = .ok (.putfield 252, 3)) (hq : pc + 3 = q) (kk : G E M ws' q lv st) : G E M ws pc lv (.int x :: .ref a :: st) := g_put (ty := .int) hown inX2 tyX2 tyX2_ok nmX2 rfl 0 (by decide) mf_X9_252 rfl (by decide +kernel) rfl rfl q0 he hl0 hws hdg hq kk
theorem mf_X2_34 : Cond.fieldLink RX2 34 "PoundBoys$Folk" "years" "I" ∈ TB := tb_in 121 (by decide +kernel) rfl
theorem gf_X2_34 {E : EN} {M : MF} {ws : va_W} {pc : Nat} {lv : List (Nat × Value)} {st : List Value} {q a : Nat} {fs : List Value} {v : Value} (hown : M.1.1 = RX2) (q0 : Nat) (he : ws[q0]? = some (a, .inr (2, fs))) (hv : fs[1]? = some v) (hdg : decode M.1.2.1 pc = .ok (.getfield 34, 3)) (hq : pc + 3 = q) (kk : G E M ws q lv (v :: st)) : G E M ws pc lv (.ref a :: st) := g_get hown inX2 rfl 1 (by decide) mf_X2_34 q0 he hv hdg hq kk
theorem pf_X2_34 {E : EN} {M : MF} {ws : va_W} {pc : Nat} {lv : List (Nat × Value)} {st : List Value} {q a : Nat} {fs : List Value} {x : Int32} {ws' : va_W} (hown : M.1.1 = RX2) (q0 : Nat) (he : ws[q0]? = some (a, .inr (2, fs))) (hl0 : 1 < fs.length) (hws : ws.set q0 (a, .inr (2, fs.set 1 (.int x))) = ws') (hdg : decode M.1.2.1 pc = .ok (.putfield 34, 3)) (hq : pc + 3 = q) (kk : G E M ws' q lv st) : G E M ws pc lv (.int x :: .ref a :: st) := g_put (ty := .int) hown inX2 tyX2 tyX2_ok nmX2 rfl 1 (by decide) mf_X2_34 rfl (by decide +kernel) rfl rfl q0 he hl0 hws hdg hq kk
theorem mf_X0_47 : Cond.fieldLink RX0 47 "PoundBoys$Folk" "years" "I" ∈ TB := tb_in 122 (by decide +kernel) rfl
theorem gf_X0_47 {E : EN} {M : MF} {ws : va_W} {pc : Nat} {lv : List (Nat × Value)} {st : List Value} {q a : Nat} {fs : List Value} {v : Value} (hown : M.1.1 = RX0) (q0 : Nat) (he : ws[q0]? = some (a, .inr (2, fs))) (hv : fs[1]? = some v) (hdg : decode M.1.2.1 pc = .ok (.getfield 47, 3)) (hq : pc + 3 = q) (kk : G E M ws q lv (v :: st)) : G E M ws pc lv (.ref a :: st) := g_get hown inX2 rfl 1 (by decide) mf_X0_47 q0 he hv hdg hq kk
theorem pf_X0_47 {E : EN} {M : MF} {ws : va_W} {pc : Nat} {lv : List (Nat × Value)} {st : List Value} {q a : Nat} {fs : List Value} {x : Int32} {ws' : va_W} (hown : M.1.1 = RX0) (q0 : Nat) (he : ws[q0]? = some (a, .inr (2, fs))) (hl0 : 1 < fs.length) (hws : ws.set q0 (a, .inr (2, fs.set 1 (.int x))) = ws') (hdg : decode M.1.2.1 pc = .ok (.putfield 47, 3)) (hq : pc + 3 = q) (kk : G E M ws' q lv st) : G E M ws pc lv (.int x :: .ref a :: st) := g_put (ty := .int) hown inX2 tyX2 tyX2_ok nmX2 rfl 1 (by decide) mf_X0_47 rfl (by decide +kernel) rfl rfl q0 he hl0 hws hdg hq kk
theorem mf_X9_238 : Cond.fieldLink RX9 238 "PoundBoys$Folk" "years" "I" ∈ TB := tb_in 123 (by decide +kernel) rfl
theorem gf_X9_238 {E : EN} {M : MF} {ws : va_W} {pc : Nat} {lv : List (Nat × Value)} {st : List Value} {q a : Nat} {fs : List Value} {v : Value} (hown : M.1.1 = RX9) (q0 : Nat) (he : ws[q0]? = some (a, .inr (2, fs))) (hv : fs[1]? = some v) (hdg : decode M.1.2.1 pc = .ok (.getfield 238, 3)) (hq : pc + 3 = q) (kk : G E M ws q lv (v :: st)) : G E M ws pc lv (.ref a :: st) := g_get hown inX2 rfl 1 (by decide) mf_X9_238 q0 he hv hdg hq kk
theorem pf_X9_238 {E : EN} {M : MF} {ws : va_W} {pc : Nat} {lv : List (Nat × Value)} {st : List Value} {q a : Nat} {fs : List Value} {x : Int32} {ws' : va_W} (hown : M.1.1 = RX9) (q0 : Nat) (he : ws[q0]? = some (a, .inr (2, fs))) (hl0 : 1 < fs.length) (hws : ws.set q0 (a, .inr (2, fs.set 1 (.int x))) = ws') (hdg : decode M.1.2.1 pc = .ok (.putfield 238, 3)) (hq : pc + 3 = q) (kk : G E M ws' q lv st) : G E M ws pc lv (.int x :: .ref a :: st) := g_put (ty := .int) hown inX2 tyX2 tyX2_ok nmX2 rfl 1 (by decide) mf_X9_238 rfl (by decide +kernel) rfl rfl q0 he hl0 hws hdg hq kk
theorem mf_X2_9 : Cond.fieldLink RX2 9 "PoundBoys$Folk" "kind" "[I" ∈ TB := tb_in 124 (by decide +kernel) rfl
theorem gf_X2_9 {E : EN} {M : MF} {ws : va_W} {pc : Nat} {lv : List (Nat × Value)} {st : List Value} {q a : Nat} {fs : List Value} {v : Value} (hown : M.1.1 = RX2) (q0 : Nat) (he : ws[q0]? = some (a, .inr (2, fs))) (hv : fs[2]? = some v) (hdg : decode M.1.2.1 pc = .ok (.getfield 9, 3)) (hq : pc + 3 = q) (kk : G E M ws q lv (v :: st)) : G E M ws pc lv (.ref a :: st) := g_get hown inX2 rfl 2 (by decide) mf_X2_9 q0 he hv hdg hq kk
theorem mf_X0_59 : Cond.fieldLink RX0 59 "PoundBoys$Folk" "kind" "[I" ∈ TB := tb_in 125 (by decide +kernel) rfl
theorem gf_X0_59 {E : EN} {M : MF} {ws : va_W} {pc : Nat} {lv : List (Nat × Value)} {st : List Value} {q a : Nat} {fs : List Value} {v : Value} (hown : M.1.1 = RX0) (q0 : Nat) (he : ws[q0]? = some (a, .inr (2, fs))) (hv : fs[2]? = some v) (hdg : decode M.1.2.1 pc = .ok (.getfield 59, 3)) (hq : pc + 3 = q) (kk : G E M ws q lv (v :: st)) : G E M ws pc lv (.ref a :: st) := g_get hown inX2 rfl 2 (by decide) mf_X0_59 q0 he hv hdg hq kk
theorem mf_X3_57 : Cond.fieldLink RX3 57 "PoundBoys$Folk" "kind" "[I" ∈ TB := tb_in 126 (by decide +kernel) rfl
theorem gf_X3_57 {E : EN} {M : MF} {ws : va_W} {pc : Nat} {lv : List (Nat × Value)} {st : List Value} {q a : Nat} {fs : List Value} {v : Value} (hown : M.1.1 = RX3) (q0 : Nat) (he : ws[q0]? = some (a, .inr (2, fs))) (hv : fs[2]? = some v) (hdg : decode M.1.2.1 pc = .ok (.getfield 57, 3)) (hq : pc + 3 = q) (kk : G E M ws q lv (v :: st)) : G E M ws pc lv (.ref a :: st) := g_get hown inX2 rfl 2 (by decide) mf_X3_57 q0 he hv hdg hq kk
theorem mf_X9_165 : Cond.fieldLink RX9 165 "PoundBoys$Folk" "kind" "[I" ∈ TB := tb_in 127 (by decide +kernel) rfl
theorem gf_X9_165 {E : EN} {M : MF} {ws : va_W} {pc : Nat} {lv : List (Nat × Value)} {st : List Value} {q a : Nat} {fs : List Value} {v : Value} (hown : M.1.1 = RX9) (q0 : Nat) (he : ws[q0]? = some (a, .inr (2, fs))) (hv : fs[2]? = some v) (hdg : decode M.1.2.1 pc = .ok (.getfield 165, 3)) (hq : pc + 3 = q) (kk : G E M ws q lv (v :: st)) : G E M ws pc lv (.ref a :: st) := g_get hown inX2 rfl 2 (by decide) mf_X9_165 q0 he hv hdg hq kk
theorem mf_X2_15 : Cond.fieldLink RX2 15 "PoundBoys$Folk" "town" "[I" ∈ TB := tb_in 128 (by decide +kernel) rfl
theorem gf_X2_15 {E : EN} {M : MF} {ws : va_W} {pc : Nat} {lv : List (Nat × Value)} {st : List Value} {q a : Nat} {fs : List Value} {v : Value} (hown : M.1.1 = RX2) (q0 : Nat) (he : ws[q0]? = some (a, .inr (2, fs))) (hv : fs[3]? = some v) (hdg : decode M.1.2.1 pc = .ok (.getfield 15, 3)) (hq : pc + 3 = q) (kk : G E M ws q lv (v :: st)) : G E M ws pc lv (.ref a :: st) := g_get hown inX2 rfl 3 (by decide) mf_X2_15 q0 he hv hdg hq kk
theorem mf_X0_21 : Cond.fieldLink RX0 21 "PoundBoys$Folk" "town" "[I" ∈ TB := tb_in 129 (by decide +kernel) rfl
theorem gf_X0_21 {E : EN} {M : MF} {ws : va_W} {pc : Nat} {lv : List (Nat × Value)} {st : List Value} {q a : Nat} {fs : List Value} {v : Value} (hown : M.1.1 = RX0) (q0 : Nat) (he : ws[q0]? = some (a, .inr (2, fs))) (hv : fs[3]? = some v) (hdg : decode M.1.2.1 pc = .ok (.getfield 21, 3)) (hq : pc + 3 = q) (kk : G E M ws q lv (v :: st)) : G E M ws pc lv (.ref a :: st) := g_get hown inX2 rfl 3 (by decide) mf_X0_21 q0 he hv hdg hq kk
theorem mf_X5_49 : Cond.fieldLink RX5 49 "PoundBoys$Folk" "town" "[I" ∈ TB := tb_in 130 (by decide +kernel) rfl
theorem gf_X5_49 {E : EN} {M : MF} {ws : va_W} {pc : Nat} {lv : List (Nat × Value)} {st : List Value} {q a : Nat} {fs : List Value} {v : Value} (hown : M.1.1 = RX5) (q0 : Nat) (he : ws[q0]? = some (a, .inr (2, fs))) (hv : fs[3]? = some v) (hdg : decode M.1.2.1 pc = .ok (.getfield 49, 3)) (hq : pc + 3 = q) (kk : G E M ws q lv (v :: st)) : G E M ws pc lv (.ref a :: st) := g_get hown inX2 rfl 3 (by decide) mf_X5_49 q0 he hv hdg hq kk
theorem mf_X3_60 : Cond.fieldLink RX3 60 "PoundBoys$Folk" "town" "[I" ∈ TB := tb_in 131 (by decide +kernel) rfl
theorem gf_X3_60 {E : EN} {M : MF} {ws : va_W} {pc : Nat} {lv : List (Nat × Value)} {st : List Value} {q a : Nat} {fs : List Value} {v : Value} (hown : M.1.1 = RX3) (q0 : Nat) (he : ws[q0]? = some (a, .inr (2, fs))) (hv : fs[3]? = some v) (hdg : decode M.1.2.1 pc = .ok (.getfield 60, 3)) (hq : pc + 3 = q) (kk : G E M ws q lv (v :: st)) : G E M ws pc lv (.ref a :: st) := g_get hown inX2 rfl 3 (by decide) mf_X3_60 q0 he hv hdg hq kk
theorem mf_X1_50 : Cond.fieldLink RX1 50 "PoundBoys$Folk" "town" "[I" ∈ TB := tb_in 132 (by decide +kernel) rfl
theorem gf_X1_50 {E : EN} {M : MF} {ws : va_W} {pc : Nat} {lv : List (Nat × Value)} {st : List Value} {q a : Nat} {fs : List Value} {v : Value} (hown : M.1.1 = RX1) (q0 : Nat) (he : ws[q0]? = some (a, .inr (2, fs))) (hv : fs[3]? = some v) (hdg : decode M.1.2.1 pc = .ok (.getfield 50, 3)) (hq : pc + 3 = q) (kk : G E M ws q lv (v :: st)) : G E M ws pc lv (.ref a :: st) := g_get hown inX2 rfl 3 (by decide) mf_X1_50 q0 he hv hdg hq kk
theorem mf_X9_168 : Cond.fieldLink RX9 168 "PoundBoys$Folk" "town" "[I" ∈ TB := tb_in 133 (by decide +kernel) rfl
theorem gf_X9_168 {E : EN} {M : MF} {ws : va_W} {pc : Nat} {lv : List (Nat × Value)} {st : List Value} {q a : Nat} {fs : List Value} {v : Value} (hown : M.1.1 = RX9) (q0 : Nat) (he : ws[q0]? = some (a, .inr (2, fs))) (hv : fs[3]? = some v) (hdg : decode M.1.2.1 pc = .ok (.getfield 168, 3)) (hq : pc + 3 = q) (kk : G E M ws q lv (v :: st)) : G E M ws pc lv (.ref a :: st) := g_get hown inX2 rfl 3 (by decide) mf_X9_168 q0 he hv hdg hq kk
theorem mf_X2_18 : Cond.fieldLink RX2 18 "PoundBoys$Folk" "weight" "[I" ∈ TB := tb_in 134 (by decide +kernel) rfl
theorem gf_X2_18 {E : EN} {M : MF} {ws : va_W} {pc : Nat} {lv : List (Nat × Value)} {st : List Value} {q a : Nat} {fs : List Value} {v : Value} (hown : M.1.1 = RX2) (q0 : Nat) (he : ws[q0]? = some (a, .inr (2, fs))) (hv : fs[4]? = some v) (hdg : decode M.1.2.1 pc = .ok (.getfield 18, 3)) (hq : pc + 3 = q) (kk : G E M ws q lv (v :: st)) : G E M ws pc lv (.ref a :: st) := g_get hown inX2 rfl 4 (by decide) mf_X2_18 q0 he hv hdg hq kk
theorem mf_X0_24 : Cond.fieldLink RX0 24 "PoundBoys$Folk" "weight" "[I" ∈ TB := tb_in 135 (by decide +kernel) rfl
theorem gf_X0_24 {E : EN} {M : MF} {ws : va_W} {pc : Nat} {lv : List (Nat × Value)} {st : List Value} {q a : Nat} {fs : List Value} {v : Value} (hown : M.1.1 = RX0) (q0 : Nat) (he : ws[q0]? = some (a, .inr (2, fs))) (hv : fs[4]? = some v) (hdg : decode M.1.2.1 pc = .ok (.getfield 24, 3)) (hq : pc + 3 = q) (kk : G E M ws q lv (v :: st)) : G E M ws pc lv (.ref a :: st) := g_get hown inX2 rfl 4 (by decide) mf_X0_24 q0 he hv hdg hq kk
theorem mf_X3_63 : Cond.fieldLink RX3 63 "PoundBoys$Folk" "weight" "[I" ∈ TB := tb_in 136 (by decide +kernel) rfl
theorem gf_X3_63 {E : EN} {M : MF} {ws : va_W} {pc : Nat} {lv : List (Nat × Value)} {st : List Value} {q a : Nat} {fs : List Value} {v : Value} (hown : M.1.1 = RX3) (q0 : Nat) (he : ws[q0]? = some (a, .inr (2, fs))) (hv : fs[4]? = some v) (hdg : decode M.1.2.1 pc = .ok (.getfield 63, 3)) (hq : pc + 3 = q) (kk : G E M ws q lv (v :: st)) : G E M ws pc lv (.ref a :: st) := g_get hown inX2 rfl 4 (by decide) mf_X3_63 q0 he hv hdg hq kk
theorem mf_X6_52 : Cond.fieldLink RX6 52 "PoundBoys$Folk" "weight" "[I" ∈ TB := tb_in 137 (by decide +kernel) rfl
theorem gf_X6_52 {E : EN} {M : MF} {ws : va_W} {pc : Nat} {lv : List (Nat × Value)} {st : List Value} {q a : Nat} {fs : List Value} {v : Value} (hown : M.1.1 = RX6) (q0 : Nat) (he : ws[q0]? = some (a, .inr (2, fs))) (hv : fs[4]? = some v) (hdg : decode M.1.2.1 pc = .ok (.getfield 52, 3)) (hq : pc + 3 = q) (kk : G E M ws q lv (v :: st)) : G E M ws pc lv (.ref a :: st) := g_get hown inX2 rfl 4 (by decide) mf_X6_52 q0 he hv hdg hq kk
theorem mf_X9_171 : Cond.fieldLink RX9 171 "PoundBoys$Folk" "weight" "[I" ∈ TB := tb_in 138 (by decide +kernel) rfl
theorem gf_X9_171 {E : EN} {M : MF} {ws : va_W} {pc : Nat} {lv : List (Nat × Value)} {st : List Value} {q a : Nat} {fs : List Value} {v : Value} (hown : M.1.1 = RX9) (q0 : Nat) (he : ws[q0]? = some (a, .inr (2, fs))) (hv : fs[4]? = some v) (hdg : decode M.1.2.1 pc = .ok (.getfield 171, 3)) (hq : pc + 3 = q) (kk : G E M ws q lv (v :: st)) : G E M ws pc lv (.ref a :: st) := g_get hown inX2 rfl 4 (by decide) mf_X9_171 q0 he hv hdg hq kk
theorem mf_X2_21 : Cond.fieldLink RX2 21 "PoundBoys$Folk" "skill" "[I" ∈ TB := tb_in 139 (by decide +kernel) rfl
theorem gf_X2_21 {E : EN} {M : MF} {ws : va_W} {pc : Nat} {lv : List (Nat × Value)} {st : List Value} {q a : Nat} {fs : List Value} {v : Value} (hown : M.1.1 = RX2) (q0 : Nat) (he : ws[q0]? = some (a, .inr (2, fs))) (hv : fs[5]? = some v) (hdg : decode M.1.2.1 pc = .ok (.getfield 21, 3)) (hq : pc + 3 = q) (kk : G E M ws q lv (v :: st)) : G E M ws pc lv (.ref a :: st) := g_get hown inX2 rfl 5 (by decide) mf_X2_21 q0 he hv hdg hq kk
theorem mf_X0_53 : Cond.fieldLink RX0 53 "PoundBoys$Folk" "skill" "[I" ∈ TB := tb_in 140 (by decide +kernel) rfl
theorem gf_X0_53 {E : EN} {M : MF} {ws : va_W} {pc : Nat} {lv : List (Nat × Value)} {st : List Value} {q a : Nat} {fs : List Value} {v : Value} (hown : M.1.1 = RX0) (q0 : Nat) (he : ws[q0]? = some (a, .inr (2, fs))) (hv : fs[5]? = some v) (hdg : decode M.1.2.1 pc = .ok (.getfield 53, 3)) (hq : pc + 3 = q) (kk : G E M ws q lv (v :: st)) : G E M ws pc lv (.ref a :: st) := g_get hown inX2 rfl 5 (by decide) mf_X0_53 q0 he hv hdg hq kk
theorem mf_X5_68 : Cond.fieldLink RX5 68 "PoundBoys$Folk" "skill" "[I" ∈ TB := tb_in 141 (by decide +kernel) rfl
theorem gf_X5_68 {E : EN} {M : MF} {ws : va_W} {pc : Nat} {lv : List (Nat × Value)} {st : List Value} {q a : Nat} {fs : List Value} {v : Value} (hown : M.1.1 = RX5) (q0 : Nat) (he : ws[q0]? = some (a, .inr (2, fs))) (hv : fs[5]? = some v) (hdg : decode M.1.2.1 pc = .ok (.getfield 68, 3)) (hq : pc + 3 = q) (kk : G E M ws q lv (v :: st)) : G E M ws pc lv (.ref a :: st) := g_get hown inX2 rfl 5 (by decide) mf_X5_68 q0 he hv hdg hq kk
theorem mf_X3_66 : Cond.fieldLink RX3 66 "PoundBoys$Folk" "skill" "[I" ∈ TB := tb_in 142 (by decide +kernel) rfl
theorem gf_X3_66 {E : EN} {M : MF} {ws : va_W} {pc : Nat} {lv : List (Nat × Value)} {st : List Value} {q a : Nat} {fs : List Value} {v : Value} (hown : M.1.1 = RX3) (q0 : Nat) (he : ws[q0]? = some (a, .inr (2, fs))) (hv : fs[5]? = some v) (hdg : decode M.1.2.1 pc = .ok (.getfield 66, 3)) (hq : pc + 3 = q) (kk : G E M ws q lv (v :: st)) : G E M ws pc lv (.ref a :: st) := g_get hown inX2 rfl 5 (by decide) mf_X3_66 q0 he hv hdg hq kk
theorem mf_X6_51 : Cond.fieldLink RX6 51 "PoundBoys$Folk" "skill" "[I" ∈ TB := tb_in 143 (by decide +kernel) rfl
theorem gf_X6_51 {E : EN} {M : MF} {ws : va_W} {pc : Nat} {lv : List (Nat × Value)} {st : List Value} {q a : Nat} {fs : List Value} {v : Value} (hown : M.1.1 = RX6) (q0 : Nat) (he : ws[q0]? = some (a, .inr (2, fs))) (hv : fs[5]? = some v) (hdg : decode M.1.2.1 pc = .ok (.getfield 51, 3)) (hq : pc + 3 = q) (kk : G E M ws q lv (v :: st)) : G E M ws pc lv (.ref a :: st) := g_get hown inX2 rfl 5 (by decide) mf_X6_51 q0 he hv hdg hq kk
theorem mf_X9_174 : Cond.fieldLink RX9 174 "PoundBoys$Folk" "skill" "[I" ∈ TB := tb_in 144 (by decide +kernel) rfl
theorem gf_X9_174 {E : EN} {M : MF} {ws : va_W} {pc : Nat} {lv : List (Nat × Value)} {st : List Value} {q a : Nat} {fs : List Value} {v : Value} (hown : M.1.1 = RX9) (q0 : Nat) (he : ws[q0]? = some (a, .inr (2, fs))) (hv : fs[5]? = some v) (hdg : decode M.1.2.1 pc = .ok (.getfield 174, 3)) (hq : pc + 3 = q) (kk : G E M ws q lv (v :: st)) : G E M ws pc lv (.ref a :: st) := g_get hown inX2 rfl 5 (by decide) mf_X9_174 q0 he hv hdg hq kk
theorem mf_X2_24 : Cond.fieldLink RX2 24 "PoundBoys$Folk" "grade" "[I" ∈ TB := tb_in 145 (by decide +kernel) rfl
theorem gf_X2_24 {E : EN} {M : MF} {ws : va_W} {pc : Nat} {lv : List (Nat × Value)} {st : List Value} {q a : Nat} {fs : List Value} {v : Value} (hown : M.1.1 = RX2) (q0 : Nat) (he : ws[q0]? = some (a, .inr (2, fs))) (hv : fs[6]? = some v) (hdg : decode M.1.2.1 pc = .ok (.getfield 24, 3)) (hq : pc + 3 = q) (kk : G E M ws q lv (v :: st)) : G E M ws pc lv (.ref a :: st) := g_get hown inX2 rfl 6 (by decide) mf_X2_24 q0 he hv hdg hq kk
theorem mf_X0_50 : Cond.fieldLink RX0 50 "PoundBoys$Folk" "grade" "[I" ∈ TB := tb_in 146 (by decide +kernel) rfl
theorem gf_X0_50 {E : EN} {M : MF} {ws : va_W} {pc : Nat} {lv : List (Nat × Value)} {st : List Value} {q a : Nat} {fs : List Value} {v : Value} (hown : M.1.1 = RX0) (q0 : Nat) (he : ws[q0]? = some (a, .inr (2, fs))) (hv : fs[6]? = some v) (hdg : decode M.1.2.1 pc = .ok (.getfield 50, 3)) (hq : pc + 3 = q) (kk : G E M ws q lv (v :: st)) : G E M ws pc lv (.ref a :: st) := g_get hown inX2 rfl 6 (by decide) mf_X0_50 q0 he hv hdg hq kk
theorem mf_X3_69 : Cond.fieldLink RX3 69 "PoundBoys$Folk" "grade" "[I" ∈ TB := tb_in 147 (by decide +kernel) rfl
theorem gf_X3_69 {E : EN} {M : MF} {ws : va_W} {pc : Nat} {lv : List (Nat × Value)} {st : List Value} {q a : Nat} {fs : List Value} {v : Value} (hown : M.1.1 = RX3) (q0 : Nat) (he : ws[q0]? = some (a, .inr (2, fs))) (hv : fs[6]? = some v) (hdg : decode M.1.2.1 pc = .ok (.getfield 69, 3)) (hq : pc + 3 = q) (kk : G E M ws q lv (v :: st)) : G E M ws pc lv (.ref a :: st) := g_get hown inX2 rfl 6 (by decide) mf_X3_69 q0 he hv hdg hq kk
theorem mf_X9_177 : Cond.fieldLink RX9 177 "PoundBoys$Folk" "grade" "[I" ∈ TB := tb_in 148 (by decide +kernel) rfl
theorem gf_X9_177 {E : EN} {M : MF} {ws : va_W} {pc : Nat} {lv : List (Nat × Value)} {st : List Value} {q a : Nat} {fs : List Value} {v : Value} (hown : M.1.1 = RX9) (q0 : Nat) (he : ws[q0]? = some (a, .inr (2, fs))) (hv : fs[6]? = some v) (hdg : decode M.1.2.1 pc = .ok (.getfield 177, 3)) (hq : pc + 3 = q) (kk : G E M ws q lv (v :: st)) : G E M ws pc lv (.ref a :: st) := g_get hown inX2 rfl 6 (by decide) mf_X9_177 q0 he hv hdg hq kk
theorem mf_X2_27 : Cond.fieldLink RX2 27 "PoundBoys$Folk" "cheese" "[I" ∈ TB := tb_in 149 (by decide +kernel) rfl
theorem gf_X2_27 {E : EN} {M : MF} {ws : va_W} {pc : Nat} {lv : List (Nat × Value)} {st : List Value} {q a : Nat} {fs : List Value} {v : Value} (hown : M.1.1 = RX2) (q0 : Nat) (he : ws[q0]? = some (a, .inr (2, fs))) (hv : fs[7]? = some v) (hdg : decode M.1.2.1 pc = .ok (.getfield 27, 3)) (hq : pc + 3 = q) (kk : G E M ws q lv (v :: st)) : G E M ws pc lv (.ref a :: st) := g_get hown inX2 rfl 7 (by decide) mf_X2_27 q0 he hv hdg hq kk
theorem mf_X0_87 : Cond.fieldLink RX0 87 "PoundBoys$Folk" "cheese" "[I" ∈ TB := tb_in 150 (by decide +kernel) rfl
theorem gf_X0_87 {E : EN} {M : MF} {ws : va_W} {pc : Nat} {lv : List (Nat × Value)} {st : List Value} {q a : Nat} {fs : List Value} {v : Value} (hown : M.1.1 = RX0) (q0 : Nat) (he : ws[q0]? = some (a, .inr (2, fs))) (hv : fs[7]? = some v) (hdg : decode M.1.2.1 pc = .ok (.getfield 87, 3)) (hq : pc + 3 = q) (kk : G E M ws q lv (v :: st)) : G E M ws pc lv (.ref a :: st) := g_get hown inX2 rfl 7 (by decide) mf_X0_87 q0 he hv hdg hq kk
theorem mf_X1_56 : Cond.fieldLink RX1 56 "PoundBoys$Folk" "cheese" "[I" ∈ TB := tb_in 151 (by decide +kernel) rfl
theorem gf_X1_56 {E : EN} {M : MF} {ws : va_W} {pc : Nat} {lv : List (Nat × Value)} {st : List Value} {q a : Nat} {fs : List Value} {v : Value} (hown : M.1.1 = RX1) (q0 : Nat) (he : ws[q0]? = some (a, .inr (2, fs))) (hv : fs[7]? = some v) (hdg : decode M.1.2.1 pc = .ok (.getfield 56, 3)) (hq : pc + 3 = q) (kk : G E M ws q lv (v :: st)) : G E M ws pc lv (.ref a :: st) := g_get hown inX2 rfl 7 (by decide) mf_X1_56 q0 he hv hdg hq kk
theorem mf_X9_155 : Cond.fieldLink RX9 155 "PoundBoys$Folk" "cheese" "[I" ∈ TB := tb_in 152 (by decide +kernel) rfl
theorem gf_X9_155 {E : EN} {M : MF} {ws : va_W} {pc : Nat} {lv : List (Nat × Value)} {st : List Value} {q a : Nat} {fs : List Value} {v : Value} (hown : M.1.1 = RX9) (q0 : Nat) (he : ws[q0]? = some (a, .inr (2, fs))) (hv : fs[7]? = some v) (hdg : decode M.1.2.1 pc = .ok (.getfield 155, 3)) (hq : pc + 3 = q) (kk : G E M ws q lv (v :: st)) : G E M ws pc lv (.ref a :: st) := g_get hown inX2 rfl 7 (by decide) mf_X9_155 q0 he hv hdg hq kk
theorem mf_X3_34 : Cond.fieldLink RX3 34 "PoundBoys$League" "towns" "I" ∈ TB := tb_in 171 (by decide +kernel) rfl
