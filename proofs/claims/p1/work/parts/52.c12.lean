theorem pm799 : Cond.fieldLink RX5 26 "MortgageRegister$Text" "entries" "I" ∈ pxAll := pxM 208 (by decide +kernel) rfl
theorem pm800 : Cond.fieldLink RX5 29 "MortgageRegister$Text" "position" "I" ∈ pxAll := pxM 209 (by decide +kernel) rfl
theorem pm801 : Cond.methodLink RX5 60 yX5_sign ∈ pxAll := pxM 734 (by decide +kernel) rfl
theorem pm802 : Cond.instanceMethod yX5_sign ∈ pxAll := pxM 736 (by decide +kernel) rfl
theorem pm803 : Cond.selects RX5 yX5_sign yX5_sign ∈ pxAll := pxM 16 (by decide +kernel) rfl
set_option maxRecDepth 100000 in
theorem pm804 : Cond.code yX5_sign cX5_sign 1 (some .char) ∈ pxAll := pxM 737 rfl rfl
theorem pm805 : Cond.methodLink RX5 64 yX5_formOf ∈ pxAll := pxM 738 (by decide +kernel) rfl
theorem pm806 : Cond.static yX5_formOf ∈ pxAll := pxM 739 (by decide +kernel) rfl
set_option maxRecDepth 100000 in
theorem pm807 : Cond.code yX5_formOf cX5_formOf 1 (some (.object "java/lang/String")) ∈ pxAll := pxM 740 rfl rfl
theorem pm808 : Cond.methodLink RX5 68 yJ0_isEmpty_aae02 ∈ pxAll := pxM 753 (by decide +kernel) rfl
theorem pm809 : Cond.instanceMethod yJ0_isEmpty_aae02 ∈ pxAll := pxM 754 (by decide +kernel) rfl
theorem pm810 : Cond.selects RJ0 yJ0_isEmpty_aae02 yJ0_isEmpty_aae02 ∈ pxAll := pxM 755 (by decide +kernel) rfl
theorem pm811 : Cond.initialized RJ0 ∈ pxAll := pxM 101 (by decide +kernel) rfl
set_option maxRecDepth 100000 in
theorem pm812 : Cond.code yJ0_isEmpty_aae02 cJ0_isEmpty_aae02 1 (some .boolean) ∈ pxAll := pxM 756 rfl rfl
theorem pm813 : Cond.methodLink RX5 32 yX5_readEntry ∈ pxAll := pxM 730 (by decide +kernel) rfl
theorem pm814 : Cond.instanceMethod yX5_readEntry ∈ pxAll := pxM 732 (by decide +kernel) rfl
theorem pm815 : Cond.selects RX5 yX5_readEntry yX5_readEntry ∈ pxAll := pxM 15 (by decide +kernel) rfl
set_option maxRecDepth 100000 in
theorem pm816 : Cond.code yX5_readEntry cX5_readEntry 6 (some .boolean) ∈ pxAll := pxM 733 rfl rfl
theorem pm817 : Cond.methodLink RX6 121 yX5_read ∈ pxAll := pxM 726 (by decide +kernel) rfl
theorem pm818 : Cond.instanceMethod yX5_read ∈ pxAll := pxM 727 (by decide +kernel) rfl
theorem pm819 : Cond.selects RX5 yX5_read yX5_read ∈ pxAll := pxM 728 (by decide +kernel) rfl
set_option maxRecDepth 100000 in
theorem pm820 : Cond.code yX5_read cX5_read 1 (some .int) ∈ pxAll := pxM 729 rfl rfl
theorem pm821 : Cond.methodLink RX6 125 yX5_clear ∈ pxAll := pxM 816 (by decide +kernel) rfl
theorem pm822 : Cond.instanceMethod yX5_clear ∈ pxAll := pxM 817 (by decide +kernel) rfl
theorem pm823 : Cond.selects RX5 yX5_clear yX5_clear ∈ pxAll := pxM 818 (by decide +kernel) rfl
set_option maxRecDepth 100000 in
theorem pm824 : Cond.code yX5_clear cX5_clear 1 none ∈ pxAll := pxM 819 rfl rfl
theorem pm825 : Cond.methodLink RL 55 yX6_run ∈ pxAll := pxM 722 (by decide +kernel) rfl
theorem pm826 : Cond.instanceMethod yX6_run ∈ pxAll := pxM 723 (by decide +kernel) rfl
theorem pm827 : Cond.selects RX6 yX6_run yX6_run ∈ pxAll := pxM 724 (by decide +kernel) rfl
set_option maxRecDepth 100000 in
theorem pm828 : Cond.code yX6_run cX6_run 4 (some .int) ∈ pxAll := pxM 725 rfl rfl
theorem pm829 : Cond.methodLink RL 186 yL_run ∈ pxAll := pxM 719 (by decide +kernel) rfl
theorem pm830 : Cond.static yL_run ∈ pxAll := pxM 720 (by decide +kernel) rfl
set_option maxRecDepth 100000 in
theorem pm831 : Cond.codeWith yL_run cL_run 3 (some .int) [(0, 8, 11, 51), (0, 8, 14, 13)] ∈ pxAll := pxM 721 rfl rfl
theorem pm832 : Cond.fieldLink RX7 237 "MortgageRegisterModel" "place" "I" ∈ pxAll := pxM 1305 (by decide +kernel) rfl
theorem pm833 : Cond.fieldLink RX7 240 "MortgageRegisterModel" "isWrong" "Z" ∈ pxAll := pxM 1306 (by decide +kernel) rfl
theorem pm834 : Cond.fieldLink RX7 254 "MortgageRegisterModel" "entries" "I" ∈ pxAll := pxM 1310 (by decide +kernel) rfl
theorem pm835 : Cond.methodLink RX7 244 yX7_here ∈ pxAll := pxM 1611 (by decide +kernel) rfl
theorem pm836 : Cond.instanceMethod yX7_here ∈ pxAll := pxM 1613 (by decide +kernel) rfl
theorem pm837 : Cond.selects RX7 yX7_here yX7_here ∈ pxAll := pxM 70 (by decide +kernel) rfl
set_option maxRecDepth 100000 in
theorem pm838 : Cond.code yX7_here cX7_here 1 (some .int) ∈ pxAll := pxM 1614 rfl rfl
theorem pm839 : Cond.methodLink RX7 248 yX7_sign ∈ pxAll := pxM 1623 (by decide +kernel) rfl
theorem pm840 : Cond.instanceMethod yX7_sign ∈ pxAll := pxM 1625 (by decide +kernel) rfl
theorem pm841 : Cond.selects RX7 yX7_sign yX7_sign ∈ pxAll := pxM 73 (by decide +kernel) rfl
set_option maxRecDepth 100000 in
theorem pm842 : Cond.code yX7_sign cX7_sign 2 none ∈ pxAll := pxM 1626 rfl rfl
theorem pm843 : Cond.methodLink RX7 263 yX7_readEntry ∈ pxAll := pxM 1607 (by decide +kernel) rfl
theorem pm844 : Cond.instanceMethod yX7_readEntry ∈ pxAll := pxM 1609 (by decide +kernel) rfl
theorem pm845 : Cond.selects RX7 yX7_readEntry yX7_readEntry ∈ pxAll := pxM 69 (by decide +kernel) rfl
set_option maxRecDepth 100000 in
theorem pm846 : Cond.code yX7_readEntry cX7_readEntry 3 none ∈ pxAll := pxM 1610 rfl rfl
theorem pm847 : Cond.methodLink RL 189 yX7_run ∈ pxAll := pxM 1603 (by decide +kernel) rfl
theorem pm848 : Cond.instanceMethod yX7_run ∈ pxAll := pxM 1604 (by decide +kernel) rfl
theorem pm849 : Cond.selects RX7 yX7_run yX7_run ∈ pxAll := pxM 1605 (by decide +kernel) rfl
set_option maxRecDepth 100000 in
theorem pm850 : Cond.code yX7_run cX7_run 3 (some .int) ∈ pxAll := pxM 1606 rfl rfl
theorem dL_law_1048 : decode cL_law 1048 = .ok (.aload_n 1, 1) := by decide +kernel
theorem dL_law_1049 : decode cL_law 1049 = .ok (.aload_n 3, 1) := by decide +kernel
theorem dL_run_0 : decode cL_run 0 = .ok (.aload_n 1, 1) := by decide +kernel
theorem dL_run_1 : decode cL_run 1 = .ok (.iconst 0, 1) := by decide +kernel
theorem dL_run_2 : decode cL_run 2 = .ok (.aload_n 0, 1) := by decide +kernel
theorem dX6_run_0 : decode cX6_run 0 = .ok (.aload_n 0, 1) := by decide +kernel
theorem dX6_run_1 : decode cX6_run 1 = .ok (.aload_n 0, 1) := by decide +kernel
theorem dX6_run_2 : decode cX6_run 2 = .ok (.getfield 29, 3) := by decide +kernel
theorem dX5_read_0 : decode cX5_read 0 = .ok (.aload_n 0, 1) := by decide +kernel
theorem dX5_read_1 : decode cX5_read 1 = .ok (.iconst 0, 1) := by decide +kernel
theorem dX5_read_2 : decode cX5_read 2 = .ok (.putfield 26, 3) := by decide +kernel
theorem dX5_read_5 : decode cX5_read 5 = .ok (.aload_n 0, 1) := by decide +kernel
theorem dX5_read_6 : decode cX5_read 6 = .ok (.iconst 0, 1) := by decide +kernel
theorem dX5_read_7 : decode cX5_read 7 = .ok (.putfield 29, 3) := by decide +kernel
theorem dX5_read_10 : decode cX5_read 10 = .ok (.aload_n 0, 1) := by decide +kernel
theorem dX5_read_11 : decode cX5_read 11 = .ok (.getfield 26, 3) := by decide +kernel
theorem dX5_read_14 : decode cX5_read 14 = .ok (.bipush 20, 2) := by decide +kernel
theorem dX5_read_16 : decode cX5_read 16 = .ok (.if_icmp .eq 10, 3) := by decide +kernel
theorem dX5_read_19 : decode cX5_read 19 = .ok (.aload_n 0, 1) := by decide +kernel
theorem dX5_readEntry_0 : decode cX5_readEntry 0 = .ok (.aload_n 0, 1) := by decide +kernel
theorem dX5_sign_0 : decode cX5_sign 0 = .ok (.aload_n 0, 1) := by decide +kernel
theorem dX5_sign_1 : decode cX5_sign 1 = .ok (.getfield 29, 3) := by decide +kernel
theorem dX5_sign_4 : decode cX5_sign 4 = .ok (.aload_n 0, 1) := by decide +kernel
theorem dX5_sign_5 : decode cX5_sign 5 = .ok (.getfield 22, 3) := by decide +kernel
theorem dX5_sign_8 : decode cX5_sign 8 = .ok (.if_icmp .ge 15, 3) := by decide +kernel
theorem dX5_sign_23 : decode cX5_sign 23 = .ok (.iconst 0, 1) := by decide +kernel
theorem dX5_sign_24 : decode cX5_sign 24 = .ok (.ireturn, 1) := by decide +kernel
theorem dX5_readEntry_1 : decode cX5_readEntry 1 = .ok (.invokevirtual 60, 3) := by decide +kernel
theorem dX5_readEntry_4 : decode cX5_readEntry 4 = .ok (.istore_n 1, 1) := by decide +kernel
theorem dX5_readEntry_5 : decode cX5_readEntry 5 = .ok (.iload_n 1, 1) := by decide +kernel
theorem dX5_formOf_0 : decode cX5_formOf 0 = .ok (.iload_n 0, 1) := by decide +kernel
theorem dX5_formOf_1 : decode cX5_formOf 1 = .ok (.tableswitch 148 97 121 #[145, 148, 130, 148, 121, 148, 148, 148, 148, 142, 148, 148, 118, 115, 148, 124, 148, 127, 136, 148, 139, 148, 148, 148, 133], 115) := by decide +kernel
theorem dX5_formOf_149 : decode cX5_formOf 149 = .ok (.ldc 58, 2) := by decide +kernel
theorem dX5_formOf_151 : decode cX5_formOf 151 = .ok (.areturn, 1) := by decide +kernel
theorem dX5_readEntry_6 : decode cX5_readEntry 6 = .ok (.invokestatic 64, 3) := by decide +kernel
theorem dX5_readEntry_9 : decode cX5_readEntry 9 = .ok (.astore_n 2, 1) := by decide +kernel
theorem dX5_readEntry_10 : decode cX5_readEntry 10 = .ok (.aload_n 2, 1) := by decide +kernel
theorem dX5_readEntry_11 : decode cX5_readEntry 11 = .ok (.invokevirtual 68, 3) := by decide +kernel
theorem dX5_readEntry_14 : decode cX5_readEntry 14 = .ok (.ifCond .eq 5, 3) := by decide +kernel
theorem dX5_readEntry_17 : decode cX5_readEntry 17 = .ok (.iconst 0, 1) := by decide +kernel
theorem dX5_readEntry_18 : decode cX5_readEntry 18 = .ok (.ireturn, 1) := by decide +kernel
theorem dX5_read_20 : decode cX5_read 20 = .ok (.invokevirtual 32, 3) := by decide +kernel
theorem dX5_read_23 : decode cX5_read 23 = .ok (.ifCond .ne 8, 3) := by decide +kernel
theorem dX5_read_26 : decode cX5_read 26 = .ok (.aload_n 0, 1) := by decide +kernel
theorem dX5_read_27 : decode cX5_read 27 = .ok (.getfield 29, 3) := by decide +kernel
theorem dX5_read_30 : decode cX5_read 30 = .ok (.ireturn, 1) := by decide +kernel
theorem dX6_run_5 : decode cX6_run 5 = .ok (.invokevirtual 121, 3) := by decide +kernel
theorem dX6_run_8 : decode cX6_run 8 = .ok (.putfield 39, 3) := by decide +kernel
theorem dX6_run_11 : decode cX6_run 11 = .ok (.aload_n 0, 1) := by decide +kernel
theorem dX6_run_12 : decode cX6_run 12 = .ok (.getfield 29, 3) := by decide +kernel
theorem dX5_clear_0 : decode cX5_clear 0 = .ok (.aload_n 0, 1) := by decide +kernel
theorem dX5_clear_1 : decode cX5_clear 1 = .ok (.iconst 0, 1) := by decide +kernel
theorem dX5_clear_2 : decode cX5_clear 2 = .ok (.putfield 22, 3) := by decide +kernel
theorem dX5_clear_5 : decode cX5_clear 5 = .ok (.return_, 1) := by decide +kernel
theorem dX6_run_15 : decode cX6_run 15 = .ok (.invokevirtual 125, 3) := by decide +kernel
theorem dX6_run_18 : decode cX6_run 18 = .ok (.aload_n 0, 1) := by decide +kernel
theorem dX6_run_19 : decode cX6_run 19 = .ok (.getfield 39, 3) := by decide +kernel
theorem dX6_run_22 : decode cX6_run 22 = .ok (.ifCond .lt 13, 3) := by decide +kernel
theorem dX6_run_25 : decode cX6_run 25 = .ok (.new 105, 3) := by decide +kernel
theorem dX6_run_28 : decode cX6_run 28 = .ok (.dup, 1) := by decide +kernel
theorem dX6_run_29 : decode cX6_run 29 = .ok (.ldc 128, 2) := by decide +kernel
theorem dX6_run_31 : decode cX6_run 31 = .ok (.invokespecial 109, 3) := by decide +kernel
theorem dX6_run_34 : decode cX6_run 34 = .ok (.athrow, 1) := by decide +kernel
theorem dL_run_3 : decode cL_run 3 = .ok (.invokevirtual 55, 3) := by decide +kernel
theorem dL_run_11 : decode cL_run 11 = .ok (.astore_n 2, 1) := by decide +kernel
theorem dL_run_12 : decode cL_run 12 = .ok (.iconst 1, 1) := by decide +kernel
theorem dL_run_13 : decode cL_run 13 = .ok (.ireturn, 1) := by decide +kernel
theorem dL_law_1050 : decode cL_law 1050 = .ok (.invokestatic 186, 3) := by decide +kernel
theorem dL_law_1053 : decode cL_law 1053 = .ok (.istore 6, 2) := by decide +kernel
theorem dL_law_1055 : decode cL_law 1055 = .ok (.aload_n 2, 1) := by decide +kernel
theorem dX7_run_0 : decode cX7_run 0 = .ok (.aload_n 0, 1) := by decide +kernel
theorem dX7_run_1 : decode cX7_run 1 = .ok (.iconst 0, 1) := by decide +kernel
theorem dX7_run_2 : decode cX7_run 2 = .ok (.putfield 237, 3) := by decide +kernel
theorem dX7_run_5 : decode cX7_run 5 = .ok (.aload_n 0, 1) := by decide +kernel
theorem dX7_run_6 : decode cX7_run 6 = .ok (.iconst 0, 1) := by decide +kernel
theorem dX7_run_7 : decode cX7_run 7 = .ok (.putfield 240, 3) := by decide +kernel
theorem dX7_run_10 : decode cX7_run 10 = .ok (.aload_n 0, 1) := by decide +kernel
theorem dX7_run_11 : decode cX7_run 11 = .ok (.iconst 0, 1) := by decide +kernel
theorem dX7_run_12 : decode cX7_run 12 = .ok (.putfield 254, 3) := by decide +kernel
theorem dX7_run_15 : decode cX7_run 15 = .ok (.aload_n 0, 1) := by decide +kernel
theorem dX7_readEntry_0 : decode cX7_readEntry 0 = .ok (.iconst 4, 1) := by decide +kernel
theorem dX7_readEntry_1 : decode cX7_readEntry 1 = .ok (.aload_n 0, 1) := by decide +kernel
theorem dX7_readEntry_2 : decode cX7_readEntry 2 = .ok (.getfield 254, 3) := by decide +kernel
theorem dX7_readEntry_5 : decode cX7_readEntry 5 = .ok (.imul, 1) := by decide +kernel
theorem dX7_readEntry_6 : decode cX7_readEntry 6 = .ok (.istore_n 1, 1) := by decide +kernel
theorem dX7_readEntry_7 : decode cX7_readEntry 7 = .ok (.aload_n 0, 1) := by decide +kernel
theorem dX7_here_0 : decode cX7_here 0 = .ok (.aload_n 0, 1) := by decide +kernel
theorem dX7_here_1 : decode cX7_here 1 = .ok (.getfield 237, 3) := by decide +kernel
theorem dX7_here_4 : decode cX7_here 4 = .ok (.aload_n 0, 1) := by decide +kernel
theorem dX7_here_5 : decode cX7_here 5 = .ok (.getfield 234, 3) := by decide +kernel
theorem dX7_here_8 : decode cX7_here 8 = .ok (.if_icmp .ge 15, 3) := by decide +kernel
theorem dX7_here_23 : decode cX7_here 23 = .ok (.iconst 0, 1) := by decide +kernel
theorem dX7_here_24 : decode cX7_here 24 = .ok (.ireturn, 1) := by decide +kernel
theorem dX7_readEntry_8 : decode cX7_readEntry 8 = .ok (.invokevirtual 244, 3) := by decide +kernel
theorem dX7_readEntry_11 : decode cX7_readEntry 11 = .ok (.istore_n 2, 1) := by decide +kernel
theorem dX7_readEntry_12 : decode cX7_readEntry 12 = .ok (.aload_n 0, 1) := by decide +kernel
theorem dX7_readEntry_13 : decode cX7_readEntry 13 = .ok (.getfield 33, 3) := by decide +kernel
theorem dX7_readEntry_16 : decode cX7_readEntry 16 = .ok (.aload_n 0, 1) := by decide +kernel
theorem dX7_readEntry_17 : decode cX7_readEntry 17 = .ok (.getfield 254, 3) := by decide +kernel
theorem dX7_readEntry_20 : decode cX7_readEntry 20 = .ok (.iload_n 2, 1) := by decide +kernel
theorem dX7_readEntry_21 : decode cX7_readEntry 21 = .ok (.iastore, 1) := by decide +kernel
theorem dX7_readEntry_22 : decode cX7_readEntry 22 = .ok (.aload_n 0, 1) := by decide +kernel
theorem dX7_readEntry_23 : decode cX7_readEntry 23 = .ok (.dup, 1) := by decide +kernel
theorem dX7_readEntry_24 : decode cX7_readEntry 24 = .ok (.getfield 237, 3) := by decide +kernel
theorem dX7_readEntry_27 : decode cX7_readEntry 27 = .ok (.iconst 1, 1) := by decide +kernel
theorem dX7_readEntry_28 : decode cX7_readEntry 28 = .ok (.iadd, 1) := by decide +kernel
theorem dX7_readEntry_29 : decode cX7_readEntry 29 = .ok (.putfield 237, 3) := by decide +kernel
theorem dX7_readEntry_32 : decode cX7_readEntry 32 = .ok (.iload_n 2, 1) := by decide +kernel
theorem dX7_readEntry_33 : decode cX7_readEntry 33 = .ok (.tableswitch 448 97 121 #[404, 448, 274, 448, 129, 448, 448, 448, 448, 375, 448, 448, 129, 115, 448, 201, 448, 245, 317, 448, 346, 448, 448, 448, 288], 115) := by decide +kernel
theorem dX7_readEntry_481 : decode cX7_readEntry 481 = .ok (.aload_n 0, 1) := by decide +kernel
theorem dX7_readEntry_482 : decode cX7_readEntry 482 = .ok (.dup, 1) := by decide +kernel
theorem dX7_readEntry_483 : decode cX7_readEntry 483 = .ok (.getfield 237, 3) := by decide +kernel
theorem dX7_readEntry_486 : decode cX7_readEntry 486 = .ok (.iconst 1, 1) := by decide +kernel
theorem dX7_readEntry_487 : decode cX7_readEntry 487 = .ok (.isub, 1) := by decide +kernel
theorem dX7_readEntry_488 : decode cX7_readEntry 488 = .ok (.putfield 237, 3) := by decide +kernel
theorem dX7_readEntry_491 : decode cX7_readEntry 491 = .ok (.aload_n 0, 1) := by decide +kernel
theorem dX7_readEntry_492 : decode cX7_readEntry 492 = .ok (.iconst 1, 1) := by decide +kernel
theorem dX7_readEntry_493 : decode cX7_readEntry 493 = .ok (.putfield 240, 3) := by decide +kernel
theorem dX7_readEntry_496 : decode cX7_readEntry 496 = .ok (.aload_n 0, 1) := by decide +kernel
theorem dX7_readEntry_497 : decode cX7_readEntry 497 = .ok (.bipush 59, 2) := by decide +kernel
theorem dX7_sign_0 : decode cX7_sign 0 = .ok (.aload_n 0, 1) := by decide +kernel
theorem dX7_sign_1 : decode cX7_sign 1 = .ok (.aload_n 0, 1) := by decide +kernel
theorem dX7_sign_2 : decode cX7_sign 2 = .ok (.getfield 240, 3) := by decide +kernel
theorem dX7_sign_5 : decode cX7_sign 5 = .ok (.ifCond .ne 11, 3) := by decide +kernel
theorem dX7_sign_16 : decode cX7_sign 16 = .ok (.iconst 1, 1) := by decide +kernel
theorem dX7_sign_17 : decode cX7_sign 17 = .ok (.goto 4, 3) := by decide +kernel
theorem dX7_sign_21 : decode cX7_sign 21 = .ok (.putfield 240, 3) := by decide +kernel
theorem dX7_sign_24 : decode cX7_sign 24 = .ok (.aload_n 0, 1) := by decide +kernel
theorem dX7_sign_25 : decode cX7_sign 25 = .ok (.dup, 1) := by decide +kernel
theorem dX7_sign_26 : decode cX7_sign 26 = .ok (.getfield 237, 3) := by decide +kernel
theorem dX7_sign_29 : decode cX7_sign 29 = .ok (.aload_n 0, 1) := by decide +kernel
theorem dX7_sign_30 : decode cX7_sign 30 = .ok (.getfield 240, 3) := by decide +kernel
theorem dX7_sign_33 : decode cX7_sign 33 = .ok (.ifCond .eq 7, 3) := by decide +kernel
theorem dX7_sign_36 : decode cX7_sign 36 = .ok (.iconst 0, 1) := by decide +kernel
theorem dX7_sign_37 : decode cX7_sign 37 = .ok (.goto 4, 3) := by decide +kernel
theorem dX7_sign_41 : decode cX7_sign 41 = .ok (.iadd, 1) := by decide +kernel
theorem dX7_sign_42 : decode cX7_sign 42 = .ok (.putfield 237, 3) := by decide +kernel
theorem dX7_sign_45 : decode cX7_sign 45 = .ok (.return_, 1) := by decide +kernel
theorem dX7_readEntry_499 : decode cX7_readEntry 499 = .ok (.invokevirtual 248, 3) := by decide +kernel
theorem dX7_readEntry_502 : decode cX7_readEntry 502 = .ok (.aload_n 0, 1) := by decide +kernel
theorem dX7_readEntry_503 : decode cX7_readEntry 503 = .ok (.dup, 1) := by decide +kernel
theorem dX7_readEntry_504 : decode cX7_readEntry 504 = .ok (.getfield 254, 3) := by decide +kernel
theorem dX7_readEntry_507 : decode cX7_readEntry 507 = .ok (.iconst 1, 1) := by decide +kernel
theorem dX7_readEntry_508 : decode cX7_readEntry 508 = .ok (.iadd, 1) := by decide +kernel
theorem dX7_readEntry_509 : decode cX7_readEntry 509 = .ok (.putfield 254, 3) := by decide +kernel
theorem dX7_readEntry_512 : decode cX7_readEntry 512 = .ok (.return_, 1) := by decide +kernel
theorem dX7_run_16 : decode cX7_run 16 = .ok (.invokevirtual 263, 3) := by decide +kernel
theorem dX7_run_19 : decode cX7_run 19 = .ok (.aload_n 0, 1) := by decide +kernel
theorem dX7_run_20 : decode cX7_run 20 = .ok (.getfield 240, 3) := by decide +kernel
theorem dX7_run_23 : decode cX7_run 23 = .ok (.ifCond .ne 21, 3) := by decide +kernel
theorem dX7_run_44 : decode cX7_run 44 = .ok (.aload_n 0, 1) := by decide +kernel
theorem dX7_run_45 : decode cX7_run 45 = .ok (.iconst 0, 1) := by decide +kernel
theorem dX7_run_46 : decode cX7_run 46 = .ok (.putfield 234, 3) := by decide +kernel
theorem dX7_run_49 : decode cX7_run 49 = .ok (.aload_n 0, 1) := by decide +kernel
theorem dX7_run_50 : decode cX7_run 50 = .ok (.aload_n 0, 1) := by decide +kernel
theorem dX7_run_51 : decode cX7_run 51 = .ok (.getfield 240, 3) := by decide +kernel
theorem dX7_run_54 : decode cX7_run 54 = .ok (.ifCond .eq 10, 3) := by decide +kernel
theorem dX7_run_57 : decode cX7_run 57 = .ok (.aload_n 0, 1) := by decide +kernel
theorem dX7_run_58 : decode cX7_run 58 = .ok (.getfield 237, 3) := by decide +kernel
theorem dX7_run_61 : decode cX7_run 61 = .ok (.goto 4, 3) := by decide +kernel
theorem dX7_run_65 : decode cX7_run 65 = .ok (.putfield 29, 3) := by decide +kernel
theorem dX7_run_68 : decode cX7_run 68 = .ok (.aload_n 0, 1) := by decide +kernel
theorem dX7_run_69 : decode cX7_run 69 = .ok (.aload_n 0, 1) := by decide +kernel
theorem dX7_run_70 : decode cX7_run 70 = .ok (.getfield 240, 3) := by decide +kernel
theorem dX7_run_73 : decode cX7_run 73 = .ok (.ifCond .eq 7, 3) := by decide +kernel
theorem dX7_run_76 : decode cX7_run 76 = .ok (.iconst 1, 1) := by decide +kernel
theorem dX7_run_77 : decode cX7_run 77 = .ok (.goto 4, 3) := by decide +kernel
theorem dX7_run_81 : decode cX7_run 81 = .ok (.putfield 48, 3) := by decide +kernel
theorem dX7_run_84 : decode cX7_run 84 = .ok (.aload_n 0, 1) := by decide +kernel
theorem dX7_run_85 : decode cX7_run 85 = .ok (.invokevirtual 194, 3) := by decide +kernel
theorem dX7_run_88 : decode cX7_run 88 = .ok (.iconst 0, 1) := by decide +kernel
theorem dX7_run_89 : decode cX7_run 89 = .ok (.istore_n 1, 1) := by decide +kernel
theorem dX7_run_90 : decode cX7_run 90 = .ok (.iload_n 1, 1) := by decide +kernel
theorem dX7_run_91 : decode cX7_run 91 = .ok (.aload_n 0, 1) := by decide +kernel
theorem dX7_run_92 : decode cX7_run 92 = .ok (.getfield 254, 3) := by decide +kernel
theorem dX7_run_95 : decode cX7_run 95 = .ok (.if_icmp .ge 52, 3) := by decide +kernel
theorem dX7_run_98 : decode cX7_run 98 = .ok (.aload_n 0, 1) := by decide +kernel
theorem dX7_run_99 : decode cX7_run 99 = .ok (.getfield 48, 3) := by decide +kernel
theorem dX7_run_102 : decode cX7_run 102 = .ok (.ifCond .ne 45, 3) := by decide +kernel
theorem dX7_run_147 : decode cX7_run 147 = .ok (.aload_n 0, 1) := by decide +kernel
theorem dX7_run_148 : decode cX7_run 148 = .ok (.getfield 48, 3) := by decide +kernel
theorem dX7_run_151 : decode cX7_run 151 = .ok (.ifCond .le 5, 3) := by decide +kernel
theorem dX7_run_154 : decode cX7_run 154 = .ok (.iconst 0, 1) := by decide +kernel
theorem dX7_run_155 : decode cX7_run 155 = .ok (.ireturn, 1) := by decide +kernel
theorem dL_law_1056 : decode cL_law 1056 = .ok (.invokevirtual 189, 3) := by decide +kernel
theorem dL_law_1059 : decode cL_law 1059 = .ok (.istore 7, 2) := by decide +kernel
theorem dL_law_1061 : decode cL_law 1061 = .ok (.aload_n 2, 1) := by decide +kernel
theorem dL_law_1062 : decode cL_law 1062 = .ok (.invokevirtual 147, 3) := by decide +kernel
theorem dL_law_1065 : decode cL_law 1065 = .ok (.iload 6, 2) := by decide +kernel
theorem dL_law_1067 : decode cL_law 1067 = .ok (.if_icmp .eq 5, 3) := by decide +kernel
theorem dL_law_1072 : decode cL_law 1072 = .ok (.iload 6, 2) := by decide +kernel
theorem dL_law_1074 : decode cL_law 1074 = .ok (.ifCond .ne 15, 3) := by decide +kernel
theorem dL_law_1089 : decode cL_law 1089 = .ok (.goto 1569, 3) := by decide +kernel
set_option maxHeartbeats 4000000 in
set_option maxRecDepth 100000 in
theorem k354_X5_sign (l : Launch) (G : pxG) (sz : Nat) (a0 a1 a2 a3 : Nat) : Met l yX5_sign (Cond.code yX5_sign cX5_sign 1 (some .char) :: pxAll) ({ frames := 0, cells := 0, slots := 0, locals := 0 } : Room) (va_Pc [.ref a0] (pxPre G [(a0, .inr (4, [.ref a1, .ref a2, .ref a3, .int 0, .int 0, .int 0]))] sz)) (pxQi G (fun r => r = 0) (fun q => [(a0, .inr (4, [.ref a1, .ref a2, .ref a3, .int 0, .int 0, .int 0]))]) (va_A [(a0, .inr (4, [.ref a1, .ref a2, .ref a3, .int 0, .int 0, .int 0]))] sz)) 0 0 (va_A [(a0, .inr (4, [.ref a1, .ref a2, .ref a3, .int 0, .int 0, .int 0]))] sz) := by
  refine Met.ofW (cc := cX5_sign) (maxL := 1) (ret := (some .char)) (by decide) rfl ?_
  intro p e s m args below meth c s₁ B hml hv
  obtain ⟨rfl, hsz, hG, hZ, hP, hD0⟩ := hv
  have hx := B.exec
  have hb := B.bytes
  have hr := B.returns
  have hts0 := atoms_spec (ws := Cond.code yX5_sign cX5_sign 1 (some .char) :: pxAll) B.pre
  have hts : ∀ w ∈ pxAll, w.before _ s = true := fun w h => hts0 w (List.mem_cons_of_mem _ h)
  have hown : s.vm.findClass RX5 = some m.cls := findClass_of_methodNamed B.named
  have hlocks := B.notSynchronized
  subst hsz
  have hK := hG.1
  have hD := hD0.self (sz := s.heap.size)
  generalize hAe : va_A [(a0, .inr (4, [.ref a1, .ref a2, .ref a3, .int 0, .int 0, .int 0]))] s.heap.size = A at hD hZ ⊢
  have hA : ∀ q : Nat, s.heap.size ≤ q → A q := fun q h => by rw [← hAe]; exact Or.inr h
  have hS : va_S A s.heap s.heap [] := va_S.rf
  have hl := lv_entry ([.ref a0]) (n := 1) (Nat.le_of_ble_eq_true rfl)
  rw [lg_entry_eq]
  generalize (lg_sl ([.ref a0]) ++ List.replicate (1 - (lg_sl ([.ref a0])).length) Slot.unset).toArray = ls at hl ⊢
  have hl : lv_has ls 1 [(0, .ref a0)] := hl
  refine lv_aload_n hx hb dX5_sign_0 rfl (lv_at hl 0 rfl) ?_
  refine va_get (D := G.1) (ci := 4) (v := .int 0) (C := RX5) (T := TX5) (N := 6) hx hb hts piX5 hown hK hP 0 rfl rfl 5 (by decide) (hts _ pm800) (fun _ h9 => h9) rfl dX5_sign_1 ?_
  refine lv_aload_n hx hb dX5_sign_4 rfl (lv_at hl 0 rfl) ?_
  refine va_get (D := G.1) (ci := 4) (v := .int 0) (C := RX5) (T := TX5) (N := 6) hx hb hts piX5 hown hK hP 0 rfl rfl 3 (by decide) (hts _ pm745) (fun _ h9 => h9) rfl dX5_sign_5 ?_
  refine lv_icmp_ge (tgt := 23) hx hb dX5_sign_8 (by decide) (fun _ => ?_) (fun h9 => absurd (by decide) h9)
  refine lv_iconst (v := 0) hx hb dX5_sign_23 (by decide) ?_
  refine W.widen (k := 0) (n := 0) (Nat.le_of_ble_eq_true rfl) (Nat.le_of_ble_eq_true rfl) ?_
  exact W.zret (ty := .char) (v := 0) hx hb hr rfl (fun t ht hW => ⟨⟨0, (fun _ => 0), rfl, rfl, by rw [ht]; exact hP, hD⟩, hS.F ht⟩) hS.2.2 dX5_sign_24
set_option maxHeartbeats 4000000 in
set_option maxRecDepth 100000 in
theorem k355_X5_formOf (l : Launch) (G : pxG) (sz : Nat) : Met l yX5_formOf (Cond.code yX5_formOf cX5_formOf 1 (some (.object "java/lang/String")) :: pxAll) ({ frames := 0, cells := 0, slots := 0, locals := 0 } : Room) (va_Pc [.int 0] (pxPre G [] sz)) (pxQr G (G.2.2 15) (fun q => []) (va_A [] sz)) 0 0 (va_A [] sz) := by
  refine Met.ofW (cc := cX5_formOf) (maxL := 1) (ret := (some (.object "java/lang/String"))) (by decide) rfl ?_
  intro p e s m args below meth c s₁ B hml hv
  obtain ⟨rfl, hsz, hG, hZ, hP, hD0⟩ := hv
  have hx := B.exec
  have hb := B.bytes
  have hr := B.returns
  have hts0 := atoms_spec (ws := Cond.code yX5_formOf cX5_formOf 1 (some (.object "java/lang/String")) :: pxAll) B.pre
  have hts : ∀ w ∈ pxAll, w.before _ s = true := fun w h => hts0 w (List.mem_cons_of_mem _ h)
  have hown : s.vm.findClass RX5 = some m.cls := findClass_of_methodNamed B.named
  have hlocks := B.notSynchronized
  subst hsz
  have hK := hG.1
  have hD := hD0.self (sz := s.heap.size)
  generalize hAe : va_A [] s.heap.size = A at hD hZ ⊢
  have hA : ∀ q : Nat, s.heap.size ≤ q → A q := fun q h => by rw [← hAe]; exact Or.inr h
  have hS : va_S A s.heap s.heap [] := va_S.rf
  have hl := lv_entry ([.int 0]) (n := 1) (Nat.le_of_ble_eq_true rfl)
  rw [lg_entry_eq]
  generalize (lg_sl ([.int 0]) ++ List.replicate (1 - (lg_sl ([.int 0])).length) Slot.unset).toArray = ls at hl ⊢
  have hl : lv_has ls 1 [(0, .int 0)] := hl
  refine lv_iload_n hx hb dX5_formOf_0 rfl (lv_at hl 0 rfl) ?_
  refine lv_tableOut (tgt := 149) hx hb dX5_formOf_1 (by decide) (by decide) ?_
  refine va_ldcS hx hb hown (hG.2.2.2.2.1 15 _ rfl) dX5_formOf_149 ?_
  refine W.widen (k := 0) (n := 0) (Nat.le_of_ble_eq_true rfl) (Nat.le_of_ble_eq_true rfl) ?_
  exact W.aret (v := .ref (G.2.2 15)) (rt := .object "java/lang/String") hx hb hr (Or.inl ⟨_, rfl⟩) (Or.inr ⟨_, rfl⟩) (fun t ht hW => ⟨⟨(fun _ => 0), G.2.2 15, rfl, trivial, rfl, by rw [ht]; exact hP, hD⟩, hS.F ht⟩) hS.2.2 dX5_formOf_151
set_option maxHeartbeats 4000000 in
set_option maxRecDepth 100000 in
theorem k354_X5_readEntry (l : Launch) (G : pxG) (sz : Nat) (a0 a1 a2 a3 : Nat) : Met l yX5_readEntry (Cond.code yX5_readEntry cX5_readEntry 6 (some .boolean) :: pxAll) ({ frames := 1, cells := 0, slots := 0, locals := 20 } : Room) (va_Pc [.ref a0] (pxPreS G [(a0, .inr (4, [.ref a1, .ref a2, .ref a3, .int 0, .int 0, .int 0]))] sz)) (pxQi G (fun r => r = 0) (fun q => [(a0, .inr (4, [.ref a1, .ref a2, .ref a3, .int 0, .int 0, .int 0]))]) (va_A [(a0, .inr (4, [.ref a1, .ref a2, .ref a3, .int 0, .int 0, .int 0]))] sz)) 0 0 (va_A [(a0, .inr (4, [.ref a1, .ref a2, .ref a3, .int 0, .int 0, .int 0]))] sz) := by
  refine Met.ofW (cc := cX5_readEntry) (maxL := 6) (ret := (some .boolean)) (by decide) rfl ?_
  intro p e s m args below meth c s₁ B hml hv
  obtain ⟨rfl, ⟨hsz, hG, hZ, hP, hD0⟩, hY⟩ := hv
  have hx := B.exec
  have hb := B.bytes
  have hr := B.returns
  have hts0 := atoms_spec (ws := Cond.code yX5_readEntry cX5_readEntry 6 (some .boolean) :: pxAll) B.pre
  have hts : ∀ w ∈ pxAll, w.before _ s = true := fun w h => hts0 w (List.mem_cons_of_mem _ h)
  have hown : s.vm.findClass RX5 = some m.cls := findClass_of_methodNamed B.named
  have hlocks := B.notSynchronized
  subst hsz
  have hK := hG.1
  have hD := hD0.self (sz := s.heap.size)
  generalize hAe : va_A [(a0, .inr (4, [.ref a1, .ref a2, .ref a3, .int 0, .int 0, .int 0]))] s.heap.size = A at hD hZ hY ⊢
  have hA : ∀ q : Nat, s.heap.size ≤ q → A q := fun q h => by rw [← hAe]; exact Or.inr h
  have hS : va_S A s.heap s.heap [] := va_S.rf
  have hl := lv_entry ([.ref a0]) (n := 6) (Nat.le_of_ble_eq_true rfl)
  rw [lg_entry_eq]
  generalize (lg_sl ([.ref a0]) ++ List.replicate (6 - (lg_sl ([.ref a0])).length) Slot.unset).toArray = ls at hl ⊢
  have hl : lv_has ls 6 [(0, .ref a0)] := hl
  refine lv_aload_n hx hb dX5_readEntry_0 rfl (lv_at hl 0 rfl) ?_
  refine pxCi (va_runV (As := []) (rest := []) ⟨hx, hb, hml, hown, hts⟩ (k354_X5_sign l G s.heap.size a0 a1 a2 a3) (cwV 0 hts (pxGV pm801 pm802 pm803 pm47 pm804) rfl rfl rfl (by decide +kernel) ⟨(Nat.le_of_ble_eq_true rfl), (Nat.le_of_ble_eq_true rfl)⟩) (pxV (ci := 4) (q0 := 0) hG hZ hP hD hS hA [0] rfl (by decide) rfl rfl) rfl rfl hl.1 rfl (lv_room (Nat.le_of_ble_eq_true rfl)) dX5_readEntry_1 ⟨(Nat.le_of_ble_eq_true rfl), (Nat.le_of_ble_eq_true rfl)⟩) hP hD hS hA [0] [] rfl rfl (by decide) (by decide) (fun r2 q1 H locs hw hP hD hS => ?_)
  have hw : r2 = 0 := hw
  subst hw
  have hP : va_P G.1 pxCl [(a0, .inr (4, [.ref a1, .ref a2, .ref a3, .int 0, .int 0, .int 0]))] H := hP
  have hD : va_D A [(a0, .inr (4, [.ref a1, .ref a2, .ref a3, .int 0, .int 0, .int 0]))] := hD
  refine lv_istore_n (lv' := [(1, .int 0), (0, .ref a0)]) hx hb dX5_readEntry_4 rfl hl (by decide) rfl (fun ls hl => ?_)
  refine lv_iload_n hx hb dX5_readEntry_5 rfl (lv_at hl 0 rfl) ?_
  refine pxCr (va_runS (As := [.int 0]) (rest := []) ⟨hx, hb, hml, hown, hts⟩ (k355_X5_formOf l G H.size) (va_cwS 1 hts (pxGS pm805 pm806 pm47 pm807) rfl rfl rfl (by decide +kernel) ⟨(Nat.le_of_ble_eq_true rfl), (Nat.le_of_ble_eq_true rfl)⟩) (pxS hG hZ hP hD hS hA [] rfl (by decide)) rfl rfl hl.1 rfl (lv_room (Nat.le_of_ble_eq_true rfl)) dX5_readEntry_6 ⟨(Nat.le_of_ble_eq_true rfl), (Nat.le_of_ble_eq_true rfl)⟩) hP hD hS hA [] [0] rfl rfl (by decide) (by decide) (fun q3 H locs hP hD hS => ?_)
  have hP : va_P G.1 pxCl [(a0, .inr (4, [.ref a1, .ref a2, .ref a3, .int 0, .int 0, .int 0]))] H := hP
  have hD : va_D A [(a0, .inr (4, [.ref a1, .ref a2, .ref a3, .int 0, .int 0, .int 0]))] := hD
  refine lv_astore_n (lv' := [(2, .ref (G.2.2 15)), (1, .int 0), (0, .ref a0)]) hx hb dX5_readEntry_9 rfl hl (by decide) rfl (fun ls hl => ?_)
  refine lv_aload_n hx hb dX5_readEntry_10 rfl (lv_at hl 0 rfl) ?_
  refine va_calli (va_runV (As := []) (rest := []) ⟨hx, hb, hml, hown, hts⟩ (k_isEmpty l G) (cwV 0 hts (pxGV pm808 pm809 pm810 pm811 pm812) rfl rfl rfl (by decide +kernel) ⟨(Nat.le_of_ble_eq_true rfl), (Nat.le_of_ble_eq_true rfl)⟩) (pxIsEV hY hG hS) rfl rfl hl.1 rfl (lv_room (Nat.le_of_ble_eq_true rfl)) dX5_readEntry_11 ⟨(Nat.le_of_ble_eq_true rfl), (Nat.le_of_ble_eq_true rfl)⟩) hS (fun q _ h => h.elim) (fun q h => h.elim) (fun r9 _ t9 H locs ht9 hvm9 hw _ hz9 hk9 hS => ?_)
  have hP := hP.kept (fun k q hk => hk9 _ (hP k q hk).lt (fun h => h))
  have hw : r9 = 1 := hw
  subst hw
  have hP : va_P G.1 pxCl [(a0, .inr (4, [.ref a1, .ref a2, .ref a3, .int 0, .int 0, .int 0]))] H := hP
  have hD : va_D A [(a0, .inr (4, [.ref a1, .ref a2, .ref a3, .int 0, .int 0, .int 0]))] := hD
  refine lv_if_eq (tgt := 19) hx hb dX5_readEntry_14 (by decide) (fun h9 => absurd h9 (by decide)) (fun _ => ?_)
  refine lv_iconst (v := 0) hx hb dX5_readEntry_17 (by decide) ?_
  refine W.widen (k := 0) (n := 0) (Nat.le_of_ble_eq_true rfl) (Nat.le_of_ble_eq_true rfl) ?_
  exact W.zret (ty := .boolean) (v := 0) hx hb hr rfl (fun t ht hW => ⟨⟨0, (fun _ => 0), rfl, rfl, by rw [ht]; exact hP, hD⟩, hS.F ht⟩) hS.2.2 dX5_readEntry_18
set_option maxHeartbeats 4000000 in
set_option maxRecDepth 100000 in
theorem k354_X5_read (l : Launch) (G : pxG) (sz : Nat) (a0 a1 a2 a3 : Nat) : Met l yX5_read (Cond.code yX5_read cX5_read 1 (some .int) :: pxAll) ({ frames := 2, cells := 0, slots := 0, locals := 45 } : Room) (va_Pc [.ref a0] (pxPreS G [(a0, .inr (4, [.ref a1, .ref a2, .ref a3, .int 0, .int 0, .int 0]))] sz)) (pxQi G (fun r => r = 0) (fun q => [(a0, .inr (4, [.ref a1, .ref a2, .ref a3, .int 0, .int 0, .int 0]))]) (va_A [(a0, .inr (4, [.ref a1, .ref a2, .ref a3, .int 0, .int 0, .int 0]))] sz)) 0 0 (va_A [(a0, .inr (4, [.ref a1, .ref a2, .ref a3, .int 0, .int 0, .int 0]))] sz) := by
  refine Met.ofW (cc := cX5_read) (maxL := 1) (ret := (some .int)) (by decide) rfl ?_
  intro p e s m args below meth c s₁ B hml hv
  obtain ⟨rfl, ⟨hsz, hG, hZ, hP, hD0⟩, hY⟩ := hv
  have hx := B.exec
  have hb := B.bytes
  have hr := B.returns
  have hts0 := atoms_spec (ws := Cond.code yX5_read cX5_read 1 (some .int) :: pxAll) B.pre
  have hts : ∀ w ∈ pxAll, w.before _ s = true := fun w h => hts0 w (List.mem_cons_of_mem _ h)
  have hown : s.vm.findClass RX5 = some m.cls := findClass_of_methodNamed B.named
  have hlocks := B.notSynchronized
  subst hsz
  have hK := hG.1
  have hD := hD0.self (sz := s.heap.size)
  generalize hAe : va_A [(a0, .inr (4, [.ref a1, .ref a2, .ref a3, .int 0, .int 0, .int 0]))] s.heap.size = A at hD hZ hY ⊢
  have hA : ∀ q : Nat, s.heap.size ≤ q → A q := fun q h => by rw [← hAe]; exact Or.inr h
  have hS : va_S A s.heap s.heap [] := va_S.rf
  have hl := lv_entry ([.ref a0]) (n := 1) (Nat.le_of_ble_eq_true rfl)
  rw [lg_entry_eq]
  generalize (lg_sl ([.ref a0]) ++ List.replicate (1 - (lg_sl ([.ref a0])).length) Slot.unset).toArray = ls at hl ⊢
  have hl : lv_has ls 1 [(0, .ref a0)] := hl
  refine lv_aload_n hx hb dX5_read_0 rfl (lv_at hl 0 rfl) ?_
  refine lv_iconst (v := 0) hx hb dX5_read_1 (by decide) ?_
  refine va_put (D := G.1) (ci := 4) (v := .int 0) (ty := .int) (C := RX5) (T := TX5) (N := 6) hx hb hts piX5 tyX5 tyX5_ok nmX5 hown hK hP hD hS 0 rfl rfl 4 (by decide) (hts _ pm799) (fun _ h9 => h9) rfl (by decide +kernel) rfl rfl (Nat.le_of_ble_eq_true rfl) dX5_read_2 (fun H locs hP hD hS => ?_)
  have hP : va_P G.1 pxCl [(a0, .inr (4, [.ref a1, .ref a2, .ref a3, .int 0, .int 0, .int 0]))] H := hP
  have hD : va_D A [(a0, .inr (4, [.ref a1, .ref a2, .ref a3, .int 0, .int 0, .int 0]))] := hD
  refine lv_aload_n hx hb dX5_read_5 rfl (lv_at hl 0 rfl) ?_
  refine lv_iconst (v := 0) hx hb dX5_read_6 (by decide) ?_
  refine va_put (D := G.1) (ci := 4) (v := .int 0) (ty := .int) (C := RX5) (T := TX5) (N := 6) hx hb hts piX5 tyX5 tyX5_ok nmX5 hown hK hP hD hS 0 rfl rfl 5 (by decide) (hts _ pm800) (fun _ h9 => h9) rfl (by decide +kernel) rfl rfl (Nat.le_of_ble_eq_true rfl) dX5_read_7 (fun H locs hP hD hS => ?_)
  have hP : va_P G.1 pxCl [(a0, .inr (4, [.ref a1, .ref a2, .ref a3, .int 0, .int 0, .int 0]))] H := hP
  have hD : va_D A [(a0, .inr (4, [.ref a1, .ref a2, .ref a3, .int 0, .int 0, .int 0]))] := hD
  refine lv_aload_n hx hb dX5_read_10 rfl (lv_at hl 0 rfl) ?_
  refine va_get (D := G.1) (ci := 4) (v := .int 0) (C := RX5) (T := TX5) (N := 6) hx hb hts piX5 hown hK hP 0 rfl rfl 4 (by decide) (hts _ pm799) (fun _ h9 => h9) rfl dX5_read_11 ?_
  refine lv_bipush (v := 20) hx hb dX5_read_14 (by decide) ?_
  refine lv_icmp_eq (tgt := 26) hx hb dX5_read_16 (by decide) (fun h9 => absurd h9 (by decide)) (fun _ => ?_)
  refine lv_aload_n hx hb dX5_read_19 rfl (lv_at hl 0 rfl) ?_
  refine pxCi (va_runV (As := []) (rest := []) ⟨hx, hb, hml, hown, hts⟩ (k354_X5_readEntry l G H.size a0 a1 a2 a3) (cwV 0 hts (pxGV pm813 pm814 pm815 pm47 pm816) rfl rfl rfl (by decide +kernel) ⟨(Nat.le_of_ble_eq_true rfl), (Nat.le_of_ble_eq_true rfl)⟩) (pxV2 (ci := 4) (q0 := 0) hY hG hZ hP hD hS hA [0] rfl (by decide) rfl rfl) rfl rfl hl.1 rfl (lv_room (Nat.le_of_ble_eq_true rfl)) dX5_read_20 ⟨(Nat.le_of_ble_eq_true rfl), (Nat.le_of_ble_eq_true rfl)⟩) hP hD hS hA [0] [] rfl rfl (by decide) (by decide) (fun r2 q1 H locs hw hP hD hS => ?_)
  have hw : r2 = 0 := hw
  subst hw
  have hP : va_P G.1 pxCl [(a0, .inr (4, [.ref a1, .ref a2, .ref a3, .int 0, .int 0, .int 0]))] H := hP
  have hD : va_D A [(a0, .inr (4, [.ref a1, .ref a2, .ref a3, .int 0, .int 0, .int 0]))] := hD
  refine lv_if_ne (tgt := 31) hx hb dX5_read_23 (by decide) (fun h9 => absurd h9 (by decide)) (fun _ => ?_)
  refine lv_aload_n hx hb dX5_read_26 rfl (lv_at hl 0 rfl) ?_
  refine va_get (D := G.1) (ci := 4) (v := .int 0) (C := RX5) (T := TX5) (N := 6) hx hb hts piX5 hown hK hP 0 rfl rfl 5 (by decide) (hts _ pm800) (fun _ h9 => h9) rfl dX5_read_27 ?_
  refine W.widen (k := 0) (n := 0) (Nat.le_of_ble_eq_true rfl) (Nat.le_of_ble_eq_true rfl) ?_
  exact W.iret (v := 0) hx hb hr (fun t ht hW => ⟨⟨0, (fun _ => 0), rfl, rfl, by rw [ht]; exact hP, hD⟩, hS.F ht⟩) hS.2.2 dX5_read_30
set_option maxHeartbeats 4000000 in
set_option maxRecDepth 100000 in
theorem k358_X5_clear (l : Launch) (G : pxG) (sz : Nat) (a0 a1 a2 a3 : Nat) : Met l yX5_clear (Cond.code yX5_clear cX5_clear 1 none :: pxAll) ({ frames := 0, cells := 0, slots := 0, locals := 0 } : Room) (va_Pc [.ref a0] (pxPre G [(a0, .inr (4, [.ref a1, .ref a2, .ref a3, .int 0, .int 0, .int 0]))] sz)) (pxQv G (fun q => [(a0, .inr (4, [.ref a1, .ref a2, .ref a3, .int 0, .int 0, .int 0]))]) (va_A [(a0, .inr (4, [.ref a1, .ref a2, .ref a3, .int 0, .int 0, .int 0]))] sz)) 0 0 (va_A [(a0, .inr (4, [.ref a1, .ref a2, .ref a3, .int 0, .int 0, .int 0]))] sz) := by
  refine Met.ofW (cc := cX5_clear) (maxL := 1) (ret := none) (by decide) rfl ?_
  intro p e s m args below meth c s₁ B hml hv
  obtain ⟨rfl, hsz, hG, hZ, hP, hD0⟩ := hv
  have hx := B.exec
  have hb := B.bytes
  have hr := B.returns
  have hts0 := atoms_spec (ws := Cond.code yX5_clear cX5_clear 1 none :: pxAll) B.pre
  have hts : ∀ w ∈ pxAll, w.before _ s = true := fun w h => hts0 w (List.mem_cons_of_mem _ h)
  have hown : s.vm.findClass RX5 = some m.cls := findClass_of_methodNamed B.named
  have hlocks := B.notSynchronized
  subst hsz
  have hK := hG.1
  have hD := hD0.self (sz := s.heap.size)
  generalize hAe : va_A [(a0, .inr (4, [.ref a1, .ref a2, .ref a3, .int 0, .int 0, .int 0]))] s.heap.size = A at hD hZ ⊢
  have hA : ∀ q : Nat, s.heap.size ≤ q → A q := fun q h => by rw [← hAe]; exact Or.inr h
  have hS : va_S A s.heap s.heap [] := va_S.rf
  have hl := lv_entry ([.ref a0]) (n := 1) (Nat.le_of_ble_eq_true rfl)
  rw [lg_entry_eq]
  generalize (lg_sl ([.ref a0]) ++ List.replicate (1 - (lg_sl ([.ref a0])).length) Slot.unset).toArray = ls at hl ⊢
  have hl : lv_has ls 1 [(0, .ref a0)] := hl
  refine lv_aload_n hx hb dX5_clear_0 rfl (lv_at hl 0 rfl) ?_
  refine lv_iconst (v := 0) hx hb dX5_clear_1 (by decide) ?_
  refine va_put (D := G.1) (ci := 4) (v := .int 0) (ty := .int) (C := RX5) (T := TX5) (N := 6) hx hb hts piX5 tyX5 tyX5_ok nmX5 hown hK hP hD hS 0 rfl rfl 3 (by decide) (hts _ pm745) (fun _ h9 => h9) rfl (by decide +kernel) rfl rfl (Nat.le_of_ble_eq_true rfl) dX5_clear_2 (fun H locs hP hD hS => ?_)
  have hP : va_P G.1 pxCl [(a0, .inr (4, [.ref a1, .ref a2, .ref a3, .int 0, .int 0, .int 0]))] H := hP
  have hD : va_D A [(a0, .inr (4, [.ref a1, .ref a2, .ref a3, .int 0, .int 0, .int 0]))] := hD
  refine W.widen (k := 0) (n := 0) (Nat.le_of_ble_eq_true rfl) (Nat.le_of_ble_eq_true rfl) ?_
  exact W.vret hx hb hr (fun t ht hW => ⟨⟨(fun _ => 0), rfl, trivial, by rw [ht]; exact hP, hD⟩, hS.F ht⟩) hS.2.2 dX5_clear_5
set_option maxHeartbeats 4000000 in
set_option maxRecDepth 100000 in
theorem k354_X6_run (l : Launch) (hl9 : l.stackTraces = false) (G : pxG) (sz : Nat) (a0 a1 a2 a3 a4 a5 a6 a7 a8 : Nat) : vx_Met l yX6_run (Cond.code yX6_run cX6_run 4 (some .int) :: pxAll) ({ frames := 6, cells := 1, slots := 6, locals := 90 } : Room) (va_Pc [.ref a0] (pxPreS G [(a0, .inr (5, [.ref a2, .ref a3, .ref a4, .ref a1, .ref a5, .int 0, .int 0, .int (-1)])), (a1, .inr (4, [.ref a6, .ref a7, .ref a8, .int 0, .int 0, .int 0]))] sz)) pxF (pxXC "java/lang/IllegalArgumentException" (va_A [(a0, .inr (5, [.ref a2, .ref a3, .ref a4, .ref a1, .ref a5, .int 0, .int 0, .int (-1)])), (a1, .inr (4, [.ref a6, .ref a7, .ref a8, .int 0, .int 0, .int 0]))] sz)) 1 6 (va_A [(a0, .inr (5, [.ref a2, .ref a3, .ref a4, .ref a1, .ref a5, .int 0, .int 0, .int (-1)])), (a1, .inr (4, [.ref a6, .ref a7, .ref a8, .int 0, .int 0, .int 0]))] sz) := by
  refine vx_ofW (cc := cX6_run) (maxL := 4) (ret := (some .int)) (by decide) rfl ?_
  intro p e s m args below meth c s₁ B hml hEx hv
  obtain ⟨rfl, ⟨hsz, hG, hZ, hP, hD0⟩, hY⟩ := hv
  have hx := B.exec
  have hb := B.bytes
  have hr := B.returns
  have hts0 := atoms_spec (ws := Cond.code yX6_run cX6_run 4 (some .int) :: pxAll) B.pre
  have hts : ∀ w ∈ pxAll, w.before _ s = true := fun w h => hts0 w (List.mem_cons_of_mem _ h)
  have hown : s.vm.findClass RX6 = some m.cls := findClass_of_methodNamed B.named
  have hlocks := B.notSynchronized
  subst hsz
  have hK := hG.1
  have hD := hD0.self (sz := s.heap.size)
  generalize hAe : va_A [(a0, .inr (5, [.ref a2, .ref a3, .ref a4, .ref a1, .ref a5, .int 0, .int 0, .int (-1)])), (a1, .inr (4, [.ref a6, .ref a7, .ref a8, .int 0, .int 0, .int 0]))] s.heap.size = A at hD hZ hY ⊢
  have hA : ∀ q : Nat, s.heap.size ≤ q → A q := fun q h => by rw [← hAe]; exact Or.inr h
  have hS : va_S A s.heap s.heap [] := va_S.rf
  have hl := lv_entry ([.ref a0]) (n := 4) (Nat.le_of_ble_eq_true rfl)
  rw [lg_entry_eq]
  generalize (lg_sl ([.ref a0]) ++ List.replicate (4 - (lg_sl ([.ref a0])).length) Slot.unset).toArray = ls at hl ⊢
  have hl : lv_has ls 4 [(0, .ref a0)] := hl
  refine lv_aload_n hx hb dX6_run_0 rfl (lv_at hl 0 rfl) ?_
  refine lv_aload_n hx hb dX6_run_1 rfl (lv_at hl 0 rfl) ?_
  refine va_get (D := G.1) (ci := 5) (v := .ref a1) (C := RX6) (T := TX6) (N := 8) hx hb hts piX6 hown hK hP 0 rfl rfl 3 (by decide) (hts _ pm55) (fun _ h9 => h9) rfl dX6_run_2 ?_
  refine pxCi (va_runV (As := []) (rest := [.ref a0]) ⟨hx, hb, hml, hown, hts⟩ (k354_X5_read l G s.heap.size a1 a6 a7 a8) (cwV 0 hts (pxGV pm817 pm818 pm819 pm47 pm820) rfl rfl rfl (by decide +kernel) ⟨(Nat.le_of_ble_eq_true rfl), (Nat.le_of_ble_eq_true rfl)⟩) (pxV2 (ci := 4) (q0 := 1) hY hG hZ hP hD hS hA [1] rfl (by decide) rfl rfl) rfl rfl hl.1 rfl (lv_room (Nat.le_of_ble_eq_true rfl)) dX6_run_5 ⟨(Nat.le_of_ble_eq_true rfl), (Nat.le_of_ble_eq_true rfl)⟩) hP hD hS hA [1] [0] rfl rfl (by decide) (by decide) (fun r2 q1 H locs hw hP hD hS => ?_)
  have hw : r2 = 0 := hw
  subst hw
  have hP : va_P G.1 pxCl [(a0, .inr (5, [.ref a2, .ref a3, .ref a4, .ref a1, .ref a5, .int 0, .int 0, .int (-1)])), (a1, .inr (4, [.ref a6, .ref a7, .ref a8, .int 0, .int 0, .int 0]))] H := hP
  have hD : va_D A [(a0, .inr (5, [.ref a2, .ref a3, .ref a4, .ref a1, .ref a5, .int 0, .int 0, .int (-1)])), (a1, .inr (4, [.ref a6, .ref a7, .ref a8, .int 0, .int 0, .int 0]))] := hD
  refine va_put (D := G.1) (ci := 5) (v := .int 0) (ty := .int) (C := RX6) (T := TX6) (N := 8) hx hb hts piX6 tyX6 tyX6_ok nmX6 hown hK hP hD hS 0 rfl rfl 7 (by decide) (hts _ pm58) (fun _ h9 => h9) rfl (by decide +kernel) rfl rfl (Nat.le_of_ble_eq_true rfl) dX6_run_8 (fun H locs hP hD hS => ?_)
  have hP : va_P G.1 pxCl [(a0, .inr (5, [.ref a2, .ref a3, .ref a4, .ref a1, .ref a5, .int 0, .int 0, .int 0])), (a1, .inr (4, [.ref a6, .ref a7, .ref a8, .int 0, .int 0, .int 0]))] H := hP
  have hD : va_D A [(a0, .inr (5, [.ref a2, .ref a3, .ref a4, .ref a1, .ref a5, .int 0, .int 0, .int 0])), (a1, .inr (4, [.ref a6, .ref a7, .ref a8, .int 0, .int 0, .int 0]))] := hD
  refine lv_aload_n hx hb dX6_run_11 rfl (lv_at hl 0 rfl) ?_
  refine va_get (D := G.1) (ci := 5) (v := .ref a1) (C := RX6) (T := TX6) (N := 8) hx hb hts piX6 hown hK hP 0 rfl rfl 3 (by decide) (hts _ pm55) (fun _ h9 => h9) rfl dX6_run_12 ?_
  refine pxCv (va_runV (As := []) (rest := []) ⟨hx, hb, hml, hown, hts⟩ (k358_X5_clear l G H.size a1 a6 a7 a8) (cwV 0 hts (pxGV pm821 pm822 pm823 pm47 pm824) rfl rfl rfl (by decide +kernel) ⟨(Nat.le_of_ble_eq_true rfl), (Nat.le_of_ble_eq_true rfl)⟩) (pxV (ci := 4) (q0 := 1) hG hZ hP hD hS hA [1] rfl (by decide) rfl rfl) rfl rfl hl.1 rfl (lv_room (Nat.le_of_ble_eq_true rfl)) dX6_run_15 ⟨(Nat.le_of_ble_eq_true rfl), (Nat.le_of_ble_eq_true rfl)⟩) hP hD hS hA [1] [0] rfl rfl (by decide) (by decide) (fun q3 H locs hP hD hS => ?_)
  have hP : va_P G.1 pxCl [(a0, .inr (5, [.ref a2, .ref a3, .ref a4, .ref a1, .ref a5, .int 0, .int 0, .int 0])), (a1, .inr (4, [.ref a6, .ref a7, .ref a8, .int 0, .int 0, .int 0]))] H := hP
  have hD : va_D A [(a0, .inr (5, [.ref a2, .ref a3, .ref a4, .ref a1, .ref a5, .int 0, .int 0, .int 0])), (a1, .inr (4, [.ref a6, .ref a7, .ref a8, .int 0, .int 0, .int 0]))] := hD
  refine lv_aload_n hx hb dX6_run_18 rfl (lv_at hl 0 rfl) ?_
  refine va_get (D := G.1) (ci := 5) (v := .int 0) (C := RX6) (T := TX6) (N := 8) hx hb hts piX6 hown hK hP 0 rfl rfl 7 (by decide) (hts _ pm58) (fun _ h9 => h9) rfl dX6_run_19 ?_
  refine lv_if_lt (tgt := 35) hx hb dX6_run_22 (by decide) (fun h9 => absurd h9 (by decide)) (fun _ => ?_)
  exact vx_throwS (own := RX6) (cls := "java/lang/IllegalArgumentException") (names := ["java/lang/RuntimeException", "java/lang/Exception"]) hx hb hl9 hown (by decide +kernel) (by decide +kernel) (hts _ pm591) (hts _ pm592) (hG.2.2.2.2.1 1 _ rfl) (pxThr (own := RX6) (ic := 109) (by simp [pxBadC]) hts hG wsL_law_x3 pxh_x3) pxg_x3 hZ.1 hZ.2 hS (hl.1.trans hml.symm) dX6_run_25 dX6_run_28 dX6_run_29 dX6_run_31 dX6_run_34 (fun x hx => (hEx x hx).elim) (Nat.le_of_ble_eq_true rfl) (Nat.le_of_ble_eq_true rfl) (Nat.le_of_ble_eq_true rfl) (Nat.le_of_ble_eq_true rfl) hlocks (pxXe hS) hS.2.2 (Nat.le_of_ble_eq_true rfl) (Nat.le_of_ble_eq_true rfl)
set_option maxHeartbeats 4000000 in
set_option maxRecDepth 100000 in
theorem k354_L_run (l : Launch) (hl9 : l.stackTraces = false) (G : pxG) (sz : Nat) (a0 a1 a2 a3 a4 a5 a6 a7 a8 a9 : Nat) : Met l yL_run (Cond.codeWith yL_run cL_run 3 (some .int) [(0, 8, 11, 51), (0, 8, 14, 13)] :: pxAll) ({ frames := 7, cells := 1, slots := 6, locals := 113 } : Room) (va_Pc [.ref a0, .ref a2] (pxPreS G [(a0, .inr (5, [.ref a3, .ref a4, .ref a5, .ref a1, .ref a6, .int 0, .int 0, .int (-1)])), (a1, .inr (4, [.ref a7, .ref a8, .ref a9, .int 0, .int 0, .int 0]))] sz)) (pxQi G (fun r => r = 1) (fun q => []) (va_A [(a0, .inr (5, [.ref a3, .ref a4, .ref a5, .ref a1, .ref a6, .int 0, .int 0, .int (-1)])), (a1, .inr (4, [.ref a7, .ref a8, .ref a9, .int 0, .int 0, .int 0]))] sz)) 1 6 (va_A [(a0, .inr (5, [.ref a3, .ref a4, .ref a5, .ref a1, .ref a6, .int 0, .int 0, .int (-1)])), (a1, .inr (4, [.ref a7, .ref a8, .ref a9, .int 0, .int 0, .int 0]))] sz) := by
  refine va_MetW (cc := cL_run) (maxL := 3) (ret := (some .int)) (hh := [(0, 8, 11, 51), (0, 8, 14, 13)]) (by decide) rfl ?_
  intro p e s m args below meth c s₁ B hml hv
  obtain ⟨rfl, ⟨hsz, hG, hZ, hP, hD0⟩, hY⟩ := hv
  have hx := B.exec
  have hb := B.bytes
  have hr := B.returns
  have hts0 := atoms_spec (ws := Cond.codeWith yL_run cL_run 3 (some .int) [(0, 8, 11, 51), (0, 8, 14, 13)] :: pxAll) B.pre
  have hts : ∀ w ∈ pxAll, w.before _ s = true := fun w h => hts0 w (List.mem_cons_of_mem _ h)
  have hown : s.vm.findClass RL = some m.cls := findClass_of_methodNamed B.named
  have hlocks := B.notSynchronized
  have hTab := vx_table (x := yL_run) B (hts0 _ List.mem_cons_self)
  subst hsz
  have hK := hG.1
  have hD := hD0.self (sz := s.heap.size)
  generalize hAe : va_A [(a0, .inr (5, [.ref a3, .ref a4, .ref a5, .ref a1, .ref a6, .int 0, .int 0, .int (-1)])), (a1, .inr (4, [.ref a7, .ref a8, .ref a9, .int 0, .int 0, .int 0]))] s.heap.size = A at hD hZ hY ⊢
  have hA : ∀ q : Nat, s.heap.size ≤ q → A q := fun q h => by rw [← hAe]; exact Or.inr h
  have hS : va_S A s.heap s.heap [] := va_S.rf
  have hl := lv_entry ([.ref a0, .ref a2]) (n := 3) (Nat.le_of_ble_eq_true rfl)
  rw [lg_entry_eq]
  generalize (lg_sl ([.ref a0, .ref a2]) ++ List.replicate (3 - (lg_sl ([.ref a0, .ref a2])).length) Slot.unset).toArray = ls at hl ⊢
  have hl : lv_has ls 3 [(0, .ref a0), (1, .ref a2)] := hl
  refine lv_aload_n hx hb dL_run_0 rfl (lv_at hl 1 rfl) ?_
  refine lv_iconst (v := 0) hx hb dL_run_1 (by decide) ?_
  refine lv_aload_n hx hb dL_run_2 rfl (lv_at hl 0 rfl) ?_
  refine pxCx (vx_runV (As := []) (rest := [.int 0, .ref a2]) ⟨hx, hb, hml, hown, hts⟩ (k354_X6_run l hl9 G s.heap.size a0 a1 a3 a4 a5 a6 a7 a8 a9) (cwV 0 hts (pxGV pm825 pm826 pm827 pm2 pm828) rfl rfl rfl (by decide +kernel) ⟨(Nat.le_of_ble_eq_true rfl), (Nat.le_of_ble_eq_true rfl)⟩) (pxV2 (ci := 5) (q0 := 0) hY hG hZ hP hD hS hA [0, 1] rfl (by decide) rfl rfl) rfl rfl hl.1 rfl (lv_room (Nat.le_of_ble_eq_true rfl)) dL_run_3 ⟨(Nat.le_of_ble_eq_true rfl), (Nat.le_of_ble_eq_true rfl)⟩) hD hS hA [0, 1] rfl (fun ce q9 H locs hS hce hcv hcl => ?_)
  refine vx_catch (own := RL) (name := "java/lang/IllegalArgumentException") (E := "java/lang/IllegalArgumentException") hown [] ⟨0, 8, 11, 51⟩ [⟨0, 8, 14, 13⟩] (by rw [hTab]; rfl) (fun z hz => nomatch hz) (by decide) (by decide) (hts _ pm597) (va_Nw.use rfl (hG.2.2.1 "java/lang/IllegalArgumentException" (by simp [pxBadC]))) hce hcv hcl ?_
  have hP : va_P G.1 pxCl [] H := fun k q h => by simp at h
  have hD : va_D A [] := ⟨fun i j p q h => by simp at h, fun k q h => by simp at h⟩
  refine lv_astore_n (lv' := [(2, .ref q9), (0, .ref a0), (1, .ref a2)]) hx hb dL_run_11 rfl hl (by decide) rfl (fun ls hl => ?_)
  refine lv_iconst (v := 1) hx hb dL_run_12 (by decide) ?_
  refine W.widen (k := 1) (n := 6) (Nat.le_of_ble_eq_true rfl) (Nat.le_of_ble_eq_true rfl) ?_
  exact W.iret (v := 1) hx hb hr (fun t ht hW => ⟨⟨1, (fun _ => 0), rfl, rfl, by rw [ht]; exact hP, hD⟩, hS.F ht⟩) hS.2.2 dL_run_13
set_option maxHeartbeats 4000000 in
set_option maxRecDepth 100000 in
theorem k361_X7_here (l : Launch) (G : pxG) (sz : Nat) (a0 a1 a2 a3 a4 a5 a6 a7 a8 a9 a10 a11 : Nat) : Met l yX7_here (Cond.code yX7_here cX7_here 1 (some .int) :: pxAll) ({ frames := 0, cells := 0, slots := 0, locals := 0 } : Room) (va_Pc [.ref a0] (pxPre G [(a0, .inr (6, [.ref a1, .ref a2, .ref a3, .int 0, .ref a4, .int 0, .int 0, .int 0, .int 0, .ref a5, .int 0, .ref a6, .int 0, .int 0, .int 0, .int (-1), .ref a7, .ref a8, .int 0, .ref a9, .ref a10, .ref a11]))] sz)) (pxQi G (fun r => r = 0) (fun q => [(a0, .inr (6, [.ref a1, .ref a2, .ref a3, .int 0, .ref a4, .int 0, .int 0, .int 0, .int 0, .ref a5, .int 0, .ref a6, .int 0, .int 0, .int 0, .int (-1), .ref a7, .ref a8, .int 0, .ref a9, .ref a10, .ref a11]))]) (va_A [(a0, .inr (6, [.ref a1, .ref a2, .ref a3, .int 0, .ref a4, .int 0, .int 0, .int 0, .int 0, .ref a5, .int 0, .ref a6, .int 0, .int 0, .int 0, .int (-1), .ref a7, .ref a8, .int 0, .ref a9, .ref a10, .ref a11]))] sz)) 0 0 (va_A [(a0, .inr (6, [.ref a1, .ref a2, .ref a3, .int 0, .ref a4, .int 0, .int 0, .int 0, .int 0, .ref a5, .int 0, .ref a6, .int 0, .int 0, .int 0, .int (-1), .ref a7, .ref a8, .int 0, .ref a9, .ref a10, .ref a11]))] sz) := by
  refine Met.ofW (cc := cX7_here) (maxL := 1) (ret := (some .int)) (by decide) rfl ?_
  intro p e s m args below meth c s₁ B hml hv
  obtain ⟨rfl, hsz, hG, hZ, hP, hD0⟩ := hv
  have hx := B.exec
  have hb := B.bytes
  have hr := B.returns
  have hts0 := atoms_spec (ws := Cond.code yX7_here cX7_here 1 (some .int) :: pxAll) B.pre
  have hts : ∀ w ∈ pxAll, w.before _ s = true := fun w h => hts0 w (List.mem_cons_of_mem _ h)
  have hown : s.vm.findClass RX7 = some m.cls := findClass_of_methodNamed B.named
  have hlocks := B.notSynchronized
  subst hsz
  have hK := hG.1
  have hD := hD0.self (sz := s.heap.size)
  generalize hAe : va_A [(a0, .inr (6, [.ref a1, .ref a2, .ref a3, .int 0, .ref a4, .int 0, .int 0, .int 0, .int 0, .ref a5, .int 0, .ref a6, .int 0, .int 0, .int 0, .int (-1), .ref a7, .ref a8, .int 0, .ref a9, .ref a10, .ref a11]))] s.heap.size = A at hD hZ ⊢
  have hA : ∀ q : Nat, s.heap.size ≤ q → A q := fun q h => by rw [← hAe]; exact Or.inr h
  have hS : va_S A s.heap s.heap [] := va_S.rf
  have hl := lv_entry ([.ref a0]) (n := 1) (Nat.le_of_ble_eq_true rfl)
  rw [lg_entry_eq]
  generalize (lg_sl ([.ref a0]) ++ List.replicate (1 - (lg_sl ([.ref a0])).length) Slot.unset).toArray = ls at hl ⊢
  have hl : lv_has ls 1 [(0, .ref a0)] := hl
  refine lv_aload_n hx hb dX7_here_0 rfl (lv_at hl 0 rfl) ?_
  refine va_get (D := G.1) (ci := 6) (v := .int 0) (C := RX7) (T := TX7) (N := 22) hx hb hts piX7 hown hK hP 0 rfl rfl 13 (by decide) (hts _ pm832) (fun _ h9 => h9) rfl dX7_here_1 ?_
  refine lv_aload_n hx hb dX7_here_4 rfl (lv_at hl 0 rfl) ?_
  refine va_get (D := G.1) (ci := 6) (v := .int 0) (C := RX7) (T := TX7) (N := 22) hx hb hts piX7 hown hK hP 0 rfl rfl 12 (by decide) (hts _ pm750) (fun _ h9 => h9) rfl dX7_here_5 ?_
  refine lv_icmp_ge (tgt := 23) hx hb dX7_here_8 (by decide) (fun _ => ?_) (fun h9 => absurd (by decide) h9)
  refine lv_iconst (v := 0) hx hb dX7_here_23 (by decide) ?_
  refine W.widen (k := 0) (n := 0) (Nat.le_of_ble_eq_true rfl) (Nat.le_of_ble_eq_true rfl) ?_
  exact W.iret (v := 0) hx hb hr (fun t ht hW => ⟨⟨0, (fun _ => 0), rfl, rfl, by rw [ht]; exact hP, hD⟩, hS.F ht⟩) hS.2.2 dX7_here_24
set_option maxHeartbeats 4000000 in
set_option maxRecDepth 100000 in
theorem k362_X7_sign (l : Launch) (G : pxG) (sz : Nat) (a0 a1 a2 a3 a4 a5 a6 a7 a8 a9 a10 a11 : Nat) : Met l yX7_sign (Cond.code yX7_sign cX7_sign 2 none :: pxAll) ({ frames := 0, cells := 0, slots := 0, locals := 0 } : Room) (va_Pc [.ref a0, .int 59] (pxPre G [(a0, .inr (6, [.ref a1, .ref a2, .ref a3, .int 0, .ref a4, .int 0, .int 0, .int 0, .int 0, .ref a5, .int 0, .ref a6, .int 0, .int 0, .int 1, .int (-1), .ref a7, .ref a8, .int 0, .ref a9, .ref a10, .ref a11]))] sz)) (pxQv G (fun q => [(a0, .inr (6, [.ref a1, .ref a2, .ref a3, .int 0, .ref a4, .int 0, .int 0, .int 0, .int 0, .ref a5, .int 0, .ref a6, .int 0, .int 0, .int 1, .int (-1), .ref a7, .ref a8, .int 0, .ref a9, .ref a10, .ref a11]))]) (va_A [(a0, .inr (6, [.ref a1, .ref a2, .ref a3, .int 0, .ref a4, .int 0, .int 0, .int 0, .int 0, .ref a5, .int 0, .ref a6, .int 0, .int 0, .int 1, .int (-1), .ref a7, .ref a8, .int 0, .ref a9, .ref a10, .ref a11]))] sz)) 0 0 (va_A [(a0, .inr (6, [.ref a1, .ref a2, .ref a3, .int 0, .ref a4, .int 0, .int 0, .int 0, .int 0, .ref a5, .int 0, .ref a6, .int 0, .int 0, .int 1, .int (-1), .ref a7, .ref a8, .int 0, .ref a9, .ref a10, .ref a11]))] sz) := by
  refine Met.ofW (cc := cX7_sign) (maxL := 2) (ret := none) (by decide) rfl ?_
  intro p e s m args below meth c s₁ B hml hv
  obtain ⟨rfl, hsz, hG, hZ, hP, hD0⟩ := hv
  have hx := B.exec
  have hb := B.bytes
  have hr := B.returns
  have hts0 := atoms_spec (ws := Cond.code yX7_sign cX7_sign 2 none :: pxAll) B.pre
  have hts : ∀ w ∈ pxAll, w.before _ s = true := fun w h => hts0 w (List.mem_cons_of_mem _ h)
  have hown : s.vm.findClass RX7 = some m.cls := findClass_of_methodNamed B.named
  have hlocks := B.notSynchronized
  subst hsz
  have hK := hG.1
  have hD := hD0.self (sz := s.heap.size)
  generalize hAe : va_A [(a0, .inr (6, [.ref a1, .ref a2, .ref a3, .int 0, .ref a4, .int 0, .int 0, .int 0, .int 0, .ref a5, .int 0, .ref a6, .int 0, .int 0, .int 1, .int (-1), .ref a7, .ref a8, .int 0, .ref a9, .ref a10, .ref a11]))] s.heap.size = A at hD hZ ⊢
  have hA : ∀ q : Nat, s.heap.size ≤ q → A q := fun q h => by rw [← hAe]; exact Or.inr h
  have hS : va_S A s.heap s.heap [] := va_S.rf
  have hl := lv_entry ([.ref a0, .int 59]) (n := 2) (Nat.le_of_ble_eq_true rfl)
  rw [lg_entry_eq]
  generalize (lg_sl ([.ref a0, .int 59]) ++ List.replicate (2 - (lg_sl ([.ref a0, .int 59])).length) Slot.unset).toArray = ls at hl ⊢
  have hl : lv_has ls 2 [(0, .ref a0), (1, .int 59)] := hl
  refine lv_aload_n hx hb dX7_sign_0 rfl (lv_at hl 0 rfl) ?_
  refine lv_aload_n hx hb dX7_sign_1 rfl (lv_at hl 0 rfl) ?_
  refine va_get (D := G.1) (ci := 6) (v := .int 1) (C := RX7) (T := TX7) (N := 22) hx hb hts piX7 hown hK hP 0 rfl rfl 14 (by decide) (hts _ pm833) (fun _ h9 => h9) rfl dX7_sign_2 ?_
  refine lv_if_ne (tgt := 16) hx hb dX7_sign_5 (by decide) (fun _ => ?_) (fun h9 => absurd h9 (by decide))
  refine lv_iconst (v := 1) hx hb dX7_sign_16 (by decide) ?_
  refine lv_goto (tgt := 21) hx hb dX7_sign_17 (by decide) ?_
  refine va_put (D := G.1) (ci := 6) (v := .int 1) (ty := .boolean) (C := RX7) (T := TX7) (N := 22) hx hb hts piX7 tyX7 tyX7_ok nmX7 hown hK hP hD hS 0 rfl rfl 14 (by decide) (hts _ pm833) (fun _ h9 => h9) rfl (by decide +kernel) rfl rfl (Nat.le_of_ble_eq_true rfl) dX7_sign_21 (fun H locs hP hD hS => ?_)
  have hP : va_P G.1 pxCl [(a0, .inr (6, [.ref a1, .ref a2, .ref a3, .int 0, .ref a4, .int 0, .int 0, .int 0, .int 0, .ref a5, .int 0, .ref a6, .int 0, .int 0, .int 1, .int (-1), .ref a7, .ref a8, .int 0, .ref a9, .ref a10, .ref a11]))] H := hP
  have hD : va_D A [(a0, .inr (6, [.ref a1, .ref a2, .ref a3, .int 0, .ref a4, .int 0, .int 0, .int 0, .int 0, .ref a5, .int 0, .ref a6, .int 0, .int 0, .int 1, .int (-1), .ref a7, .ref a8, .int 0, .ref a9, .ref a10, .ref a11]))] := hD
  refine lv_aload_n hx hb dX7_sign_24 rfl (lv_at hl 0 rfl) ?_
  refine lv_dup hx hb dX7_sign_25 rfl ?_
  refine va_get (D := G.1) (ci := 6) (v := .int 0) (C := RX7) (T := TX7) (N := 22) hx hb hts piX7 hown hK hP 0 rfl rfl 13 (by decide) (hts _ pm832) (fun _ h9 => h9) rfl dX7_sign_26 ?_
  refine lv_aload_n hx hb dX7_sign_29 rfl (lv_at hl 0 rfl) ?_
  refine va_get (D := G.1) (ci := 6) (v := .int 1) (C := RX7) (T := TX7) (N := 22) hx hb hts piX7 hown hK hP 0 rfl rfl 14 (by decide) (hts _ pm833) (fun _ h9 => h9) rfl dX7_sign_30 ?_
  refine lv_if_eq (tgt := 40) hx hb dX7_sign_33 (by decide) (fun h9 => absurd h9 (by decide)) (fun _ => ?_)
  refine lv_iconst (v := 0) hx hb dX7_sign_36 (by decide) ?_
  refine lv_goto (tgt := 41) hx hb dX7_sign_37 (by decide) ?_
  refine lv_iadd hx hb dX7_sign_41 ?_
  refine pxTop (w := .int 0) (congrArg Value.int (by decide)) ?_
  refine va_put (D := G.1) (ci := 6) (v := .int 0) (ty := .int) (C := RX7) (T := TX7) (N := 22) hx hb hts piX7 tyX7 tyX7_ok nmX7 hown hK hP hD hS 0 rfl rfl 13 (by decide) (hts _ pm832) (fun _ h9 => h9) rfl (by decide +kernel) rfl rfl (Nat.le_of_ble_eq_true rfl) dX7_sign_42 (fun H locs hP hD hS => ?_)
  have hP : va_P G.1 pxCl [(a0, .inr (6, [.ref a1, .ref a2, .ref a3, .int 0, .ref a4, .int 0, .int 0, .int 0, .int 0, .ref a5, .int 0, .ref a6, .int 0, .int 0, .int 1, .int (-1), .ref a7, .ref a8, .int 0, .ref a9, .ref a10, .ref a11]))] H := hP
  have hD : va_D A [(a0, .inr (6, [.ref a1, .ref a2, .ref a3, .int 0, .ref a4, .int 0, .int 0, .int 0, .int 0, .ref a5, .int 0, .ref a6, .int 0, .int 0, .int 1, .int (-1), .ref a7, .ref a8, .int 0, .ref a9, .ref a10, .ref a11]))] := hD
  refine W.widen (k := 0) (n := 0) (Nat.le_of_ble_eq_true rfl) (Nat.le_of_ble_eq_true rfl) ?_
  exact W.vret hx hb hr (fun t ht hW => ⟨⟨(fun _ => 0), rfl, trivial, by rw [ht]; exact hP, hD⟩, hS.F ht⟩) hS.2.2 dX7_sign_45
set_option maxHeartbeats 4000000 in
set_option maxRecDepth 100000 in
theorem k361_X7_readEntry (l : Launch) (G : pxG) (sz : Nat) (a0 a1 a2 a3 a4 a5 a6 a7 a8 a9 a10 a11 : Nat) : Met l yX7_readEntry (Cond.code yX7_readEntry cX7_readEntry 3 none :: pxAll) ({ frames := 1, cells := 0, slots := 0, locals := 21 } : Room) (va_Pc [.ref a0] (pxPre G [(a0, .inr (6, [.ref a2, .ref a3, .ref a4, .int 0, .ref a5, .int 0, .int 0, .int 0, .int 0, .ref a6, .int 0, .ref a7, .int 0, .int 0, .int 0, .int (-1), .ref a1, .ref a8, .int 0, .ref a9, .ref a10, .ref a11])), (a1, .inl (G.2.1 0, 60, .inl (fun _ => 0)))] sz)) (pxQv G (fun q => [(a0, .inr (6, [.ref a2, .ref a3, .ref a4, .int 0, .ref a5, .int 0, .int 0, .int 0, .int 0, .ref a6, .int 0, .ref a7, .int 0, .int 0, .int 1, .int (-1), .ref a1, .ref a8, .int 1, .ref a9, .ref a10, .ref a11])), (a1, .inl (G.2.1 0, 60, .inl (upd (fun _ => 0) 0 0)))]) (va_A [(a0, .inr (6, [.ref a2, .ref a3, .ref a4, .int 0, .ref a5, .int 0, .int 0, .int 0, .int 0, .ref a6, .int 0, .ref a7, .int 0, .int 0, .int 0, .int (-1), .ref a1, .ref a8, .int 0, .ref a9, .ref a10, .ref a11])), (a1, .inl (G.2.1 0, 60, .inl (fun _ => 0)))] sz)) 0 0 (va_A [(a0, .inr (6, [.ref a2, .ref a3, .ref a4, .int 0, .ref a5, .int 0, .int 0, .int 0, .int 0, .ref a6, .int 0, .ref a7, .int 0, .int 0, .int 0, .int (-1), .ref a1, .ref a8, .int 0, .ref a9, .ref a10, .ref a11])), (a1, .inl (G.2.1 0, 60, .inl (fun _ => 0)))] sz) := by
  refine Met.ofW (cc := cX7_readEntry) (maxL := 3) (ret := none) (by decide) rfl ?_
  intro p e s m args below meth c s₁ B hml hv
  obtain ⟨rfl, hsz, hG, hZ, hP, hD0⟩ := hv
  have hx := B.exec
  have hb := B.bytes
  have hr := B.returns
  have hts0 := atoms_spec (ws := Cond.code yX7_readEntry cX7_readEntry 3 none :: pxAll) B.pre
  have hts : ∀ w ∈ pxAll, w.before _ s = true := fun w h => hts0 w (List.mem_cons_of_mem _ h)
  have hown : s.vm.findClass RX7 = some m.cls := findClass_of_methodNamed B.named
  have hlocks := B.notSynchronized
  subst hsz
  have hK := hG.1
  have hD := hD0.self (sz := s.heap.size)
  generalize hAe : va_A [(a0, .inr (6, [.ref a2, .ref a3, .ref a4, .int 0, .ref a5, .int 0, .int 0, .int 0, .int 0, .ref a6, .int 0, .ref a7, .int 0, .int 0, .int 0, .int (-1), .ref a1, .ref a8, .int 0, .ref a9, .ref a10, .ref a11])), (a1, .inl (G.2.1 0, 60, .inl (fun _ => 0)))] s.heap.size = A at hD hZ ⊢
  have hA : ∀ q : Nat, s.heap.size ≤ q → A q := fun q h => by rw [← hAe]; exact Or.inr h
  have hS : va_S A s.heap s.heap [] := va_S.rf
  have hl := lv_entry ([.ref a0]) (n := 3) (Nat.le_of_ble_eq_true rfl)
  rw [lg_entry_eq]
  generalize (lg_sl ([.ref a0]) ++ List.replicate (3 - (lg_sl ([.ref a0])).length) Slot.unset).toArray = ls at hl ⊢
  have hl : lv_has ls 3 [(0, .ref a0)] := hl
  refine lv_iconst (v := 4) hx hb dX7_readEntry_0 (by decide) ?_
  refine lv_aload_n hx hb dX7_readEntry_1 rfl (lv_at hl 0 rfl) ?_
  refine va_get (D := G.1) (ci := 6) (v := .int 0) (C := RX7) (T := TX7) (N := 22) hx hb hts piX7 hown hK hP 0 rfl rfl 18 (by decide) (hts _ pm834) (fun _ h9 => h9) rfl dX7_readEntry_2 ?_
  refine lv_imul hx hb dX7_readEntry_5 ?_
  refine pxTop (w := .int 0) (congrArg Value.int (by decide)) ?_
  refine lv_istore_n (lv' := [(1, .int 0), (0, .ref a0)]) hx hb dX7_readEntry_6 rfl hl (by decide) rfl (fun ls hl => ?_)
  refine lv_aload_n hx hb dX7_readEntry_7 rfl (lv_at hl 1 rfl) ?_
  refine pxCi (va_runV (As := []) (rest := []) ⟨hx, hb, hml, hown, hts⟩ (k361_X7_here l G s.heap.size a0 a2 a3 a4 a5 a6 a7 a1 a8 a9 a10 a11) (cwV 0 hts (pxGV pm835 pm836 pm837 pm71 pm838) rfl rfl rfl (by decide +kernel) ⟨(Nat.le_of_ble_eq_true rfl), (Nat.le_of_ble_eq_true rfl)⟩) (pxV (ci := 6) (q0 := 0) hG hZ hP hD hS hA [0] rfl (by decide) rfl rfl) rfl rfl hl.1 rfl (lv_room (Nat.le_of_ble_eq_true rfl)) dX7_readEntry_8 ⟨(Nat.le_of_ble_eq_true rfl), (Nat.le_of_ble_eq_true rfl)⟩) hP hD hS hA [0] [1] rfl rfl (by decide) (by decide) (fun r2 q1 H locs hw hP hD hS => ?_)
  have hw : r2 = 0 := hw
  subst hw
  have hP : va_P G.1 pxCl [(a1, .inl (G.2.1 0, 60, .inl (fun _ => 0))), (a0, .inr (6, [.ref a2, .ref a3, .ref a4, .int 0, .ref a5, .int 0, .int 0, .int 0, .int 0, .ref a6, .int 0, .ref a7, .int 0, .int 0, .int 0, .int (-1), .ref a1, .ref a8, .int 0, .ref a9, .ref a10, .ref a11]))] H := hP
  have hD : va_D A [(a1, .inl (G.2.1 0, 60, .inl (fun _ => 0))), (a0, .inr (6, [.ref a2, .ref a3, .ref a4, .int 0, .ref a5, .int 0, .int 0, .int 0, .int 0, .ref a6, .int 0, .ref a7, .int 0, .int 0, .int 0, .int (-1), .ref a1, .ref a8, .int 0, .ref a9, .ref a10, .ref a11]))] := hD
  refine lv_istore_n (lv' := [(2, .int 0), (1, .int 0), (0, .ref a0)]) hx hb dX7_readEntry_11 rfl hl (by decide) rfl (fun ls hl => ?_)
  refine lv_aload_n hx hb dX7_readEntry_12 rfl (lv_at hl 2 rfl) ?_
  refine va_get (D := G.1) (ci := 6) (v := .ref a1) (C := RX7) (T := TX7) (N := 22) hx hb hts piX7 hown hK hP 1 rfl rfl 16 (by decide) (hts _ pm81) (fun _ h9 => h9) rfl dX7_readEntry_13 ?_
  refine lv_aload_n hx hb dX7_readEntry_16 rfl (lv_at hl 2 rfl) ?_
  refine va_get (D := G.1) (ci := 6) (v := .int 0) (C := RX7) (T := TX7) (N := 22) hx hb hts piX7 hown hK hP 1 rfl rfl 18 (by decide) (hts _ pm834) (fun _ h9 => h9) rfl dX7_readEntry_17 ?_
  refine lv_iload_n hx hb dX7_readEntry_20 rfl (lv_at hl 0 rfl) ?_
  refine va_iast hx hb hK hP hD hS 0 0 rfl rfl (show ¬ ((0 : Int32) < 0 ∨ 60 ≤ (0 : Int32).toNatClampNeg) by decide +kernel) dX7_readEntry_21 (fun H locs hP hD hS => ?_)
  have hP : va_P G.1 pxCl [(a1, .inl (G.2.1 0, 60, .inl (upd (fun _ => 0) 0 0))), (a0, .inr (6, [.ref a2, .ref a3, .ref a4, .int 0, .ref a5, .int 0, .int 0, .int 0, .int 0, .ref a6, .int 0, .ref a7, .int 0, .int 0, .int 0, .int (-1), .ref a1, .ref a8, .int 0, .ref a9, .ref a10, .ref a11]))] H := hP
  have hD : va_D A [(a1, .inl (G.2.1 0, 60, .inl (upd (fun _ => 0) 0 0))), (a0, .inr (6, [.ref a2, .ref a3, .ref a4, .int 0, .ref a5, .int 0, .int 0, .int 0, .int 0, .ref a6, .int 0, .ref a7, .int 0, .int 0, .int 0, .int (-1), .ref a1, .ref a8, .int 0, .ref a9, .ref a10, .ref a11]))] := hD
  refine lv_aload_n hx hb dX7_readEntry_22 rfl (lv_at hl 2 rfl) ?_
  refine lv_dup hx hb dX7_readEntry_23 rfl ?_
  refine va_get (D := G.1) (ci := 6) (v := .int 0) (C := RX7) (T := TX7) (N := 22) hx hb hts piX7 hown hK hP 1 rfl rfl 13 (by decide) (hts _ pm832) (fun _ h9 => h9) rfl dX7_readEntry_24 ?_
  refine lv_iconst (v := 1) hx hb dX7_readEntry_27 (by decide) ?_
  refine lv_iadd hx hb dX7_readEntry_28 ?_
  refine pxTop (w := .int 1) (congrArg Value.int (by decide)) ?_
  refine va_put (D := G.1) (ci := 6) (v := .int 1) (ty := .int) (C := RX7) (T := TX7) (N := 22) hx hb hts piX7 tyX7 tyX7_ok nmX7 hown hK hP hD hS 1 rfl rfl 13 (by decide) (hts _ pm832) (fun _ h9 => h9) rfl (by decide +kernel) rfl rfl (Nat.le_of_ble_eq_true rfl) dX7_readEntry_29 (fun H locs hP hD hS => ?_)
  have hP : va_P G.1 pxCl [(a1, .inl (G.2.1 0, 60, .inl (upd (fun _ => 0) 0 0))), (a0, .inr (6, [.ref a2, .ref a3, .ref a4, .int 0, .ref a5, .int 0, .int 0, .int 0, .int 0, .ref a6, .int 0, .ref a7, .int 0, .int 1, .int 0, .int (-1), .ref a1, .ref a8, .int 0, .ref a9, .ref a10, .ref a11]))] H := hP
  have hD : va_D A [(a1, .inl (G.2.1 0, 60, .inl (upd (fun _ => 0) 0 0))), (a0, .inr (6, [.ref a2, .ref a3, .ref a4, .int 0, .ref a5, .int 0, .int 0, .int 0, .int 0, .ref a6, .int 0, .ref a7, .int 0, .int 1, .int 0, .int (-1), .ref a1, .ref a8, .int 0, .ref a9, .ref a10, .ref a11]))] := hD
  refine lv_iload_n hx hb dX7_readEntry_32 rfl (lv_at hl 0 rfl) ?_
  refine lv_tableOut (tgt := 481) hx hb dX7_readEntry_33 (by decide) (by decide) ?_
  refine lv_aload_n hx hb dX7_readEntry_481 rfl (lv_at hl 2 rfl) ?_
  refine lv_dup hx hb dX7_readEntry_482 rfl ?_
  refine va_get (D := G.1) (ci := 6) (v := .int 1) (C := RX7) (T := TX7) (N := 22) hx hb hts piX7 hown hK hP 1 rfl rfl 13 (by decide) (hts _ pm832) (fun _ h9 => h9) rfl dX7_readEntry_483 ?_
  refine lv_iconst (v := 1) hx hb dX7_readEntry_486 (by decide) ?_
  refine lv_isub hx hb dX7_readEntry_487 ?_
  refine pxTop (w := .int 0) (congrArg Value.int (by decide)) ?_
  refine va_put (D := G.1) (ci := 6) (v := .int 0) (ty := .int) (C := RX7) (T := TX7) (N := 22) hx hb hts piX7 tyX7 tyX7_ok nmX7 hown hK hP hD hS 1 rfl rfl 13 (by decide) (hts _ pm832) (fun _ h9 => h9) rfl (by decide +kernel) rfl rfl (Nat.le_of_ble_eq_true rfl) dX7_readEntry_488 (fun H locs hP hD hS => ?_)
  have hP : va_P G.1 pxCl [(a1, .inl (G.2.1 0, 60, .inl (upd (fun _ => 0) 0 0))), (a0, .inr (6, [.ref a2, .ref a3, .ref a4, .int 0, .ref a5, .int 0, .int 0, .int 0, .int 0, .ref a6, .int 0, .ref a7, .int 0, .int 0, .int 0, .int (-1), .ref a1, .ref a8, .int 0, .ref a9, .ref a10, .ref a11]))] H := hP
  have hD : va_D A [(a1, .inl (G.2.1 0, 60, .inl (upd (fun _ => 0) 0 0))), (a0, .inr (6, [.ref a2, .ref a3, .ref a4, .int 0, .ref a5, .int 0, .int 0, .int 0, .int 0, .ref a6, .int 0, .ref a7, .int 0, .int 0, .int 0, .int (-1), .ref a1, .ref a8, .int 0, .ref a9, .ref a10, .ref a11]))] := hD
  refine lv_aload_n hx hb dX7_readEntry_491 rfl (lv_at hl 2 rfl) ?_
  refine lv_iconst (v := 1) hx hb dX7_readEntry_492 (by decide) ?_
  refine va_put (D := G.1) (ci := 6) (v := .int 1) (ty := .boolean) (C := RX7) (T := TX7) (N := 22) hx hb hts piX7 tyX7 tyX7_ok nmX7 hown hK hP hD hS 1 rfl rfl 14 (by decide) (hts _ pm833) (fun _ h9 => h9) rfl (by decide +kernel) rfl rfl (Nat.le_of_ble_eq_true rfl) dX7_readEntry_493 (fun H locs hP hD hS => ?_)
  have hP : va_P G.1 pxCl [(a1, .inl (G.2.1 0, 60, .inl (upd (fun _ => 0) 0 0))), (a0, .inr (6, [.ref a2, .ref a3, .ref a4, .int 0, .ref a5, .int 0, .int 0, .int 0, .int 0, .ref a6, .int 0, .ref a7, .int 0, .int 0, .int 1, .int (-1), .ref a1, .ref a8, .int 0, .ref a9, .ref a10, .ref a11]))] H := hP
  have hD : va_D A [(a1, .inl (G.2.1 0, 60, .inl (upd (fun _ => 0) 0 0))), (a0, .inr (6, [.ref a2, .ref a3, .ref a4, .int 0, .ref a5, .int 0, .int 0, .int 0, .int 0, .ref a6, .int 0, .ref a7, .int 0, .int 0, .int 1, .int (-1), .ref a1, .ref a8, .int 0, .ref a9, .ref a10, .ref a11]))] := hD
  refine lv_aload_n hx hb dX7_readEntry_496 rfl (lv_at hl 2 rfl) ?_
  refine lv_bipush (v := 59) hx hb dX7_readEntry_497 (by decide) ?_
  refine pxCv (va_runV (As := [.int 59]) (rest := []) ⟨hx, hb, hml, hown, hts⟩ (k362_X7_sign l G H.size a0 a2 a3 a4 a5 a6 a7 a1 a8 a9 a10 a11) (cwV 1 hts (pxGV pm839 pm840 pm841 pm71 pm842) rfl rfl rfl (by decide +kernel) ⟨(Nat.le_of_ble_eq_true rfl), (Nat.le_of_ble_eq_true rfl)⟩) (pxV (ci := 6) (q0 := 1) hG hZ hP hD hS hA [1] rfl (by decide) rfl rfl) rfl rfl hl.1 rfl (lv_room (Nat.le_of_ble_eq_true rfl)) dX7_readEntry_499 ⟨(Nat.le_of_ble_eq_true rfl), (Nat.le_of_ble_eq_true rfl)⟩) hP hD hS hA [1] [0] rfl rfl (by decide) (by decide) (fun q3 H locs hP hD hS => ?_)
  have hP : va_P G.1 pxCl [(a1, .inl (G.2.1 0, 60, .inl (upd (fun _ => 0) 0 0))), (a0, .inr (6, [.ref a2, .ref a3, .ref a4, .int 0, .ref a5, .int 0, .int 0, .int 0, .int 0, .ref a6, .int 0, .ref a7, .int 0, .int 0, .int 1, .int (-1), .ref a1, .ref a8, .int 0, .ref a9, .ref a10, .ref a11]))] H := hP
  have hD : va_D A [(a1, .inl (G.2.1 0, 60, .inl (upd (fun _ => 0) 0 0))), (a0, .inr (6, [.ref a2, .ref a3, .ref a4, .int 0, .ref a5, .int 0, .int 0, .int 0, .int 0, .ref a6, .int 0, .ref a7, .int 0, .int 0, .int 1, .int (-1), .ref a1, .ref a8, .int 0, .ref a9, .ref a10, .ref a11]))] := hD
  refine lv_aload_n hx hb dX7_readEntry_502 rfl (lv_at hl 2 rfl) ?_
  refine lv_dup hx hb dX7_readEntry_503 rfl ?_
  refine va_get (D := G.1) (ci := 6) (v := .int 0) (C := RX7) (T := TX7) (N := 22) hx hb hts piX7 hown hK hP 1 rfl rfl 18 (by decide) (hts _ pm834) (fun _ h9 => h9) rfl dX7_readEntry_504 ?_
  refine lv_iconst (v := 1) hx hb dX7_readEntry_507 (by decide) ?_
  refine lv_iadd hx hb dX7_readEntry_508 ?_
  refine pxTop (w := .int 1) (congrArg Value.int (by decide)) ?_
  refine va_put (D := G.1) (ci := 6) (v := .int 1) (ty := .int) (C := RX7) (T := TX7) (N := 22) hx hb hts piX7 tyX7 tyX7_ok nmX7 hown hK hP hD hS 1 rfl rfl 18 (by decide) (hts _ pm834) (fun _ h9 => h9) rfl (by decide +kernel) rfl rfl (Nat.le_of_ble_eq_true rfl) dX7_readEntry_509 (fun H locs hP hD hS => ?_)
  have hP : va_P G.1 pxCl [(a1, .inl (G.2.1 0, 60, .inl (upd (fun _ => 0) 0 0))), (a0, .inr (6, [.ref a2, .ref a3, .ref a4, .int 0, .ref a5, .int 0, .int 0, .int 0, .int 0, .ref a6, .int 0, .ref a7, .int 0, .int 0, .int 1, .int (-1), .ref a1, .ref a8, .int 1, .ref a9, .ref a10, .ref a11]))] H := hP
  have hD : va_D A [(a1, .inl (G.2.1 0, 60, .inl (upd (fun _ => 0) 0 0))), (a0, .inr (6, [.ref a2, .ref a3, .ref a4, .int 0, .ref a5, .int 0, .int 0, .int 0, .int 0, .ref a6, .int 0, .ref a7, .int 0, .int 0, .int 1, .int (-1), .ref a1, .ref a8, .int 1, .ref a9, .ref a10, .ref a11]))] := hD
  have hD : va_D A [(a0, .inr (6, [.ref a2, .ref a3, .ref a4, .int 0, .ref a5, .int 0, .int 0, .int 0, .int 0, .ref a6, .int 0, .ref a7, .int 0, .int 0, .int 1, .int (-1), .ref a1, .ref a8, .int 1, .ref a9, .ref a10, .ref a11])), (a1, .inl (G.2.1 0, 60, .inl (upd (fun _ => 0) 0 0)))] := hD.sub [1, 0] (by decide) rfl
  have hP : va_P G.1 pxCl [(a0, .inr (6, [.ref a2, .ref a3, .ref a4, .int 0, .ref a5, .int 0, .int 0, .int 0, .int 0, .ref a6, .int 0, .ref a7, .int 0, .int 0, .int 1, .int (-1), .ref a1, .ref a8, .int 1, .ref a9, .ref a10, .ref a11])), (a1, .inl (G.2.1 0, 60, .inl (upd (fun _ => 0) 0 0)))] H := hP.sub [1, 0] rfl
  refine W.widen (k := 0) (n := 0) (Nat.le_of_ble_eq_true rfl) (Nat.le_of_ble_eq_true rfl) ?_
  exact W.vret hx hb hr (fun t ht hW => ⟨⟨(fun _ => 0), rfl, trivial, by rw [ht]; exact hP, hD⟩, hS.F ht⟩) hS.2.2 dX7_readEntry_512
set_option maxHeartbeats 4000000 in
set_option maxRecDepth 100000 in
theorem k364_X7_keepState (l : Launch) (G : pxG) (sz : Nat) (a0 a1 a2 a3 a4 a5 a6 a7 a8 a9 a10 a11 : Nat) : Met l yX7_keepState (Cond.code yX7_keepState cX7_keepState 1 none :: pxAll) ({ frames := 1, cells := 0, slots := 0, locals := 24 } : Room) (va_Pc [.ref a0] (pxPre G [(a0, .inr (6, [.ref a1, .ref a2, .ref a3, .int 0, .ref a4, .int 0, .int 0, .int 1, .int 0, .ref a5, .int 0, .ref a6, .int 0, .int 0, .int 1, .int 0, .ref a7, .ref a8, .int 1, .ref a9, .ref a10, .ref a11])), (a1, .inl (G.2.1 0, 4891, .inl (fun _ => 0))), (a2, .inl (G.2.1 0, 4891, .inl (fun _ => 0)))] sz)) (pxQv G (fun q => [(a0, .inr (6, [.ref a1, .ref a2, .ref a3, .int 0, .ref a4, .int 0, .int 0, .int 1, .int 0, .ref a5, .int 0, .ref a6, .int 0, .int 0, .int 1, .int 0, .ref a7, .ref a8, .int 1, .ref a9, .ref a10, .ref a11])), (a1, .inl (G.2.1 0, 4891, .inl (fun _ => 0))), (a2, .inl (G.2.1 0, 4891, .inl (fun _ => 0)))]) (va_A [(a0, .inr (6, [.ref a1, .ref a2, .ref a3, .int 0, .ref a4, .int 0, .int 0, .int 1, .int 0, .ref a5, .int 0, .ref a6, .int 0, .int 0, .int 1, .int 0, .ref a7, .ref a8, .int 1, .ref a9, .ref a10, .ref a11])), (a1, .inl (G.2.1 0, 4891, .inl (fun _ => 0))), (a2, .inl (G.2.1 0, 4891, .inl (fun _ => 0)))] sz)) 0 0 (va_A [(a0, .inr (6, [.ref a1, .ref a2, .ref a3, .int 0, .ref a4, .int 0, .int 0, .int 1, .int 0, .ref a5, .int 0, .ref a6, .int 0, .int 0, .int 1, .int 0, .ref a7, .ref a8, .int 1, .ref a9, .ref a10, .ref a11])), (a1, .inl (G.2.1 0, 4891, .inl (fun _ => 0))), (a2, .inl (G.2.1 0, 4891, .inl (fun _ => 0)))] sz) := by
  refine Met.ofW (cc := cX7_keepState) (maxL := 1) (ret := none) (by decide) rfl ?_
  intro p e s m args below meth c s₁ B hml hv
  obtain ⟨rfl, hsz, hG, hZ, hP, hD0⟩ := hv
  have hx := B.exec
  have hb := B.bytes
  have hr := B.returns
  have hts0 := atoms_spec (ws := Cond.code yX7_keepState cX7_keepState 1 none :: pxAll) B.pre
  have hts : ∀ w ∈ pxAll, w.before _ s = true := fun w h => hts0 w (List.mem_cons_of_mem _ h)
  have hown : s.vm.findClass RX7 = some m.cls := findClass_of_methodNamed B.named
  have hlocks := B.notSynchronized
  subst hsz
  have hK := hG.1
  have hD := hD0.self (sz := s.heap.size)
  generalize hAe : va_A [(a0, .inr (6, [.ref a1, .ref a2, .ref a3, .int 0, .ref a4, .int 0, .int 0, .int 1, .int 0, .ref a5, .int 0, .ref a6, .int 0, .int 0, .int 1, .int 0, .ref a7, .ref a8, .int 1, .ref a9, .ref a10, .ref a11])), (a1, .inl (G.2.1 0, 4891, .inl (fun _ => 0))), (a2, .inl (G.2.1 0, 4891, .inl (fun _ => 0)))] s.heap.size = A at hD hZ ⊢
  have hA : ∀ q : Nat, s.heap.size ≤ q → A q := fun q h => by rw [← hAe]; exact Or.inr h
  have hS : va_S A s.heap s.heap [] := va_S.rf
  have hl := lv_entry ([.ref a0]) (n := 1) (Nat.le_of_ble_eq_true rfl)
  rw [lg_entry_eq]
  generalize (lg_sl ([.ref a0]) ++ List.replicate (1 - (lg_sl ([.ref a0])).length) Slot.unset).toArray = ls at hl ⊢
  have hl : lv_has ls 1 [(0, .ref a0)] := hl
  refine lv_aload_n hx hb dX7_keepState_0 rfl (lv_at hl 0 rfl) ?_
  refine va_get (D := G.1) (ci := 6) (v := .ref a1) (C := RX7) (T := TX7) (N := 22) hx hb hts piX7 hown hK hP 0 rfl rfl 0 (by decide) (hts _ pm73) (fun _ h9 => h9) rfl dX7_keepState_1 ?_
  refine lv_iconst (v := 0) hx hb dX7_keepState_4 (by decide) ?_
  refine lv_aload_n hx hb dX7_keepState_5 rfl (lv_at hl 0 rfl) ?_
  refine va_get (D := G.1) (ci := 6) (v := .ref a2) (C := RX7) (T := TX7) (N := 22) hx hb hts piX7 hown hK hP 0 rfl rfl 1 (by decide) (hts _ pm74) (fun _ h9 => h9) rfl dX7_keepState_6 ?_
  refine lv_iconst (v := 0) hx hb dX7_keepState_9 (by decide) ?_
  refine lv_sipush (v := 4891) hx hb dX7_keepState_10 (by decide) ?_
  refine va_copyi hx hb (hml.trans hl.1.symm) hown (hts _ pm138) (hts _ pm97) (hts _ pm98) (hts _ pm99) hK hP hD hS 1 2 0 0 rfl rfl rfl rfl rfl (by decide) (by decide) (by decide) (by decide +kernel) (by decide +kernel) (fun _ _ => rfl) (Nat.le_of_ble_eq_true rfl) (Nat.le_of_ble_eq_true rfl) dX7_keepState_13 (fun H locs hP hD hS => ?_)
  rw [pxCpy0] at hP hD
  have hP : va_P G.1 pxCl [(a0, .inr (6, [.ref a1, .ref a2, .ref a3, .int 0, .ref a4, .int 0, .int 0, .int 1, .int 0, .ref a5, .int 0, .ref a6, .int 0, .int 0, .int 1, .int 0, .ref a7, .ref a8, .int 1, .ref a9, .ref a10, .ref a11])), (a1, .inl (G.2.1 0, 4891, .inl (fun _ => 0))), (a2, .inl (G.2.1 0, 4891, .inl (fun _ => 0)))] H := hP
  have hD : va_D A [(a0, .inr (6, [.ref a1, .ref a2, .ref a3, .int 0, .ref a4, .int 0, .int 0, .int 1, .int 0, .ref a5, .int 0, .ref a6, .int 0, .int 0, .int 1, .int 0, .ref a7, .ref a8, .int 1, .ref a9, .ref a10, .ref a11])), (a1, .inl (G.2.1 0, 4891, .inl (fun _ => 0))), (a2, .inl (G.2.1 0, 4891, .inl (fun _ => 0)))] := hD
  refine W.widen (k := 0) (n := 0) (Nat.le_of_ble_eq_true rfl) (Nat.le_of_ble_eq_true rfl) ?_
  exact W.vret hx hb hr (fun t ht hW => ⟨⟨(fun _ => 0), rfl, trivial, by rw [ht]; exact hP, hD⟩, hS.F ht⟩) hS.2.2 dX7_keepState_16
set_option maxHeartbeats 4000000 in
set_option maxRecDepth 100000 in
theorem k361_X7_run (l : Launch) (G : pxG) (sz : Nat) (a0 a1 a2 a3 a4 a5 a6 a7 a8 a9 a10 a11 : Nat) : Met l yX7_run (Cond.code yX7_run cX7_run 3 (some .int) :: pxAll) ({ frames := 2, cells := 0, slots := 0, locals := 44 } : Room) (va_Pc [.ref a0] (pxPre G [(a0, .inr (6, [.ref a1, .ref a2, .ref a4, .int 0, .ref a5, .int 0, .int 0, .int 0, .int 0, .ref a6, .int 0, .ref a7, .int 0, .int 0, .int 0, .int (-1), .ref a3, .ref a8, .int 0, .ref a9, .ref a10, .ref a11])), (a1, .inl (G.2.1 0, 4891, .inl (fun _ => 0))), (a2, .inl (G.2.1 0, 4891, .inl (fun _ => 0))), (a3, .inl (G.2.1 0, 60, .inl (fun _ => 0)))] sz)) (pxQi G (fun r => r = 0) (fun q => [(a0, .inr (6, [.ref a1, .ref a2, .ref a4, .int 0, .ref a5, .int 0, .int 0, .int 1, .int 0, .ref a6, .int 0, .ref a7, .int 0, .int 0, .int 1, .int 0, .ref a3, .ref a8, .int 1, .ref a9, .ref a10, .ref a11]))]) (va_A [(a0, .inr (6, [.ref a1, .ref a2, .ref a4, .int 0, .ref a5, .int 0, .int 0, .int 0, .int 0, .ref a6, .int 0, .ref a7, .int 0, .int 0, .int 0, .int (-1), .ref a3, .ref a8, .int 0, .ref a9, .ref a10, .ref a11])), (a1, .inl (G.2.1 0, 4891, .inl (fun _ => 0))), (a2, .inl (G.2.1 0, 4891, .inl (fun _ => 0))), (a3, .inl (G.2.1 0, 60, .inl (fun _ => 0)))] sz)) 0 0 (va_A [(a0, .inr (6, [.ref a1, .ref a2, .ref a4, .int 0, .ref a5, .int 0, .int 0, .int 0, .int 0, .ref a6, .int 0, .ref a7, .int 0, .int 0, .int 0, .int (-1), .ref a3, .ref a8, .int 0, .ref a9, .ref a10, .ref a11])), (a1, .inl (G.2.1 0, 4891, .inl (fun _ => 0))), (a2, .inl (G.2.1 0, 4891, .inl (fun _ => 0))), (a3, .inl (G.2.1 0, 60, .inl (fun _ => 0)))] sz) := by
  refine Met.ofW (cc := cX7_run) (maxL := 3) (ret := (some .int)) (by decide) rfl ?_
  intro p e s m args below meth c s₁ B hml hv
  obtain ⟨rfl, hsz, hG, hZ, hP, hD0⟩ := hv
  have hx := B.exec
  have hb := B.bytes
  have hr := B.returns
  have hts0 := atoms_spec (ws := Cond.code yX7_run cX7_run 3 (some .int) :: pxAll) B.pre
  have hts : ∀ w ∈ pxAll, w.before _ s = true := fun w h => hts0 w (List.mem_cons_of_mem _ h)
  have hown : s.vm.findClass RX7 = some m.cls := findClass_of_methodNamed B.named
  have hlocks := B.notSynchronized
  subst hsz
  have hK := hG.1
  have hD := hD0.self (sz := s.heap.size)
  generalize hAe : va_A [(a0, .inr (6, [.ref a1, .ref a2, .ref a4, .int 0, .ref a5, .int 0, .int 0, .int 0, .int 0, .ref a6, .int 0, .ref a7, .int 0, .int 0, .int 0, .int (-1), .ref a3, .ref a8, .int 0, .ref a9, .ref a10, .ref a11])), (a1, .inl (G.2.1 0, 4891, .inl (fun _ => 0))), (a2, .inl (G.2.1 0, 4891, .inl (fun _ => 0))), (a3, .inl (G.2.1 0, 60, .inl (fun _ => 0)))] s.heap.size = A at hD hZ ⊢
  have hA : ∀ q : Nat, s.heap.size ≤ q → A q := fun q h => by rw [← hAe]; exact Or.inr h
  have hS : va_S A s.heap s.heap [] := va_S.rf
  have hl := lv_entry ([.ref a0]) (n := 3) (Nat.le_of_ble_eq_true rfl)
  rw [lg_entry_eq]
  generalize (lg_sl ([.ref a0]) ++ List.replicate (3 - (lg_sl ([.ref a0])).length) Slot.unset).toArray = ls at hl ⊢
  have hl : lv_has ls 3 [(0, .ref a0)] := hl
  refine lv_aload_n hx hb dX7_run_0 rfl (lv_at hl 0 rfl) ?_
  refine lv_iconst (v := 0) hx hb dX7_run_1 (by decide) ?_
  refine va_put (D := G.1) (ci := 6) (v := .int 0) (ty := .int) (C := RX7) (T := TX7) (N := 22) hx hb hts piX7 tyX7 tyX7_ok nmX7 hown hK hP hD hS 0 rfl rfl 13 (by decide) (hts _ pm832) (fun _ h9 => h9) rfl (by decide +kernel) rfl rfl (Nat.le_of_ble_eq_true rfl) dX7_run_2 (fun H locs hP hD hS => ?_)
  have hP : va_P G.1 pxCl [(a0, .inr (6, [.ref a1, .ref a2, .ref a4, .int 0, .ref a5, .int 0, .int 0, .int 0, .int 0, .ref a6, .int 0, .ref a7, .int 0, .int 0, .int 0, .int (-1), .ref a3, .ref a8, .int 0, .ref a9, .ref a10, .ref a11])), (a1, .inl (G.2.1 0, 4891, .inl (fun _ => 0))), (a2, .inl (G.2.1 0, 4891, .inl (fun _ => 0))), (a3, .inl (G.2.1 0, 60, .inl (fun _ => 0)))] H := hP
  have hD : va_D A [(a0, .inr (6, [.ref a1, .ref a2, .ref a4, .int 0, .ref a5, .int 0, .int 0, .int 0, .int 0, .ref a6, .int 0, .ref a7, .int 0, .int 0, .int 0, .int (-1), .ref a3, .ref a8, .int 0, .ref a9, .ref a10, .ref a11])), (a1, .inl (G.2.1 0, 4891, .inl (fun _ => 0))), (a2, .inl (G.2.1 0, 4891, .inl (fun _ => 0))), (a3, .inl (G.2.1 0, 60, .inl (fun _ => 0)))] := hD
  refine lv_aload_n hx hb dX7_run_5 rfl (lv_at hl 0 rfl) ?_
  refine lv_iconst (v := 0) hx hb dX7_run_6 (by decide) ?_
  refine va_put (D := G.1) (ci := 6) (v := .int 0) (ty := .boolean) (C := RX7) (T := TX7) (N := 22) hx hb hts piX7 tyX7 tyX7_ok nmX7 hown hK hP hD hS 0 rfl rfl 14 (by decide) (hts _ pm833) (fun _ h9 => h9) rfl (by decide +kernel) rfl rfl (Nat.le_of_ble_eq_true rfl) dX7_run_7 (fun H locs hP hD hS => ?_)
  have hP : va_P G.1 pxCl [(a0, .inr (6, [.ref a1, .ref a2, .ref a4, .int 0, .ref a5, .int 0, .int 0, .int 0, .int 0, .ref a6, .int 0, .ref a7, .int 0, .int 0, .int 0, .int (-1), .ref a3, .ref a8, .int 0, .ref a9, .ref a10, .ref a11])), (a1, .inl (G.2.1 0, 4891, .inl (fun _ => 0))), (a2, .inl (G.2.1 0, 4891, .inl (fun _ => 0))), (a3, .inl (G.2.1 0, 60, .inl (fun _ => 0)))] H := hP
  have hD : va_D A [(a0, .inr (6, [.ref a1, .ref a2, .ref a4, .int 0, .ref a5, .int 0, .int 0, .int 0, .int 0, .ref a6, .int 0, .ref a7, .int 0, .int 0, .int 0, .int (-1), .ref a3, .ref a8, .int 0, .ref a9, .ref a10, .ref a11])), (a1, .inl (G.2.1 0, 4891, .inl (fun _ => 0))), (a2, .inl (G.2.1 0, 4891, .inl (fun _ => 0))), (a3, .inl (G.2.1 0, 60, .inl (fun _ => 0)))] := hD
  refine lv_aload_n hx hb dX7_run_10 rfl (lv_at hl 0 rfl) ?_
  refine lv_iconst (v := 0) hx hb dX7_run_11 (by decide) ?_
  refine va_put (D := G.1) (ci := 6) (v := .int 0) (ty := .int) (C := RX7) (T := TX7) (N := 22) hx hb hts piX7 tyX7 tyX7_ok nmX7 hown hK hP hD hS 0 rfl rfl 18 (by decide) (hts _ pm834) (fun _ h9 => h9) rfl (by decide +kernel) rfl rfl (Nat.le_of_ble_eq_true rfl) dX7_run_12 (fun H locs hP hD hS => ?_)
  have hP : va_P G.1 pxCl [(a0, .inr (6, [.ref a1, .ref a2, .ref a4, .int 0, .ref a5, .int 0, .int 0, .int 0, .int 0, .ref a6, .int 0, .ref a7, .int 0, .int 0, .int 0, .int (-1), .ref a3, .ref a8, .int 0, .ref a9, .ref a10, .ref a11])), (a1, .inl (G.2.1 0, 4891, .inl (fun _ => 0))), (a2, .inl (G.2.1 0, 4891, .inl (fun _ => 0))), (a3, .inl (G.2.1 0, 60, .inl (fun _ => 0)))] H := hP
  have hD : va_D A [(a0, .inr (6, [.ref a1, .ref a2, .ref a4, .int 0, .ref a5, .int 0, .int 0, .int 0, .int 0, .ref a6, .int 0, .ref a7, .int 0, .int 0, .int 0, .int (-1), .ref a3, .ref a8, .int 0, .ref a9, .ref a10, .ref a11])), (a1, .inl (G.2.1 0, 4891, .inl (fun _ => 0))), (a2, .inl (G.2.1 0, 4891, .inl (fun _ => 0))), (a3, .inl (G.2.1 0, 60, .inl (fun _ => 0)))] := hD
  refine lv_aload_n hx hb dX7_run_15 rfl (lv_at hl 0 rfl) ?_
  refine pxCv (va_runV (As := []) (rest := []) ⟨hx, hb, hml, hown, hts⟩ (k361_X7_readEntry l G H.size a0 a3 a1 a2 a4 a5 a6 a7 a8 a9 a10 a11) (cwV 0 hts (pxGV pm843 pm844 pm845 pm71 pm846) rfl rfl rfl (by decide +kernel) ⟨(Nat.le_of_ble_eq_true rfl), (Nat.le_of_ble_eq_true rfl)⟩) (pxV (ci := 6) (q0 := 0) hG hZ hP hD hS hA [0, 3] rfl (by decide) rfl rfl) rfl rfl hl.1 rfl (lv_room (Nat.le_of_ble_eq_true rfl)) dX7_run_16 ⟨(Nat.le_of_ble_eq_true rfl), (Nat.le_of_ble_eq_true rfl)⟩) hP hD hS hA [0, 3] [1, 2] rfl rfl (by decide) (by decide) (fun q1 H locs hP hD hS => ?_)
  have hP : va_P G.1 pxCl [(a1, .inl (G.2.1 0, 4891, .inl (fun _ => 0))), (a2, .inl (G.2.1 0, 4891, .inl (fun _ => 0))), (a0, .inr (6, [.ref a1, .ref a2, .ref a4, .int 0, .ref a5, .int 0, .int 0, .int 0, .int 0, .ref a6, .int 0, .ref a7, .int 0, .int 0, .int 1, .int (-1), .ref a3, .ref a8, .int 1, .ref a9, .ref a10, .ref a11])), (a3, .inl (G.2.1 0, 60, .inl (upd (fun _ => 0) 0 0)))] H := hP
  have hD : va_D A [(a1, .inl (G.2.1 0, 4891, .inl (fun _ => 0))), (a2, .inl (G.2.1 0, 4891, .inl (fun _ => 0))), (a0, .inr (6, [.ref a1, .ref a2, .ref a4, .int 0, .ref a5, .int 0, .int 0, .int 0, .int 0, .ref a6, .int 0, .ref a7, .int 0, .int 0, .int 1, .int (-1), .ref a3, .ref a8, .int 1, .ref a9, .ref a10, .ref a11])), (a3, .inl (G.2.1 0, 60, .inl (upd (fun _ => 0) 0 0)))] := hD
  refine lv_aload_n hx hb dX7_run_19 rfl (lv_at hl 0 rfl) ?_
  refine va_get (D := G.1) (ci := 6) (v := .int 1) (C := RX7) (T := TX7) (N := 22) hx hb hts piX7 hown hK hP 2 rfl rfl 14 (by decide) (hts _ pm833) (fun _ h9 => h9) rfl dX7_run_20 ?_
  refine lv_if_ne (tgt := 44) hx hb dX7_run_23 (by decide) (fun _ => ?_) (fun h9 => absurd h9 (by decide))
  refine lv_aload_n hx hb dX7_run_44 rfl (lv_at hl 0 rfl) ?_
  refine lv_iconst (v := 0) hx hb dX7_run_45 (by decide) ?_
  refine va_put (D := G.1) (ci := 6) (v := .int 0) (ty := .int) (C := RX7) (T := TX7) (N := 22) hx hb hts piX7 tyX7 tyX7_ok nmX7 hown hK hP hD hS 2 rfl rfl 12 (by decide) (hts _ pm750) (fun _ h9 => h9) rfl (by decide +kernel) rfl rfl (Nat.le_of_ble_eq_true rfl) dX7_run_46 (fun H locs hP hD hS => ?_)
  have hP : va_P G.1 pxCl [(a1, .inl (G.2.1 0, 4891, .inl (fun _ => 0))), (a2, .inl (G.2.1 0, 4891, .inl (fun _ => 0))), (a0, .inr (6, [.ref a1, .ref a2, .ref a4, .int 0, .ref a5, .int 0, .int 0, .int 0, .int 0, .ref a6, .int 0, .ref a7, .int 0, .int 0, .int 1, .int (-1), .ref a3, .ref a8, .int 1, .ref a9, .ref a10, .ref a11])), (a3, .inl (G.2.1 0, 60, .inl (upd (fun _ => 0) 0 0)))] H := hP
  have hD : va_D A [(a1, .inl (G.2.1 0, 4891, .inl (fun _ => 0))), (a2, .inl (G.2.1 0, 4891, .inl (fun _ => 0))), (a0, .inr (6, [.ref a1, .ref a2, .ref a4, .int 0, .ref a5, .int 0, .int 0, .int 0, .int 0, .ref a6, .int 0, .ref a7, .int 0, .int 0, .int 1, .int (-1), .ref a3, .ref a8, .int 1, .ref a9, .ref a10, .ref a11])), (a3, .inl (G.2.1 0, 60, .inl (upd (fun _ => 0) 0 0)))] := hD
  refine lv_aload_n hx hb dX7_run_49 rfl (lv_at hl 0 rfl) ?_
  refine lv_aload_n hx hb dX7_run_50 rfl (lv_at hl 0 rfl) ?_
  refine va_get (D := G.1) (ci := 6) (v := .int 1) (C := RX7) (T := TX7) (N := 22) hx hb hts piX7 hown hK hP 2 rfl rfl 14 (by decide) (hts _ pm833) (fun _ h9 => h9) rfl dX7_run_51 ?_
  refine lv_if_eq (tgt := 64) hx hb dX7_run_54 (by decide) (fun h9 => absurd h9 (by decide)) (fun _ => ?_)
  refine lv_aload_n hx hb dX7_run_57 rfl (lv_at hl 0 rfl) ?_
  refine va_get (D := G.1) (ci := 6) (v := .int 0) (C := RX7) (T := TX7) (N := 22) hx hb hts piX7 hown hK hP 2 rfl rfl 13 (by decide) (hts _ pm832) (fun _ h9 => h9) rfl dX7_run_58 ?_
  refine lv_goto (tgt := 65) hx hb dX7_run_61 (by decide) ?_
  refine va_put (D := G.1) (ci := 6) (v := .int 0) (ty := .int) (C := RX7) (T := TX7) (N := 22) hx hb hts piX7 tyX7 tyX7_ok nmX7 hown hK hP hD hS 2 rfl rfl 15 (by decide) (hts _ pm80) (fun _ h9 => h9) rfl (by decide +kernel) rfl rfl (Nat.le_of_ble_eq_true rfl) dX7_run_65 (fun H locs hP hD hS => ?_)
  have hP : va_P G.1 pxCl [(a1, .inl (G.2.1 0, 4891, .inl (fun _ => 0))), (a2, .inl (G.2.1 0, 4891, .inl (fun _ => 0))), (a0, .inr (6, [.ref a1, .ref a2, .ref a4, .int 0, .ref a5, .int 0, .int 0, .int 0, .int 0, .ref a6, .int 0, .ref a7, .int 0, .int 0, .int 1, .int 0, .ref a3, .ref a8, .int 1, .ref a9, .ref a10, .ref a11])), (a3, .inl (G.2.1 0, 60, .inl (upd (fun _ => 0) 0 0)))] H := hP
  have hD : va_D A [(a1, .inl (G.2.1 0, 4891, .inl (fun _ => 0))), (a2, .inl (G.2.1 0, 4891, .inl (fun _ => 0))), (a0, .inr (6, [.ref a1, .ref a2, .ref a4, .int 0, .ref a5, .int 0, .int 0, .int 0, .int 0, .ref a6, .int 0, .ref a7, .int 0, .int 0, .int 1, .int 0, .ref a3, .ref a8, .int 1, .ref a9, .ref a10, .ref a11])), (a3, .inl (G.2.1 0, 60, .inl (upd (fun _ => 0) 0 0)))] := hD
  refine lv_aload_n hx hb dX7_run_68 rfl (lv_at hl 0 rfl) ?_
  refine lv_aload_n hx hb dX7_run_69 rfl (lv_at hl 0 rfl) ?_
  refine va_get (D := G.1) (ci := 6) (v := .int 1) (C := RX7) (T := TX7) (N := 22) hx hb hts piX7 hown hK hP 2 rfl rfl 14 (by decide) (hts _ pm833) (fun _ h9 => h9) rfl dX7_run_70 ?_
  refine lv_if_eq (tgt := 80) hx hb dX7_run_73 (by decide) (fun h9 => absurd h9 (by decide)) (fun _ => ?_)
  refine lv_iconst (v := 1) hx hb dX7_run_76 (by decide) ?_
  refine lv_goto (tgt := 81) hx hb dX7_run_77 (by decide) ?_
  refine va_put (D := G.1) (ci := 6) (v := .int 1) (ty := .int) (C := RX7) (T := TX7) (N := 22) hx hb hts piX7 tyX7 tyX7_ok nmX7 hown hK hP hD hS 2 rfl rfl 7 (by decide) (hts _ pm150) (fun _ h9 => h9) rfl (by decide +kernel) rfl rfl (Nat.le_of_ble_eq_true rfl) dX7_run_81 (fun H locs hP hD hS => ?_)
  have hP : va_P G.1 pxCl [(a1, .inl (G.2.1 0, 4891, .inl (fun _ => 0))), (a2, .inl (G.2.1 0, 4891, .inl (fun _ => 0))), (a0, .inr (6, [.ref a1, .ref a2, .ref a4, .int 0, .ref a5, .int 0, .int 0, .int 1, .int 0, .ref a6, .int 0, .ref a7, .int 0, .int 0, .int 1, .int 0, .ref a3, .ref a8, .int 1, .ref a9, .ref a10, .ref a11])), (a3, .inl (G.2.1 0, 60, .inl (upd (fun _ => 0) 0 0)))] H := hP
  have hD : va_D A [(a1, .inl (G.2.1 0, 4891, .inl (fun _ => 0))), (a2, .inl (G.2.1 0, 4891, .inl (fun _ => 0))), (a0, .inr (6, [.ref a1, .ref a2, .ref a4, .int 0, .ref a5, .int 0, .int 0, .int 1, .int 0, .ref a6, .int 0, .ref a7, .int 0, .int 0, .int 1, .int 0, .ref a3, .ref a8, .int 1, .ref a9, .ref a10, .ref a11])), (a3, .inl (G.2.1 0, 60, .inl (upd (fun _ => 0) 0 0)))] := hD
  refine lv_aload_n hx hb dX7_run_84 rfl (lv_at hl 0 rfl) ?_
  refine pxCv (va_runV (As := []) (rest := []) ⟨hx, hb, hml, hown, hts⟩ (k364_X7_keepState l G H.size a0 a1 a2 a4 a5 a6 a7 a3 a8 a9 a10 a11) (cwV 0 hts (pxGV pm139 pm140 pm141 pm71 pm142) rfl rfl rfl (by decide +kernel) ⟨(Nat.le_of_ble_eq_true rfl), (Nat.le_of_ble_eq_true rfl)⟩) (pxV (ci := 6) (q0 := 2) hG hZ hP hD hS hA [2, 0, 1] rfl (by decide) rfl rfl) rfl rfl hl.1 rfl (lv_room (Nat.le_of_ble_eq_true rfl)) dX7_run_85 ⟨(Nat.le_of_ble_eq_true rfl), (Nat.le_of_ble_eq_true rfl)⟩) hP hD hS hA [2, 0, 1] [3] rfl rfl (by decide) (by decide) (fun q3 H locs hP hD hS => ?_)
  have hP : va_P G.1 pxCl [(a3, .inl (G.2.1 0, 60, .inl (upd (fun _ => 0) 0 0))), (a0, .inr (6, [.ref a1, .ref a2, .ref a4, .int 0, .ref a5, .int 0, .int 0, .int 1, .int 0, .ref a6, .int 0, .ref a7, .int 0, .int 0, .int 1, .int 0, .ref a3, .ref a8, .int 1, .ref a9, .ref a10, .ref a11])), (a1, .inl (G.2.1 0, 4891, .inl (fun _ => 0))), (a2, .inl (G.2.1 0, 4891, .inl (fun _ => 0)))] H := hP
  have hD : va_D A [(a3, .inl (G.2.1 0, 60, .inl (upd (fun _ => 0) 0 0))), (a0, .inr (6, [.ref a1, .ref a2, .ref a4, .int 0, .ref a5, .int 0, .int 0, .int 1, .int 0, .ref a6, .int 0, .ref a7, .int 0, .int 0, .int 1, .int 0, .ref a3, .ref a8, .int 1, .ref a9, .ref a10, .ref a11])), (a1, .inl (G.2.1 0, 4891, .inl (fun _ => 0))), (a2, .inl (G.2.1 0, 4891, .inl (fun _ => 0)))] := hD
  refine lv_iconst (v := 0) hx hb dX7_run_88 (by decide) ?_
  refine lv_istore_n (lv' := [(1, .int 0), (0, .ref a0)]) hx hb dX7_run_89 rfl hl (by decide) rfl (fun ls hl => ?_)
  refine lv_iload_n hx hb dX7_run_90 rfl (lv_at hl 0 rfl) ?_
  refine lv_aload_n hx hb dX7_run_91 rfl (lv_at hl 1 rfl) ?_
  refine va_get (D := G.1) (ci := 6) (v := .int 1) (C := RX7) (T := TX7) (N := 22) hx hb hts piX7 hown hK hP 1 rfl rfl 18 (by decide) (hts _ pm834) (fun _ h9 => h9) rfl dX7_run_92 ?_
  refine lv_icmp_ge (tgt := 147) hx hb dX7_run_95 (by decide) (fun h9 => absurd h9 (by decide)) (fun _ => ?_)
  refine lv_aload_n hx hb dX7_run_98 rfl (lv_at hl 1 rfl) ?_
  refine va_get (D := G.1) (ci := 6) (v := .int 1) (C := RX7) (T := TX7) (N := 22) hx hb hts piX7 hown hK hP 1 rfl rfl 7 (by decide) (hts _ pm150) (fun _ h9 => h9) rfl dX7_run_99 ?_
  refine lv_if_ne (tgt := 147) hx hb dX7_run_102 (by decide) (fun _ => ?_) (fun h9 => absurd h9 (by decide))
  refine lv_aload_n hx hb dX7_run_147 rfl (lv_at hl 1 rfl) ?_
  refine va_get (D := G.1) (ci := 6) (v := .int 1) (C := RX7) (T := TX7) (N := 22) hx hb hts piX7 hown hK hP 1 rfl rfl 7 (by decide) (hts _ pm150) (fun _ h9 => h9) rfl dX7_run_148 ?_
  refine lv_if_le (tgt := 156) hx hb dX7_run_151 (by decide) (fun h9 => absurd h9 (by decide)) (fun _ => ?_)
  refine lv_iconst (v := 0) hx hb dX7_run_154 (by decide) ?_
  have hD : va_D A [(a0, .inr (6, [.ref a1, .ref a2, .ref a4, .int 0, .ref a5, .int 0, .int 0, .int 1, .int 0, .ref a6, .int 0, .ref a7, .int 0, .int 0, .int 1, .int 0, .ref a3, .ref a8, .int 1, .ref a9, .ref a10, .ref a11]))] := hD.sub [1] (by decide) rfl
  have hP : va_P G.1 pxCl [(a0, .inr (6, [.ref a1, .ref a2, .ref a4, .int 0, .ref a5, .int 0, .int 0, .int 1, .int 0, .ref a6, .int 0, .ref a7, .int 0, .int 0, .int 1, .int 0, .ref a3, .ref a8, .int 1, .ref a9, .ref a10, .ref a11]))] H := hP.sub [1] rfl
  refine W.widen (k := 0) (n := 0) (Nat.le_of_ble_eq_true rfl) (Nat.le_of_ble_eq_true rfl) ?_
  exact W.iret (v := 0) hx hb hr (fun t ht hW => ⟨⟨0, (fun _ => 0), rfl, rfl, by rw [ht]; exact hP, hD⟩, hS.F ht⟩) hS.2.2 dX7_run_155
set_option maxHeartbeats 4000000 in
set_option maxRecDepth 100000 in
theorem k366_X7_thrown (l : Launch) (G : pxG) (sz : Nat) (a0 a1 a2 a3 a4 a5 a6 a7 a8 a9 a10 a11 : Nat) : Met l yX7_thrown (Cond.code yX7_thrown cX7_thrown 1 (some .int) :: pxAll) ({ frames := 0, cells := 0, slots := 0, locals := 0 } : Room) (va_Pc [.ref a0] (pxPre G [(a0, .inr (6, [.ref a1, .ref a2, .ref a3, .int 0, .ref a4, .int 0, .int 0, .int 1, .int 0, .ref a5, .int 0, .ref a6, .int 0, .int 0, .int 1, .int 0, .ref a7, .ref a8, .int 1, .ref a9, .ref a10, .ref a11]))] sz)) (pxQi G (fun r => r = 1) (fun q => [(a0, .inr (6, [.ref a1, .ref a2, .ref a3, .int 0, .ref a4, .int 0, .int 0, .int 1, .int 0, .ref a5, .int 0, .ref a6, .int 0, .int 0, .int 1, .int 0, .ref a7, .ref a8, .int 1, .ref a9, .ref a10, .ref a11]))]) (va_A [(a0, .inr (6, [.ref a1, .ref a2, .ref a3, .int 0, .ref a4, .int 0, .int 0, .int 1, .int 0, .ref a5, .int 0, .ref a6, .int 0, .int 0, .int 1, .int 0, .ref a7, .ref a8, .int 1, .ref a9, .ref a10, .ref a11]))] sz)) 0 0 (va_A [(a0, .inr (6, [.ref a1, .ref a2, .ref a3, .int 0, .ref a4, .int 0, .int 0, .int 1, .int 0, .ref a5, .int 0, .ref a6, .int 0, .int 0, .int 1, .int 0, .ref a7, .ref a8, .int 1, .ref a9, .ref a10, .ref a11]))] sz) := by
  refine Met.ofW (cc := cX7_thrown) (maxL := 1) (ret := (some .int)) (by decide) rfl ?_
  intro p e s m args below meth c s₁ B hml hv
  obtain ⟨rfl, hsz, hG, hZ, hP, hD0⟩ := hv
  have hx := B.exec
  have hb := B.bytes
  have hr := B.returns
  have hts0 := atoms_spec (ws := Cond.code yX7_thrown cX7_thrown 1 (some .int) :: pxAll) B.pre
  have hts : ∀ w ∈ pxAll, w.before _ s = true := fun w h => hts0 w (List.mem_cons_of_mem _ h)
  have hown : s.vm.findClass RX7 = some m.cls := findClass_of_methodNamed B.named
  have hlocks := B.notSynchronized
  subst hsz
  have hK := hG.1
  have hD := hD0.self (sz := s.heap.size)
  generalize hAe : va_A [(a0, .inr (6, [.ref a1, .ref a2, .ref a3, .int 0, .ref a4, .int 0, .int 0, .int 1, .int 0, .ref a5, .int 0, .ref a6, .int 0, .int 0, .int 1, .int 0, .ref a7, .ref a8, .int 1, .ref a9, .ref a10, .ref a11]))] s.heap.size = A at hD hZ ⊢
  have hA : ∀ q : Nat, s.heap.size ≤ q → A q := fun q h => by rw [← hAe]; exact Or.inr h
  have hS : va_S A s.heap s.heap [] := va_S.rf
  have hl := lv_entry ([.ref a0]) (n := 1) (Nat.le_of_ble_eq_true rfl)
  rw [lg_entry_eq]
  generalize (lg_sl ([.ref a0]) ++ List.replicate (1 - (lg_sl ([.ref a0])).length) Slot.unset).toArray = ls at hl ⊢
  have hl : lv_has ls 1 [(0, .ref a0)] := hl
  refine lv_aload_n hx hb dX7_thrown_0 rfl (lv_at hl 0 rfl) ?_
  refine va_get (D := G.1) (ci := 6) (v := .int 1) (C := RX7) (T := TX7) (N := 22) hx hb hts piX7 hown hK hP 0 rfl rfl 7 (by decide) (hts _ pm150) (fun _ h9 => h9) rfl dX7_thrown_1 ?_
  refine W.widen (k := 0) (n := 0) (Nat.le_of_ble_eq_true rfl) (Nat.le_of_ble_eq_true rfl) ?_
  exact W.iret (v := 1) hx hb hr (fun t ht hW => ⟨⟨1, (fun _ => 0), rfl, rfl, by rw [ht]; exact hP, hD⟩, hS.F ht⟩) hS.2.2 dX7_thrown_4
set_option maxHeartbeats 4000000 in
set_option maxRecDepth 100000 in
theorem lc12 {p : Program} {l : Launch} {e : Env} {s : State} {m : MethodId} {below : List Frame} {meth : Method} {c : Code} {b : Nat} {xs : Nat → Int32} (hl9 : l.stackTraces = false) (G : pxG) (C0 : lw_At p s m meth c b 5 xs) (hG : pxOk G s) (hZ : pxZ (fun q : Nat => s.heap.size ≤ q) s s.heap) (hY : pxE G (fun q : Nat => s.heap.size ≤ q) s s.heap) (a1 a2 a43 a86 a127 a128 a129 a130 a131 a149 a150 a151 a152 a153 a154 a155 a156 a157 a158 a159 a160 a161 a162 : Nat) (H : Heap) (locs : List Loc) (hP : va_P G.1 pxCl [(a1, .inr (5, [.ref a2, .ref a43, .ref a86, .ref a127, .ref a131, .int 0, .int 0, .int (-1)])), (a127, .inr (4, [.ref a128, .ref a129, .ref a130, .int 0, .int 0, .int 0])), (a149, .inr (6, [.ref a150, .ref a151, .ref a152, .int 0, .ref a153, .int 0, .int 0, .int 0, .int 0, .ref a154, .int 0, .ref a155, .int 0, .int 0, .int 0, .int (-1), .ref a156, .ref a157, .int 0, .ref a158, .ref a159, .ref a160])), (a150, .inl (G.2.1 0, 4891, .inl (fun _ => 0))), (a151, .inl (G.2.1 0, 4891, .inl (fun _ => 0))), (a156, .inl (G.2.1 0, 60, .inl (fun _ => 0)))] H) (hD : va_D (fun q : Nat => s.heap.size ≤ q) [(a1, .inr (5, [.ref a2, .ref a43, .ref a86, .ref a127, .ref a131, .int 0, .int 0, .int (-1)])), (a127, .inr (4, [.ref a128, .ref a129, .ref a130, .int 0, .int 0, .int 0])), (a149, .inr (6, [.ref a150, .ref a151, .ref a152, .int 0, .ref a153, .int 0, .int 0, .int 0, .int 0, .ref a154, .int 0, .ref a155, .int 0, .int 0, .int 0, .int (-1), .ref a156, .ref a157, .int 0, .ref a158, .ref a159, .ref a160])), (a150, .inl (G.2.1 0, 4891, .inl (fun _ => 0))), (a151, .inl (G.2.1 0, 4891, .inl (fun _ => 0))), (a156, .inl (G.2.1 0, 60, .inl (fun _ => 0)))]) (hS : va_S (fun q : Nat => s.heap.size ≤ q) s.heap H locs) (ls : Array Slot) (hl : lv_has ls 9 [(5, .int 0), (4, .ref a162), (3, .ref a161), (2, .ref a149), (1, .ref a1), (0, .ref b)]) : W p l e room_1 s m #[Value.ref b] below meth c H locs 482 60053 (lw_Z below #[Value.ref b] s) (F0 m 1048 ls []) := by
  obtain ⟨hx, hb, hr, hml, hown, hts0, hX, hbl, hlocks, hgv⟩ := id C0
  have hts : ∀ w ∈ pxAll, w.before #[Value.ref b] s = true := fun w h => hts0 w (List.mem_filter.mp h).1
  have hA : ∀ q : Nat, s.heap.size ≤ q → (fun q : Nat => s.heap.size ≤ q) q := fun _ h => h
  have hbA : ¬ (fun q : Nat => s.heap.size ≤ q) b := Nat.not_le.mpr hbl
  have hK := hG.1
  refine lv_aload_n hx hb dL_law_1048 rfl (lv_at hl 4 rfl) ?_
  refine lv_aload_n hx hb dL_law_1049 rfl (lv_at hl 2 rfl) ?_
  refine pxCi (vx_runSW (As := [.ref a1, .ref a161]) (rest := []) ⟨hx, hb, hml, hown, hts⟩ (k354_L_run l hl9 G H.size a1 a127 a161 a2 a43 a86 a131 a128 a129 a130) (vx_cwSW 2 hts (pxGS pm829 pm830 pm136 pm831) rfl rfl rfl (by decide +kernel) ⟨(Nat.le_of_ble_eq_true rfl), (Nat.le_of_ble_eq_true rfl)⟩) (pxS2 hY hG hZ hP hD hS hA [0, 1] rfl (by decide)) rfl rfl hl.1 rfl (lv_room (Nat.le_of_ble_eq_true rfl)) dL_law_1050 ⟨(Nat.le_of_ble_eq_true rfl), (Nat.le_of_ble_eq_true rfl)⟩) hP hD hS hA [0, 1] [2, 3, 4, 5] rfl rfl (by decide) (by decide) (fun r2 q1 H locs hw hP hD hS => ?_)
  have hw : r2 = 1 := hw
  subst hw
  have hP : va_P G.1 pxCl [(a149, .inr (6, [.ref a150, .ref a151, .ref a152, .int 0, .ref a153, .int 0, .int 0, .int 0, .int 0, .ref a154, .int 0, .ref a155, .int 0, .int 0, .int 0, .int (-1), .ref a156, .ref a157, .int 0, .ref a158, .ref a159, .ref a160])), (a150, .inl (G.2.1 0, 4891, .inl (fun _ => 0))), (a151, .inl (G.2.1 0, 4891, .inl (fun _ => 0))), (a156, .inl (G.2.1 0, 60, .inl (fun _ => 0)))] H := hP
  have hD : va_D (fun q : Nat => s.heap.size ≤ q) [(a149, .inr (6, [.ref a150, .ref a151, .ref a152, .int 0, .ref a153, .int 0, .int 0, .int 0, .int 0, .ref a154, .int 0, .ref a155, .int 0, .int 0, .int 0, .int (-1), .ref a156, .ref a157, .int 0, .ref a158, .ref a159, .ref a160])), (a150, .inl (G.2.1 0, 4891, .inl (fun _ => 0))), (a151, .inl (G.2.1 0, 4891, .inl (fun _ => 0))), (a156, .inl (G.2.1 0, 60, .inl (fun _ => 0)))] := hD
  refine W.widen (k := 483) (n := 60059) (Nat.le_of_ble_eq_true rfl) (Nat.le_of_ble_eq_true rfl) ?_
  refine lv_istore (lv' := [(6, .int 1), (5, .int 0), (4, .ref a162), (3, .ref a161), (2, .ref a149), (1, .ref a1), (0, .ref b)]) hx hb dL_law_1053 hl (by decide) rfl (fun ls hl => ?_)
  refine lv_aload_n hx hb dL_law_1055 rfl (lv_at hl 4 rfl) ?_
  refine pxCi (va_runV (As := []) (rest := []) ⟨hx, hb, hml, hown, hts⟩ (k361_X7_run l G H.size a149 a150 a151 a156 a152 a153 a154 a155 a157 a158 a159 a160) (cwV 0 hts (pxGV pm847 pm848 pm849 pm71 pm850) rfl rfl rfl (by decide +kernel) ⟨(Nat.le_of_ble_eq_true rfl), (Nat.le_of_ble_eq_true rfl)⟩) (pxV (ci := 6) (q0 := 0) hG hZ hP hD hS hA [0, 1, 2, 3] rfl (by decide) rfl rfl) rfl rfl hl.1 rfl (lv_room (Nat.le_of_ble_eq_true rfl)) dL_law_1056 ⟨(Nat.le_of_ble_eq_true rfl), (Nat.le_of_ble_eq_true rfl)⟩) hP hD hS hA [0, 1, 2, 3] [] rfl rfl (by decide) (by decide) (fun r4 q3 H locs hw hP hD hS => ?_)
  have hw : r4 = 0 := hw
  subst hw
  have hP : va_P G.1 pxCl [(a149, .inr (6, [.ref a150, .ref a151, .ref a152, .int 0, .ref a153, .int 0, .int 0, .int 1, .int 0, .ref a154, .int 0, .ref a155, .int 0, .int 0, .int 1, .int 0, .ref a156, .ref a157, .int 1, .ref a158, .ref a159, .ref a160]))] H := hP
  have hD : va_D (fun q : Nat => s.heap.size ≤ q) [(a149, .inr (6, [.ref a150, .ref a151, .ref a152, .int 0, .ref a153, .int 0, .int 0, .int 1, .int 0, .ref a154, .int 0, .ref a155, .int 0, .int 0, .int 1, .int 0, .ref a156, .ref a157, .int 1, .ref a158, .ref a159, .ref a160]))] := hD
  refine lv_istore (lv' := [(7, .int 0), (6, .int 1), (5, .int 0), (4, .ref a162), (3, .ref a161), (2, .ref a149), (1, .ref a1), (0, .ref b)]) hx hb dL_law_1059 hl (by decide) rfl (fun ls hl => ?_)
  refine lv_aload_n hx hb dL_law_1061 rfl (lv_at hl 5 rfl) ?_
  refine pxCi (va_runV (As := []) (rest := []) ⟨hx, hb, hml, hown, hts⟩ (k366_X7_thrown l G H.size a149 a150 a151 a152 a153 a154 a155 a156 a157 a158 a159 a160) (cwV 0 hts (pxGV pm160 pm161 pm162 pm71 pm163) rfl rfl rfl (by decide +kernel) ⟨(Nat.le_of_ble_eq_true rfl), (Nat.le_of_ble_eq_true rfl)⟩) (pxV (ci := 6) (q0 := 0) hG hZ hP hD hS hA [0] rfl (by decide) rfl rfl) rfl rfl hl.1 rfl (lv_room (Nat.le_of_ble_eq_true rfl)) dL_law_1062 ⟨(Nat.le_of_ble_eq_true rfl), (Nat.le_of_ble_eq_true rfl)⟩) hP hD hS hA [0] [] rfl rfl (by decide) (by decide) (fun r6 q5 H locs hw hP hD hS => ?_)
  have hw : r6 = 1 := hw
  subst hw
  have hP : va_P G.1 pxCl [(a149, .inr (6, [.ref a150, .ref a151, .ref a152, .int 0, .ref a153, .int 0, .int 0, .int 1, .int 0, .ref a154, .int 0, .ref a155, .int 0, .int 0, .int 1, .int 0, .ref a156, .ref a157, .int 1, .ref a158, .ref a159, .ref a160]))] H := hP
  have hD : va_D (fun q : Nat => s.heap.size ≤ q) [(a149, .inr (6, [.ref a150, .ref a151, .ref a152, .int 0, .ref a153, .int 0, .int 0, .int 1, .int 0, .ref a154, .int 0, .ref a155, .int 0, .int 0, .int 1, .int 0, .ref a156, .ref a157, .int 1, .ref a158, .ref a159, .ref a160]))] := hD
  refine lv_iload hx hb dL_law_1065 (lv_at hl 1 rfl) ?_
  refine lv_icmp_eq (tgt := 1072) hx hb dL_law_1067 (by decide) (fun _ => ?_) (fun h9 => absurd (by decide) h9)
  refine lv_iload hx hb dL_law_1072 (lv_at hl 1 rfl) ?_
  refine lv_if_ne (tgt := 1089) hx hb dL_law_1074 (by decide) (fun _ => ?_) (fun h9 => absurd h9 (by decide))
  refine lv_goto (tgt := 2658) hx hb dL_law_1089 (by decide) ?_
  refine W.widen (k := 2000) (n := 200000) (Nat.le_of_ble_eq_true rfl) (Nat.le_of_ble_eq_true rfl) ?_
  exact law_tail hl9 G C0 hG hZ H locs hS ls (lv_sub hl [2, 7] rfl)
